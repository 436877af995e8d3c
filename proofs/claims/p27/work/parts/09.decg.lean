set_option maxRecDepth 20000 in
theorem pl_decg_17 : (bqT tcL_law_39 12 42 = true) ∧ (bqT tcL_law_39 13 29 = true) ∧ (bqT tcL_law_39 14 6 = true) ∧ (bqT tcL_law_39 15 96 = true) ∧ (bqT tcL_law_40 0 46 = true) ∧ ((bqT tcL_law_40 1 182 && bqT tcL_law_40 2 0 && bqT tcL_law_40 3 83 && (0 * 256 + 83 == 83)) = true) ∧ (bqT tcL_law_40 4 87 = true) ∧ ((bqT tcL_law_40 5 167 && bqT tcL_law_40 6 1 && bqT tcL_law_40 7 123 && (Reader.signed 16 (1 * 256 + 123) == 379)) = true) ∧ (bqT tcL_law_40 8 43 = true) ∧ (bqT tcL_law_40 9 42 = true) ∧ (bqT tcL_law_40 10 29 = true) ∧ (bqT tcL_law_40 11 4 = true) ∧ (bqT tcL_law_40 12 96 = true) ∧ (bqT tcL_law_40 13 46 = true) ∧ (bqT tcL_law_40 14 42 = true) ∧ (bqT tcL_law_40 15 29 = true) ∧ (bqT tcL_law_41 0 5 = true) ∧ (bqT tcL_law_41 1 96 = true) ∧ (bqT tcL_law_41 2 46 = true) ∧ (bqT tcL_law_41 3 42 = true) ∧ (bqT tcL_law_41 4 29 = true) ∧ (bqT tcL_law_41 5 6 = true) ∧ (bqT tcL_law_41 6 96 = true) ∧ (bqT tcL_law_41 7 46 = true) := by decide +kernel
theorem dL_law_636 : decode cL_law 636 = .ok (.aload_n 0, 1) := dt_42 (i := 12) (p := 624) gcL_law_39 pl_decg_17.1
theorem dL_law_637 : decode cL_law 637 = .ok (.iload_n 3, 1) := dt_29 (i := 13) (p := 624) gcL_law_39 pl_decg_17.2.1
theorem dL_law_638 : decode cL_law 638 = .ok (.iconst 3, 1) := dt_6 (i := 14) (p := 624) gcL_law_39 pl_decg_17.2.2.1
theorem dL_law_639 : decode cL_law 639 = .ok (.iadd, 1) := dt_96 (i := 15) (p := 624) gcL_law_39 pl_decg_17.2.2.2.1
theorem dL_law_640 : decode cL_law 640 = .ok (.iaload, 1) := dt_46 (i := 0) (p := 640) gcL_law_40 pl_decg_17.2.2.2.2.1
theorem dL_law_641 : decode cL_law 641 = .ok (.invokevirtual 83, 3) := dt_182 (i := 1) (p := 640) gcL_law_40 0 83 pl_decg_17.2.2.2.2.2.1
theorem dL_law_644 : decode cL_law 644 = .ok (.pop, 1) := dt_87 (i := 4) (p := 640) gcL_law_40 pl_decg_17.2.2.2.2.2.2.1
theorem dL_law_645 : decode cL_law 645 = .ok (.goto 379, 3) := dt_167 (i := 5) (p := 640) gcL_law_40 1 123 pl_decg_17.2.2.2.2.2.2.2.1
theorem dL_law_648 : decode cL_law 648 = .ok (.aload_n 1, 1) := dt_43 (i := 8) (p := 640) gcL_law_40 pl_decg_17.2.2.2.2.2.2.2.2.1
theorem dL_law_649 : decode cL_law 649 = .ok (.aload_n 0, 1) := dt_42 (i := 9) (p := 640) gcL_law_40 pl_decg_17.2.2.2.2.2.2.2.2.2.1
theorem dL_law_650 : decode cL_law 650 = .ok (.iload_n 3, 1) := dt_29 (i := 10) (p := 640) gcL_law_40 pl_decg_17.2.2.2.2.2.2.2.2.2.2.1
theorem dL_law_651 : decode cL_law 651 = .ok (.iconst 1, 1) := dt_4 (i := 11) (p := 640) gcL_law_40 pl_decg_17.2.2.2.2.2.2.2.2.2.2.2.1
theorem dL_law_652 : decode cL_law 652 = .ok (.iadd, 1) := dt_96 (i := 12) (p := 640) gcL_law_40 pl_decg_17.2.2.2.2.2.2.2.2.2.2.2.2.1
theorem dL_law_653 : decode cL_law 653 = .ok (.iaload, 1) := dt_46 (i := 13) (p := 640) gcL_law_40 pl_decg_17.2.2.2.2.2.2.2.2.2.2.2.2.2.1
theorem dL_law_654 : decode cL_law 654 = .ok (.aload_n 0, 1) := dt_42 (i := 14) (p := 640) gcL_law_40 pl_decg_17.2.2.2.2.2.2.2.2.2.2.2.2.2.2.1
theorem dL_law_655 : decode cL_law 655 = .ok (.iload_n 3, 1) := dt_29 (i := 15) (p := 640) gcL_law_40 pl_decg_17.2.2.2.2.2.2.2.2.2.2.2.2.2.2.2.1
theorem dL_law_656 : decode cL_law 656 = .ok (.iconst 2, 1) := dt_5 (i := 0) (p := 656) gcL_law_41 pl_decg_17.2.2.2.2.2.2.2.2.2.2.2.2.2.2.2.2.1
theorem dL_law_657 : decode cL_law 657 = .ok (.iadd, 1) := dt_96 (i := 1) (p := 656) gcL_law_41 pl_decg_17.2.2.2.2.2.2.2.2.2.2.2.2.2.2.2.2.2.1
theorem dL_law_658 : decode cL_law 658 = .ok (.iaload, 1) := dt_46 (i := 2) (p := 656) gcL_law_41 pl_decg_17.2.2.2.2.2.2.2.2.2.2.2.2.2.2.2.2.2.2.1
theorem dL_law_659 : decode cL_law 659 = .ok (.aload_n 0, 1) := dt_42 (i := 3) (p := 656) gcL_law_41 pl_decg_17.2.2.2.2.2.2.2.2.2.2.2.2.2.2.2.2.2.2.2.1
theorem dL_law_660 : decode cL_law 660 = .ok (.iload_n 3, 1) := dt_29 (i := 4) (p := 656) gcL_law_41 pl_decg_17.2.2.2.2.2.2.2.2.2.2.2.2.2.2.2.2.2.2.2.2.1
theorem dL_law_661 : decode cL_law 661 = .ok (.iconst 3, 1) := dt_6 (i := 5) (p := 656) gcL_law_41 pl_decg_17.2.2.2.2.2.2.2.2.2.2.2.2.2.2.2.2.2.2.2.2.2.1
theorem dL_law_662 : decode cL_law 662 = .ok (.iadd, 1) := dt_96 (i := 6) (p := 656) gcL_law_41 pl_decg_17.2.2.2.2.2.2.2.2.2.2.2.2.2.2.2.2.2.2.2.2.2.2.1
theorem dL_law_663 : decode cL_law 663 = .ok (.iaload, 1) := dt_46 (i := 7) (p := 656) gcL_law_41 pl_decg_17.2.2.2.2.2.2.2.2.2.2.2.2.2.2.2.2.2.2.2.2.2.2.2
set_option maxRecDepth 20000 in
theorem pl_decg_18 : ((bqT tcL_law_41 8 182 && bqT tcL_law_41 9 0 && bqT tcL_law_41 10 84 && (0 * 256 + 84 == 84)) = true) ∧ (bqT tcL_law_41 11 87 = true) ∧ (bqT tcL_law_41 12 44 = true) ∧ (bqT tcL_law_41 13 42 = true) ∧ (bqT tcL_law_41 14 29 = true) ∧ (bqT tcL_law_41 15 4 = true) ∧ (bqT tcL_law_42 0 96 = true) ∧ (bqT tcL_law_42 1 46 = true) ∧ (bqT tcL_law_42 2 42 = true) ∧ (bqT tcL_law_42 3 29 = true) ∧ (bqT tcL_law_42 4 5 = true) ∧ (bqT tcL_law_42 5 96 = true) ∧ (bqT tcL_law_42 6 46 = true) ∧ (bqT tcL_law_42 7 42 = true) ∧ (bqT tcL_law_42 8 29 = true) ∧ (bqT tcL_law_42 9 6 = true) ∧ (bqT tcL_law_42 10 96 = true) ∧ (bqT tcL_law_42 11 46 = true) ∧ ((bqT tcL_law_42 12 182 && bqT tcL_law_42 13 0 && bqT tcL_law_42 14 87 && (0 * 256 + 87 == 87)) = true) ∧ (bqT tcL_law_42 15 87 = true) ∧ ((bqT tcL_law_43 0 167 && bqT tcL_law_43 1 1 && bqT tcL_law_43 2 80 && (Reader.signed 16 (1 * 256 + 80) == 336)) = true) ∧ (bqT tcL_law_43 3 43 = true) ∧ (bqT tcL_law_43 4 42 = true) ∧ (bqT tcL_law_43 5 29 = true) := by decide +kernel
theorem dL_law_664 : decode cL_law 664 = .ok (.invokevirtual 84, 3) := dt_182 (i := 8) (p := 656) gcL_law_41 0 84 pl_decg_18.1
theorem dL_law_667 : decode cL_law 667 = .ok (.pop, 1) := dt_87 (i := 11) (p := 656) gcL_law_41 pl_decg_18.2.1
theorem dL_law_668 : decode cL_law 668 = .ok (.aload_n 2, 1) := dt_44 (i := 12) (p := 656) gcL_law_41 pl_decg_18.2.2.1
theorem dL_law_669 : decode cL_law 669 = .ok (.aload_n 0, 1) := dt_42 (i := 13) (p := 656) gcL_law_41 pl_decg_18.2.2.2.1
theorem dL_law_670 : decode cL_law 670 = .ok (.iload_n 3, 1) := dt_29 (i := 14) (p := 656) gcL_law_41 pl_decg_18.2.2.2.2.1
theorem dL_law_671 : decode cL_law 671 = .ok (.iconst 1, 1) := dt_4 (i := 15) (p := 656) gcL_law_41 pl_decg_18.2.2.2.2.2.1
theorem dL_law_672 : decode cL_law 672 = .ok (.iadd, 1) := dt_96 (i := 0) (p := 672) gcL_law_42 pl_decg_18.2.2.2.2.2.2.1
theorem dL_law_673 : decode cL_law 673 = .ok (.iaload, 1) := dt_46 (i := 1) (p := 672) gcL_law_42 pl_decg_18.2.2.2.2.2.2.2.1
theorem dL_law_674 : decode cL_law 674 = .ok (.aload_n 0, 1) := dt_42 (i := 2) (p := 672) gcL_law_42 pl_decg_18.2.2.2.2.2.2.2.2.1
theorem dL_law_675 : decode cL_law 675 = .ok (.iload_n 3, 1) := dt_29 (i := 3) (p := 672) gcL_law_42 pl_decg_18.2.2.2.2.2.2.2.2.2.1
theorem dL_law_676 : decode cL_law 676 = .ok (.iconst 2, 1) := dt_5 (i := 4) (p := 672) gcL_law_42 pl_decg_18.2.2.2.2.2.2.2.2.2.2.1
theorem dL_law_677 : decode cL_law 677 = .ok (.iadd, 1) := dt_96 (i := 5) (p := 672) gcL_law_42 pl_decg_18.2.2.2.2.2.2.2.2.2.2.2.1
theorem dL_law_678 : decode cL_law 678 = .ok (.iaload, 1) := dt_46 (i := 6) (p := 672) gcL_law_42 pl_decg_18.2.2.2.2.2.2.2.2.2.2.2.2.1
theorem dL_law_679 : decode cL_law 679 = .ok (.aload_n 0, 1) := dt_42 (i := 7) (p := 672) gcL_law_42 pl_decg_18.2.2.2.2.2.2.2.2.2.2.2.2.2.1
theorem dL_law_680 : decode cL_law 680 = .ok (.iload_n 3, 1) := dt_29 (i := 8) (p := 672) gcL_law_42 pl_decg_18.2.2.2.2.2.2.2.2.2.2.2.2.2.2.1
theorem dL_law_681 : decode cL_law 681 = .ok (.iconst 3, 1) := dt_6 (i := 9) (p := 672) gcL_law_42 pl_decg_18.2.2.2.2.2.2.2.2.2.2.2.2.2.2.2.1
theorem dL_law_682 : decode cL_law 682 = .ok (.iadd, 1) := dt_96 (i := 10) (p := 672) gcL_law_42 pl_decg_18.2.2.2.2.2.2.2.2.2.2.2.2.2.2.2.2.1
theorem dL_law_683 : decode cL_law 683 = .ok (.iaload, 1) := dt_46 (i := 11) (p := 672) gcL_law_42 pl_decg_18.2.2.2.2.2.2.2.2.2.2.2.2.2.2.2.2.2.1
theorem dL_law_684 : decode cL_law 684 = .ok (.invokevirtual 87, 3) := dt_182 (i := 12) (p := 672) gcL_law_42 0 87 pl_decg_18.2.2.2.2.2.2.2.2.2.2.2.2.2.2.2.2.2.2.1
theorem dL_law_687 : decode cL_law 687 = .ok (.pop, 1) := dt_87 (i := 15) (p := 672) gcL_law_42 pl_decg_18.2.2.2.2.2.2.2.2.2.2.2.2.2.2.2.2.2.2.2.1
theorem dL_law_688 : decode cL_law 688 = .ok (.goto 336, 3) := dt_167 (i := 0) (p := 688) gcL_law_43 1 80 pl_decg_18.2.2.2.2.2.2.2.2.2.2.2.2.2.2.2.2.2.2.2.2.1
theorem dL_law_691 : decode cL_law 691 = .ok (.aload_n 1, 1) := dt_43 (i := 3) (p := 688) gcL_law_43 pl_decg_18.2.2.2.2.2.2.2.2.2.2.2.2.2.2.2.2.2.2.2.2.2.1
theorem dL_law_692 : decode cL_law 692 = .ok (.aload_n 0, 1) := dt_42 (i := 4) (p := 688) gcL_law_43 pl_decg_18.2.2.2.2.2.2.2.2.2.2.2.2.2.2.2.2.2.2.2.2.2.2.1
theorem dL_law_693 : decode cL_law 693 = .ok (.iload_n 3, 1) := dt_29 (i := 5) (p := 688) gcL_law_43 pl_decg_18.2.2.2.2.2.2.2.2.2.2.2.2.2.2.2.2.2.2.2.2.2.2.2
set_option maxRecDepth 20000 in
theorem pl_decg_19 : (bqT tcL_law_43 6 4 = true) ∧ (bqT tcL_law_43 7 96 = true) ∧ (bqT tcL_law_43 8 46 = true) ∧ (bqT tcL_law_43 9 42 = true) ∧ (bqT tcL_law_43 10 29 = true) ∧ (bqT tcL_law_43 11 5 = true) ∧ (bqT tcL_law_43 12 96 = true) ∧ (bqT tcL_law_43 13 46 = true) ∧ ((bqT tcL_law_43 14 182 && bqT tcL_law_43 15 0 && bqT tcL_law_43 16 88 && (0 * 256 + 88 == 88)) = true) ∧ (bqT tcL_law_44 1 87 = true) ∧ (bqT tcL_law_44 2 44 = true) ∧ (bqT tcL_law_44 3 42 = true) ∧ (bqT tcL_law_44 4 29 = true) ∧ (bqT tcL_law_44 5 4 = true) ∧ (bqT tcL_law_44 6 96 = true) ∧ (bqT tcL_law_44 7 46 = true) ∧ (bqT tcL_law_44 8 42 = true) ∧ (bqT tcL_law_44 9 29 = true) ∧ (bqT tcL_law_44 10 5 = true) ∧ (bqT tcL_law_44 11 96 = true) ∧ (bqT tcL_law_44 12 46 = true) ∧ ((bqT tcL_law_44 13 182 && bqT tcL_law_44 14 0 && bqT tcL_law_44 15 91 && (0 * 256 + 91 == 91)) = true) ∧ (bqT tcL_law_45 0 87 = true) ∧ ((bqT tcL_law_45 1 167 && bqT tcL_law_45 2 1 && bqT tcL_law_45 3 47 && (Reader.signed 16 (1 * 256 + 47) == 303)) = true) := by decide +kernel
theorem dL_law_694 : decode cL_law 694 = .ok (.iconst 1, 1) := dt_4 (i := 6) (p := 688) gcL_law_43 pl_decg_19.1
theorem dL_law_695 : decode cL_law 695 = .ok (.iadd, 1) := dt_96 (i := 7) (p := 688) gcL_law_43 pl_decg_19.2.1
theorem dL_law_696 : decode cL_law 696 = .ok (.iaload, 1) := dt_46 (i := 8) (p := 688) gcL_law_43 pl_decg_19.2.2.1
theorem dL_law_697 : decode cL_law 697 = .ok (.aload_n 0, 1) := dt_42 (i := 9) (p := 688) gcL_law_43 pl_decg_19.2.2.2.1
theorem dL_law_698 : decode cL_law 698 = .ok (.iload_n 3, 1) := dt_29 (i := 10) (p := 688) gcL_law_43 pl_decg_19.2.2.2.2.1
theorem dL_law_699 : decode cL_law 699 = .ok (.iconst 2, 1) := dt_5 (i := 11) (p := 688) gcL_law_43 pl_decg_19.2.2.2.2.2.1
theorem dL_law_700 : decode cL_law 700 = .ok (.iadd, 1) := dt_96 (i := 12) (p := 688) gcL_law_43 pl_decg_19.2.2.2.2.2.2.1
theorem dL_law_701 : decode cL_law 701 = .ok (.iaload, 1) := dt_46 (i := 13) (p := 688) gcL_law_43 pl_decg_19.2.2.2.2.2.2.2.1
theorem dL_law_702 : decode cL_law 702 = .ok (.invokevirtual 88, 3) := dt_182 (i := 14) (p := 688) gcL_law_43 0 88 pl_decg_19.2.2.2.2.2.2.2.2.1
theorem dL_law_705 : decode cL_law 705 = .ok (.pop, 1) := dt_87 (i := 1) (p := 704) gcL_law_44 pl_decg_19.2.2.2.2.2.2.2.2.2.1
theorem dL_law_706 : decode cL_law 706 = .ok (.aload_n 2, 1) := dt_44 (i := 2) (p := 704) gcL_law_44 pl_decg_19.2.2.2.2.2.2.2.2.2.2.1
theorem dL_law_707 : decode cL_law 707 = .ok (.aload_n 0, 1) := dt_42 (i := 3) (p := 704) gcL_law_44 pl_decg_19.2.2.2.2.2.2.2.2.2.2.2.1
theorem dL_law_708 : decode cL_law 708 = .ok (.iload_n 3, 1) := dt_29 (i := 4) (p := 704) gcL_law_44 pl_decg_19.2.2.2.2.2.2.2.2.2.2.2.2.1
theorem dL_law_709 : decode cL_law 709 = .ok (.iconst 1, 1) := dt_4 (i := 5) (p := 704) gcL_law_44 pl_decg_19.2.2.2.2.2.2.2.2.2.2.2.2.2.1
theorem dL_law_710 : decode cL_law 710 = .ok (.iadd, 1) := dt_96 (i := 6) (p := 704) gcL_law_44 pl_decg_19.2.2.2.2.2.2.2.2.2.2.2.2.2.2.1
theorem dL_law_711 : decode cL_law 711 = .ok (.iaload, 1) := dt_46 (i := 7) (p := 704) gcL_law_44 pl_decg_19.2.2.2.2.2.2.2.2.2.2.2.2.2.2.2.1
theorem dL_law_712 : decode cL_law 712 = .ok (.aload_n 0, 1) := dt_42 (i := 8) (p := 704) gcL_law_44 pl_decg_19.2.2.2.2.2.2.2.2.2.2.2.2.2.2.2.2.1
theorem dL_law_713 : decode cL_law 713 = .ok (.iload_n 3, 1) := dt_29 (i := 9) (p := 704) gcL_law_44 pl_decg_19.2.2.2.2.2.2.2.2.2.2.2.2.2.2.2.2.2.1
theorem dL_law_714 : decode cL_law 714 = .ok (.iconst 2, 1) := dt_5 (i := 10) (p := 704) gcL_law_44 pl_decg_19.2.2.2.2.2.2.2.2.2.2.2.2.2.2.2.2.2.2.1
theorem dL_law_715 : decode cL_law 715 = .ok (.iadd, 1) := dt_96 (i := 11) (p := 704) gcL_law_44 pl_decg_19.2.2.2.2.2.2.2.2.2.2.2.2.2.2.2.2.2.2.2.1
theorem dL_law_716 : decode cL_law 716 = .ok (.iaload, 1) := dt_46 (i := 12) (p := 704) gcL_law_44 pl_decg_19.2.2.2.2.2.2.2.2.2.2.2.2.2.2.2.2.2.2.2.2.1
theorem dL_law_717 : decode cL_law 717 = .ok (.invokevirtual 91, 3) := dt_182 (i := 13) (p := 704) gcL_law_44 0 91 pl_decg_19.2.2.2.2.2.2.2.2.2.2.2.2.2.2.2.2.2.2.2.2.2.1
theorem dL_law_720 : decode cL_law 720 = .ok (.pop, 1) := dt_87 (i := 0) (p := 720) gcL_law_45 pl_decg_19.2.2.2.2.2.2.2.2.2.2.2.2.2.2.2.2.2.2.2.2.2.2.1
theorem dL_law_721 : decode cL_law 721 = .ok (.goto 303, 3) := dt_167 (i := 1) (p := 720) gcL_law_45 1 47 pl_decg_19.2.2.2.2.2.2.2.2.2.2.2.2.2.2.2.2.2.2.2.2.2.2.2
set_option maxRecDepth 20000 in
theorem pl_decg_20 : (bqT tcL_law_45 4 43 = true) ∧ (bqT tcL_law_45 5 42 = true) ∧ (bqT tcL_law_45 6 29 = true) ∧ (bqT tcL_law_45 7 4 = true) ∧ (bqT tcL_law_45 8 96 = true) ∧ (bqT tcL_law_45 9 46 = true) ∧ (bqT tcL_law_45 10 42 = true) ∧ (bqT tcL_law_45 11 29 = true) ∧ (bqT tcL_law_45 12 5 = true) ∧ (bqT tcL_law_45 13 96 = true) ∧ (bqT tcL_law_45 14 46 = true) ∧ ((bqT tcL_law_45 15 182 && bqT tcL_law_45 16 0 && bqT tcL_law_45 17 92 && (0 * 256 + 92 == 92)) = true) ∧ (bqT tcL_law_46 2 87 = true) ∧ (bqT tcL_law_46 3 44 = true) ∧ (bqT tcL_law_46 4 42 = true) ∧ (bqT tcL_law_46 5 29 = true) ∧ (bqT tcL_law_46 6 4 = true) ∧ (bqT tcL_law_46 7 96 = true) ∧ (bqT tcL_law_46 8 46 = true) ∧ (bqT tcL_law_46 9 42 = true) ∧ (bqT tcL_law_46 10 29 = true) ∧ (bqT tcL_law_46 11 5 = true) ∧ (bqT tcL_law_46 12 96 = true) ∧ (bqT tcL_law_46 13 46 = true) := by decide +kernel
theorem dL_law_724 : decode cL_law 724 = .ok (.aload_n 1, 1) := dt_43 (i := 4) (p := 720) gcL_law_45 pl_decg_20.1
theorem dL_law_725 : decode cL_law 725 = .ok (.aload_n 0, 1) := dt_42 (i := 5) (p := 720) gcL_law_45 pl_decg_20.2.1
theorem dL_law_726 : decode cL_law 726 = .ok (.iload_n 3, 1) := dt_29 (i := 6) (p := 720) gcL_law_45 pl_decg_20.2.2.1
theorem dL_law_727 : decode cL_law 727 = .ok (.iconst 1, 1) := dt_4 (i := 7) (p := 720) gcL_law_45 pl_decg_20.2.2.2.1
theorem dL_law_728 : decode cL_law 728 = .ok (.iadd, 1) := dt_96 (i := 8) (p := 720) gcL_law_45 pl_decg_20.2.2.2.2.1
theorem dL_law_729 : decode cL_law 729 = .ok (.iaload, 1) := dt_46 (i := 9) (p := 720) gcL_law_45 pl_decg_20.2.2.2.2.2.1
theorem dL_law_730 : decode cL_law 730 = .ok (.aload_n 0, 1) := dt_42 (i := 10) (p := 720) gcL_law_45 pl_decg_20.2.2.2.2.2.2.1
theorem dL_law_731 : decode cL_law 731 = .ok (.iload_n 3, 1) := dt_29 (i := 11) (p := 720) gcL_law_45 pl_decg_20.2.2.2.2.2.2.2.1
theorem dL_law_732 : decode cL_law 732 = .ok (.iconst 2, 1) := dt_5 (i := 12) (p := 720) gcL_law_45 pl_decg_20.2.2.2.2.2.2.2.2.1
theorem dL_law_733 : decode cL_law 733 = .ok (.iadd, 1) := dt_96 (i := 13) (p := 720) gcL_law_45 pl_decg_20.2.2.2.2.2.2.2.2.2.1
theorem dL_law_734 : decode cL_law 734 = .ok (.iaload, 1) := dt_46 (i := 14) (p := 720) gcL_law_45 pl_decg_20.2.2.2.2.2.2.2.2.2.2.1
theorem dL_law_735 : decode cL_law 735 = .ok (.invokevirtual 92, 3) := dt_182 (i := 15) (p := 720) gcL_law_45 0 92 pl_decg_20.2.2.2.2.2.2.2.2.2.2.2.1
theorem dL_law_738 : decode cL_law 738 = .ok (.pop, 1) := dt_87 (i := 2) (p := 736) gcL_law_46 pl_decg_20.2.2.2.2.2.2.2.2.2.2.2.2.1
theorem dL_law_739 : decode cL_law 739 = .ok (.aload_n 2, 1) := dt_44 (i := 3) (p := 736) gcL_law_46 pl_decg_20.2.2.2.2.2.2.2.2.2.2.2.2.2.1
theorem dL_law_740 : decode cL_law 740 = .ok (.aload_n 0, 1) := dt_42 (i := 4) (p := 736) gcL_law_46 pl_decg_20.2.2.2.2.2.2.2.2.2.2.2.2.2.2.1
theorem dL_law_741 : decode cL_law 741 = .ok (.iload_n 3, 1) := dt_29 (i := 5) (p := 736) gcL_law_46 pl_decg_20.2.2.2.2.2.2.2.2.2.2.2.2.2.2.2.1
theorem dL_law_742 : decode cL_law 742 = .ok (.iconst 1, 1) := dt_4 (i := 6) (p := 736) gcL_law_46 pl_decg_20.2.2.2.2.2.2.2.2.2.2.2.2.2.2.2.2.1
theorem dL_law_743 : decode cL_law 743 = .ok (.iadd, 1) := dt_96 (i := 7) (p := 736) gcL_law_46 pl_decg_20.2.2.2.2.2.2.2.2.2.2.2.2.2.2.2.2.2.1
theorem dL_law_744 : decode cL_law 744 = .ok (.iaload, 1) := dt_46 (i := 8) (p := 736) gcL_law_46 pl_decg_20.2.2.2.2.2.2.2.2.2.2.2.2.2.2.2.2.2.2.1
theorem dL_law_745 : decode cL_law 745 = .ok (.aload_n 0, 1) := dt_42 (i := 9) (p := 736) gcL_law_46 pl_decg_20.2.2.2.2.2.2.2.2.2.2.2.2.2.2.2.2.2.2.2.1
theorem dL_law_746 : decode cL_law 746 = .ok (.iload_n 3, 1) := dt_29 (i := 10) (p := 736) gcL_law_46 pl_decg_20.2.2.2.2.2.2.2.2.2.2.2.2.2.2.2.2.2.2.2.2.1
theorem dL_law_747 : decode cL_law 747 = .ok (.iconst 2, 1) := dt_5 (i := 11) (p := 736) gcL_law_46 pl_decg_20.2.2.2.2.2.2.2.2.2.2.2.2.2.2.2.2.2.2.2.2.2.1
theorem dL_law_748 : decode cL_law 748 = .ok (.iadd, 1) := dt_96 (i := 12) (p := 736) gcL_law_46 pl_decg_20.2.2.2.2.2.2.2.2.2.2.2.2.2.2.2.2.2.2.2.2.2.2.1
theorem dL_law_749 : decode cL_law 749 = .ok (.iaload, 1) := dt_46 (i := 13) (p := 736) gcL_law_46 pl_decg_20.2.2.2.2.2.2.2.2.2.2.2.2.2.2.2.2.2.2.2.2.2.2.2
set_option maxRecDepth 20000 in
theorem pl_decg_21 : ((bqT tcL_law_46 14 182 && bqT tcL_law_46 15 0 && bqT tcL_law_46 16 95 && (0 * 256 + 95 == 95)) = true) ∧ (bqT tcL_law_47 1 87 = true) ∧ ((bqT tcL_law_47 2 167 && bqT tcL_law_47 3 1 && bqT tcL_law_47 4 14 && (Reader.signed 16 (1 * 256 + 14) == 270)) = true) ∧ (bqT tcL_law_47 5 43 = true) ∧ (bqT tcL_law_47 6 42 = true) ∧ (bqT tcL_law_47 7 29 = true) ∧ (bqT tcL_law_47 8 4 = true) ∧ (bqT tcL_law_47 9 96 = true) ∧ (bqT tcL_law_47 10 46 = true) ∧ ((bqT tcL_law_47 11 182 && bqT tcL_law_47 12 0 && bqT tcL_law_47 13 96 && (0 * 256 + 96 == 96)) = true) ∧ (bqT tcL_law_47 14 87 = true) ∧ (bqT tcL_law_47 15 44 = true) ∧ (bqT tcL_law_48 0 42 = true) ∧ (bqT tcL_law_48 1 29 = true) ∧ (bqT tcL_law_48 2 4 = true) ∧ (bqT tcL_law_48 3 96 = true) ∧ (bqT tcL_law_48 4 46 = true) ∧ ((bqT tcL_law_48 5 182 && bqT tcL_law_48 6 0 && bqT tcL_law_48 7 99 && (0 * 256 + 99 == 99)) = true) ∧ (bqT tcL_law_48 8 87 = true) ∧ ((bqT tcL_law_48 9 167 && bqT tcL_law_48 10 0 && bqT tcL_law_48 11 247 && (Reader.signed 16 (0 * 256 + 247) == 247)) = true) ∧ (bqT tcL_law_48 12 43 = true) ∧ (bqT tcL_law_48 13 42 = true) ∧ (bqT tcL_law_48 14 29 = true) ∧ (bqT tcL_law_48 15 4 = true) := by decide +kernel
theorem dL_law_750 : decode cL_law 750 = .ok (.invokevirtual 95, 3) := dt_182 (i := 14) (p := 736) gcL_law_46 0 95 pl_decg_21.1
theorem dL_law_753 : decode cL_law 753 = .ok (.pop, 1) := dt_87 (i := 1) (p := 752) gcL_law_47 pl_decg_21.2.1
theorem dL_law_754 : decode cL_law 754 = .ok (.goto 270, 3) := dt_167 (i := 2) (p := 752) gcL_law_47 1 14 pl_decg_21.2.2.1
theorem dL_law_757 : decode cL_law 757 = .ok (.aload_n 1, 1) := dt_43 (i := 5) (p := 752) gcL_law_47 pl_decg_21.2.2.2.1
theorem dL_law_758 : decode cL_law 758 = .ok (.aload_n 0, 1) := dt_42 (i := 6) (p := 752) gcL_law_47 pl_decg_21.2.2.2.2.1
theorem dL_law_759 : decode cL_law 759 = .ok (.iload_n 3, 1) := dt_29 (i := 7) (p := 752) gcL_law_47 pl_decg_21.2.2.2.2.2.1
theorem dL_law_760 : decode cL_law 760 = .ok (.iconst 1, 1) := dt_4 (i := 8) (p := 752) gcL_law_47 pl_decg_21.2.2.2.2.2.2.1
theorem dL_law_761 : decode cL_law 761 = .ok (.iadd, 1) := dt_96 (i := 9) (p := 752) gcL_law_47 pl_decg_21.2.2.2.2.2.2.2.1
theorem dL_law_762 : decode cL_law 762 = .ok (.iaload, 1) := dt_46 (i := 10) (p := 752) gcL_law_47 pl_decg_21.2.2.2.2.2.2.2.2.1
theorem dL_law_763 : decode cL_law 763 = .ok (.invokevirtual 96, 3) := dt_182 (i := 11) (p := 752) gcL_law_47 0 96 pl_decg_21.2.2.2.2.2.2.2.2.2.1
theorem dL_law_766 : decode cL_law 766 = .ok (.pop, 1) := dt_87 (i := 14) (p := 752) gcL_law_47 pl_decg_21.2.2.2.2.2.2.2.2.2.2.1
theorem dL_law_767 : decode cL_law 767 = .ok (.aload_n 2, 1) := dt_44 (i := 15) (p := 752) gcL_law_47 pl_decg_21.2.2.2.2.2.2.2.2.2.2.2.1
theorem dL_law_768 : decode cL_law 768 = .ok (.aload_n 0, 1) := dt_42 (i := 0) (p := 768) gcL_law_48 pl_decg_21.2.2.2.2.2.2.2.2.2.2.2.2.1
theorem dL_law_769 : decode cL_law 769 = .ok (.iload_n 3, 1) := dt_29 (i := 1) (p := 768) gcL_law_48 pl_decg_21.2.2.2.2.2.2.2.2.2.2.2.2.2.1
theorem dL_law_770 : decode cL_law 770 = .ok (.iconst 1, 1) := dt_4 (i := 2) (p := 768) gcL_law_48 pl_decg_21.2.2.2.2.2.2.2.2.2.2.2.2.2.2.1
theorem dL_law_771 : decode cL_law 771 = .ok (.iadd, 1) := dt_96 (i := 3) (p := 768) gcL_law_48 pl_decg_21.2.2.2.2.2.2.2.2.2.2.2.2.2.2.2.1
theorem dL_law_772 : decode cL_law 772 = .ok (.iaload, 1) := dt_46 (i := 4) (p := 768) gcL_law_48 pl_decg_21.2.2.2.2.2.2.2.2.2.2.2.2.2.2.2.2.1
theorem dL_law_773 : decode cL_law 773 = .ok (.invokevirtual 99, 3) := dt_182 (i := 5) (p := 768) gcL_law_48 0 99 pl_decg_21.2.2.2.2.2.2.2.2.2.2.2.2.2.2.2.2.2.1
theorem dL_law_776 : decode cL_law 776 = .ok (.pop, 1) := dt_87 (i := 8) (p := 768) gcL_law_48 pl_decg_21.2.2.2.2.2.2.2.2.2.2.2.2.2.2.2.2.2.2.1
theorem dL_law_777 : decode cL_law 777 = .ok (.goto 247, 3) := dt_167 (i := 9) (p := 768) gcL_law_48 0 247 pl_decg_21.2.2.2.2.2.2.2.2.2.2.2.2.2.2.2.2.2.2.2.1
theorem dL_law_780 : decode cL_law 780 = .ok (.aload_n 1, 1) := dt_43 (i := 12) (p := 768) gcL_law_48 pl_decg_21.2.2.2.2.2.2.2.2.2.2.2.2.2.2.2.2.2.2.2.2.1
theorem dL_law_781 : decode cL_law 781 = .ok (.aload_n 0, 1) := dt_42 (i := 13) (p := 768) gcL_law_48 pl_decg_21.2.2.2.2.2.2.2.2.2.2.2.2.2.2.2.2.2.2.2.2.2.1
theorem dL_law_782 : decode cL_law 782 = .ok (.iload_n 3, 1) := dt_29 (i := 14) (p := 768) gcL_law_48 pl_decg_21.2.2.2.2.2.2.2.2.2.2.2.2.2.2.2.2.2.2.2.2.2.2.1
theorem dL_law_783 : decode cL_law 783 = .ok (.iconst 1, 1) := dt_4 (i := 15) (p := 768) gcL_law_48 pl_decg_21.2.2.2.2.2.2.2.2.2.2.2.2.2.2.2.2.2.2.2.2.2.2.2
set_option maxRecDepth 20000 in
theorem pl_decg_22 : (bqT tcL_law_49 0 96 = true) ∧ (bqT tcL_law_49 1 46 = true) ∧ ((bqT tcL_law_49 2 182 && bqT tcL_law_49 3 0 && bqT tcL_law_49 4 100 && (0 * 256 + 100 == 100)) = true) ∧ (bqT tcL_law_49 5 87 = true) ∧ (bqT tcL_law_49 6 44 = true) ∧ (bqT tcL_law_49 7 42 = true) ∧ (bqT tcL_law_49 8 29 = true) ∧ (bqT tcL_law_49 9 4 = true) ∧ (bqT tcL_law_49 10 96 = true) ∧ (bqT tcL_law_49 11 46 = true) ∧ ((bqT tcL_law_49 12 182 && bqT tcL_law_49 13 0 && bqT tcL_law_49 14 103 && (0 * 256 + 103 == 103)) = true) ∧ (bqT tcL_law_49 15 87 = true) ∧ ((bqT tcL_law_50 0 167 && bqT tcL_law_50 1 0 && bqT tcL_law_50 2 224 && (Reader.signed 16 (0 * 256 + 224) == 224)) = true) ∧ (bqT tcL_law_50 3 43 = true) ∧ (bqT tcL_law_50 4 42 = true) ∧ (bqT tcL_law_50 5 29 = true) ∧ (bqT tcL_law_50 6 4 = true) ∧ (bqT tcL_law_50 7 96 = true) ∧ (bqT tcL_law_50 8 46 = true) ∧ (bqT tcL_law_50 9 42 = true) ∧ (bqT tcL_law_50 10 29 = true) ∧ (bqT tcL_law_50 11 5 = true) ∧ (bqT tcL_law_50 12 96 = true) ∧ (bqT tcL_law_50 13 46 = true) := by decide +kernel
theorem dL_law_784 : decode cL_law 784 = .ok (.iadd, 1) := dt_96 (i := 0) (p := 784) gcL_law_49 pl_decg_22.1
theorem dL_law_785 : decode cL_law 785 = .ok (.iaload, 1) := dt_46 (i := 1) (p := 784) gcL_law_49 pl_decg_22.2.1
theorem dL_law_786 : decode cL_law 786 = .ok (.invokevirtual 100, 3) := dt_182 (i := 2) (p := 784) gcL_law_49 0 100 pl_decg_22.2.2.1
theorem dL_law_789 : decode cL_law 789 = .ok (.pop, 1) := dt_87 (i := 5) (p := 784) gcL_law_49 pl_decg_22.2.2.2.1
theorem dL_law_790 : decode cL_law 790 = .ok (.aload_n 2, 1) := dt_44 (i := 6) (p := 784) gcL_law_49 pl_decg_22.2.2.2.2.1
theorem dL_law_791 : decode cL_law 791 = .ok (.aload_n 0, 1) := dt_42 (i := 7) (p := 784) gcL_law_49 pl_decg_22.2.2.2.2.2.1
theorem dL_law_792 : decode cL_law 792 = .ok (.iload_n 3, 1) := dt_29 (i := 8) (p := 784) gcL_law_49 pl_decg_22.2.2.2.2.2.2.1
theorem dL_law_793 : decode cL_law 793 = .ok (.iconst 1, 1) := dt_4 (i := 9) (p := 784) gcL_law_49 pl_decg_22.2.2.2.2.2.2.2.1
theorem dL_law_794 : decode cL_law 794 = .ok (.iadd, 1) := dt_96 (i := 10) (p := 784) gcL_law_49 pl_decg_22.2.2.2.2.2.2.2.2.1
theorem dL_law_795 : decode cL_law 795 = .ok (.iaload, 1) := dt_46 (i := 11) (p := 784) gcL_law_49 pl_decg_22.2.2.2.2.2.2.2.2.2.1
theorem dL_law_796 : decode cL_law 796 = .ok (.invokevirtual 103, 3) := dt_182 (i := 12) (p := 784) gcL_law_49 0 103 pl_decg_22.2.2.2.2.2.2.2.2.2.2.1
theorem dL_law_799 : decode cL_law 799 = .ok (.pop, 1) := dt_87 (i := 15) (p := 784) gcL_law_49 pl_decg_22.2.2.2.2.2.2.2.2.2.2.2.1
theorem dL_law_800 : decode cL_law 800 = .ok (.goto 224, 3) := dt_167 (i := 0) (p := 800) gcL_law_50 0 224 pl_decg_22.2.2.2.2.2.2.2.2.2.2.2.2.1
theorem dL_law_803 : decode cL_law 803 = .ok (.aload_n 1, 1) := dt_43 (i := 3) (p := 800) gcL_law_50 pl_decg_22.2.2.2.2.2.2.2.2.2.2.2.2.2.1
theorem dL_law_804 : decode cL_law 804 = .ok (.aload_n 0, 1) := dt_42 (i := 4) (p := 800) gcL_law_50 pl_decg_22.2.2.2.2.2.2.2.2.2.2.2.2.2.2.1
theorem dL_law_805 : decode cL_law 805 = .ok (.iload_n 3, 1) := dt_29 (i := 5) (p := 800) gcL_law_50 pl_decg_22.2.2.2.2.2.2.2.2.2.2.2.2.2.2.2.1
theorem dL_law_806 : decode cL_law 806 = .ok (.iconst 1, 1) := dt_4 (i := 6) (p := 800) gcL_law_50 pl_decg_22.2.2.2.2.2.2.2.2.2.2.2.2.2.2.2.2.1
theorem dL_law_807 : decode cL_law 807 = .ok (.iadd, 1) := dt_96 (i := 7) (p := 800) gcL_law_50 pl_decg_22.2.2.2.2.2.2.2.2.2.2.2.2.2.2.2.2.2.1
theorem dL_law_808 : decode cL_law 808 = .ok (.iaload, 1) := dt_46 (i := 8) (p := 800) gcL_law_50 pl_decg_22.2.2.2.2.2.2.2.2.2.2.2.2.2.2.2.2.2.2.1
theorem dL_law_809 : decode cL_law 809 = .ok (.aload_n 0, 1) := dt_42 (i := 9) (p := 800) gcL_law_50 pl_decg_22.2.2.2.2.2.2.2.2.2.2.2.2.2.2.2.2.2.2.2.1
theorem dL_law_810 : decode cL_law 810 = .ok (.iload_n 3, 1) := dt_29 (i := 10) (p := 800) gcL_law_50 pl_decg_22.2.2.2.2.2.2.2.2.2.2.2.2.2.2.2.2.2.2.2.2.1
theorem dL_law_811 : decode cL_law 811 = .ok (.iconst 2, 1) := dt_5 (i := 11) (p := 800) gcL_law_50 pl_decg_22.2.2.2.2.2.2.2.2.2.2.2.2.2.2.2.2.2.2.2.2.2.1
theorem dL_law_812 : decode cL_law 812 = .ok (.iadd, 1) := dt_96 (i := 12) (p := 800) gcL_law_50 pl_decg_22.2.2.2.2.2.2.2.2.2.2.2.2.2.2.2.2.2.2.2.2.2.2.1
theorem dL_law_813 : decode cL_law 813 = .ok (.iaload, 1) := dt_46 (i := 13) (p := 800) gcL_law_50 pl_decg_22.2.2.2.2.2.2.2.2.2.2.2.2.2.2.2.2.2.2.2.2.2.2.2
set_option maxRecDepth 20000 in
theorem pl_decg_23 : ((bqT tcL_law_50 14 182 && bqT tcL_law_50 15 0 && bqT tcL_law_50 16 104 && (0 * 256 + 104 == 104)) = true) ∧ (bqT tcL_law_51 1 87 = true) ∧ (bqT tcL_law_51 2 44 = true) ∧ (bqT tcL_law_51 3 42 = true) ∧ (bqT tcL_law_51 4 29 = true) ∧ (bqT tcL_law_51 5 4 = true) ∧ (bqT tcL_law_51 6 96 = true) ∧ (bqT tcL_law_51 7 46 = true) ∧ (bqT tcL_law_51 8 42 = true) ∧ (bqT tcL_law_51 9 29 = true) ∧ (bqT tcL_law_51 10 5 = true) ∧ (bqT tcL_law_51 11 96 = true) ∧ (bqT tcL_law_51 12 46 = true) ∧ ((bqT tcL_law_51 13 182 && bqT tcL_law_51 14 0 && bqT tcL_law_51 15 107 && (0 * 256 + 107 == 107)) = true) ∧ (bqT tcL_law_52 0 87 = true) ∧ ((bqT tcL_law_52 1 167 && bqT tcL_law_52 2 0 && bqT tcL_law_52 3 191 && (Reader.signed 16 (0 * 256 + 191) == 191)) = true) ∧ (bqT tcL_law_52 4 43 = true) ∧ (bqT tcL_law_52 5 42 = true) ∧ (bqT tcL_law_52 6 29 = true) ∧ (bqT tcL_law_52 7 4 = true) ∧ (bqT tcL_law_52 8 96 = true) ∧ (bqT tcL_law_52 9 46 = true) ∧ (bqT tcL_law_52 10 42 = true) ∧ (bqT tcL_law_52 11 29 = true) := by decide +kernel
theorem dL_law_814 : decode cL_law 814 = .ok (.invokevirtual 104, 3) := dt_182 (i := 14) (p := 800) gcL_law_50 0 104 pl_decg_23.1
theorem dL_law_817 : decode cL_law 817 = .ok (.pop, 1) := dt_87 (i := 1) (p := 816) gcL_law_51 pl_decg_23.2.1
theorem dL_law_818 : decode cL_law 818 = .ok (.aload_n 2, 1) := dt_44 (i := 2) (p := 816) gcL_law_51 pl_decg_23.2.2.1
theorem dL_law_819 : decode cL_law 819 = .ok (.aload_n 0, 1) := dt_42 (i := 3) (p := 816) gcL_law_51 pl_decg_23.2.2.2.1
theorem dL_law_820 : decode cL_law 820 = .ok (.iload_n 3, 1) := dt_29 (i := 4) (p := 816) gcL_law_51 pl_decg_23.2.2.2.2.1
theorem dL_law_821 : decode cL_law 821 = .ok (.iconst 1, 1) := dt_4 (i := 5) (p := 816) gcL_law_51 pl_decg_23.2.2.2.2.2.1
theorem dL_law_822 : decode cL_law 822 = .ok (.iadd, 1) := dt_96 (i := 6) (p := 816) gcL_law_51 pl_decg_23.2.2.2.2.2.2.1
theorem dL_law_823 : decode cL_law 823 = .ok (.iaload, 1) := dt_46 (i := 7) (p := 816) gcL_law_51 pl_decg_23.2.2.2.2.2.2.2.1
theorem dL_law_824 : decode cL_law 824 = .ok (.aload_n 0, 1) := dt_42 (i := 8) (p := 816) gcL_law_51 pl_decg_23.2.2.2.2.2.2.2.2.1
theorem dL_law_825 : decode cL_law 825 = .ok (.iload_n 3, 1) := dt_29 (i := 9) (p := 816) gcL_law_51 pl_decg_23.2.2.2.2.2.2.2.2.2.1
theorem dL_law_826 : decode cL_law 826 = .ok (.iconst 2, 1) := dt_5 (i := 10) (p := 816) gcL_law_51 pl_decg_23.2.2.2.2.2.2.2.2.2.2.1
theorem dL_law_827 : decode cL_law 827 = .ok (.iadd, 1) := dt_96 (i := 11) (p := 816) gcL_law_51 pl_decg_23.2.2.2.2.2.2.2.2.2.2.2.1
theorem dL_law_828 : decode cL_law 828 = .ok (.iaload, 1) := dt_46 (i := 12) (p := 816) gcL_law_51 pl_decg_23.2.2.2.2.2.2.2.2.2.2.2.2.1
theorem dL_law_829 : decode cL_law 829 = .ok (.invokevirtual 107, 3) := dt_182 (i := 13) (p := 816) gcL_law_51 0 107 pl_decg_23.2.2.2.2.2.2.2.2.2.2.2.2.2.1
theorem dL_law_832 : decode cL_law 832 = .ok (.pop, 1) := dt_87 (i := 0) (p := 832) gcL_law_52 pl_decg_23.2.2.2.2.2.2.2.2.2.2.2.2.2.2.1
theorem dL_law_833 : decode cL_law 833 = .ok (.goto 191, 3) := dt_167 (i := 1) (p := 832) gcL_law_52 0 191 pl_decg_23.2.2.2.2.2.2.2.2.2.2.2.2.2.2.2.1
theorem dL_law_836 : decode cL_law 836 = .ok (.aload_n 1, 1) := dt_43 (i := 4) (p := 832) gcL_law_52 pl_decg_23.2.2.2.2.2.2.2.2.2.2.2.2.2.2.2.2.1
theorem dL_law_837 : decode cL_law 837 = .ok (.aload_n 0, 1) := dt_42 (i := 5) (p := 832) gcL_law_52 pl_decg_23.2.2.2.2.2.2.2.2.2.2.2.2.2.2.2.2.2.1
theorem dL_law_838 : decode cL_law 838 = .ok (.iload_n 3, 1) := dt_29 (i := 6) (p := 832) gcL_law_52 pl_decg_23.2.2.2.2.2.2.2.2.2.2.2.2.2.2.2.2.2.2.1
theorem dL_law_839 : decode cL_law 839 = .ok (.iconst 1, 1) := dt_4 (i := 7) (p := 832) gcL_law_52 pl_decg_23.2.2.2.2.2.2.2.2.2.2.2.2.2.2.2.2.2.2.2.1
theorem dL_law_840 : decode cL_law 840 = .ok (.iadd, 1) := dt_96 (i := 8) (p := 832) gcL_law_52 pl_decg_23.2.2.2.2.2.2.2.2.2.2.2.2.2.2.2.2.2.2.2.2.1
theorem dL_law_841 : decode cL_law 841 = .ok (.iaload, 1) := dt_46 (i := 9) (p := 832) gcL_law_52 pl_decg_23.2.2.2.2.2.2.2.2.2.2.2.2.2.2.2.2.2.2.2.2.2.1
theorem dL_law_842 : decode cL_law 842 = .ok (.aload_n 0, 1) := dt_42 (i := 10) (p := 832) gcL_law_52 pl_decg_23.2.2.2.2.2.2.2.2.2.2.2.2.2.2.2.2.2.2.2.2.2.2.1
theorem dL_law_843 : decode cL_law 843 = .ok (.iload_n 3, 1) := dt_29 (i := 11) (p := 832) gcL_law_52 pl_decg_23.2.2.2.2.2.2.2.2.2.2.2.2.2.2.2.2.2.2.2.2.2.2.2
set_option maxRecDepth 20000 in
theorem pl_decg_24 : (bqT tcL_law_52 12 5 = true) ∧ (bqT tcL_law_52 13 96 = true) ∧ (bqT tcL_law_52 14 46 = true) ∧ ((bqT tcL_law_52 15 182 && bqT tcL_law_52 16 0 && bqT tcL_law_52 17 108 && (0 * 256 + 108 == 108)) = true) ∧ (bqT tcL_law_53 2 87 = true) ∧ (bqT tcL_law_53 3 44 = true) ∧ (bqT tcL_law_53 4 42 = true) ∧ (bqT tcL_law_53 5 29 = true) ∧ (bqT tcL_law_53 6 4 = true) ∧ (bqT tcL_law_53 7 96 = true) ∧ (bqT tcL_law_53 8 46 = true) ∧ (bqT tcL_law_53 9 42 = true) ∧ (bqT tcL_law_53 10 29 = true) ∧ (bqT tcL_law_53 11 5 = true) ∧ (bqT tcL_law_53 12 96 = true) ∧ (bqT tcL_law_53 13 46 = true) ∧ ((bqT tcL_law_53 14 182 && bqT tcL_law_53 15 0 && bqT tcL_law_53 16 111 && (0 * 256 + 111 == 111)) = true) ∧ (bqT tcL_law_54 1 87 = true) ∧ ((bqT tcL_law_54 2 167 && bqT tcL_law_54 3 0 && bqT tcL_law_54 4 158 && (Reader.signed 16 (0 * 256 + 158) == 158)) = true) ∧ (bqT tcL_law_54 5 43 = true) ∧ (bqT tcL_law_54 6 42 = true) ∧ (bqT tcL_law_54 7 29 = true) ∧ (bqT tcL_law_54 8 4 = true) ∧ (bqT tcL_law_54 9 96 = true) := by decide +kernel
theorem dL_law_844 : decode cL_law 844 = .ok (.iconst 2, 1) := dt_5 (i := 12) (p := 832) gcL_law_52 pl_decg_24.1
theorem dL_law_845 : decode cL_law 845 = .ok (.iadd, 1) := dt_96 (i := 13) (p := 832) gcL_law_52 pl_decg_24.2.1
theorem dL_law_846 : decode cL_law 846 = .ok (.iaload, 1) := dt_46 (i := 14) (p := 832) gcL_law_52 pl_decg_24.2.2.1
theorem dL_law_847 : decode cL_law 847 = .ok (.invokevirtual 108, 3) := dt_182 (i := 15) (p := 832) gcL_law_52 0 108 pl_decg_24.2.2.2.1
theorem dL_law_850 : decode cL_law 850 = .ok (.pop, 1) := dt_87 (i := 2) (p := 848) gcL_law_53 pl_decg_24.2.2.2.2.1
theorem dL_law_851 : decode cL_law 851 = .ok (.aload_n 2, 1) := dt_44 (i := 3) (p := 848) gcL_law_53 pl_decg_24.2.2.2.2.2.1
theorem dL_law_852 : decode cL_law 852 = .ok (.aload_n 0, 1) := dt_42 (i := 4) (p := 848) gcL_law_53 pl_decg_24.2.2.2.2.2.2.1
theorem dL_law_853 : decode cL_law 853 = .ok (.iload_n 3, 1) := dt_29 (i := 5) (p := 848) gcL_law_53 pl_decg_24.2.2.2.2.2.2.2.1
theorem dL_law_854 : decode cL_law 854 = .ok (.iconst 1, 1) := dt_4 (i := 6) (p := 848) gcL_law_53 pl_decg_24.2.2.2.2.2.2.2.2.1
theorem dL_law_855 : decode cL_law 855 = .ok (.iadd, 1) := dt_96 (i := 7) (p := 848) gcL_law_53 pl_decg_24.2.2.2.2.2.2.2.2.2.1
theorem dL_law_856 : decode cL_law 856 = .ok (.iaload, 1) := dt_46 (i := 8) (p := 848) gcL_law_53 pl_decg_24.2.2.2.2.2.2.2.2.2.2.1
theorem dL_law_857 : decode cL_law 857 = .ok (.aload_n 0, 1) := dt_42 (i := 9) (p := 848) gcL_law_53 pl_decg_24.2.2.2.2.2.2.2.2.2.2.2.1
theorem dL_law_858 : decode cL_law 858 = .ok (.iload_n 3, 1) := dt_29 (i := 10) (p := 848) gcL_law_53 pl_decg_24.2.2.2.2.2.2.2.2.2.2.2.2.1
theorem dL_law_859 : decode cL_law 859 = .ok (.iconst 2, 1) := dt_5 (i := 11) (p := 848) gcL_law_53 pl_decg_24.2.2.2.2.2.2.2.2.2.2.2.2.2.1
theorem dL_law_860 : decode cL_law 860 = .ok (.iadd, 1) := dt_96 (i := 12) (p := 848) gcL_law_53 pl_decg_24.2.2.2.2.2.2.2.2.2.2.2.2.2.2.1
theorem dL_law_861 : decode cL_law 861 = .ok (.iaload, 1) := dt_46 (i := 13) (p := 848) gcL_law_53 pl_decg_24.2.2.2.2.2.2.2.2.2.2.2.2.2.2.2.1
theorem dL_law_862 : decode cL_law 862 = .ok (.invokevirtual 111, 3) := dt_182 (i := 14) (p := 848) gcL_law_53 0 111 pl_decg_24.2.2.2.2.2.2.2.2.2.2.2.2.2.2.2.2.1
theorem dL_law_865 : decode cL_law 865 = .ok (.pop, 1) := dt_87 (i := 1) (p := 864) gcL_law_54 pl_decg_24.2.2.2.2.2.2.2.2.2.2.2.2.2.2.2.2.2.1
theorem dL_law_866 : decode cL_law 866 = .ok (.goto 158, 3) := dt_167 (i := 2) (p := 864) gcL_law_54 0 158 pl_decg_24.2.2.2.2.2.2.2.2.2.2.2.2.2.2.2.2.2.2.1
theorem dL_law_869 : decode cL_law 869 = .ok (.aload_n 1, 1) := dt_43 (i := 5) (p := 864) gcL_law_54 pl_decg_24.2.2.2.2.2.2.2.2.2.2.2.2.2.2.2.2.2.2.2.1
theorem dL_law_870 : decode cL_law 870 = .ok (.aload_n 0, 1) := dt_42 (i := 6) (p := 864) gcL_law_54 pl_decg_24.2.2.2.2.2.2.2.2.2.2.2.2.2.2.2.2.2.2.2.2.1
theorem dL_law_871 : decode cL_law 871 = .ok (.iload_n 3, 1) := dt_29 (i := 7) (p := 864) gcL_law_54 pl_decg_24.2.2.2.2.2.2.2.2.2.2.2.2.2.2.2.2.2.2.2.2.2.1
theorem dL_law_872 : decode cL_law 872 = .ok (.iconst 1, 1) := dt_4 (i := 8) (p := 864) gcL_law_54 pl_decg_24.2.2.2.2.2.2.2.2.2.2.2.2.2.2.2.2.2.2.2.2.2.2.1
theorem dL_law_873 : decode cL_law 873 = .ok (.iadd, 1) := dt_96 (i := 9) (p := 864) gcL_law_54 pl_decg_24.2.2.2.2.2.2.2.2.2.2.2.2.2.2.2.2.2.2.2.2.2.2.2
set_option maxRecDepth 20000 in
theorem pl_decg_25 : (bqT tcL_law_54 10 46 = true) ∧ (bqT tcL_law_54 11 42 = true) ∧ (bqT tcL_law_54 12 29 = true) ∧ (bqT tcL_law_54 13 5 = true) ∧ (bqT tcL_law_54 14 96 = true) ∧ (bqT tcL_law_54 15 46 = true) ∧ (bqT tcL_law_55 0 42 = true) ∧ (bqT tcL_law_55 1 29 = true) ∧ (bqT tcL_law_55 2 6 = true) ∧ (bqT tcL_law_55 3 96 = true) ∧ (bqT tcL_law_55 4 46 = true) ∧ ((bqT tcL_law_55 5 182 && bqT tcL_law_55 6 0 && bqT tcL_law_55 7 112 && (0 * 256 + 112 == 112)) = true) ∧ (bqT tcL_law_55 8 87 = true) ∧ (bqT tcL_law_55 9 44 = true) ∧ (bqT tcL_law_55 10 42 = true) ∧ (bqT tcL_law_55 11 29 = true) ∧ (bqT tcL_law_55 12 4 = true) ∧ (bqT tcL_law_55 13 96 = true) ∧ (bqT tcL_law_55 14 46 = true) ∧ (bqT tcL_law_55 15 42 = true) ∧ (bqT tcL_law_56 0 29 = true) ∧ (bqT tcL_law_56 1 5 = true) ∧ (bqT tcL_law_56 2 96 = true) ∧ (bqT tcL_law_56 3 46 = true) := by decide +kernel
theorem dL_law_874 : decode cL_law 874 = .ok (.iaload, 1) := dt_46 (i := 10) (p := 864) gcL_law_54 pl_decg_25.1
theorem dL_law_875 : decode cL_law 875 = .ok (.aload_n 0, 1) := dt_42 (i := 11) (p := 864) gcL_law_54 pl_decg_25.2.1
theorem dL_law_876 : decode cL_law 876 = .ok (.iload_n 3, 1) := dt_29 (i := 12) (p := 864) gcL_law_54 pl_decg_25.2.2.1
theorem dL_law_877 : decode cL_law 877 = .ok (.iconst 2, 1) := dt_5 (i := 13) (p := 864) gcL_law_54 pl_decg_25.2.2.2.1
theorem dL_law_878 : decode cL_law 878 = .ok (.iadd, 1) := dt_96 (i := 14) (p := 864) gcL_law_54 pl_decg_25.2.2.2.2.1
theorem dL_law_879 : decode cL_law 879 = .ok (.iaload, 1) := dt_46 (i := 15) (p := 864) gcL_law_54 pl_decg_25.2.2.2.2.2.1
theorem dL_law_880 : decode cL_law 880 = .ok (.aload_n 0, 1) := dt_42 (i := 0) (p := 880) gcL_law_55 pl_decg_25.2.2.2.2.2.2.1
theorem dL_law_881 : decode cL_law 881 = .ok (.iload_n 3, 1) := dt_29 (i := 1) (p := 880) gcL_law_55 pl_decg_25.2.2.2.2.2.2.2.1
theorem dL_law_882 : decode cL_law 882 = .ok (.iconst 3, 1) := dt_6 (i := 2) (p := 880) gcL_law_55 pl_decg_25.2.2.2.2.2.2.2.2.1
theorem dL_law_883 : decode cL_law 883 = .ok (.iadd, 1) := dt_96 (i := 3) (p := 880) gcL_law_55 pl_decg_25.2.2.2.2.2.2.2.2.2.1
theorem dL_law_884 : decode cL_law 884 = .ok (.iaload, 1) := dt_46 (i := 4) (p := 880) gcL_law_55 pl_decg_25.2.2.2.2.2.2.2.2.2.2.1
theorem dL_law_885 : decode cL_law 885 = .ok (.invokevirtual 112, 3) := dt_182 (i := 5) (p := 880) gcL_law_55 0 112 pl_decg_25.2.2.2.2.2.2.2.2.2.2.2.1
theorem dL_law_888 : decode cL_law 888 = .ok (.pop, 1) := dt_87 (i := 8) (p := 880) gcL_law_55 pl_decg_25.2.2.2.2.2.2.2.2.2.2.2.2.1
theorem dL_law_889 : decode cL_law 889 = .ok (.aload_n 2, 1) := dt_44 (i := 9) (p := 880) gcL_law_55 pl_decg_25.2.2.2.2.2.2.2.2.2.2.2.2.2.1
theorem dL_law_890 : decode cL_law 890 = .ok (.aload_n 0, 1) := dt_42 (i := 10) (p := 880) gcL_law_55 pl_decg_25.2.2.2.2.2.2.2.2.2.2.2.2.2.2.1
theorem dL_law_891 : decode cL_law 891 = .ok (.iload_n 3, 1) := dt_29 (i := 11) (p := 880) gcL_law_55 pl_decg_25.2.2.2.2.2.2.2.2.2.2.2.2.2.2.2.1
theorem dL_law_892 : decode cL_law 892 = .ok (.iconst 1, 1) := dt_4 (i := 12) (p := 880) gcL_law_55 pl_decg_25.2.2.2.2.2.2.2.2.2.2.2.2.2.2.2.2.1
theorem dL_law_893 : decode cL_law 893 = .ok (.iadd, 1) := dt_96 (i := 13) (p := 880) gcL_law_55 pl_decg_25.2.2.2.2.2.2.2.2.2.2.2.2.2.2.2.2.2.1
theorem dL_law_894 : decode cL_law 894 = .ok (.iaload, 1) := dt_46 (i := 14) (p := 880) gcL_law_55 pl_decg_25.2.2.2.2.2.2.2.2.2.2.2.2.2.2.2.2.2.2.1
theorem dL_law_895 : decode cL_law 895 = .ok (.aload_n 0, 1) := dt_42 (i := 15) (p := 880) gcL_law_55 pl_decg_25.2.2.2.2.2.2.2.2.2.2.2.2.2.2.2.2.2.2.2.1
theorem dL_law_896 : decode cL_law 896 = .ok (.iload_n 3, 1) := dt_29 (i := 0) (p := 896) gcL_law_56 pl_decg_25.2.2.2.2.2.2.2.2.2.2.2.2.2.2.2.2.2.2.2.2.1
theorem dL_law_897 : decode cL_law 897 = .ok (.iconst 2, 1) := dt_5 (i := 1) (p := 896) gcL_law_56 pl_decg_25.2.2.2.2.2.2.2.2.2.2.2.2.2.2.2.2.2.2.2.2.2.1
theorem dL_law_898 : decode cL_law 898 = .ok (.iadd, 1) := dt_96 (i := 2) (p := 896) gcL_law_56 pl_decg_25.2.2.2.2.2.2.2.2.2.2.2.2.2.2.2.2.2.2.2.2.2.2.1
theorem dL_law_899 : decode cL_law 899 = .ok (.iaload, 1) := dt_46 (i := 3) (p := 896) gcL_law_56 pl_decg_25.2.2.2.2.2.2.2.2.2.2.2.2.2.2.2.2.2.2.2.2.2.2.2
set_option maxRecDepth 20000 in
theorem pl_decg_26 : (bqT tcL_law_56 4 42 = true) ∧ (bqT tcL_law_56 5 29 = true) ∧ (bqT tcL_law_56 6 6 = true) ∧ (bqT tcL_law_56 7 96 = true) ∧ (bqT tcL_law_56 8 46 = true) ∧ ((bqT tcL_law_56 9 182 && bqT tcL_law_56 10 0 && bqT tcL_law_56 11 115 && (0 * 256 + 115 == 115)) = true) ∧ (bqT tcL_law_56 12 87 = true) ∧ ((bqT tcL_law_56 13 167 && bqT tcL_law_56 14 0 && bqT tcL_law_56 15 115 && (Reader.signed 16 (0 * 256 + 115) == 115)) = true) ∧ (bqT tcL_law_57 0 43 = true) ∧ (bqT tcL_law_57 1 42 = true) ∧ (bqT tcL_law_57 2 29 = true) ∧ (bqT tcL_law_57 3 4 = true) ∧ (bqT tcL_law_57 4 96 = true) ∧ (bqT tcL_law_57 5 46 = true) ∧ (bqT tcL_law_57 6 42 = true) ∧ (bqT tcL_law_57 7 29 = true) ∧ (bqT tcL_law_57 8 5 = true) ∧ (bqT tcL_law_57 9 96 = true) ∧ (bqT tcL_law_57 10 46 = true) ∧ (bqT tcL_law_57 11 42 = true) ∧ (bqT tcL_law_57 12 29 = true) ∧ (bqT tcL_law_57 13 6 = true) ∧ (bqT tcL_law_57 14 96 = true) ∧ (bqT tcL_law_57 15 46 = true) := by decide +kernel
theorem dL_law_900 : decode cL_law 900 = .ok (.aload_n 0, 1) := dt_42 (i := 4) (p := 896) gcL_law_56 pl_decg_26.1
theorem dL_law_901 : decode cL_law 901 = .ok (.iload_n 3, 1) := dt_29 (i := 5) (p := 896) gcL_law_56 pl_decg_26.2.1
theorem dL_law_902 : decode cL_law 902 = .ok (.iconst 3, 1) := dt_6 (i := 6) (p := 896) gcL_law_56 pl_decg_26.2.2.1
theorem dL_law_903 : decode cL_law 903 = .ok (.iadd, 1) := dt_96 (i := 7) (p := 896) gcL_law_56 pl_decg_26.2.2.2.1
theorem dL_law_904 : decode cL_law 904 = .ok (.iaload, 1) := dt_46 (i := 8) (p := 896) gcL_law_56 pl_decg_26.2.2.2.2.1
theorem dL_law_905 : decode cL_law 905 = .ok (.invokevirtual 115, 3) := dt_182 (i := 9) (p := 896) gcL_law_56 0 115 pl_decg_26.2.2.2.2.2.1
theorem dL_law_908 : decode cL_law 908 = .ok (.pop, 1) := dt_87 (i := 12) (p := 896) gcL_law_56 pl_decg_26.2.2.2.2.2.2.1
theorem dL_law_909 : decode cL_law 909 = .ok (.goto 115, 3) := dt_167 (i := 13) (p := 896) gcL_law_56 0 115 pl_decg_26.2.2.2.2.2.2.2.1
theorem dL_law_912 : decode cL_law 912 = .ok (.aload_n 1, 1) := dt_43 (i := 0) (p := 912) gcL_law_57 pl_decg_26.2.2.2.2.2.2.2.2.1
theorem dL_law_913 : decode cL_law 913 = .ok (.aload_n 0, 1) := dt_42 (i := 1) (p := 912) gcL_law_57 pl_decg_26.2.2.2.2.2.2.2.2.2.1
theorem dL_law_914 : decode cL_law 914 = .ok (.iload_n 3, 1) := dt_29 (i := 2) (p := 912) gcL_law_57 pl_decg_26.2.2.2.2.2.2.2.2.2.2.1
theorem dL_law_915 : decode cL_law 915 = .ok (.iconst 1, 1) := dt_4 (i := 3) (p := 912) gcL_law_57 pl_decg_26.2.2.2.2.2.2.2.2.2.2.2.1
theorem dL_law_916 : decode cL_law 916 = .ok (.iadd, 1) := dt_96 (i := 4) (p := 912) gcL_law_57 pl_decg_26.2.2.2.2.2.2.2.2.2.2.2.2.1
theorem dL_law_917 : decode cL_law 917 = .ok (.iaload, 1) := dt_46 (i := 5) (p := 912) gcL_law_57 pl_decg_26.2.2.2.2.2.2.2.2.2.2.2.2.2.1
theorem dL_law_918 : decode cL_law 918 = .ok (.aload_n 0, 1) := dt_42 (i := 6) (p := 912) gcL_law_57 pl_decg_26.2.2.2.2.2.2.2.2.2.2.2.2.2.2.1
theorem dL_law_919 : decode cL_law 919 = .ok (.iload_n 3, 1) := dt_29 (i := 7) (p := 912) gcL_law_57 pl_decg_26.2.2.2.2.2.2.2.2.2.2.2.2.2.2.2.1
theorem dL_law_920 : decode cL_law 920 = .ok (.iconst 2, 1) := dt_5 (i := 8) (p := 912) gcL_law_57 pl_decg_26.2.2.2.2.2.2.2.2.2.2.2.2.2.2.2.2.1
theorem dL_law_921 : decode cL_law 921 = .ok (.iadd, 1) := dt_96 (i := 9) (p := 912) gcL_law_57 pl_decg_26.2.2.2.2.2.2.2.2.2.2.2.2.2.2.2.2.2.1
theorem dL_law_922 : decode cL_law 922 = .ok (.iaload, 1) := dt_46 (i := 10) (p := 912) gcL_law_57 pl_decg_26.2.2.2.2.2.2.2.2.2.2.2.2.2.2.2.2.2.2.1
theorem dL_law_923 : decode cL_law 923 = .ok (.aload_n 0, 1) := dt_42 (i := 11) (p := 912) gcL_law_57 pl_decg_26.2.2.2.2.2.2.2.2.2.2.2.2.2.2.2.2.2.2.2.1
theorem dL_law_924 : decode cL_law 924 = .ok (.iload_n 3, 1) := dt_29 (i := 12) (p := 912) gcL_law_57 pl_decg_26.2.2.2.2.2.2.2.2.2.2.2.2.2.2.2.2.2.2.2.2.1
theorem dL_law_925 : decode cL_law 925 = .ok (.iconst 3, 1) := dt_6 (i := 13) (p := 912) gcL_law_57 pl_decg_26.2.2.2.2.2.2.2.2.2.2.2.2.2.2.2.2.2.2.2.2.2.1
theorem dL_law_926 : decode cL_law 926 = .ok (.iadd, 1) := dt_96 (i := 14) (p := 912) gcL_law_57 pl_decg_26.2.2.2.2.2.2.2.2.2.2.2.2.2.2.2.2.2.2.2.2.2.2.1
theorem dL_law_927 : decode cL_law 927 = .ok (.iaload, 1) := dt_46 (i := 15) (p := 912) gcL_law_57 pl_decg_26.2.2.2.2.2.2.2.2.2.2.2.2.2.2.2.2.2.2.2.2.2.2.2
set_option maxRecDepth 20000 in
theorem pl_decg_27 : ((bqT tcL_law_58 0 182 && bqT tcL_law_58 1 0 && bqT tcL_law_58 2 116 && (0 * 256 + 116 == 116)) = true) ∧ (bqT tcL_law_58 3 87 = true) ∧ (bqT tcL_law_58 4 44 = true) ∧ (bqT tcL_law_58 5 42 = true) ∧ (bqT tcL_law_58 6 29 = true) ∧ (bqT tcL_law_58 7 4 = true) ∧ (bqT tcL_law_58 8 96 = true) ∧ (bqT tcL_law_58 9 46 = true) ∧ (bqT tcL_law_58 10 42 = true) ∧ (bqT tcL_law_58 11 29 = true) ∧ (bqT tcL_law_58 12 5 = true) ∧ (bqT tcL_law_58 13 96 = true) ∧ (bqT tcL_law_58 14 46 = true) ∧ (bqT tcL_law_58 15 42 = true) ∧ (bqT tcL_law_59 0 29 = true) ∧ (bqT tcL_law_59 1 6 = true) ∧ (bqT tcL_law_59 2 96 = true) ∧ (bqT tcL_law_59 3 46 = true) ∧ ((bqT tcL_law_59 4 182 && bqT tcL_law_59 5 0 && bqT tcL_law_59 6 119 && (0 * 256 + 119 == 119)) = true) ∧ (bqT tcL_law_59 7 87 = true) ∧ ((bqT tcL_law_59 8 167 && bqT tcL_law_59 9 0 && bqT tcL_law_59 10 72 && (Reader.signed 16 (0 * 256 + 72) == 72)) = true) ∧ (bqT tcL_law_59 11 43 = true) ∧ (bqT tcL_law_59 12 42 = true) ∧ (bqT tcL_law_59 13 29 = true) := by decide +kernel
theorem dL_law_928 : decode cL_law 928 = .ok (.invokevirtual 116, 3) := dt_182 (i := 0) (p := 928) gcL_law_58 0 116 pl_decg_27.1
theorem dL_law_931 : decode cL_law 931 = .ok (.pop, 1) := dt_87 (i := 3) (p := 928) gcL_law_58 pl_decg_27.2.1
theorem dL_law_932 : decode cL_law 932 = .ok (.aload_n 2, 1) := dt_44 (i := 4) (p := 928) gcL_law_58 pl_decg_27.2.2.1
theorem dL_law_933 : decode cL_law 933 = .ok (.aload_n 0, 1) := dt_42 (i := 5) (p := 928) gcL_law_58 pl_decg_27.2.2.2.1
theorem dL_law_934 : decode cL_law 934 = .ok (.iload_n 3, 1) := dt_29 (i := 6) (p := 928) gcL_law_58 pl_decg_27.2.2.2.2.1
theorem dL_law_935 : decode cL_law 935 = .ok (.iconst 1, 1) := dt_4 (i := 7) (p := 928) gcL_law_58 pl_decg_27.2.2.2.2.2.1
theorem dL_law_936 : decode cL_law 936 = .ok (.iadd, 1) := dt_96 (i := 8) (p := 928) gcL_law_58 pl_decg_27.2.2.2.2.2.2.1
theorem dL_law_937 : decode cL_law 937 = .ok (.iaload, 1) := dt_46 (i := 9) (p := 928) gcL_law_58 pl_decg_27.2.2.2.2.2.2.2.1
theorem dL_law_938 : decode cL_law 938 = .ok (.aload_n 0, 1) := dt_42 (i := 10) (p := 928) gcL_law_58 pl_decg_27.2.2.2.2.2.2.2.2.1
theorem dL_law_939 : decode cL_law 939 = .ok (.iload_n 3, 1) := dt_29 (i := 11) (p := 928) gcL_law_58 pl_decg_27.2.2.2.2.2.2.2.2.2.1
theorem dL_law_940 : decode cL_law 940 = .ok (.iconst 2, 1) := dt_5 (i := 12) (p := 928) gcL_law_58 pl_decg_27.2.2.2.2.2.2.2.2.2.2.1
theorem dL_law_941 : decode cL_law 941 = .ok (.iadd, 1) := dt_96 (i := 13) (p := 928) gcL_law_58 pl_decg_27.2.2.2.2.2.2.2.2.2.2.2.1
theorem dL_law_942 : decode cL_law 942 = .ok (.iaload, 1) := dt_46 (i := 14) (p := 928) gcL_law_58 pl_decg_27.2.2.2.2.2.2.2.2.2.2.2.2.1
theorem dL_law_943 : decode cL_law 943 = .ok (.aload_n 0, 1) := dt_42 (i := 15) (p := 928) gcL_law_58 pl_decg_27.2.2.2.2.2.2.2.2.2.2.2.2.2.1
theorem dL_law_944 : decode cL_law 944 = .ok (.iload_n 3, 1) := dt_29 (i := 0) (p := 944) gcL_law_59 pl_decg_27.2.2.2.2.2.2.2.2.2.2.2.2.2.2.1
theorem dL_law_945 : decode cL_law 945 = .ok (.iconst 3, 1) := dt_6 (i := 1) (p := 944) gcL_law_59 pl_decg_27.2.2.2.2.2.2.2.2.2.2.2.2.2.2.2.1
theorem dL_law_946 : decode cL_law 946 = .ok (.iadd, 1) := dt_96 (i := 2) (p := 944) gcL_law_59 pl_decg_27.2.2.2.2.2.2.2.2.2.2.2.2.2.2.2.2.1
theorem dL_law_947 : decode cL_law 947 = .ok (.iaload, 1) := dt_46 (i := 3) (p := 944) gcL_law_59 pl_decg_27.2.2.2.2.2.2.2.2.2.2.2.2.2.2.2.2.2.1
theorem dL_law_948 : decode cL_law 948 = .ok (.invokevirtual 119, 3) := dt_182 (i := 4) (p := 944) gcL_law_59 0 119 pl_decg_27.2.2.2.2.2.2.2.2.2.2.2.2.2.2.2.2.2.2.1
theorem dL_law_951 : decode cL_law 951 = .ok (.pop, 1) := dt_87 (i := 7) (p := 944) gcL_law_59 pl_decg_27.2.2.2.2.2.2.2.2.2.2.2.2.2.2.2.2.2.2.2.1
theorem dL_law_952 : decode cL_law 952 = .ok (.goto 72, 3) := dt_167 (i := 8) (p := 944) gcL_law_59 0 72 pl_decg_27.2.2.2.2.2.2.2.2.2.2.2.2.2.2.2.2.2.2.2.2.1
theorem dL_law_955 : decode cL_law 955 = .ok (.aload_n 1, 1) := dt_43 (i := 11) (p := 944) gcL_law_59 pl_decg_27.2.2.2.2.2.2.2.2.2.2.2.2.2.2.2.2.2.2.2.2.2.1
theorem dL_law_956 : decode cL_law 956 = .ok (.aload_n 0, 1) := dt_42 (i := 12) (p := 944) gcL_law_59 pl_decg_27.2.2.2.2.2.2.2.2.2.2.2.2.2.2.2.2.2.2.2.2.2.2.1
theorem dL_law_957 : decode cL_law 957 = .ok (.iload_n 3, 1) := dt_29 (i := 13) (p := 944) gcL_law_59 pl_decg_27.2.2.2.2.2.2.2.2.2.2.2.2.2.2.2.2.2.2.2.2.2.2.2
set_option maxRecDepth 20000 in
theorem pl_decg_28 : (bqT tcL_law_59 14 4 = true) ∧ (bqT tcL_law_59 15 96 = true) ∧ (bqT tcL_law_60 0 46 = true) ∧ (bqT tcL_law_60 1 42 = true) ∧ (bqT tcL_law_60 2 29 = true) ∧ (bqT tcL_law_60 3 5 = true) ∧ (bqT tcL_law_60 4 96 = true) ∧ (bqT tcL_law_60 5 46 = true) ∧ ((bqT tcL_law_60 6 182 && bqT tcL_law_60 7 0 && bqT tcL_law_60 8 120 && (0 * 256 + 120 == 120)) = true) ∧ (bqT tcL_law_60 9 44 = true) ∧ (bqT tcL_law_60 10 42 = true) ∧ (bqT tcL_law_60 11 29 = true) ∧ (bqT tcL_law_60 12 4 = true) ∧ (bqT tcL_law_60 13 96 = true) ∧ (bqT tcL_law_60 14 46 = true) ∧ (bqT tcL_law_60 15 42 = true) ∧ (bqT tcL_law_61 0 29 = true) ∧ (bqT tcL_law_61 1 5 = true) ∧ (bqT tcL_law_61 2 96 = true) ∧ (bqT tcL_law_61 3 46 = true) ∧ ((bqT tcL_law_61 4 182 && bqT tcL_law_61 5 0 && bqT tcL_law_61 6 123 && (0 * 256 + 123 == 123)) = true) ∧ ((bqT tcL_law_61 7 159 && bqT tcL_law_61 8 0 && bqT tcL_law_61 9 41 && (Reader.signed 16 (0 * 256 + 41) == 41)) = true) ∧ (bqT tcL_law_61 10 3 = true) ∧ (bqT tcL_law_61 11 172 = true) := by decide +kernel
theorem dL_law_958 : decode cL_law 958 = .ok (.iconst 1, 1) := dt_4 (i := 14) (p := 944) gcL_law_59 pl_decg_28.1
theorem dL_law_959 : decode cL_law 959 = .ok (.iadd, 1) := dt_96 (i := 15) (p := 944) gcL_law_59 pl_decg_28.2.1
theorem dL_law_960 : decode cL_law 960 = .ok (.iaload, 1) := dt_46 (i := 0) (p := 960) gcL_law_60 pl_decg_28.2.2.1
theorem dL_law_961 : decode cL_law 961 = .ok (.aload_n 0, 1) := dt_42 (i := 1) (p := 960) gcL_law_60 pl_decg_28.2.2.2.1
theorem dL_law_962 : decode cL_law 962 = .ok (.iload_n 3, 1) := dt_29 (i := 2) (p := 960) gcL_law_60 pl_decg_28.2.2.2.2.1
theorem dL_law_963 : decode cL_law 963 = .ok (.iconst 2, 1) := dt_5 (i := 3) (p := 960) gcL_law_60 pl_decg_28.2.2.2.2.2.1
theorem dL_law_964 : decode cL_law 964 = .ok (.iadd, 1) := dt_96 (i := 4) (p := 960) gcL_law_60 pl_decg_28.2.2.2.2.2.2.1
theorem dL_law_965 : decode cL_law 965 = .ok (.iaload, 1) := dt_46 (i := 5) (p := 960) gcL_law_60 pl_decg_28.2.2.2.2.2.2.2.1
theorem dL_law_966 : decode cL_law 966 = .ok (.invokevirtual 120, 3) := dt_182 (i := 6) (p := 960) gcL_law_60 0 120 pl_decg_28.2.2.2.2.2.2.2.2.1
theorem dL_law_969 : decode cL_law 969 = .ok (.aload_n 2, 1) := dt_44 (i := 9) (p := 960) gcL_law_60 pl_decg_28.2.2.2.2.2.2.2.2.2.1
theorem dL_law_970 : decode cL_law 970 = .ok (.aload_n 0, 1) := dt_42 (i := 10) (p := 960) gcL_law_60 pl_decg_28.2.2.2.2.2.2.2.2.2.2.1
theorem dL_law_971 : decode cL_law 971 = .ok (.iload_n 3, 1) := dt_29 (i := 11) (p := 960) gcL_law_60 pl_decg_28.2.2.2.2.2.2.2.2.2.2.2.1
theorem dL_law_972 : decode cL_law 972 = .ok (.iconst 1, 1) := dt_4 (i := 12) (p := 960) gcL_law_60 pl_decg_28.2.2.2.2.2.2.2.2.2.2.2.2.1
theorem dL_law_973 : decode cL_law 973 = .ok (.iadd, 1) := dt_96 (i := 13) (p := 960) gcL_law_60 pl_decg_28.2.2.2.2.2.2.2.2.2.2.2.2.2.1
theorem dL_law_974 : decode cL_law 974 = .ok (.iaload, 1) := dt_46 (i := 14) (p := 960) gcL_law_60 pl_decg_28.2.2.2.2.2.2.2.2.2.2.2.2.2.2.1
theorem dL_law_975 : decode cL_law 975 = .ok (.aload_n 0, 1) := dt_42 (i := 15) (p := 960) gcL_law_60 pl_decg_28.2.2.2.2.2.2.2.2.2.2.2.2.2.2.2.1
theorem dL_law_976 : decode cL_law 976 = .ok (.iload_n 3, 1) := dt_29 (i := 0) (p := 976) gcL_law_61 pl_decg_28.2.2.2.2.2.2.2.2.2.2.2.2.2.2.2.2.1
theorem dL_law_977 : decode cL_law 977 = .ok (.iconst 2, 1) := dt_5 (i := 1) (p := 976) gcL_law_61 pl_decg_28.2.2.2.2.2.2.2.2.2.2.2.2.2.2.2.2.2.1
theorem dL_law_978 : decode cL_law 978 = .ok (.iadd, 1) := dt_96 (i := 2) (p := 976) gcL_law_61 pl_decg_28.2.2.2.2.2.2.2.2.2.2.2.2.2.2.2.2.2.2.1
theorem dL_law_979 : decode cL_law 979 = .ok (.iaload, 1) := dt_46 (i := 3) (p := 976) gcL_law_61 pl_decg_28.2.2.2.2.2.2.2.2.2.2.2.2.2.2.2.2.2.2.2.1
theorem dL_law_980 : decode cL_law 980 = .ok (.invokevirtual 123, 3) := dt_182 (i := 4) (p := 976) gcL_law_61 0 123 pl_decg_28.2.2.2.2.2.2.2.2.2.2.2.2.2.2.2.2.2.2.2.2.1
theorem dL_law_983 : decode cL_law 983 = .ok (.if_icmp .eq 41, 3) := dt_159 (i := 7) (p := 976) gcL_law_61 0 41 pl_decg_28.2.2.2.2.2.2.2.2.2.2.2.2.2.2.2.2.2.2.2.2.2.1
set_option maxRecDepth 20000 in
theorem pl_decg_29 : (bqT tcL_law_61 12 43 = true) ∧ (bqT tcL_law_61 13 42 = true) ∧ (bqT tcL_law_61 14 29 = true) ∧ (bqT tcL_law_61 15 4 = true) ∧ (bqT tcL_law_62 0 96 = true) ∧ (bqT tcL_law_62 1 46 = true) ∧ ((bqT tcL_law_62 2 182 && bqT tcL_law_62 3 0 && bqT tcL_law_62 4 124 && (0 * 256 + 124 == 124)) = true) ∧ (bqT tcL_law_62 5 87 = true) ∧ (bqT tcL_law_62 6 44 = true) ∧ (bqT tcL_law_62 7 42 = true) ∧ (bqT tcL_law_62 8 29 = true) ∧ (bqT tcL_law_62 9 4 = true) ∧ (bqT tcL_law_62 10 96 = true) ∧ (bqT tcL_law_62 11 46 = true) ∧ ((bqT tcL_law_62 12 182 && bqT tcL_law_62 13 0 && bqT tcL_law_62 14 127 && (0 * 256 + 127 == 127)) = true) ∧ (bqT tcL_law_62 15 87 = true) ∧ ((bqT tcL_law_63 0 167 && bqT tcL_law_63 1 0 && bqT tcL_law_63 2 16 && (Reader.signed 16 (0 * 256 + 16) == 16)) = true) ∧ (bqT tcL_law_63 3 43 = true) ∧ ((bqT tcL_law_63 4 182 && bqT tcL_law_63 5 0 && bqT tcL_law_63 6 128 && (0 * 256 + 128 == 128)) = true) ∧ (bqT tcL_law_63 7 88 = true) ∧ (bqT tcL_law_63 8 44 = true) ∧ ((bqT tcL_law_63 9 182 && bqT tcL_law_63 10 0 && bqT tcL_law_63 11 132 && (0 * 256 + 132 == 132)) = true) ∧ (bqT tcL_law_63 12 88 = true) ∧ ((bqT tcL_law_63 13 167 && bqT tcL_law_63 14 0 && bqT tcL_law_63 15 3 && (Reader.signed 16 (0 * 256 + 3) == 3)) = true) := by decide +kernel
theorem dL_law_988 : decode cL_law 988 = .ok (.aload_n 1, 1) := dt_43 (i := 12) (p := 976) gcL_law_61 pl_decg_29.1
theorem dL_law_989 : decode cL_law 989 = .ok (.aload_n 0, 1) := dt_42 (i := 13) (p := 976) gcL_law_61 pl_decg_29.2.1
theorem dL_law_990 : decode cL_law 990 = .ok (.iload_n 3, 1) := dt_29 (i := 14) (p := 976) gcL_law_61 pl_decg_29.2.2.1
theorem dL_law_991 : decode cL_law 991 = .ok (.iconst 1, 1) := dt_4 (i := 15) (p := 976) gcL_law_61 pl_decg_29.2.2.2.1
theorem dL_law_992 : decode cL_law 992 = .ok (.iadd, 1) := dt_96 (i := 0) (p := 992) gcL_law_62 pl_decg_29.2.2.2.2.1
theorem dL_law_993 : decode cL_law 993 = .ok (.iaload, 1) := dt_46 (i := 1) (p := 992) gcL_law_62 pl_decg_29.2.2.2.2.2.1
theorem dL_law_994 : decode cL_law 994 = .ok (.invokevirtual 124, 3) := dt_182 (i := 2) (p := 992) gcL_law_62 0 124 pl_decg_29.2.2.2.2.2.2.1
theorem dL_law_997 : decode cL_law 997 = .ok (.pop, 1) := dt_87 (i := 5) (p := 992) gcL_law_62 pl_decg_29.2.2.2.2.2.2.2.1
theorem dL_law_998 : decode cL_law 998 = .ok (.aload_n 2, 1) := dt_44 (i := 6) (p := 992) gcL_law_62 pl_decg_29.2.2.2.2.2.2.2.2.1
theorem dL_law_999 : decode cL_law 999 = .ok (.aload_n 0, 1) := dt_42 (i := 7) (p := 992) gcL_law_62 pl_decg_29.2.2.2.2.2.2.2.2.2.1
theorem dL_law_1000 : decode cL_law 1000 = .ok (.iload_n 3, 1) := dt_29 (i := 8) (p := 992) gcL_law_62 pl_decg_29.2.2.2.2.2.2.2.2.2.2.1
theorem dL_law_1001 : decode cL_law 1001 = .ok (.iconst 1, 1) := dt_4 (i := 9) (p := 992) gcL_law_62 pl_decg_29.2.2.2.2.2.2.2.2.2.2.2.1
theorem dL_law_1002 : decode cL_law 1002 = .ok (.iadd, 1) := dt_96 (i := 10) (p := 992) gcL_law_62 pl_decg_29.2.2.2.2.2.2.2.2.2.2.2.2.1
theorem dL_law_1003 : decode cL_law 1003 = .ok (.iaload, 1) := dt_46 (i := 11) (p := 992) gcL_law_62 pl_decg_29.2.2.2.2.2.2.2.2.2.2.2.2.2.1
theorem dL_law_1004 : decode cL_law 1004 = .ok (.invokevirtual 127, 3) := dt_182 (i := 12) (p := 992) gcL_law_62 0 127 pl_decg_29.2.2.2.2.2.2.2.2.2.2.2.2.2.2.1
theorem dL_law_1007 : decode cL_law 1007 = .ok (.pop, 1) := dt_87 (i := 15) (p := 992) gcL_law_62 pl_decg_29.2.2.2.2.2.2.2.2.2.2.2.2.2.2.2.1
theorem dL_law_1008 : decode cL_law 1008 = .ok (.goto 16, 3) := dt_167 (i := 0) (p := 1008) gcL_law_63 0 16 pl_decg_29.2.2.2.2.2.2.2.2.2.2.2.2.2.2.2.2.1
theorem dL_law_1011 : decode cL_law 1011 = .ok (.aload_n 1, 1) := dt_43 (i := 3) (p := 1008) gcL_law_63 pl_decg_29.2.2.2.2.2.2.2.2.2.2.2.2.2.2.2.2.2.1
theorem dL_law_1012 : decode cL_law 1012 = .ok (.invokevirtual 128, 3) := dt_182 (i := 4) (p := 1008) gcL_law_63 0 128 pl_decg_29.2.2.2.2.2.2.2.2.2.2.2.2.2.2.2.2.2.2.1
theorem dL_law_1015 : decode cL_law 1015 = .ok (.pop2, 1) := dt_88 (i := 7) (p := 1008) gcL_law_63 pl_decg_29.2.2.2.2.2.2.2.2.2.2.2.2.2.2.2.2.2.2.2.1
theorem dL_law_1016 : decode cL_law 1016 = .ok (.aload_n 2, 1) := dt_44 (i := 8) (p := 1008) gcL_law_63 pl_decg_29.2.2.2.2.2.2.2.2.2.2.2.2.2.2.2.2.2.2.2.2.1
theorem dL_law_1017 : decode cL_law 1017 = .ok (.invokevirtual 132, 3) := dt_182 (i := 9) (p := 1008) gcL_law_63 0 132 pl_decg_29.2.2.2.2.2.2.2.2.2.2.2.2.2.2.2.2.2.2.2.2.2.1
theorem dL_law_1020 : decode cL_law 1020 = .ok (.pop2, 1) := dt_88 (i := 12) (p := 1008) gcL_law_63 pl_decg_29.2.2.2.2.2.2.2.2.2.2.2.2.2.2.2.2.2.2.2.2.2.2.1
theorem dL_law_1021 : decode cL_law 1021 = .ok (.goto 3, 3) := dt_167 (i := 13) (p := 1008) gcL_law_63 0 3 pl_decg_29.2.2.2.2.2.2.2.2.2.2.2.2.2.2.2.2.2.2.2.2.2.2.2
theorem dL_law_1024 : decode cL_law 1024 = .ok (.iinc 3 4, 3) := by decide +kernel
set_option maxRecDepth 20000 in
theorem pl_decg_30 : ((bqT tcL_law_64 3 167 && bqT tcL_law_64 4 252 && bqT tcL_law_64 5 15 && (Reader.signed 16 (252 * 256 + 15) == (-1009))) = true) ∧ (bqT tcL_law_64 6 4 = true) ∧ (bqT tcL_law_64 7 172 = true) := by decide +kernel
theorem dL_law_1027 : decode cL_law 1027 = .ok (.goto (-1009), 3) := dt_167 (i := 3) (p := 1024) gcL_law_64 252 15 pl_decg_30.1
theorem dL_law_1030 : decode cL_law 1030 = .ok (.iconst 1, 1) := dt_4 (i := 6) (p := 1024) gcL_law_64 pl_decg_30.2.1
theorem dL_law_1031 : decode cL_law 1031 = .ok (.ireturn, 1) := dt_172 (i := 7) (p := 1024) gcL_law_64 pl_decg_30.2.2
