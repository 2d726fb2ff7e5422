theorem dL_act_722 : decode cL_act 722 = .ok (.aload 6, 2) := by decide +kernel
theorem dL_act_724 : decode cL_act 724 = .ok (.getfield 80, 3) := by decide +kernel
theorem dL_act_727 : decode cL_act 727 = .ok (.iload 17, 2) := by decide +kernel
theorem dL_act_729 : decode cL_act 729 = .ok (.aaload, 1) := by decide +kernel
theorem dL_act_730 : decode cL_act 730 = .ok (.iconst 2, 1) := by decide +kernel
theorem dL_act_731 : decode cL_act 731 = .ok (.bipush 20, 2) := by decide +kernel
theorem dL_act_733 : decode cL_act 733 = .ok (.iload 16, 2) := by decide +kernel
theorem dL_act_735 : decode cL_act 735 = .ok (.imul, 1) := by decide +kernel
theorem dL_act_736 : decode cL_act 736 = .ok (.iastore, 1) := by decide +kernel
theorem dL_act_737 : decode cL_act 737 = .ok (.iload 16, 2) := by decide +kernel
theorem dL_act_739 : decode cL_act 739 = .ok (.iconst 2, 1) := by decide +kernel
theorem dL_act_740 : decode cL_act 740 = .ok (.if_icmp .ne 14, 3) := by decide +kernel
theorem dL_act_743 : decode cL_act 743 = .ok (.aload 6, 2) := by decide +kernel
theorem dL_act_745 : decode cL_act 745 = .ok (.dup, 1) := by decide +kernel
theorem dL_act_746 : decode cL_act 746 = .ok (.getfield 62, 3) := by decide +kernel
theorem dL_act_749 : decode cL_act 749 = .ok (.iconst 1, 1) := by decide +kernel
theorem dL_act_750 : decode cL_act 750 = .ok (.iadd, 1) := by decide +kernel
theorem dL_act_751 : decode cL_act 751 = .ok (.putfield 62, 3) := by decide +kernel
theorem dL_act_754 : decode cL_act 754 = .ok (.iload 16, 2) := by decide +kernel
theorem dL_act_756 : decode cL_act 756 = .ok (.iconst 3, 1) := by decide +kernel
theorem dL_act_757 : decode cL_act 757 = .ok (.if_icmp .ne 11, 3) := by decide +kernel
theorem dL_act_760 : decode cL_act 760 = .ok (.aload 6, 2) := by decide +kernel
theorem dL_act_762 : decode cL_act 762 = .ok (.iconst 2, 1) := by decide +kernel
theorem dL_act_763 : decode cL_act 763 = .ok (.newarray .int, 2) := by decide +kernel
theorem dL_act_765 : decode cL_act 765 = .ok (.putfield 48, 3) := by decide +kernel
theorem dL_act_768 : decode cL_act 768 = .ok (.iload 16, 2) := by decide +kernel
theorem dL_act_770 : decode cL_act 770 = .ok (.iconst 4, 1) := by decide +kernel
theorem dL_act_771 : decode cL_act 771 = .ok (.if_icmp .ne 15, 3) := by decide +kernel
theorem dL_act_774 : decode cL_act 774 = .ok (.aload 6, 2) := by decide +kernel
theorem dL_act_776 : decode cL_act 776 = .ok (.iconst 1, 1) := by decide +kernel
theorem dL_act_777 : decode cL_act 777 = .ok (.putfield 83, 3) := by decide +kernel
theorem dL_act_780 : decode cL_act 780 = .ok (.aload 6, 2) := by decide +kernel
theorem dL_act_782 : decode cL_act 782 = .ok (.iconst 0, 1) := by decide +kernel
theorem dL_act_783 : decode cL_act 783 = .ok (.putfield 87, 3) := by decide +kernel
theorem dL_act_786 : decode cL_act 786 = .ok (.aload_n 0, 1) := by decide +kernel
theorem dL_act_787 : decode cL_act 787 = .ok (.iload 5, 2) := by decide +kernel
theorem dL_act_789 : decode cL_act 789 = .ok (.iload 16, 2) := by decide +kernel
theorem dL_act_791 : decode cL_act 791 = .ok (.iload 17, 2) := by decide +kernel
theorem dL_act_793 : decode cL_act 793 = .ok (.invokevirtual 90, 3) := by decide +kernel
theorem dL_act_796 : decode cL_act 796 = .ok (.aload_n 1, 1) := by decide +kernel
theorem dL_act_797 : decode cL_act 797 = .ok (.getfield 59, 3) := by decide +kernel
theorem dL_act_800 : decode cL_act 800 = .ok (.iload 16, 2) := by decide +kernel
theorem dL_act_802 : decode cL_act 802 = .ok (.iaload, 1) := by decide +kernel
theorem dL_act_803 : decode cL_act 803 = .ok (.if_icmp .ne 7, 3) := by decide +kernel
theorem dL_act_806 : decode cL_act 806 = .ok (.iconst 1, 1) := by decide +kernel
theorem dL_act_807 : decode cL_act 807 = .ok (.goto 4, 3) := by decide +kernel
theorem dL_act_810 : decode cL_act 810 = .ok (.iconst 0, 1) := by decide +kernel
theorem dL_act_811 : decode cL_act 811 = .ok (.ireturn, 1) := by decide +kernel
theorem dL_act_812 : decode cL_act 812 = .ok (.iload 4, 2) := by decide +kernel
theorem dL_act_814 : decode cL_act 814 = .ok (.ifCond .ne 5, 3) := by decide +kernel
theorem dL_act_817 : decode cL_act 817 = .ok (.iconst 1, 1) := by decide +kernel
theorem dL_act_818 : decode cL_act 818 = .ok (.ireturn, 1) := by decide +kernel
theorem dL_act_819 : decode cL_act 819 = .ok (.iconst 0, 1) := by decide +kernel
theorem dL_act_820 : decode cL_act 820 = .ok (.istore 18, 2) := by decide +kernel
theorem dL_act_822 : decode cL_act 822 = .ok (.iload 18, 2) := by decide +kernel
theorem dL_act_824 : decode cL_act 824 = .ok (.bipush 6, 2) := by decide +kernel
theorem dL_act_826 : decode cL_act 826 = .ok (.if_icmp .ge 93, 3) := by decide +kernel
theorem dL_act_829 : decode cL_act 829 = .ok (.iload_n 2, 1) := by decide +kernel
theorem dL_act_830 : decode cL_act 830 = .ok (.iload 18, 2) := by decide +kernel
theorem dL_act_832 : decode cL_act 832 = .ok (.ishr, 1) := by decide +kernel
theorem dL_act_833 : decode cL_act 833 = .ok (.iload 18, 2) := by decide +kernel
theorem dL_act_835 : decode cL_act 835 = .ok (.iadd, 1) := by decide +kernel
theorem dL_act_836 : decode cL_act 836 = .ok (.iload 4, 2) := by decide +kernel
theorem dL_act_838 : decode cL_act 838 = .ok (.invokestatic 19, 3) := by decide +kernel
theorem dL_act_841 : decode cL_act 841 = .ok (.istore 19, 2) := by decide +kernel
theorem dL_act_843 : decode cL_act 843 = .ok (.aload 6, 2) := by decide +kernel
theorem dL_act_845 : decode cL_act 845 = .ok (.aload_n 1, 1) := by decide +kernel
theorem dL_act_846 : decode cL_act 846 = .ok (.getfield 15, 3) := by decide +kernel
theorem dL_act_849 : decode cL_act 849 = .ok (.iload 19, 2) := by decide +kernel
theorem dL_act_851 : decode cL_act 851 = .ok (.aaload, 1) := by decide +kernel
theorem dL_act_852 : decode cL_act 852 = .ok (.invokevirtual 93, 3) := by decide +kernel
theorem dL_act_855 : decode cL_act 855 = .ok (.ifCond .ne 6, 3) := by decide +kernel
theorem dL_act_858 : decode cL_act 858 = .ok (.goto 55, 3) := by decide +kernel
theorem dL_act_861 : decode cL_act 861 = .ok (.aload 6, 2) := by decide +kernel
theorem dL_act_863 : decode cL_act 863 = .ok (.invokevirtual 97, 3) := by decide +kernel
theorem dL_act_866 : decode cL_act 866 = .ok (.istore 20, 2) := by decide +kernel
theorem dL_act_868 : decode cL_act 868 = .ok (.aload 6, 2) := by decide +kernel
theorem dL_act_870 : decode cL_act 870 = .ok (.aload_n 1, 1) := by decide +kernel
theorem dL_act_871 : decode cL_act 871 = .ok (.getfield 15, 3) := by decide +kernel
theorem dL_act_874 : decode cL_act 874 = .ok (.iload 19, 2) := by decide +kernel
theorem dL_act_876 : decode cL_act 876 = .ok (.aaload, 1) := by decide +kernel
theorem dL_act_877 : decode cL_act 877 = .ok (.invokevirtual 100, 3) := by decide +kernel
theorem dL_act_880 : decode cL_act 880 = .ok (.pop, 1) := by decide +kernel
theorem dL_act_881 : decode cL_act 881 = .ok (.aload 6, 2) := by decide +kernel
theorem dL_act_883 : decode cL_act 883 = .ok (.dup, 1) := by decide +kernel
theorem dL_act_884 : decode cL_act 884 = .ok (.getfield 104, 3) := by decide +kernel
theorem dL_act_887 : decode cL_act 887 = .ok (.iconst 1, 1) := by decide +kernel
theorem dL_act_888 : decode cL_act 888 = .ok (.iadd, 1) := by decide +kernel
theorem dL_act_889 : decode cL_act 889 = .ok (.putfield 104, 3) := by decide +kernel
theorem dL_act_892 : decode cL_act 892 = .ok (.aload_n 0, 1) := by decide +kernel
theorem dL_act_893 : decode cL_act 893 = .ok (.iload 5, 2) := by decide +kernel
theorem dL_act_895 : decode cL_act 895 = .ok (.iload 19, 2) := by decide +kernel
theorem dL_act_897 : decode cL_act 897 = .ok (.invokevirtual 107, 3) := by decide +kernel
theorem dL_act_900 : decode cL_act 900 = .ok (.aload 6, 2) := by decide +kernel
theorem dL_act_902 : decode cL_act 902 = .ok (.invokevirtual 97, 3) := by decide +kernel
theorem dL_act_905 : decode cL_act 905 = .ok (.iload 20, 2) := by decide +kernel
theorem dL_act_907 : decode cL_act 907 = .ok (.isub, 1) := by decide +kernel
theorem dL_act_908 : decode cL_act 908 = .ok (.if_icmp .eq 5, 3) := by decide +kernel
theorem dL_act_911 : decode cL_act 911 = .ok (.iconst 0, 1) := by decide +kernel
theorem dL_act_912 : decode cL_act 912 = .ok (.ireturn, 1) := by decide +kernel
theorem dL_act_913 : decode cL_act 913 = .ok (.iinc 18 1, 3) := by decide +kernel
theorem dL_act_916 : decode cL_act 916 = .ok (.goto (-94), 3) := by decide +kernel
theorem dL_act_919 : decode cL_act 919 = .ok (.iconst 1, 1) := by decide +kernel
theorem dL_act_920 : decode cL_act 920 = .ok (.ireturn, 1) := by decide +kernel
set_option maxRecDepth 20000 in
theorem ggL_build_X4_init : GoodIn wsL_build wsX4_init := goodIn_r _ [5, 6, 7, 8, 9, 10, 11, 12, 13, 14, 15, 196, 197, 198, 199, 200] (by decide +kernel) (by decide +kernel)
set_option maxRecDepth 20000 in
theorem gL_build_X4_init_n110 : GoodIn wsL_build (wsX4_init) := ggL_build_X4_init
set_option maxRecDepth 20000 in
theorem ggL_build_L_cell : GoodIn wsL_build wsL_cell := goodIn_r _ [19, 20] (by decide +kernel) (by decide +kernel)
set_option maxRecDepth 20000 in
theorem gL_build_L_cell : GoodIn wsL_build (va_wsS RL 111 yL_cell wsL_cell) := goodIn_app (goodIn_of _ (by decide +kernel)) ggL_build_L_cell
set_option maxRecDepth 20000 in
theorem goodIn_cons {big a : List Cond} {c : Cond} (hc : GoodIn big [c]) (ha : GoodIn big a) : GoodIn big (c :: a) := fun w h => (List.mem_cons.mp h).elim (fun e => hc w (by rw [e]; exact List.mem_cons_self)) (ha w)
set_option maxRecDepth 20000 in
theorem ggL_build_L_act_h : GoodIn wsL_build [.code yL_act cL_act 21 (some .boolean)] := goodIn_r _ [23] rfl (by decide +kernel)
set_option maxRecDepth 20000 in
theorem ggL_build_L_act_r1 : GoodIn wsL_build wsL_act_r1 := goodIn_r _ [24, 25, 26, 27, 28, 13, 29, 30, 31, 32, 33, 34, 35, 36, 37, 38, 39, 40, 41, 42, 43, 44, 45, 18] (by decide +kernel) (by decide +kernel)
set_option maxRecDepth 20000 in
theorem ggL_build_L_act_r2 : GoodIn wsL_build wsL_act_r2 := goodIn_r _ [46, 47, 48, 49, 50, 7, 8, 51, 52, 53, 54, 55, 56, 57, 58, 59, 60, 61, 62, 63, 64, 65, 66, 67] (by decide +kernel) (by decide +kernel)
set_option maxRecDepth 20000 in
theorem ggL_build_L_act_r3 : GoodIn wsL_build wsL_act_r3 := goodIn_r _ [68, 69, 70, 71, 72, 73, 74, 75, 76, 77, 78, 79, 80, 81, 82, 83, 84, 85, 86, 87, 88, 89, 90, 91] (by decide +kernel) (by decide +kernel)
