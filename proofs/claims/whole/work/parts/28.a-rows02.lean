def tL_2 : List (Nat × Instr × Nat) := [(763, .aload_n 2, 1), (764, .aload_n 0, 1), (765, .iload 4, 2), (767, .iconst 1, 1), (768, .iadd, 1), (769, .iaload, 1), (770, .aload_n 0, 1), (771, .iload 4, 2), (773, .iconst 2, 1), (774, .iadd, 1), (775, .iaload, 1), (776, .ifCond .eq 7, 3), (779, .iconst 1, 1), (780, .goto 4, 3), (783, .iconst 0, 1), (784, .invokevirtual 159, 3), (787, .istore 6, 2), (789, .aload_n 2, 1), (790, .invokevirtual 118, 3), (793, .iload 5, 2), (795, .if_icmp .eq 5, 3), (798, .iconst 0, 1), (799, .ireturn, 1), (800, .iload 5, 2), (802, .ifCond .ne 15, 3), (805, .aload_n 3, 1), (806, .iconst 0, 1), (807, .laload, 1), (808, .iload 6, 2), (810, .i2l, 1), (811, .lcmp, 1), (812, .ifCond .eq 5, 3), (815, .iconst 0, 1), (816, .ireturn, 1), (817, .goto 1174, 3), (820, .aload_n 1, 1), (821, .aload_n 0, 1), (822, .iload 4, 2), (824, .iconst 1, 1), (825, .iadd, 1), (826, .iaload, 1), (827, .aload_n 0, 1), (828, .iload 4, 2), (830, .iconst 2, 1), (831, .iadd, 1), (832, .iaload, 1), (833, .aload_n 3, 1), (834, .invokestatic 160, 3), (837, .istore 5, 2), (839, .aload_n 2, 1), (840, .aload_n 0, 1), (841, .iload 4, 2), (843, .iconst 1, 1), (844, .iadd, 1), (845, .iaload, 1), (846, .aload_n 0, 1), (847, .iload 4, 2), (849, .iconst 2, 1), (850, .iadd, 1), (851, .iaload, 1)]
set_option maxRecDepth 100000 in
theorem tL_2_ok : tL_2.all (fun q => decide (decode cL_law q.1 = .ok (q.2.1, q.2.2))) = true := by decide +kernel
set_option maxRecDepth 100000 in
theorem dL_law_763 : decode cL_law 763 = .ok (.aload_n 2, 1) := of_decide_eq_true (List.all_eq_true.mp tL_2_ok (763, .aload_n 2, 1) (List.mem_of_getElem? (i := 0) rfl))
set_option maxRecDepth 100000 in
theorem dL_law_764 : decode cL_law 764 = .ok (.aload_n 0, 1) := of_decide_eq_true (List.all_eq_true.mp tL_2_ok (764, .aload_n 0, 1) (List.mem_of_getElem? (i := 1) rfl))
set_option maxRecDepth 100000 in
theorem dL_law_765 : decode cL_law 765 = .ok (.iload 4, 2) := of_decide_eq_true (List.all_eq_true.mp tL_2_ok (765, .iload 4, 2) (List.mem_of_getElem? (i := 2) rfl))
set_option maxRecDepth 100000 in
theorem dL_law_767 : decode cL_law 767 = .ok (.iconst 1, 1) := of_decide_eq_true (List.all_eq_true.mp tL_2_ok (767, .iconst 1, 1) (List.mem_of_getElem? (i := 3) rfl))
set_option maxRecDepth 100000 in
theorem dL_law_768 : decode cL_law 768 = .ok (.iadd, 1) := of_decide_eq_true (List.all_eq_true.mp tL_2_ok (768, .iadd, 1) (List.mem_of_getElem? (i := 4) rfl))
set_option maxRecDepth 100000 in
theorem dL_law_769 : decode cL_law 769 = .ok (.iaload, 1) := of_decide_eq_true (List.all_eq_true.mp tL_2_ok (769, .iaload, 1) (List.mem_of_getElem? (i := 5) rfl))
set_option maxRecDepth 100000 in
theorem dL_law_770 : decode cL_law 770 = .ok (.aload_n 0, 1) := of_decide_eq_true (List.all_eq_true.mp tL_2_ok (770, .aload_n 0, 1) (List.mem_of_getElem? (i := 6) rfl))
set_option maxRecDepth 100000 in
theorem dL_law_771 : decode cL_law 771 = .ok (.iload 4, 2) := of_decide_eq_true (List.all_eq_true.mp tL_2_ok (771, .iload 4, 2) (List.mem_of_getElem? (i := 7) rfl))
set_option maxRecDepth 100000 in
theorem dL_law_773 : decode cL_law 773 = .ok (.iconst 2, 1) := of_decide_eq_true (List.all_eq_true.mp tL_2_ok (773, .iconst 2, 1) (List.mem_of_getElem? (i := 8) rfl))
set_option maxRecDepth 100000 in
theorem dL_law_774 : decode cL_law 774 = .ok (.iadd, 1) := of_decide_eq_true (List.all_eq_true.mp tL_2_ok (774, .iadd, 1) (List.mem_of_getElem? (i := 9) rfl))
set_option maxRecDepth 100000 in
theorem dL_law_775 : decode cL_law 775 = .ok (.iaload, 1) := of_decide_eq_true (List.all_eq_true.mp tL_2_ok (775, .iaload, 1) (List.mem_of_getElem? (i := 10) rfl))
set_option maxRecDepth 100000 in
theorem dL_law_776 : decode cL_law 776 = .ok (.ifCond .eq 7, 3) := of_decide_eq_true (List.all_eq_true.mp tL_2_ok (776, .ifCond .eq 7, 3) (List.mem_of_getElem? (i := 11) rfl))
set_option maxRecDepth 100000 in
theorem dL_law_779 : decode cL_law 779 = .ok (.iconst 1, 1) := of_decide_eq_true (List.all_eq_true.mp tL_2_ok (779, .iconst 1, 1) (List.mem_of_getElem? (i := 12) rfl))
set_option maxRecDepth 100000 in
theorem dL_law_780 : decode cL_law 780 = .ok (.goto 4, 3) := of_decide_eq_true (List.all_eq_true.mp tL_2_ok (780, .goto 4, 3) (List.mem_of_getElem? (i := 13) rfl))
set_option maxRecDepth 100000 in
theorem dL_law_783 : decode cL_law 783 = .ok (.iconst 0, 1) := of_decide_eq_true (List.all_eq_true.mp tL_2_ok (783, .iconst 0, 1) (List.mem_of_getElem? (i := 14) rfl))
set_option maxRecDepth 100000 in
theorem dL_law_784 : decode cL_law 784 = .ok (.invokevirtual 159, 3) := of_decide_eq_true (List.all_eq_true.mp tL_2_ok (784, .invokevirtual 159, 3) (List.mem_of_getElem? (i := 15) rfl))
set_option maxRecDepth 100000 in
theorem dL_law_787 : decode cL_law 787 = .ok (.istore 6, 2) := of_decide_eq_true (List.all_eq_true.mp tL_2_ok (787, .istore 6, 2) (List.mem_of_getElem? (i := 16) rfl))
set_option maxRecDepth 100000 in
theorem dL_law_789 : decode cL_law 789 = .ok (.aload_n 2, 1) := of_decide_eq_true (List.all_eq_true.mp tL_2_ok (789, .aload_n 2, 1) (List.mem_of_getElem? (i := 17) rfl))
set_option maxRecDepth 100000 in
theorem dL_law_790 : decode cL_law 790 = .ok (.invokevirtual 118, 3) := of_decide_eq_true (List.all_eq_true.mp tL_2_ok (790, .invokevirtual 118, 3) (List.mem_of_getElem? (i := 18) rfl))
set_option maxRecDepth 100000 in
theorem dL_law_793 : decode cL_law 793 = .ok (.iload 5, 2) := of_decide_eq_true (List.all_eq_true.mp tL_2_ok (793, .iload 5, 2) (List.mem_of_getElem? (i := 19) rfl))
set_option maxRecDepth 100000 in
theorem dL_law_795 : decode cL_law 795 = .ok (.if_icmp .eq 5, 3) := of_decide_eq_true (List.all_eq_true.mp tL_2_ok (795, .if_icmp .eq 5, 3) (List.mem_of_getElem? (i := 20) rfl))
set_option maxRecDepth 100000 in
theorem dL_law_798 : decode cL_law 798 = .ok (.iconst 0, 1) := of_decide_eq_true (List.all_eq_true.mp tL_2_ok (798, .iconst 0, 1) (List.mem_of_getElem? (i := 21) rfl))
set_option maxRecDepth 100000 in
theorem dL_law_799 : decode cL_law 799 = .ok (.ireturn, 1) := of_decide_eq_true (List.all_eq_true.mp tL_2_ok (799, .ireturn, 1) (List.mem_of_getElem? (i := 22) rfl))
set_option maxRecDepth 100000 in
theorem dL_law_800 : decode cL_law 800 = .ok (.iload 5, 2) := of_decide_eq_true (List.all_eq_true.mp tL_2_ok (800, .iload 5, 2) (List.mem_of_getElem? (i := 23) rfl))
set_option maxRecDepth 100000 in
theorem dL_law_802 : decode cL_law 802 = .ok (.ifCond .ne 15, 3) := of_decide_eq_true (List.all_eq_true.mp tL_2_ok (802, .ifCond .ne 15, 3) (List.mem_of_getElem? (i := 24) rfl))
set_option maxRecDepth 100000 in
theorem dL_law_805 : decode cL_law 805 = .ok (.aload_n 3, 1) := of_decide_eq_true (List.all_eq_true.mp tL_2_ok (805, .aload_n 3, 1) (List.mem_of_getElem? (i := 25) rfl))
set_option maxRecDepth 100000 in
theorem dL_law_806 : decode cL_law 806 = .ok (.iconst 0, 1) := of_decide_eq_true (List.all_eq_true.mp tL_2_ok (806, .iconst 0, 1) (List.mem_of_getElem? (i := 26) rfl))
set_option maxRecDepth 100000 in
theorem dL_law_807 : decode cL_law 807 = .ok (.laload, 1) := of_decide_eq_true (List.all_eq_true.mp tL_2_ok (807, .laload, 1) (List.mem_of_getElem? (i := 27) rfl))
set_option maxRecDepth 100000 in
theorem dL_law_808 : decode cL_law 808 = .ok (.iload 6, 2) := of_decide_eq_true (List.all_eq_true.mp tL_2_ok (808, .iload 6, 2) (List.mem_of_getElem? (i := 28) rfl))
set_option maxRecDepth 100000 in
theorem dL_law_810 : decode cL_law 810 = .ok (.i2l, 1) := of_decide_eq_true (List.all_eq_true.mp tL_2_ok (810, .i2l, 1) (List.mem_of_getElem? (i := 29) rfl))
set_option maxRecDepth 100000 in
theorem dL_law_811 : decode cL_law 811 = .ok (.lcmp, 1) := of_decide_eq_true (List.all_eq_true.mp tL_2_ok (811, .lcmp, 1) (List.mem_of_getElem? (i := 30) rfl))
set_option maxRecDepth 100000 in
theorem dL_law_812 : decode cL_law 812 = .ok (.ifCond .eq 5, 3) := of_decide_eq_true (List.all_eq_true.mp tL_2_ok (812, .ifCond .eq 5, 3) (List.mem_of_getElem? (i := 31) rfl))
set_option maxRecDepth 100000 in
theorem dL_law_815 : decode cL_law 815 = .ok (.iconst 0, 1) := of_decide_eq_true (List.all_eq_true.mp tL_2_ok (815, .iconst 0, 1) (List.mem_of_getElem? (i := 32) rfl))
set_option maxRecDepth 100000 in
theorem dL_law_816 : decode cL_law 816 = .ok (.ireturn, 1) := of_decide_eq_true (List.all_eq_true.mp tL_2_ok (816, .ireturn, 1) (List.mem_of_getElem? (i := 33) rfl))
set_option maxRecDepth 100000 in
theorem dL_law_817 : decode cL_law 817 = .ok (.goto 1174, 3) := of_decide_eq_true (List.all_eq_true.mp tL_2_ok (817, .goto 1174, 3) (List.mem_of_getElem? (i := 34) rfl))
set_option maxRecDepth 100000 in
theorem dL_law_820 : decode cL_law 820 = .ok (.aload_n 1, 1) := of_decide_eq_true (List.all_eq_true.mp tL_2_ok (820, .aload_n 1, 1) (List.mem_of_getElem? (i := 35) rfl))
set_option maxRecDepth 100000 in
theorem dL_law_821 : decode cL_law 821 = .ok (.aload_n 0, 1) := of_decide_eq_true (List.all_eq_true.mp tL_2_ok (821, .aload_n 0, 1) (List.mem_of_getElem? (i := 36) rfl))
set_option maxRecDepth 100000 in
theorem dL_law_822 : decode cL_law 822 = .ok (.iload 4, 2) := of_decide_eq_true (List.all_eq_true.mp tL_2_ok (822, .iload 4, 2) (List.mem_of_getElem? (i := 37) rfl))
set_option maxRecDepth 100000 in
theorem dL_law_824 : decode cL_law 824 = .ok (.iconst 1, 1) := of_decide_eq_true (List.all_eq_true.mp tL_2_ok (824, .iconst 1, 1) (List.mem_of_getElem? (i := 38) rfl))
set_option maxRecDepth 100000 in
theorem dL_law_825 : decode cL_law 825 = .ok (.iadd, 1) := of_decide_eq_true (List.all_eq_true.mp tL_2_ok (825, .iadd, 1) (List.mem_of_getElem? (i := 39) rfl))
set_option maxRecDepth 100000 in
theorem dL_law_826 : decode cL_law 826 = .ok (.iaload, 1) := of_decide_eq_true (List.all_eq_true.mp tL_2_ok (826, .iaload, 1) (List.mem_of_getElem? (i := 40) rfl))
set_option maxRecDepth 100000 in
theorem dL_law_827 : decode cL_law 827 = .ok (.aload_n 0, 1) := of_decide_eq_true (List.all_eq_true.mp tL_2_ok (827, .aload_n 0, 1) (List.mem_of_getElem? (i := 41) rfl))
set_option maxRecDepth 100000 in
theorem dL_law_828 : decode cL_law 828 = .ok (.iload 4, 2) := of_decide_eq_true (List.all_eq_true.mp tL_2_ok (828, .iload 4, 2) (List.mem_of_getElem? (i := 42) rfl))
set_option maxRecDepth 100000 in
theorem dL_law_830 : decode cL_law 830 = .ok (.iconst 2, 1) := of_decide_eq_true (List.all_eq_true.mp tL_2_ok (830, .iconst 2, 1) (List.mem_of_getElem? (i := 43) rfl))
set_option maxRecDepth 100000 in
theorem dL_law_831 : decode cL_law 831 = .ok (.iadd, 1) := of_decide_eq_true (List.all_eq_true.mp tL_2_ok (831, .iadd, 1) (List.mem_of_getElem? (i := 44) rfl))
set_option maxRecDepth 100000 in
theorem dL_law_832 : decode cL_law 832 = .ok (.iaload, 1) := of_decide_eq_true (List.all_eq_true.mp tL_2_ok (832, .iaload, 1) (List.mem_of_getElem? (i := 45) rfl))
set_option maxRecDepth 100000 in
theorem dL_law_833 : decode cL_law 833 = .ok (.aload_n 3, 1) := of_decide_eq_true (List.all_eq_true.mp tL_2_ok (833, .aload_n 3, 1) (List.mem_of_getElem? (i := 46) rfl))
set_option maxRecDepth 100000 in
theorem dL_law_834 : decode cL_law 834 = .ok (.invokestatic 160, 3) := of_decide_eq_true (List.all_eq_true.mp tL_2_ok (834, .invokestatic 160, 3) (List.mem_of_getElem? (i := 47) rfl))
set_option maxRecDepth 100000 in
theorem dL_law_837 : decode cL_law 837 = .ok (.istore 5, 2) := of_decide_eq_true (List.all_eq_true.mp tL_2_ok (837, .istore 5, 2) (List.mem_of_getElem? (i := 48) rfl))
set_option maxRecDepth 100000 in
theorem dL_law_839 : decode cL_law 839 = .ok (.aload_n 2, 1) := of_decide_eq_true (List.all_eq_true.mp tL_2_ok (839, .aload_n 2, 1) (List.mem_of_getElem? (i := 49) rfl))
set_option maxRecDepth 100000 in
theorem dL_law_840 : decode cL_law 840 = .ok (.aload_n 0, 1) := of_decide_eq_true (List.all_eq_true.mp tL_2_ok (840, .aload_n 0, 1) (List.mem_of_getElem? (i := 50) rfl))
set_option maxRecDepth 100000 in
theorem dL_law_841 : decode cL_law 841 = .ok (.iload 4, 2) := of_decide_eq_true (List.all_eq_true.mp tL_2_ok (841, .iload 4, 2) (List.mem_of_getElem? (i := 51) rfl))
set_option maxRecDepth 100000 in
theorem dL_law_843 : decode cL_law 843 = .ok (.iconst 1, 1) := of_decide_eq_true (List.all_eq_true.mp tL_2_ok (843, .iconst 1, 1) (List.mem_of_getElem? (i := 52) rfl))
set_option maxRecDepth 100000 in
theorem dL_law_844 : decode cL_law 844 = .ok (.iadd, 1) := of_decide_eq_true (List.all_eq_true.mp tL_2_ok (844, .iadd, 1) (List.mem_of_getElem? (i := 53) rfl))
set_option maxRecDepth 100000 in
theorem dL_law_845 : decode cL_law 845 = .ok (.iaload, 1) := of_decide_eq_true (List.all_eq_true.mp tL_2_ok (845, .iaload, 1) (List.mem_of_getElem? (i := 54) rfl))
set_option maxRecDepth 100000 in
theorem dL_law_846 : decode cL_law 846 = .ok (.aload_n 0, 1) := of_decide_eq_true (List.all_eq_true.mp tL_2_ok (846, .aload_n 0, 1) (List.mem_of_getElem? (i := 55) rfl))
set_option maxRecDepth 100000 in
theorem dL_law_847 : decode cL_law 847 = .ok (.iload 4, 2) := of_decide_eq_true (List.all_eq_true.mp tL_2_ok (847, .iload 4, 2) (List.mem_of_getElem? (i := 56) rfl))
set_option maxRecDepth 100000 in
theorem dL_law_849 : decode cL_law 849 = .ok (.iconst 2, 1) := of_decide_eq_true (List.all_eq_true.mp tL_2_ok (849, .iconst 2, 1) (List.mem_of_getElem? (i := 57) rfl))
set_option maxRecDepth 100000 in
theorem dL_law_850 : decode cL_law 850 = .ok (.iadd, 1) := of_decide_eq_true (List.all_eq_true.mp tL_2_ok (850, .iadd, 1) (List.mem_of_getElem? (i := 58) rfl))
set_option maxRecDepth 100000 in
theorem dL_law_851 : decode cL_law 851 = .ok (.iaload, 1) := of_decide_eq_true (List.all_eq_true.mp tL_2_ok (851, .iaload, 1) (List.mem_of_getElem? (i := 59) rfl))
def tL_3 : List (Nat × Instr × Nat) := [(852, .invokevirtual 162, 3), (855, .istore 6, 2), (857, .aload_n 2, 1), (858, .invokevirtual 118, 3), (861, .iload 5, 2), (863, .if_icmp .eq 5, 3), (866, .iconst 0, 1), (867, .ireturn, 1), (868, .iload 5, 2), (870, .ifCond .ne 15, 3), (873, .aload_n 3, 1), (874, .iconst 0, 1), (875, .laload, 1), (876, .iload 6, 2), (878, .i2l, 1), (879, .lcmp, 1), (880, .ifCond .eq 5, 3), (883, .iconst 0, 1), (884, .ireturn, 1), (885, .goto 1106, 3), (888, .aload_n 1, 1), (889, .aload_n 0, 1), (890, .iload 4, 2), (892, .iconst 1, 1), (893, .iadd, 1), (894, .iaload, 1), (895, .aload_n 3, 1), (896, .invokestatic 163, 3), (899, .istore 5, 2), (901, .aload_n 2, 1), (902, .aload_n 0, 1), (903, .iload 4, 2), (905, .iconst 1, 1), (906, .iadd, 1), (907, .iaload, 1), (908, .invokevirtual 165, 3), (911, .istore 6, 2), (913, .aload_n 2, 1), (914, .invokevirtual 118, 3), (917, .iload 5, 2), (919, .if_icmp .eq 5, 3), (922, .iconst 0, 1), (923, .ireturn, 1), (924, .iload 5, 2), (926, .ifCond .ne 15, 3), (929, .aload_n 3, 1), (930, .iconst 0, 1), (931, .laload, 1), (932, .iload 6, 2), (934, .i2l, 1), (935, .lcmp, 1), (936, .ifCond .eq 5, 3), (939, .iconst 0, 1), (940, .ireturn, 1), (941, .goto 1050, 3), (944, .aload_n 1, 1), (945, .aload_n 0, 1), (946, .iload 4, 2), (948, .iconst 1, 1), (949, .iadd, 1)]
set_option maxRecDepth 100000 in
theorem tL_3_ok : tL_3.all (fun q => decide (decode cL_law q.1 = .ok (q.2.1, q.2.2))) = true := by decide +kernel
set_option maxRecDepth 100000 in
theorem dL_law_852 : decode cL_law 852 = .ok (.invokevirtual 162, 3) := of_decide_eq_true (List.all_eq_true.mp tL_3_ok (852, .invokevirtual 162, 3) (List.mem_of_getElem? (i := 0) rfl))
set_option maxRecDepth 100000 in
theorem dL_law_855 : decode cL_law 855 = .ok (.istore 6, 2) := of_decide_eq_true (List.all_eq_true.mp tL_3_ok (855, .istore 6, 2) (List.mem_of_getElem? (i := 1) rfl))
set_option maxRecDepth 100000 in
theorem dL_law_857 : decode cL_law 857 = .ok (.aload_n 2, 1) := of_decide_eq_true (List.all_eq_true.mp tL_3_ok (857, .aload_n 2, 1) (List.mem_of_getElem? (i := 2) rfl))
set_option maxRecDepth 100000 in
theorem dL_law_858 : decode cL_law 858 = .ok (.invokevirtual 118, 3) := of_decide_eq_true (List.all_eq_true.mp tL_3_ok (858, .invokevirtual 118, 3) (List.mem_of_getElem? (i := 3) rfl))
set_option maxRecDepth 100000 in
theorem dL_law_861 : decode cL_law 861 = .ok (.iload 5, 2) := of_decide_eq_true (List.all_eq_true.mp tL_3_ok (861, .iload 5, 2) (List.mem_of_getElem? (i := 4) rfl))
set_option maxRecDepth 100000 in
theorem dL_law_863 : decode cL_law 863 = .ok (.if_icmp .eq 5, 3) := of_decide_eq_true (List.all_eq_true.mp tL_3_ok (863, .if_icmp .eq 5, 3) (List.mem_of_getElem? (i := 5) rfl))
set_option maxRecDepth 100000 in
theorem dL_law_866 : decode cL_law 866 = .ok (.iconst 0, 1) := of_decide_eq_true (List.all_eq_true.mp tL_3_ok (866, .iconst 0, 1) (List.mem_of_getElem? (i := 6) rfl))
set_option maxRecDepth 100000 in
theorem dL_law_867 : decode cL_law 867 = .ok (.ireturn, 1) := of_decide_eq_true (List.all_eq_true.mp tL_3_ok (867, .ireturn, 1) (List.mem_of_getElem? (i := 7) rfl))
set_option maxRecDepth 100000 in
theorem dL_law_868 : decode cL_law 868 = .ok (.iload 5, 2) := of_decide_eq_true (List.all_eq_true.mp tL_3_ok (868, .iload 5, 2) (List.mem_of_getElem? (i := 8) rfl))
set_option maxRecDepth 100000 in
theorem dL_law_870 : decode cL_law 870 = .ok (.ifCond .ne 15, 3) := of_decide_eq_true (List.all_eq_true.mp tL_3_ok (870, .ifCond .ne 15, 3) (List.mem_of_getElem? (i := 9) rfl))
set_option maxRecDepth 100000 in
theorem dL_law_873 : decode cL_law 873 = .ok (.aload_n 3, 1) := of_decide_eq_true (List.all_eq_true.mp tL_3_ok (873, .aload_n 3, 1) (List.mem_of_getElem? (i := 10) rfl))
set_option maxRecDepth 100000 in
theorem dL_law_874 : decode cL_law 874 = .ok (.iconst 0, 1) := of_decide_eq_true (List.all_eq_true.mp tL_3_ok (874, .iconst 0, 1) (List.mem_of_getElem? (i := 11) rfl))
set_option maxRecDepth 100000 in
theorem dL_law_875 : decode cL_law 875 = .ok (.laload, 1) := of_decide_eq_true (List.all_eq_true.mp tL_3_ok (875, .laload, 1) (List.mem_of_getElem? (i := 12) rfl))
set_option maxRecDepth 100000 in
theorem dL_law_876 : decode cL_law 876 = .ok (.iload 6, 2) := of_decide_eq_true (List.all_eq_true.mp tL_3_ok (876, .iload 6, 2) (List.mem_of_getElem? (i := 13) rfl))
set_option maxRecDepth 100000 in
theorem dL_law_878 : decode cL_law 878 = .ok (.i2l, 1) := of_decide_eq_true (List.all_eq_true.mp tL_3_ok (878, .i2l, 1) (List.mem_of_getElem? (i := 14) rfl))
set_option maxRecDepth 100000 in
theorem dL_law_879 : decode cL_law 879 = .ok (.lcmp, 1) := of_decide_eq_true (List.all_eq_true.mp tL_3_ok (879, .lcmp, 1) (List.mem_of_getElem? (i := 15) rfl))
set_option maxRecDepth 100000 in
theorem dL_law_880 : decode cL_law 880 = .ok (.ifCond .eq 5, 3) := of_decide_eq_true (List.all_eq_true.mp tL_3_ok (880, .ifCond .eq 5, 3) (List.mem_of_getElem? (i := 16) rfl))
set_option maxRecDepth 100000 in
theorem dL_law_883 : decode cL_law 883 = .ok (.iconst 0, 1) := of_decide_eq_true (List.all_eq_true.mp tL_3_ok (883, .iconst 0, 1) (List.mem_of_getElem? (i := 17) rfl))
set_option maxRecDepth 100000 in
theorem dL_law_884 : decode cL_law 884 = .ok (.ireturn, 1) := of_decide_eq_true (List.all_eq_true.mp tL_3_ok (884, .ireturn, 1) (List.mem_of_getElem? (i := 18) rfl))
set_option maxRecDepth 100000 in
theorem dL_law_885 : decode cL_law 885 = .ok (.goto 1106, 3) := of_decide_eq_true (List.all_eq_true.mp tL_3_ok (885, .goto 1106, 3) (List.mem_of_getElem? (i := 19) rfl))
set_option maxRecDepth 100000 in
theorem dL_law_888 : decode cL_law 888 = .ok (.aload_n 1, 1) := of_decide_eq_true (List.all_eq_true.mp tL_3_ok (888, .aload_n 1, 1) (List.mem_of_getElem? (i := 20) rfl))
set_option maxRecDepth 100000 in
theorem dL_law_889 : decode cL_law 889 = .ok (.aload_n 0, 1) := of_decide_eq_true (List.all_eq_true.mp tL_3_ok (889, .aload_n 0, 1) (List.mem_of_getElem? (i := 21) rfl))
set_option maxRecDepth 100000 in
theorem dL_law_890 : decode cL_law 890 = .ok (.iload 4, 2) := of_decide_eq_true (List.all_eq_true.mp tL_3_ok (890, .iload 4, 2) (List.mem_of_getElem? (i := 22) rfl))
set_option maxRecDepth 100000 in
theorem dL_law_892 : decode cL_law 892 = .ok (.iconst 1, 1) := of_decide_eq_true (List.all_eq_true.mp tL_3_ok (892, .iconst 1, 1) (List.mem_of_getElem? (i := 23) rfl))
set_option maxRecDepth 100000 in
theorem dL_law_893 : decode cL_law 893 = .ok (.iadd, 1) := of_decide_eq_true (List.all_eq_true.mp tL_3_ok (893, .iadd, 1) (List.mem_of_getElem? (i := 24) rfl))
set_option maxRecDepth 100000 in
theorem dL_law_894 : decode cL_law 894 = .ok (.iaload, 1) := of_decide_eq_true (List.all_eq_true.mp tL_3_ok (894, .iaload, 1) (List.mem_of_getElem? (i := 25) rfl))
set_option maxRecDepth 100000 in
theorem dL_law_895 : decode cL_law 895 = .ok (.aload_n 3, 1) := of_decide_eq_true (List.all_eq_true.mp tL_3_ok (895, .aload_n 3, 1) (List.mem_of_getElem? (i := 26) rfl))
set_option maxRecDepth 100000 in
theorem dL_law_896 : decode cL_law 896 = .ok (.invokestatic 163, 3) := of_decide_eq_true (List.all_eq_true.mp tL_3_ok (896, .invokestatic 163, 3) (List.mem_of_getElem? (i := 27) rfl))
set_option maxRecDepth 100000 in
theorem dL_law_899 : decode cL_law 899 = .ok (.istore 5, 2) := of_decide_eq_true (List.all_eq_true.mp tL_3_ok (899, .istore 5, 2) (List.mem_of_getElem? (i := 28) rfl))
set_option maxRecDepth 100000 in
theorem dL_law_901 : decode cL_law 901 = .ok (.aload_n 2, 1) := of_decide_eq_true (List.all_eq_true.mp tL_3_ok (901, .aload_n 2, 1) (List.mem_of_getElem? (i := 29) rfl))
set_option maxRecDepth 100000 in
theorem dL_law_902 : decode cL_law 902 = .ok (.aload_n 0, 1) := of_decide_eq_true (List.all_eq_true.mp tL_3_ok (902, .aload_n 0, 1) (List.mem_of_getElem? (i := 30) rfl))
set_option maxRecDepth 100000 in
theorem dL_law_903 : decode cL_law 903 = .ok (.iload 4, 2) := of_decide_eq_true (List.all_eq_true.mp tL_3_ok (903, .iload 4, 2) (List.mem_of_getElem? (i := 31) rfl))
set_option maxRecDepth 100000 in
theorem dL_law_905 : decode cL_law 905 = .ok (.iconst 1, 1) := of_decide_eq_true (List.all_eq_true.mp tL_3_ok (905, .iconst 1, 1) (List.mem_of_getElem? (i := 32) rfl))
set_option maxRecDepth 100000 in
theorem dL_law_906 : decode cL_law 906 = .ok (.iadd, 1) := of_decide_eq_true (List.all_eq_true.mp tL_3_ok (906, .iadd, 1) (List.mem_of_getElem? (i := 33) rfl))
set_option maxRecDepth 100000 in
theorem dL_law_907 : decode cL_law 907 = .ok (.iaload, 1) := of_decide_eq_true (List.all_eq_true.mp tL_3_ok (907, .iaload, 1) (List.mem_of_getElem? (i := 34) rfl))
set_option maxRecDepth 100000 in
theorem dL_law_908 : decode cL_law 908 = .ok (.invokevirtual 165, 3) := of_decide_eq_true (List.all_eq_true.mp tL_3_ok (908, .invokevirtual 165, 3) (List.mem_of_getElem? (i := 35) rfl))
set_option maxRecDepth 100000 in
theorem dL_law_911 : decode cL_law 911 = .ok (.istore 6, 2) := of_decide_eq_true (List.all_eq_true.mp tL_3_ok (911, .istore 6, 2) (List.mem_of_getElem? (i := 36) rfl))
set_option maxRecDepth 100000 in
theorem dL_law_913 : decode cL_law 913 = .ok (.aload_n 2, 1) := of_decide_eq_true (List.all_eq_true.mp tL_3_ok (913, .aload_n 2, 1) (List.mem_of_getElem? (i := 37) rfl))
set_option maxRecDepth 100000 in
theorem dL_law_914 : decode cL_law 914 = .ok (.invokevirtual 118, 3) := of_decide_eq_true (List.all_eq_true.mp tL_3_ok (914, .invokevirtual 118, 3) (List.mem_of_getElem? (i := 38) rfl))
set_option maxRecDepth 100000 in
theorem dL_law_917 : decode cL_law 917 = .ok (.iload 5, 2) := of_decide_eq_true (List.all_eq_true.mp tL_3_ok (917, .iload 5, 2) (List.mem_of_getElem? (i := 39) rfl))
set_option maxRecDepth 100000 in
theorem dL_law_919 : decode cL_law 919 = .ok (.if_icmp .eq 5, 3) := of_decide_eq_true (List.all_eq_true.mp tL_3_ok (919, .if_icmp .eq 5, 3) (List.mem_of_getElem? (i := 40) rfl))
set_option maxRecDepth 100000 in
theorem dL_law_922 : decode cL_law 922 = .ok (.iconst 0, 1) := of_decide_eq_true (List.all_eq_true.mp tL_3_ok (922, .iconst 0, 1) (List.mem_of_getElem? (i := 41) rfl))
set_option maxRecDepth 100000 in
theorem dL_law_923 : decode cL_law 923 = .ok (.ireturn, 1) := of_decide_eq_true (List.all_eq_true.mp tL_3_ok (923, .ireturn, 1) (List.mem_of_getElem? (i := 42) rfl))
set_option maxRecDepth 100000 in
theorem dL_law_924 : decode cL_law 924 = .ok (.iload 5, 2) := of_decide_eq_true (List.all_eq_true.mp tL_3_ok (924, .iload 5, 2) (List.mem_of_getElem? (i := 43) rfl))
set_option maxRecDepth 100000 in
theorem dL_law_926 : decode cL_law 926 = .ok (.ifCond .ne 15, 3) := of_decide_eq_true (List.all_eq_true.mp tL_3_ok (926, .ifCond .ne 15, 3) (List.mem_of_getElem? (i := 44) rfl))
set_option maxRecDepth 100000 in
theorem dL_law_929 : decode cL_law 929 = .ok (.aload_n 3, 1) := of_decide_eq_true (List.all_eq_true.mp tL_3_ok (929, .aload_n 3, 1) (List.mem_of_getElem? (i := 45) rfl))
set_option maxRecDepth 100000 in
theorem dL_law_930 : decode cL_law 930 = .ok (.iconst 0, 1) := of_decide_eq_true (List.all_eq_true.mp tL_3_ok (930, .iconst 0, 1) (List.mem_of_getElem? (i := 46) rfl))
set_option maxRecDepth 100000 in
theorem dL_law_931 : decode cL_law 931 = .ok (.laload, 1) := of_decide_eq_true (List.all_eq_true.mp tL_3_ok (931, .laload, 1) (List.mem_of_getElem? (i := 47) rfl))
set_option maxRecDepth 100000 in
theorem dL_law_932 : decode cL_law 932 = .ok (.iload 6, 2) := of_decide_eq_true (List.all_eq_true.mp tL_3_ok (932, .iload 6, 2) (List.mem_of_getElem? (i := 48) rfl))
set_option maxRecDepth 100000 in
theorem dL_law_934 : decode cL_law 934 = .ok (.i2l, 1) := of_decide_eq_true (List.all_eq_true.mp tL_3_ok (934, .i2l, 1) (List.mem_of_getElem? (i := 49) rfl))
set_option maxRecDepth 100000 in
theorem dL_law_935 : decode cL_law 935 = .ok (.lcmp, 1) := of_decide_eq_true (List.all_eq_true.mp tL_3_ok (935, .lcmp, 1) (List.mem_of_getElem? (i := 50) rfl))
set_option maxRecDepth 100000 in
theorem dL_law_936 : decode cL_law 936 = .ok (.ifCond .eq 5, 3) := of_decide_eq_true (List.all_eq_true.mp tL_3_ok (936, .ifCond .eq 5, 3) (List.mem_of_getElem? (i := 51) rfl))
set_option maxRecDepth 100000 in
theorem dL_law_939 : decode cL_law 939 = .ok (.iconst 0, 1) := of_decide_eq_true (List.all_eq_true.mp tL_3_ok (939, .iconst 0, 1) (List.mem_of_getElem? (i := 52) rfl))
set_option maxRecDepth 100000 in
theorem dL_law_940 : decode cL_law 940 = .ok (.ireturn, 1) := of_decide_eq_true (List.all_eq_true.mp tL_3_ok (940, .ireturn, 1) (List.mem_of_getElem? (i := 53) rfl))
set_option maxRecDepth 100000 in
theorem dL_law_941 : decode cL_law 941 = .ok (.goto 1050, 3) := of_decide_eq_true (List.all_eq_true.mp tL_3_ok (941, .goto 1050, 3) (List.mem_of_getElem? (i := 54) rfl))
set_option maxRecDepth 100000 in
theorem dL_law_944 : decode cL_law 944 = .ok (.aload_n 1, 1) := of_decide_eq_true (List.all_eq_true.mp tL_3_ok (944, .aload_n 1, 1) (List.mem_of_getElem? (i := 55) rfl))
set_option maxRecDepth 100000 in
theorem dL_law_945 : decode cL_law 945 = .ok (.aload_n 0, 1) := of_decide_eq_true (List.all_eq_true.mp tL_3_ok (945, .aload_n 0, 1) (List.mem_of_getElem? (i := 56) rfl))
set_option maxRecDepth 100000 in
theorem dL_law_946 : decode cL_law 946 = .ok (.iload 4, 2) := of_decide_eq_true (List.all_eq_true.mp tL_3_ok (946, .iload 4, 2) (List.mem_of_getElem? (i := 57) rfl))
set_option maxRecDepth 100000 in
theorem dL_law_948 : decode cL_law 948 = .ok (.iconst 1, 1) := of_decide_eq_true (List.all_eq_true.mp tL_3_ok (948, .iconst 1, 1) (List.mem_of_getElem? (i := 58) rfl))
set_option maxRecDepth 100000 in
theorem dL_law_949 : decode cL_law 949 = .ok (.iadd, 1) := of_decide_eq_true (List.all_eq_true.mp tL_3_ok (949, .iadd, 1) (List.mem_of_getElem? (i := 59) rfl))
def tL_4 : List (Nat × Instr × Nat) := [(950, .iaload, 1), (951, .aload_n 3, 1), (952, .invokestatic 166, 3), (955, .istore 5, 2), (957, .aload_n 2, 1), (958, .aload_n 0, 1), (959, .iload 4, 2), (961, .iconst 1, 1), (962, .iadd, 1), (963, .iaload, 1), (964, .invokevirtual 168, 3), (967, .istore 6, 2), (969, .aload_n 2, 1), (970, .invokevirtual 118, 3), (973, .iload 5, 2), (975, .if_icmp .eq 5, 3), (978, .iconst 0, 1), (979, .ireturn, 1), (980, .iload 5, 2), (982, .ifCond .ne 15, 3), (985, .aload_n 3, 1), (986, .iconst 0, 1), (987, .laload, 1), (988, .iload 6, 2), (990, .i2l, 1), (991, .lcmp, 1), (992, .ifCond .eq 5, 3), (995, .iconst 0, 1), (996, .ireturn, 1), (997, .goto 994, 3), (1000, .aload_n 1, 1), (1001, .aload_n 0, 1), (1002, .iload 4, 2), (1004, .iconst 1, 1), (1005, .iadd, 1), (1006, .iaload, 1), (1007, .aload_n 3, 1), (1008, .invokestatic 169, 3), (1011, .istore 5, 2), (1013, .aload_n 2, 1), (1014, .aload_n 0, 1), (1015, .iload 4, 2), (1017, .iconst 1, 1), (1018, .iadd, 1), (1019, .iaload, 1), (1020, .invokevirtual 171, 3), (1023, .istore 6, 2), (1025, .aload_n 2, 1), (1026, .invokevirtual 118, 3), (1029, .iload 5, 2), (1031, .if_icmp .eq 5, 3), (1034, .iconst 0, 1), (1035, .ireturn, 1), (1036, .iload 5, 2), (1038, .ifCond .ne 15, 3), (1041, .aload_n 3, 1), (1042, .iconst 0, 1), (1043, .laload, 1), (1044, .iload 6, 2), (1046, .i2l, 1)]
set_option maxRecDepth 100000 in
theorem tL_4_ok : tL_4.all (fun q => decide (decode cL_law q.1 = .ok (q.2.1, q.2.2))) = true := by decide +kernel
set_option maxRecDepth 100000 in
theorem dL_law_950 : decode cL_law 950 = .ok (.iaload, 1) := of_decide_eq_true (List.all_eq_true.mp tL_4_ok (950, .iaload, 1) (List.mem_of_getElem? (i := 0) rfl))
set_option maxRecDepth 100000 in
theorem dL_law_951 : decode cL_law 951 = .ok (.aload_n 3, 1) := of_decide_eq_true (List.all_eq_true.mp tL_4_ok (951, .aload_n 3, 1) (List.mem_of_getElem? (i := 1) rfl))
set_option maxRecDepth 100000 in
theorem dL_law_952 : decode cL_law 952 = .ok (.invokestatic 166, 3) := of_decide_eq_true (List.all_eq_true.mp tL_4_ok (952, .invokestatic 166, 3) (List.mem_of_getElem? (i := 2) rfl))
set_option maxRecDepth 100000 in
theorem dL_law_955 : decode cL_law 955 = .ok (.istore 5, 2) := of_decide_eq_true (List.all_eq_true.mp tL_4_ok (955, .istore 5, 2) (List.mem_of_getElem? (i := 3) rfl))
set_option maxRecDepth 100000 in
theorem dL_law_957 : decode cL_law 957 = .ok (.aload_n 2, 1) := of_decide_eq_true (List.all_eq_true.mp tL_4_ok (957, .aload_n 2, 1) (List.mem_of_getElem? (i := 4) rfl))
set_option maxRecDepth 100000 in
theorem dL_law_958 : decode cL_law 958 = .ok (.aload_n 0, 1) := of_decide_eq_true (List.all_eq_true.mp tL_4_ok (958, .aload_n 0, 1) (List.mem_of_getElem? (i := 5) rfl))
set_option maxRecDepth 100000 in
theorem dL_law_959 : decode cL_law 959 = .ok (.iload 4, 2) := of_decide_eq_true (List.all_eq_true.mp tL_4_ok (959, .iload 4, 2) (List.mem_of_getElem? (i := 6) rfl))
set_option maxRecDepth 100000 in
theorem dL_law_961 : decode cL_law 961 = .ok (.iconst 1, 1) := of_decide_eq_true (List.all_eq_true.mp tL_4_ok (961, .iconst 1, 1) (List.mem_of_getElem? (i := 7) rfl))
set_option maxRecDepth 100000 in
theorem dL_law_962 : decode cL_law 962 = .ok (.iadd, 1) := of_decide_eq_true (List.all_eq_true.mp tL_4_ok (962, .iadd, 1) (List.mem_of_getElem? (i := 8) rfl))
set_option maxRecDepth 100000 in
theorem dL_law_963 : decode cL_law 963 = .ok (.iaload, 1) := of_decide_eq_true (List.all_eq_true.mp tL_4_ok (963, .iaload, 1) (List.mem_of_getElem? (i := 9) rfl))
set_option maxRecDepth 100000 in
theorem dL_law_964 : decode cL_law 964 = .ok (.invokevirtual 168, 3) := of_decide_eq_true (List.all_eq_true.mp tL_4_ok (964, .invokevirtual 168, 3) (List.mem_of_getElem? (i := 10) rfl))
set_option maxRecDepth 100000 in
theorem dL_law_967 : decode cL_law 967 = .ok (.istore 6, 2) := of_decide_eq_true (List.all_eq_true.mp tL_4_ok (967, .istore 6, 2) (List.mem_of_getElem? (i := 11) rfl))
set_option maxRecDepth 100000 in
theorem dL_law_969 : decode cL_law 969 = .ok (.aload_n 2, 1) := of_decide_eq_true (List.all_eq_true.mp tL_4_ok (969, .aload_n 2, 1) (List.mem_of_getElem? (i := 12) rfl))
set_option maxRecDepth 100000 in
theorem dL_law_970 : decode cL_law 970 = .ok (.invokevirtual 118, 3) := of_decide_eq_true (List.all_eq_true.mp tL_4_ok (970, .invokevirtual 118, 3) (List.mem_of_getElem? (i := 13) rfl))
set_option maxRecDepth 100000 in
theorem dL_law_973 : decode cL_law 973 = .ok (.iload 5, 2) := of_decide_eq_true (List.all_eq_true.mp tL_4_ok (973, .iload 5, 2) (List.mem_of_getElem? (i := 14) rfl))
set_option maxRecDepth 100000 in
theorem dL_law_975 : decode cL_law 975 = .ok (.if_icmp .eq 5, 3) := of_decide_eq_true (List.all_eq_true.mp tL_4_ok (975, .if_icmp .eq 5, 3) (List.mem_of_getElem? (i := 15) rfl))
set_option maxRecDepth 100000 in
theorem dL_law_978 : decode cL_law 978 = .ok (.iconst 0, 1) := of_decide_eq_true (List.all_eq_true.mp tL_4_ok (978, .iconst 0, 1) (List.mem_of_getElem? (i := 16) rfl))
set_option maxRecDepth 100000 in
theorem dL_law_979 : decode cL_law 979 = .ok (.ireturn, 1) := of_decide_eq_true (List.all_eq_true.mp tL_4_ok (979, .ireturn, 1) (List.mem_of_getElem? (i := 17) rfl))
set_option maxRecDepth 100000 in
theorem dL_law_980 : decode cL_law 980 = .ok (.iload 5, 2) := of_decide_eq_true (List.all_eq_true.mp tL_4_ok (980, .iload 5, 2) (List.mem_of_getElem? (i := 18) rfl))
set_option maxRecDepth 100000 in
theorem dL_law_982 : decode cL_law 982 = .ok (.ifCond .ne 15, 3) := of_decide_eq_true (List.all_eq_true.mp tL_4_ok (982, .ifCond .ne 15, 3) (List.mem_of_getElem? (i := 19) rfl))
set_option maxRecDepth 100000 in
theorem dL_law_985 : decode cL_law 985 = .ok (.aload_n 3, 1) := of_decide_eq_true (List.all_eq_true.mp tL_4_ok (985, .aload_n 3, 1) (List.mem_of_getElem? (i := 20) rfl))
set_option maxRecDepth 100000 in
theorem dL_law_986 : decode cL_law 986 = .ok (.iconst 0, 1) := of_decide_eq_true (List.all_eq_true.mp tL_4_ok (986, .iconst 0, 1) (List.mem_of_getElem? (i := 21) rfl))
set_option maxRecDepth 100000 in
theorem dL_law_987 : decode cL_law 987 = .ok (.laload, 1) := of_decide_eq_true (List.all_eq_true.mp tL_4_ok (987, .laload, 1) (List.mem_of_getElem? (i := 22) rfl))
set_option maxRecDepth 100000 in
theorem dL_law_988 : decode cL_law 988 = .ok (.iload 6, 2) := of_decide_eq_true (List.all_eq_true.mp tL_4_ok (988, .iload 6, 2) (List.mem_of_getElem? (i := 23) rfl))
set_option maxRecDepth 100000 in
theorem dL_law_990 : decode cL_law 990 = .ok (.i2l, 1) := of_decide_eq_true (List.all_eq_true.mp tL_4_ok (990, .i2l, 1) (List.mem_of_getElem? (i := 24) rfl))
set_option maxRecDepth 100000 in
theorem dL_law_991 : decode cL_law 991 = .ok (.lcmp, 1) := of_decide_eq_true (List.all_eq_true.mp tL_4_ok (991, .lcmp, 1) (List.mem_of_getElem? (i := 25) rfl))
set_option maxRecDepth 100000 in
theorem dL_law_992 : decode cL_law 992 = .ok (.ifCond .eq 5, 3) := of_decide_eq_true (List.all_eq_true.mp tL_4_ok (992, .ifCond .eq 5, 3) (List.mem_of_getElem? (i := 26) rfl))
set_option maxRecDepth 100000 in
theorem dL_law_995 : decode cL_law 995 = .ok (.iconst 0, 1) := of_decide_eq_true (List.all_eq_true.mp tL_4_ok (995, .iconst 0, 1) (List.mem_of_getElem? (i := 27) rfl))
set_option maxRecDepth 100000 in
theorem dL_law_996 : decode cL_law 996 = .ok (.ireturn, 1) := of_decide_eq_true (List.all_eq_true.mp tL_4_ok (996, .ireturn, 1) (List.mem_of_getElem? (i := 28) rfl))
set_option maxRecDepth 100000 in
theorem dL_law_997 : decode cL_law 997 = .ok (.goto 994, 3) := of_decide_eq_true (List.all_eq_true.mp tL_4_ok (997, .goto 994, 3) (List.mem_of_getElem? (i := 29) rfl))
set_option maxRecDepth 100000 in
theorem dL_law_1000 : decode cL_law 1000 = .ok (.aload_n 1, 1) := of_decide_eq_true (List.all_eq_true.mp tL_4_ok (1000, .aload_n 1, 1) (List.mem_of_getElem? (i := 30) rfl))
set_option maxRecDepth 100000 in
theorem dL_law_1001 : decode cL_law 1001 = .ok (.aload_n 0, 1) := of_decide_eq_true (List.all_eq_true.mp tL_4_ok (1001, .aload_n 0, 1) (List.mem_of_getElem? (i := 31) rfl))
set_option maxRecDepth 100000 in
theorem dL_law_1002 : decode cL_law 1002 = .ok (.iload 4, 2) := of_decide_eq_true (List.all_eq_true.mp tL_4_ok (1002, .iload 4, 2) (List.mem_of_getElem? (i := 32) rfl))
set_option maxRecDepth 100000 in
theorem dL_law_1004 : decode cL_law 1004 = .ok (.iconst 1, 1) := of_decide_eq_true (List.all_eq_true.mp tL_4_ok (1004, .iconst 1, 1) (List.mem_of_getElem? (i := 33) rfl))
set_option maxRecDepth 100000 in
theorem dL_law_1005 : decode cL_law 1005 = .ok (.iadd, 1) := of_decide_eq_true (List.all_eq_true.mp tL_4_ok (1005, .iadd, 1) (List.mem_of_getElem? (i := 34) rfl))
set_option maxRecDepth 100000 in
theorem dL_law_1006 : decode cL_law 1006 = .ok (.iaload, 1) := of_decide_eq_true (List.all_eq_true.mp tL_4_ok (1006, .iaload, 1) (List.mem_of_getElem? (i := 35) rfl))
set_option maxRecDepth 100000 in
theorem dL_law_1007 : decode cL_law 1007 = .ok (.aload_n 3, 1) := of_decide_eq_true (List.all_eq_true.mp tL_4_ok (1007, .aload_n 3, 1) (List.mem_of_getElem? (i := 36) rfl))
set_option maxRecDepth 100000 in
theorem dL_law_1008 : decode cL_law 1008 = .ok (.invokestatic 169, 3) := of_decide_eq_true (List.all_eq_true.mp tL_4_ok (1008, .invokestatic 169, 3) (List.mem_of_getElem? (i := 37) rfl))
set_option maxRecDepth 100000 in
theorem dL_law_1011 : decode cL_law 1011 = .ok (.istore 5, 2) := of_decide_eq_true (List.all_eq_true.mp tL_4_ok (1011, .istore 5, 2) (List.mem_of_getElem? (i := 38) rfl))
set_option maxRecDepth 100000 in
theorem dL_law_1013 : decode cL_law 1013 = .ok (.aload_n 2, 1) := of_decide_eq_true (List.all_eq_true.mp tL_4_ok (1013, .aload_n 2, 1) (List.mem_of_getElem? (i := 39) rfl))
set_option maxRecDepth 100000 in
theorem dL_law_1014 : decode cL_law 1014 = .ok (.aload_n 0, 1) := of_decide_eq_true (List.all_eq_true.mp tL_4_ok (1014, .aload_n 0, 1) (List.mem_of_getElem? (i := 40) rfl))
set_option maxRecDepth 100000 in
theorem dL_law_1015 : decode cL_law 1015 = .ok (.iload 4, 2) := of_decide_eq_true (List.all_eq_true.mp tL_4_ok (1015, .iload 4, 2) (List.mem_of_getElem? (i := 41) rfl))
set_option maxRecDepth 100000 in
theorem dL_law_1017 : decode cL_law 1017 = .ok (.iconst 1, 1) := of_decide_eq_true (List.all_eq_true.mp tL_4_ok (1017, .iconst 1, 1) (List.mem_of_getElem? (i := 42) rfl))
set_option maxRecDepth 100000 in
theorem dL_law_1018 : decode cL_law 1018 = .ok (.iadd, 1) := of_decide_eq_true (List.all_eq_true.mp tL_4_ok (1018, .iadd, 1) (List.mem_of_getElem? (i := 43) rfl))
set_option maxRecDepth 100000 in
theorem dL_law_1019 : decode cL_law 1019 = .ok (.iaload, 1) := of_decide_eq_true (List.all_eq_true.mp tL_4_ok (1019, .iaload, 1) (List.mem_of_getElem? (i := 44) rfl))
set_option maxRecDepth 100000 in
theorem dL_law_1020 : decode cL_law 1020 = .ok (.invokevirtual 171, 3) := of_decide_eq_true (List.all_eq_true.mp tL_4_ok (1020, .invokevirtual 171, 3) (List.mem_of_getElem? (i := 45) rfl))
set_option maxRecDepth 100000 in
theorem dL_law_1023 : decode cL_law 1023 = .ok (.istore 6, 2) := of_decide_eq_true (List.all_eq_true.mp tL_4_ok (1023, .istore 6, 2) (List.mem_of_getElem? (i := 46) rfl))
set_option maxRecDepth 100000 in
theorem dL_law_1025 : decode cL_law 1025 = .ok (.aload_n 2, 1) := of_decide_eq_true (List.all_eq_true.mp tL_4_ok (1025, .aload_n 2, 1) (List.mem_of_getElem? (i := 47) rfl))
set_option maxRecDepth 100000 in
theorem dL_law_1026 : decode cL_law 1026 = .ok (.invokevirtual 118, 3) := of_decide_eq_true (List.all_eq_true.mp tL_4_ok (1026, .invokevirtual 118, 3) (List.mem_of_getElem? (i := 48) rfl))
set_option maxRecDepth 100000 in
theorem dL_law_1029 : decode cL_law 1029 = .ok (.iload 5, 2) := of_decide_eq_true (List.all_eq_true.mp tL_4_ok (1029, .iload 5, 2) (List.mem_of_getElem? (i := 49) rfl))
set_option maxRecDepth 100000 in
theorem dL_law_1031 : decode cL_law 1031 = .ok (.if_icmp .eq 5, 3) := of_decide_eq_true (List.all_eq_true.mp tL_4_ok (1031, .if_icmp .eq 5, 3) (List.mem_of_getElem? (i := 50) rfl))
set_option maxRecDepth 100000 in
theorem dL_law_1034 : decode cL_law 1034 = .ok (.iconst 0, 1) := of_decide_eq_true (List.all_eq_true.mp tL_4_ok (1034, .iconst 0, 1) (List.mem_of_getElem? (i := 51) rfl))
set_option maxRecDepth 100000 in
theorem dL_law_1035 : decode cL_law 1035 = .ok (.ireturn, 1) := of_decide_eq_true (List.all_eq_true.mp tL_4_ok (1035, .ireturn, 1) (List.mem_of_getElem? (i := 52) rfl))
set_option maxRecDepth 100000 in
theorem dL_law_1036 : decode cL_law 1036 = .ok (.iload 5, 2) := of_decide_eq_true (List.all_eq_true.mp tL_4_ok (1036, .iload 5, 2) (List.mem_of_getElem? (i := 53) rfl))
set_option maxRecDepth 100000 in
theorem dL_law_1038 : decode cL_law 1038 = .ok (.ifCond .ne 15, 3) := of_decide_eq_true (List.all_eq_true.mp tL_4_ok (1038, .ifCond .ne 15, 3) (List.mem_of_getElem? (i := 54) rfl))
set_option maxRecDepth 100000 in
theorem dL_law_1041 : decode cL_law 1041 = .ok (.aload_n 3, 1) := of_decide_eq_true (List.all_eq_true.mp tL_4_ok (1041, .aload_n 3, 1) (List.mem_of_getElem? (i := 55) rfl))
set_option maxRecDepth 100000 in
theorem dL_law_1042 : decode cL_law 1042 = .ok (.iconst 0, 1) := of_decide_eq_true (List.all_eq_true.mp tL_4_ok (1042, .iconst 0, 1) (List.mem_of_getElem? (i := 56) rfl))
set_option maxRecDepth 100000 in
theorem dL_law_1043 : decode cL_law 1043 = .ok (.laload, 1) := of_decide_eq_true (List.all_eq_true.mp tL_4_ok (1043, .laload, 1) (List.mem_of_getElem? (i := 57) rfl))
set_option maxRecDepth 100000 in
theorem dL_law_1044 : decode cL_law 1044 = .ok (.iload 6, 2) := of_decide_eq_true (List.all_eq_true.mp tL_4_ok (1044, .iload 6, 2) (List.mem_of_getElem? (i := 58) rfl))
set_option maxRecDepth 100000 in
theorem dL_law_1046 : decode cL_law 1046 = .ok (.i2l, 1) := of_decide_eq_true (List.all_eq_true.mp tL_4_ok (1046, .i2l, 1) (List.mem_of_getElem? (i := 59) rfl))
