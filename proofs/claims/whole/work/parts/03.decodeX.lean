theorem dX0_init_0 : decode cX0_init 0 = .ok (.aload_n 0, 1) := by decide +kernel
theorem dX0_init_1 : decode cX0_init 1 = .ok (.invokespecial 3, 3) := by decide +kernel
theorem dX0_init_4 : decode cX0_init 4 = .ok (.aload_n 0, 1) := by decide +kernel
theorem dX0_init_5 : decode cX0_init 5 = .ok (.iconst 5, 1) := by decide +kernel
theorem dX0_init_6 : decode cX0_init 6 = .ok (.newarray .int, 2) := by decide +kernel
theorem dX0_init_8 : decode cX0_init 8 = .ok (.putfield 9, 3) := by decide +kernel
theorem dX0_init_11 : decode cX0_init 11 = .ok (.aload_n 0, 1) := by decide +kernel
theorem dX0_init_12 : decode cX0_init 12 = .ok (.iconst 0, 1) := by decide +kernel
theorem dX0_init_13 : decode cX0_init 13 = .ok (.putfield 15, 3) := by decide +kernel
theorem dX0_init_16 : decode cX0_init 16 = .ok (.aload_n 0, 1) := by decide +kernel
theorem dX0_init_17 : decode cX0_init 17 = .ok (.bipush 8, 2) := by decide +kernel
theorem dX0_init_19 : decode cX0_init 19 = .ok (.putfield 19, 3) := by decide +kernel
theorem dX0_init_22 : decode cX0_init 22 = .ok (.aload_n 0, 1) := by decide +kernel
theorem dX0_init_23 : decode cX0_init 23 = .ok (.iconst 0, 1) := by decide +kernel
theorem dX0_init_24 : decode cX0_init 24 = .ok (.putfield 22, 3) := by decide +kernel
theorem dX0_init_27 : decode cX0_init 27 = .ok (.return_, 1) := by decide +kernel
theorem dX0_become_0 : decode cX0_become 0 = .ok (.aload_n 0, 1) := by decide +kernel
theorem dX0_become_1 : decode cX0_become 1 = .ok (.aload_n 1, 1) := by decide +kernel
theorem dX0_become_2 : decode cX0_become 2 = .ok (.invokevirtual 25, 3) := by decide +kernel
theorem dX0_become_5 : decode cX0_become 5 = .ok (.aload_n 1, 1) := by decide +kernel
theorem dX0_become_6 : decode cX0_become 6 = .ok (.getfield 9, 3) := by decide +kernel
theorem dX0_become_9 : decode cX0_become 9 = .ok (.iconst 0, 1) := by decide +kernel
theorem dX0_become_10 : decode cX0_become 10 = .ok (.aload_n 0, 1) := by decide +kernel
theorem dX0_become_11 : decode cX0_become 11 = .ok (.getfield 9, 3) := by decide +kernel
theorem dX0_become_14 : decode cX0_become 14 = .ok (.iconst 0, 1) := by decide +kernel
theorem dX0_become_15 : decode cX0_become 15 = .ok (.iconst 5, 1) := by decide +kernel
theorem dX0_become_16 : decode cX0_become 16 = .ok (.invokestatic 29, 3) := by decide +kernel
theorem dX0_become_19 : decode cX0_become 19 = .ok (.aload_n 0, 1) := by decide +kernel
theorem dX0_become_20 : decode cX0_become 20 = .ok (.aload_n 1, 1) := by decide +kernel
theorem dX0_become_21 : decode cX0_become 21 = .ok (.getfield 15, 3) := by decide +kernel
theorem dX0_become_24 : decode cX0_become 24 = .ok (.putfield 15, 3) := by decide +kernel
theorem dX0_become_27 : decode cX0_become 27 = .ok (.aload_n 0, 1) := by decide +kernel
theorem dX0_become_28 : decode cX0_become 28 = .ok (.aload_n 1, 1) := by decide +kernel
theorem dX0_become_29 : decode cX0_become 29 = .ok (.getfield 19, 3) := by decide +kernel
theorem dX0_become_32 : decode cX0_become 32 = .ok (.putfield 19, 3) := by decide +kernel
theorem dX0_become_35 : decode cX0_become 35 = .ok (.return_, 1) := by decide +kernel
theorem dX0_has_0 : decode cX0_has 0 = .ok (.iload_n 1, 1) := by decide +kernel
theorem dX0_has_1 : decode cX0_has 1 = .ok (.iconst 0, 1) := by decide +kernel
theorem dX0_has_2 : decode cX0_has 2 = .ok (.aload_n 0, 1) := by decide +kernel
theorem dX0_has_3 : decode cX0_has 3 = .ok (.getfield 15, 3) := by decide +kernel
theorem dX0_has_6 : decode cX0_has 6 = .ok (.iconst 1, 1) := by decide +kernel
theorem dX0_has_7 : decode cX0_has 7 = .ok (.isub, 1) := by decide +kernel
theorem dX0_has_8 : decode cX0_has 8 = .ok (.invokestatic 35, 3) := by decide +kernel
theorem dX0_has_11 : decode cX0_has 11 = .ok (.ireturn, 1) := by decide +kernel
theorem dX0_join_0 : decode cX0_join 0 = .ok (.aload_n 0, 1) := by decide +kernel
theorem dX0_join_1 : decode cX0_join 1 = .ok (.getfield 15, 3) := by decide +kernel
theorem dX0_join_4 : decode cX0_join 4 = .ok (.istore_n 3, 1) := by decide +kernel
theorem dX0_join_5 : decode cX0_join 5 = .ok (.aload_n 0, 1) := by decide +kernel
theorem dX0_join_6 : decode cX0_join 6 = .ok (.getfield 9, 3) := by decide +kernel
theorem dX0_join_9 : decode cX0_join 9 = .ok (.iload_n 3, 1) := by decide +kernel
theorem dX0_join_10 : decode cX0_join 10 = .ok (.iload_n 1, 1) := by decide +kernel
theorem dX0_join_11 : decode cX0_join 11 = .ok (.iastore, 1) := by decide +kernel
theorem dX0_join_12 : decode cX0_join 12 = .ok (.iconst 0, 1) := by decide +kernel
theorem dX0_join_13 : decode cX0_join 13 = .ok (.istore 4, 2) := by decide +kernel
theorem dX0_join_15 : decode cX0_join 15 = .ok (.iload 4, 2) := by decide +kernel
theorem dX0_join_17 : decode cX0_join 17 = .ok (.iconst 4, 1) := by decide +kernel
theorem dX0_join_18 : decode cX0_join 18 = .ok (.if_icmp .ge 17, 3) := by decide +kernel
theorem dX0_join_21 : decode cX0_join 21 = .ok (.aload_n 0, 1) := by decide +kernel
theorem dX0_join_22 : decode cX0_join 22 = .ok (.iload_n 3, 1) := by decide +kernel
theorem dX0_join_23 : decode cX0_join 23 = .ok (.iload 4, 2) := by decide +kernel
theorem dX0_join_25 : decode cX0_join 25 = .ok (.iload_n 2, 1) := by decide +kernel
theorem dX0_join_26 : decode cX0_join 26 = .ok (.invokevirtual 39, 3) := by decide +kernel
theorem dX0_join_29 : decode cX0_join 29 = .ok (.iinc 4 1, 3) := by decide +kernel
theorem dX0_join_32 : decode cX0_join 32 = .ok (.goto (-17), 3) := by decide +kernel
theorem dX0_join_35 : decode cX0_join 35 = .ok (.aload_n 0, 1) := by decide +kernel
theorem dX0_join_36 : decode cX0_join 36 = .ok (.iload_n 3, 1) := by decide +kernel
theorem dX0_join_37 : decode cX0_join 37 = .ok (.iconst 1, 1) := by decide +kernel
theorem dX0_join_38 : decode cX0_join 38 = .ok (.iadd, 1) := by decide +kernel
theorem dX0_join_39 : decode cX0_join 39 = .ok (.putfield 15, 3) := by decide +kernel
theorem dX0_join_42 : decode cX0_join 42 = .ok (.iload_n 3, 1) := by decide +kernel
theorem dX0_join_43 : decode cX0_join 43 = .ok (.ireturn, 1) := by decide +kernel
theorem dX0_wantOf_0 : decode cX0_wantOf 0 = .ok (.aload_n 0, 1) := by decide +kernel
theorem dX0_wantOf_1 : decode cX0_wantOf 1 = .ok (.getfield 43, 3) := by decide +kernel
theorem dX0_wantOf_4 : decode cX0_wantOf 4 = .ok (.iload_n 1, 1) := by decide +kernel
theorem dX0_wantOf_5 : decode cX0_wantOf 5 = .ok (.iconst 4, 1) := by decide +kernel
theorem dX0_wantOf_6 : decode cX0_wantOf 6 = .ok (.imul, 1) := by decide +kernel
theorem dX0_wantOf_7 : decode cX0_wantOf 7 = .ok (.iload_n 2, 1) := by decide +kernel
theorem dX0_wantOf_8 : decode cX0_wantOf 8 = .ok (.iadd, 1) := by decide +kernel
theorem dX0_wantOf_9 : decode cX0_wantOf 9 = .ok (.iaload, 1) := by decide +kernel
theorem dX0_wantOf_10 : decode cX0_wantOf 10 = .ok (.ireturn, 1) := by decide +kernel
theorem dX0_setWant_0 : decode cX0_setWant 0 = .ok (.aload_n 0, 1) := by decide +kernel
theorem dX0_setWant_1 : decode cX0_setWant 1 = .ok (.getfield 43, 3) := by decide +kernel
theorem dX0_setWant_4 : decode cX0_setWant 4 = .ok (.iload_n 1, 1) := by decide +kernel
theorem dX0_setWant_5 : decode cX0_setWant 5 = .ok (.iconst 4, 1) := by decide +kernel
theorem dX0_setWant_6 : decode cX0_setWant 6 = .ok (.imul, 1) := by decide +kernel
theorem dX0_setWant_7 : decode cX0_setWant 7 = .ok (.iload_n 2, 1) := by decide +kernel
theorem dX0_setWant_8 : decode cX0_setWant 8 = .ok (.iadd, 1) := by decide +kernel
theorem dX0_setWant_9 : decode cX0_setWant 9 = .ok (.iload_n 3, 1) := by decide +kernel
theorem dX0_setWant_10 : decode cX0_setWant 10 = .ok (.iastore, 1) := by decide +kernel
theorem dX0_setWant_11 : decode cX0_setWant 11 = .ok (.return_, 1) := by decide +kernel
theorem dX0_wantMore_0 : decode cX0_wantMore 0 = .ok (.aload_n 0, 1) := by decide +kernel
theorem dX0_wantMore_1 : decode cX0_wantMore 1 = .ok (.iload_n 1, 1) := by decide +kernel
theorem dX0_wantMore_2 : decode cX0_wantMore 2 = .ok (.iload_n 2, 1) := by decide +kernel
theorem dX0_wantMore_3 : decode cX0_wantMore 3 = .ok (.bipush 20, 2) := by decide +kernel
theorem dX0_wantMore_5 : decode cX0_wantMore 5 = .ok (.aload_n 0, 1) := by decide +kernel
theorem dX0_wantMore_6 : decode cX0_wantMore 6 = .ok (.iload_n 1, 1) := by decide +kernel
theorem dX0_wantMore_7 : decode cX0_wantMore 7 = .ok (.iload_n 2, 1) := by decide +kernel
theorem dX0_wantMore_8 : decode cX0_wantMore 8 = .ok (.invokevirtual 46, 3) := by decide +kernel
theorem dX0_wantMore_11 : decode cX0_wantMore 11 = .ok (.iload_n 3, 1) := by decide +kernel
theorem dX0_wantMore_12 : decode cX0_wantMore 12 = .ok (.iadd, 1) := by decide +kernel
theorem dX0_wantMore_13 : decode cX0_wantMore 13 = .ok (.invokestatic 50, 3) := by decide +kernel
theorem dX0_wantMore_16 : decode cX0_wantMore 16 = .ok (.invokevirtual 39, 3) := by decide +kernel
theorem dX0_wantMore_19 : decode cX0_wantMore 19 = .ok (.return_, 1) := by decide +kernel
theorem dX0_wantsOf_0 : decode cX0_wantsOf 0 = .ok (.iconst 0, 1) := by decide +kernel
theorem dX0_wantsOf_1 : decode cX0_wantsOf 1 = .ok (.istore_n 2, 1) := by decide +kernel
theorem dX0_wantsOf_2 : decode cX0_wantsOf 2 = .ok (.iconst 0, 1) := by decide +kernel
theorem dX0_wantsOf_3 : decode cX0_wantsOf 3 = .ok (.istore_n 3, 1) := by decide +kernel
theorem dX0_wantsOf_4 : decode cX0_wantsOf 4 = .ok (.iload_n 3, 1) := by decide +kernel
theorem dX0_wantsOf_5 : decode cX0_wantsOf 5 = .ok (.iconst 4, 1) := by decide +kernel
theorem dX0_wantsOf_6 : decode cX0_wantsOf 6 = .ok (.if_icmp .ge 18, 3) := by decide +kernel
theorem dX0_wantsOf_9 : decode cX0_wantsOf 9 = .ok (.iload_n 2, 1) := by decide +kernel
theorem dX0_wantsOf_10 : decode cX0_wantsOf 10 = .ok (.aload_n 0, 1) := by decide +kernel
theorem dX0_wantsOf_11 : decode cX0_wantsOf 11 = .ok (.iload_n 1, 1) := by decide +kernel
theorem dX0_wantsOf_12 : decode cX0_wantsOf 12 = .ok (.iload_n 3, 1) := by decide +kernel
theorem dX0_wantsOf_13 : decode cX0_wantsOf 13 = .ok (.invokevirtual 46, 3) := by decide +kernel
theorem dX0_wantsOf_16 : decode cX0_wantsOf 16 = .ok (.iadd, 1) := by decide +kernel
theorem dX0_wantsOf_17 : decode cX0_wantsOf 17 = .ok (.istore_n 2, 1) := by decide +kernel
theorem dX0_wantsOf_18 : decode cX0_wantsOf 18 = .ok (.iinc 3 1, 3) := by decide +kernel
theorem dX0_wantsOf_21 : decode cX0_wantsOf 21 = .ok (.goto (-17), 3) := by decide +kernel
theorem dX0_wantsOf_24 : decode cX0_wantsOf 24 = .ok (.iload_n 2, 1) := by decide +kernel
theorem dX0_wantsOf_25 : decode cX0_wantsOf 25 = .ok (.ireturn, 1) := by decide +kernel
theorem dX0_wantsOfAll_0 : decode cX0_wantsOfAll 0 = .ok (.iconst 0, 1) := by decide +kernel
theorem dX0_wantsOfAll_1 : decode cX0_wantsOfAll 1 = .ok (.istore_n 1, 1) := by decide +kernel
theorem dX0_wantsOfAll_2 : decode cX0_wantsOfAll 2 = .ok (.iconst 0, 1) := by decide +kernel
theorem dX0_wantsOfAll_3 : decode cX0_wantsOfAll 3 = .ok (.istore_n 2, 1) := by decide +kernel
theorem dX0_wantsOfAll_4 : decode cX0_wantsOfAll 4 = .ok (.iload_n 2, 1) := by decide +kernel
theorem dX0_wantsOfAll_5 : decode cX0_wantsOfAll 5 = .ok (.aload_n 0, 1) := by decide +kernel
theorem dX0_wantsOfAll_6 : decode cX0_wantsOfAll 6 = .ok (.getfield 15, 3) := by decide +kernel
theorem dX0_wantsOfAll_9 : decode cX0_wantsOfAll 9 = .ok (.if_icmp .ge 17, 3) := by decide +kernel
theorem dX0_wantsOfAll_12 : decode cX0_wantsOfAll 12 = .ok (.iload_n 1, 1) := by decide +kernel
theorem dX0_wantsOfAll_13 : decode cX0_wantsOfAll 13 = .ok (.aload_n 0, 1) := by decide +kernel
theorem dX0_wantsOfAll_14 : decode cX0_wantsOfAll 14 = .ok (.iload_n 2, 1) := by decide +kernel
theorem dX0_wantsOfAll_15 : decode cX0_wantsOfAll 15 = .ok (.invokevirtual 55, 3) := by decide +kernel
theorem dX0_wantsOfAll_18 : decode cX0_wantsOfAll 18 = .ok (.iadd, 1) := by decide +kernel
theorem dX0_wantsOfAll_19 : decode cX0_wantsOfAll 19 = .ok (.istore_n 1, 1) := by decide +kernel
theorem dX0_wantsOfAll_20 : decode cX0_wantsOfAll 20 = .ok (.iinc 2 1, 3) := by decide +kernel
theorem dX0_wantsOfAll_23 : decode cX0_wantsOfAll 23 = .ok (.goto (-19), 3) := by decide +kernel
theorem dX0_wantsOfAll_26 : decode cX0_wantsOfAll 26 = .ok (.iload_n 1, 1) := by decide +kernel
theorem dX0_wantsOfAll_27 : decode cX0_wantsOfAll 27 = .ok (.ireturn, 1) := by decide +kernel
theorem dX0_keysOf_0 : decode cX0_keysOf 0 = .ok (.iconst 0, 1) := by decide +kernel
theorem dX0_keysOf_1 : decode cX0_keysOf 1 = .ok (.istore_n 2, 1) := by decide +kernel
theorem dX0_keysOf_2 : decode cX0_keysOf 2 = .ok (.iconst 0, 1) := by decide +kernel
theorem dX0_keysOf_3 : decode cX0_keysOf 3 = .ok (.istore_n 3, 1) := by decide +kernel
theorem dX0_keysOf_4 : decode cX0_keysOf 4 = .ok (.iload_n 3, 1) := by decide +kernel
theorem dX0_keysOf_5 : decode cX0_keysOf 5 = .ok (.iconst 4, 1) := by decide +kernel
theorem dX0_keysOf_6 : decode cX0_keysOf 6 = .ok (.if_icmp .ge 25, 3) := by decide +kernel
theorem dX0_keysOf_9 : decode cX0_keysOf 9 = .ok (.aload_n 0, 1) := by decide +kernel
theorem dX0_keysOf_10 : decode cX0_keysOf 10 = .ok (.getfield 59, 3) := by decide +kernel
theorem dX0_keysOf_13 : decode cX0_keysOf 13 = .ok (.iload_n 3, 1) := by decide +kernel
theorem dX0_keysOf_14 : decode cX0_keysOf 14 = .ok (.iaload, 1) := by decide +kernel
theorem dX0_keysOf_15 : decode cX0_keysOf 15 = .ok (.iload_n 1, 1) := by decide +kernel
theorem dX0_keysOf_16 : decode cX0_keysOf 16 = .ok (.if_icmp .ne 9, 3) := by decide +kernel
theorem dX0_keysOf_19 : decode cX0_keysOf 19 = .ok (.iload_n 2, 1) := by decide +kernel
theorem dX0_keysOf_20 : decode cX0_keysOf 20 = .ok (.iconst 1, 1) := by decide +kernel
theorem dX0_keysOf_21 : decode cX0_keysOf 21 = .ok (.iload_n 3, 1) := by decide +kernel
theorem dX0_keysOf_22 : decode cX0_keysOf 22 = .ok (.ishl, 1) := by decide +kernel
theorem dX0_keysOf_23 : decode cX0_keysOf 23 = .ok (.ior, 1) := by decide +kernel
theorem dX0_keysOf_24 : decode cX0_keysOf 24 = .ok (.istore_n 2, 1) := by decide +kernel
theorem dX0_keysOf_25 : decode cX0_keysOf 25 = .ok (.iinc 3 1, 3) := by decide +kernel
theorem dX0_keysOf_28 : decode cX0_keysOf 28 = .ok (.goto (-24), 3) := by decide +kernel
theorem dX0_keysOf_31 : decode cX0_keysOf 31 = .ok (.iload_n 2, 1) := by decide +kernel
theorem dX0_keysOf_32 : decode cX0_keysOf 32 = .ok (.ireturn, 1) := by decide +kernel
theorem dX0_nails_0 : decode cX0_nails 0 = .ok (.aload_n 0, 1) := by decide +kernel
theorem dX0_nails_1 : decode cX0_nails 1 = .ok (.bipush (-4), 2) := by decide +kernel
theorem dX0_nails_3 : decode cX0_nails 3 = .ok (.invokevirtual 62, 3) := by decide +kernel
theorem dX0_nails_6 : decode cX0_nails 6 = .ok (.ireturn, 1) := by decide +kernel
theorem dX0_keeperAsSet_0 : decode cX0_keeperAsSet 0 = .ok (.aload_n 0, 1) := by decide +kernel
theorem dX0_keeperAsSet_1 : decode cX0_keeperAsSet 1 = .ok (.getfield 59, 3) := by decide +kernel
theorem dX0_keeperAsSet_4 : decode cX0_keeperAsSet 4 = .ok (.iload_n 1, 1) := by decide +kernel
theorem dX0_keeperAsSet_5 : decode cX0_keeperAsSet 5 = .ok (.iaload, 1) := by decide +kernel
theorem dX0_keeperAsSet_6 : decode cX0_keeperAsSet 6 = .ok (.bipush (-4), 2) := by decide +kernel
theorem dX0_keeperAsSet_8 : decode cX0_keeperAsSet 8 = .ok (.if_icmp .ne 7, 3) := by decide +kernel
theorem dX0_keeperAsSet_11 : decode cX0_keeperAsSet 11 = .ok (.iconst 0, 1) := by decide +kernel
theorem dX0_keeperAsSet_12 : decode cX0_keeperAsSet 12 = .ok (.goto 11, 3) := by decide +kernel
theorem dX0_keeperAsSet_15 : decode cX0_keeperAsSet 15 = .ok (.iconst 1, 1) := by decide +kernel
theorem dX0_keeperAsSet_16 : decode cX0_keeperAsSet 16 = .ok (.aload_n 0, 1) := by decide +kernel
theorem dX0_keeperAsSet_17 : decode cX0_keeperAsSet 17 = .ok (.getfield 59, 3) := by decide +kernel
theorem dX0_keeperAsSet_20 : decode cX0_keeperAsSet 20 = .ok (.iload_n 1, 1) := by decide +kernel
theorem dX0_keeperAsSet_21 : decode cX0_keeperAsSet 21 = .ok (.iaload, 1) := by decide +kernel
theorem dX0_keeperAsSet_22 : decode cX0_keeperAsSet 22 = .ok (.ishl, 1) := by decide +kernel
theorem dX0_keeperAsSet_23 : decode cX0_keeperAsSet 23 = .ok (.ireturn, 1) := by decide +kernel
theorem dX0_keepersOfAny_0 : decode cX0_keepersOfAny 0 = .ok (.iconst 0, 1) := by decide +kernel
theorem dX0_keepersOfAny_1 : decode cX0_keepersOfAny 1 = .ok (.istore_n 1, 1) := by decide +kernel
theorem dX0_keepersOfAny_2 : decode cX0_keepersOfAny 2 = .ok (.iconst 0, 1) := by decide +kernel
theorem dX0_keepersOfAny_3 : decode cX0_keepersOfAny 3 = .ok (.istore_n 2, 1) := by decide +kernel
theorem dX0_keepersOfAny_4 : decode cX0_keepersOfAny 4 = .ok (.iload_n 2, 1) := by decide +kernel
theorem dX0_keepersOfAny_5 : decode cX0_keepersOfAny 5 = .ok (.iconst 4, 1) := by decide +kernel
theorem dX0_keepersOfAny_6 : decode cX0_keepersOfAny 6 = .ok (.if_icmp .ge 17, 3) := by decide +kernel
theorem dX0_keepersOfAny_9 : decode cX0_keepersOfAny 9 = .ok (.iload_n 1, 1) := by decide +kernel
theorem dX0_keepersOfAny_10 : decode cX0_keepersOfAny 10 = .ok (.aload_n 0, 1) := by decide +kernel
theorem dX0_keepersOfAny_11 : decode cX0_keepersOfAny 11 = .ok (.iload_n 2, 1) := by decide +kernel
theorem dX0_keepersOfAny_12 : decode cX0_keepersOfAny 12 = .ok (.invokevirtual 65, 3) := by decide +kernel
theorem dX0_keepersOfAny_15 : decode cX0_keepersOfAny 15 = .ok (.ior, 1) := by decide +kernel
theorem dX0_keepersOfAny_16 : decode cX0_keepersOfAny 16 = .ok (.istore_n 1, 1) := by decide +kernel
theorem dX0_keepersOfAny_17 : decode cX0_keepersOfAny 17 = .ok (.iinc 2 1, 3) := by decide +kernel
theorem dX0_keepersOfAny_20 : decode cX0_keepersOfAny 20 = .ok (.goto (-16), 3) := by decide +kernel
theorem dX0_keepersOfAny_23 : decode cX0_keepersOfAny 23 = .ok (.iload_n 1, 1) := by decide +kernel
theorem dX0_keepersOfAny_24 : decode cX0_keepersOfAny 24 = .ok (.ireturn, 1) := by decide +kernel
theorem dX0_least_0 : decode cX0_least 0 = .ok (.bipush (-4), 2) := by decide +kernel
theorem dX0_least_2 : decode cX0_least 2 = .ok (.istore_n 2, 1) := by decide +kernel
theorem dX0_least_3 : decode cX0_least 3 = .ok (.bipush 21, 2) := by decide +kernel
theorem dX0_least_5 : decode cX0_least 5 = .ok (.istore_n 3, 1) := by decide +kernel
theorem dX0_least_6 : decode cX0_least 6 = .ok (.iconst 0, 1) := by decide +kernel
theorem dX0_least_7 : decode cX0_least 7 = .ok (.istore 4, 2) := by decide +kernel
theorem dX0_least_9 : decode cX0_least 9 = .ok (.iload 4, 2) := by decide +kernel
theorem dX0_least_11 : decode cX0_least 11 = .ok (.aload_n 0, 1) := by decide +kernel
theorem dX0_least_12 : decode cX0_least 12 = .ok (.getfield 15, 3) := by decide +kernel
theorem dX0_least_15 : decode cX0_least 15 = .ok (.if_icmp .ge 31, 3) := by decide +kernel
theorem dX0_least_18 : decode cX0_least 18 = .ok (.aload_n 0, 1) := by decide +kernel
theorem dX0_least_19 : decode cX0_least 19 = .ok (.iload 4, 2) := by decide +kernel
theorem dX0_least_21 : decode cX0_least 21 = .ok (.iload_n 1, 1) := by decide +kernel
theorem dX0_least_22 : decode cX0_least 22 = .ok (.invokevirtual 46, 3) := by decide +kernel
theorem dX0_least_25 : decode cX0_least 25 = .ok (.iload_n 3, 1) := by decide +kernel
theorem dX0_least_26 : decode cX0_least 26 = .ok (.if_icmp .ge 14, 3) := by decide +kernel
theorem dX0_least_29 : decode cX0_least 29 = .ok (.aload_n 0, 1) := by decide +kernel
theorem dX0_least_30 : decode cX0_least 30 = .ok (.iload 4, 2) := by decide +kernel
theorem dX0_least_32 : decode cX0_least 32 = .ok (.iload_n 1, 1) := by decide +kernel
theorem dX0_least_33 : decode cX0_least 33 = .ok (.invokevirtual 46, 3) := by decide +kernel
theorem dX0_least_36 : decode cX0_least 36 = .ok (.istore_n 3, 1) := by decide +kernel
theorem dX0_least_37 : decode cX0_least 37 = .ok (.iload 4, 2) := by decide +kernel
theorem dX0_least_39 : decode cX0_least 39 = .ok (.istore_n 2, 1) := by decide +kernel
theorem dX0_least_40 : decode cX0_least 40 = .ok (.iinc 4 1, 3) := by decide +kernel
theorem dX0_least_43 : decode cX0_least 43 = .ok (.goto (-34), 3) := by decide +kernel
theorem dX0_least_46 : decode cX0_least 46 = .ok (.iload_n 2, 1) := by decide +kernel
theorem dX0_least_47 : decode cX0_least 47 = .ok (.ireturn, 1) := by decide +kernel
theorem dX0_growth_0 : decode cX0_growth 0 = .ok (.aload_n 0, 1) := by decide +kernel
theorem dX0_growth_1 : decode cX0_growth 1 = .ok (.getfield 59, 3) := by decide +kernel
theorem dX0_growth_4 : decode cX0_growth 4 = .ok (.iload_n 1, 1) := by decide +kernel
theorem dX0_growth_5 : decode cX0_growth 5 = .ok (.iaload, 1) := by decide +kernel
theorem dX0_growth_6 : decode cX0_growth 6 = .ok (.istore_n 2, 1) := by decide +kernel
theorem dX0_growth_7 : decode cX0_growth 7 = .ok (.iload_n 2, 1) := by decide +kernel
theorem dX0_growth_8 : decode cX0_growth 8 = .ok (.bipush (-4), 2) := by decide +kernel
theorem dX0_growth_10 : decode cX0_growth 10 = .ok (.if_icmp .ne 5, 3) := by decide +kernel
theorem dX0_growth_13 : decode cX0_growth 13 = .ok (.iconst 0, 1) := by decide +kernel
theorem dX0_growth_14 : decode cX0_growth 14 = .ok (.ireturn, 1) := by decide +kernel
theorem dX0_growth_15 : decode cX0_growth 15 = .ok (.aload_n 0, 1) := by decide +kernel
theorem dX0_growth_16 : decode cX0_growth 16 = .ok (.getfield 9, 3) := by decide +kernel
theorem dX0_growth_19 : decode cX0_growth 19 = .ok (.iload_n 2, 1) := by decide +kernel
theorem dX0_growth_20 : decode cX0_growth 20 = .ok (.iaload, 1) := by decide +kernel
theorem dX0_growth_21 : decode cX0_growth 21 = .ok (.tableswitch 70 1 4 #[31, 37, 42, 50], 31) := by decide +kernel
theorem dX0_growth_52 : decode cX0_growth 52 = .ok (.aload_n 0, 1) := by decide +kernel
theorem dX0_growth_53 : decode cX0_growth 53 = .ok (.iload_n 2, 1) := by decide +kernel
theorem dX0_growth_54 : decode cX0_growth 54 = .ok (.invokevirtual 68, 3) := by decide +kernel
theorem dX0_growth_57 : decode cX0_growth 57 = .ok (.ireturn, 1) := by decide +kernel
theorem dX0_growth_58 : decode cX0_growth 58 = .ok (.aload_n 0, 1) := by decide +kernel
theorem dX0_growth_59 : decode cX0_growth 59 = .ok (.invokevirtual 71, 3) := by decide +kernel
theorem dX0_growth_62 : decode cX0_growth 62 = .ok (.ireturn, 1) := by decide +kernel
theorem dX0_growth_63 : decode cX0_growth 63 = .ok (.iconst 2, 1) := by decide +kernel
theorem dX0_growth_64 : decode cX0_growth 64 = .ok (.aload_n 0, 1) := by decide +kernel
theorem dX0_growth_65 : decode cX0_growth 65 = .ok (.iload_n 2, 1) := by decide +kernel
theorem dX0_growth_66 : decode cX0_growth 66 = .ok (.invokevirtual 68, 3) := by decide +kernel
theorem dX0_growth_69 : decode cX0_growth 69 = .ok (.imul, 1) := by decide +kernel
theorem dX0_growth_70 : decode cX0_growth 70 = .ok (.ireturn, 1) := by decide +kernel
theorem dX0_growth_71 : decode cX0_growth 71 = .ok (.aload_n 0, 1) := by decide +kernel
theorem dX0_growth_72 : decode cX0_growth 72 = .ok (.iload_n 2, 1) := by decide +kernel
theorem dX0_growth_73 : decode cX0_growth 73 = .ok (.iload_n 1, 1) := by decide +kernel
theorem dX0_growth_74 : decode cX0_growth 74 = .ok (.invokevirtual 46, 3) := by decide +kernel
theorem dX0_growth_77 : decode cX0_growth 77 = .ok (.bipush 9, 2) := by decide +kernel
theorem dX0_growth_79 : decode cX0_growth 79 = .ok (.if_icmp .lt 7, 3) := by decide +kernel
theorem dX0_growth_82 : decode cX0_growth 82 = .ok (.iconst 0, 1) := by decide +kernel
theorem dX0_growth_83 : decode cX0_growth 83 = .ok (.goto 7, 3) := by decide +kernel
theorem dX0_growth_86 : decode cX0_growth 86 = .ok (.aload_n 0, 1) := by decide +kernel
theorem dX0_growth_87 : decode cX0_growth 87 = .ok (.invokevirtual 71, 3) := by decide +kernel
theorem dX0_growth_90 : decode cX0_growth 90 = .ok (.ireturn, 1) := by decide +kernel
theorem dX0_growth_91 : decode cX0_growth 91 = .ok (.iconst 1, 1) := by decide +kernel
theorem dX0_growth_92 : decode cX0_growth 92 = .ok (.ireturn, 1) := by decide +kernel
theorem dX0_curiosity_0 : decode cX0_curiosity 0 = .ok (.aload_n 0, 1) := by decide +kernel
theorem dX0_curiosity_1 : decode cX0_curiosity 1 = .ok (.iload_n 1, 1) := by decide +kernel
theorem dX0_curiosity_2 : decode cX0_curiosity 2 = .ok (.invokevirtual 62, 3) := by decide +kernel
theorem dX0_curiosity_5 : decode cX0_curiosity 5 = .ok (.invokestatic 75, 3) := by decide +kernel
theorem dX0_curiosity_8 : decode cX0_curiosity 8 = .ok (.ireturn, 1) := by decide +kernel
theorem dX0_warmth_0 : decode cX0_warmth 0 = .ok (.aload_n 0, 1) := by decide +kernel
theorem dX0_warmth_1 : decode cX0_warmth 1 = .ok (.getfield 80, 3) := by decide +kernel
theorem dX0_warmth_4 : decode cX0_warmth 4 = .ok (.iconst 2, 1) := by decide +kernel
theorem dX0_warmth_5 : decode cX0_warmth 5 = .ok (.irem, 1) := by decide +kernel
theorem dX0_warmth_6 : decode cX0_warmth 6 = .ok (.ifCond .ne 7, 3) := by decide +kernel
theorem dX0_warmth_9 : decode cX0_warmth 9 = .ok (.iconst 1, 1) := by decide +kernel
theorem dX0_warmth_10 : decode cX0_warmth 10 = .ok (.goto 4, 3) := by decide +kernel
theorem dX0_warmth_13 : decode cX0_warmth 13 = .ok (.iconst 0, 1) := by decide +kernel
theorem dX0_warmth_14 : decode cX0_warmth 14 = .ok (.ireturn, 1) := by decide +kernel
theorem dX0_passDays_0 : decode cX0_passDays 0 = .ok (.iconst 0, 1) := by decide +kernel
theorem dX0_passDays_1 : decode cX0_passDays 1 = .ok (.istore_n 2, 1) := by decide +kernel
theorem dX0_passDays_2 : decode cX0_passDays 2 = .ok (.iload_n 2, 1) := by decide +kernel
theorem dX0_passDays_3 : decode cX0_passDays 3 = .ok (.iload_n 1, 1) := by decide +kernel
theorem dX0_passDays_4 : decode cX0_passDays 4 = .ok (.if_icmp .ge 13, 3) := by decide +kernel
theorem dX0_passDays_7 : decode cX0_passDays 7 = .ok (.aload_n 0, 1) := by decide +kernel
theorem dX0_passDays_8 : decode cX0_passDays 8 = .ok (.invokevirtual 83, 3) := by decide +kernel
theorem dX0_passDays_11 : decode cX0_passDays 11 = .ok (.iinc 2 1, 3) := by decide +kernel
theorem dX0_passDays_14 : decode cX0_passDays 14 = .ok (.goto (-12), 3) := by decide +kernel
theorem dX0_passDays_17 : decode cX0_passDays 17 = .ok (.return_, 1) := by decide +kernel
theorem dX0_passDay_0 : decode cX0_passDay 0 = .ok (.iconst 0, 1) := by decide +kernel
theorem dX0_passDay_1 : decode cX0_passDay 1 = .ok (.istore_n 1, 1) := by decide +kernel
theorem dX0_passDay_2 : decode cX0_passDay 2 = .ok (.iload_n 1, 1) := by decide +kernel
theorem dX0_passDay_3 : decode cX0_passDay 3 = .ok (.iconst 4, 1) := by decide +kernel
theorem dX0_passDay_4 : decode cX0_passDay 4 = .ok (.if_icmp .ge 36, 3) := by decide +kernel
theorem dX0_passDay_7 : decode cX0_passDay 7 = .ok (.aload_n 0, 1) := by decide +kernel
theorem dX0_passDay_8 : decode cX0_passDay 8 = .ok (.getfield 59, 3) := by decide +kernel
theorem dX0_passDay_11 : decode cX0_passDay 11 = .ok (.iload_n 1, 1) := by decide +kernel
theorem dX0_passDay_12 : decode cX0_passDay 12 = .ok (.iaload, 1) := by decide +kernel
theorem dX0_passDay_13 : decode cX0_passDay 13 = .ok (.bipush (-4), 2) := by decide +kernel
theorem dX0_passDay_15 : decode cX0_passDay 15 = .ok (.if_icmp .eq 19, 3) := by decide +kernel
theorem dX0_passDay_18 : decode cX0_passDay 18 = .ok (.aload_n 0, 1) := by decide +kernel
theorem dX0_passDay_19 : decode cX0_passDay 19 = .ok (.aload_n 0, 1) := by decide +kernel
theorem dX0_passDay_20 : decode cX0_passDay 20 = .ok (.getfield 59, 3) := by decide +kernel
theorem dX0_passDay_23 : decode cX0_passDay 23 = .ok (.iload_n 1, 1) := by decide +kernel
theorem dX0_passDay_24 : decode cX0_passDay 24 = .ok (.iaload, 1) := by decide +kernel
theorem dX0_passDay_25 : decode cX0_passDay 25 = .ok (.iload_n 1, 1) := by decide +kernel
theorem dX0_passDay_26 : decode cX0_passDay 26 = .ok (.aload_n 0, 1) := by decide +kernel
theorem dX0_passDay_27 : decode cX0_passDay 27 = .ok (.iload_n 1, 1) := by decide +kernel
theorem dX0_passDay_28 : decode cX0_passDay 28 = .ok (.invokevirtual 86, 3) := by decide +kernel
theorem dX0_passDay_31 : decode cX0_passDay 31 = .ok (.invokevirtual 89, 3) := by decide +kernel
theorem dX0_passDay_34 : decode cX0_passDay 34 = .ok (.iinc 1 1, 3) := by decide +kernel
theorem dX0_passDay_37 : decode cX0_passDay 37 = .ok (.goto (-35), 3) := by decide +kernel
theorem dX0_passDay_40 : decode cX0_passDay 40 = .ok (.aload_n 0, 1) := by decide +kernel
theorem dX0_passDay_41 : decode cX0_passDay 41 = .ok (.iconst 0, 1) := by decide +kernel
theorem dX0_passDay_42 : decode cX0_passDay 42 = .ok (.putfield 22, 3) := by decide +kernel
theorem dX0_passDay_45 : decode cX0_passDay 45 = .ok (.iconst 0, 1) := by decide +kernel
theorem dX0_passDay_46 : decode cX0_passDay 46 = .ok (.istore_n 1, 1) := by decide +kernel
theorem dX0_passDay_47 : decode cX0_passDay 47 = .ok (.iload_n 1, 1) := by decide +kernel
theorem dX0_passDay_48 : decode cX0_passDay 48 = .ok (.iconst 4, 1) := by decide +kernel
theorem dX0_passDay_49 : decode cX0_passDay 49 = .ok (.if_icmp .ge 25, 3) := by decide +kernel
theorem dX0_passDay_52 : decode cX0_passDay 52 = .ok (.aload_n 0, 1) := by decide +kernel
theorem dX0_passDay_53 : decode cX0_passDay 53 = .ok (.getfield 59, 3) := by decide +kernel
theorem dX0_passDay_56 : decode cX0_passDay 56 = .ok (.iload_n 1, 1) := by decide +kernel
theorem dX0_passDay_57 : decode cX0_passDay 57 = .ok (.iaload, 1) := by decide +kernel
theorem dX0_passDay_58 : decode cX0_passDay 58 = .ok (.bipush (-4), 2) := by decide +kernel
theorem dX0_passDay_60 : decode cX0_passDay 60 = .ok (.if_icmp .eq 8, 3) := by decide +kernel
theorem dX0_passDay_63 : decode cX0_passDay 63 = .ok (.aload_n 0, 1) := by decide +kernel
theorem dX0_passDay_64 : decode cX0_passDay 64 = .ok (.iload_n 1, 1) := by decide +kernel
theorem dX0_passDay_65 : decode cX0_passDay 65 = .ok (.invokevirtual 92, 3) := by decide +kernel
theorem dX0_passDay_68 : decode cX0_passDay 68 = .ok (.iinc 1 1, 3) := by decide +kernel
theorem dX0_passDay_71 : decode cX0_passDay 71 = .ok (.goto (-24), 3) := by decide +kernel
theorem dX0_passDay_74 : decode cX0_passDay 74 = .ok (.aload_n 0, 1) := by decide +kernel
theorem dX0_passDay_75 : decode cX0_passDay 75 = .ok (.dup, 1) := by decide +kernel
theorem dX0_passDay_76 : decode cX0_passDay 76 = .ok (.getfield 80, 3) := by decide +kernel
theorem dX0_passDay_79 : decode cX0_passDay 79 = .ok (.iconst 1, 1) := by decide +kernel
theorem dX0_passDay_80 : decode cX0_passDay 80 = .ok (.iadd, 1) := by decide +kernel
theorem dX0_passDay_81 : decode cX0_passDay 81 = .ok (.putfield 80, 3) := by decide +kernel
theorem dX0_passDay_84 : decode cX0_passDay 84 = .ok (.return_, 1) := by decide +kernel
theorem dX0_testKeeper_0 : decode cX0_testKeeper 0 = .ok (.aload_n 0, 1) := by decide +kernel
theorem dX0_testKeeper_1 : decode cX0_testKeeper 1 = .ok (.getfield 59, 3) := by decide +kernel
theorem dX0_testKeeper_4 : decode cX0_testKeeper 4 = .ok (.iload_n 1, 1) := by decide +kernel
theorem dX0_testKeeper_5 : decode cX0_testKeeper 5 = .ok (.iaload, 1) := by decide +kernel
theorem dX0_testKeeper_6 : decode cX0_testKeeper 6 = .ok (.istore_n 2, 1) := by decide +kernel
theorem dX0_testKeeper_7 : decode cX0_testKeeper 7 = .ok (.aload_n 0, 1) := by decide +kernel
theorem dX0_testKeeper_8 : decode cX0_testKeeper 8 = .ok (.iload_n 2, 1) := by decide +kernel
theorem dX0_testKeeper_9 : decode cX0_testKeeper 9 = .ok (.iload_n 1, 1) := by decide +kernel
theorem dX0_testKeeper_10 : decode cX0_testKeeper 10 = .ok (.invokevirtual 46, 3) := by decide +kernel
theorem dX0_testKeeper_13 : decode cX0_testKeeper 13 = .ok (.istore_n 3, 1) := by decide +kernel
theorem dX0_testKeeper_14 : decode cX0_testKeeper 14 = .ok (.iload_n 3, 1) := by decide +kernel
theorem dX0_testKeeper_15 : decode cX0_testKeeper 15 = .ok (.aload_n 0, 1) := by decide +kernel
theorem dX0_testKeeper_16 : decode cX0_testKeeper 16 = .ok (.getfield 19, 3) := by decide +kernel
theorem dX0_testKeeper_19 : decode cX0_testKeeper 19 = .ok (.iconst 4, 1) := by decide +kernel
theorem dX0_testKeeper_20 : decode cX0_testKeeper 20 = .ok (.iadd, 1) := by decide +kernel
theorem dX0_testKeeper_21 : decode cX0_testKeeper 21 = .ok (.if_icmp .lt 35, 3) := by decide +kernel
theorem dX0_testKeeper_24 : decode cX0_testKeeper 24 = .ok (.aload_n 0, 1) := by decide +kernel
theorem dX0_testKeeper_25 : decode cX0_testKeeper 25 = .ok (.dup, 1) := by decide +kernel
theorem dX0_testKeeper_26 : decode cX0_testKeeper 26 = .ok (.getfield 96, 3) := by decide +kernel
theorem dX0_testKeeper_29 : decode cX0_testKeeper 29 = .ok (.iconst 1, 1) := by decide +kernel
theorem dX0_testKeeper_30 : decode cX0_testKeeper 30 = .ok (.iadd, 1) := by decide +kernel
theorem dX0_testKeeper_31 : decode cX0_testKeeper 31 = .ok (.putfield 96, 3) := by decide +kernel
theorem dX0_testKeeper_34 : decode cX0_testKeeper 34 = .ok (.aload_n 0, 1) := by decide +kernel
theorem dX0_testKeeper_35 : decode cX0_testKeeper 35 = .ok (.dup, 1) := by decide +kernel
theorem dX0_testKeeper_36 : decode cX0_testKeeper 36 = .ok (.getfield 22, 3) := by decide +kernel
theorem dX0_testKeeper_39 : decode cX0_testKeeper 39 = .ok (.iconst 1, 1) := by decide +kernel
theorem dX0_testKeeper_40 : decode cX0_testKeeper 40 = .ok (.iload_n 1, 1) := by decide +kernel
theorem dX0_testKeeper_41 : decode cX0_testKeeper 41 = .ok (.ishl, 1) := by decide +kernel
theorem dX0_testKeeper_42 : decode cX0_testKeeper 42 = .ok (.ior, 1) := by decide +kernel
theorem dX0_testKeeper_43 : decode cX0_testKeeper 43 = .ok (.putfield 22, 3) := by decide +kernel
theorem dX0_testKeeper_46 : decode cX0_testKeeper 46 = .ok (.aload_n 0, 1) := by decide +kernel
theorem dX0_testKeeper_47 : decode cX0_testKeeper 47 = .ok (.iload_n 2, 1) := by decide +kernel
theorem dX0_testKeeper_48 : decode cX0_testKeeper 48 = .ok (.iload_n 1, 1) := by decide +kernel
theorem dX0_testKeeper_49 : decode cX0_testKeeper 49 = .ok (.iconst 0, 1) := by decide +kernel
theorem dX0_testKeeper_50 : decode cX0_testKeeper 50 = .ok (.invokevirtual 39, 3) := by decide +kernel
theorem dX0_testKeeper_53 : decode cX0_testKeeper 53 = .ok (.goto 22, 3) := by decide +kernel
theorem dX0_testKeeper_56 : decode cX0_testKeeper 56 = .ok (.iload_n 3, 1) := by decide +kernel
theorem dX0_testKeeper_57 : decode cX0_testKeeper 57 = .ok (.aload_n 0, 1) := by decide +kernel
theorem dX0_testKeeper_58 : decode cX0_testKeeper 58 = .ok (.getfield 19, 3) := by decide +kernel
theorem dX0_testKeeper_61 : decode cX0_testKeeper 61 = .ok (.if_icmp .lt 14, 3) := by decide +kernel
theorem dX0_testKeeper_64 : decode cX0_testKeeper 64 = .ok (.aload_n 0, 1) := by decide +kernel
theorem dX0_testKeeper_65 : decode cX0_testKeeper 65 = .ok (.getfield 59, 3) := by decide +kernel
theorem dX0_testKeeper_68 : decode cX0_testKeeper 68 = .ok (.iload_n 1, 1) := by decide +kernel
theorem dX0_testKeeper_69 : decode cX0_testKeeper 69 = .ok (.aload_n 0, 1) := by decide +kernel
theorem dX0_testKeeper_70 : decode cX0_testKeeper 70 = .ok (.iload_n 1, 1) := by decide +kernel
theorem dX0_testKeeper_71 : decode cX0_testKeeper 71 = .ok (.invokevirtual 99, 3) := by decide +kernel
theorem dX0_testKeeper_74 : decode cX0_testKeeper 74 = .ok (.iastore, 1) := by decide +kernel
theorem dX0_testKeeper_75 : decode cX0_testKeeper 75 = .ok (.return_, 1) := by decide +kernel
theorem dX0_wasGone_0 : decode cX0_wasGone 0 = .ok (.aload_n 0, 1) := by decide +kernel
theorem dX0_wasGone_1 : decode cX0_wasGone 1 = .ok (.getfield 22, 3) := by decide +kernel
theorem dX0_wasGone_4 : decode cX0_wasGone 4 = .ok (.iload_n 1, 1) := by decide +kernel
theorem dX0_wasGone_5 : decode cX0_wasGone 5 = .ok (.ishr, 1) := by decide +kernel
theorem dX0_wasGone_6 : decode cX0_wasGone 6 = .ok (.iconst 1, 1) := by decide +kernel
theorem dX0_wasGone_7 : decode cX0_wasGone 7 = .ok (.iand, 1) := by decide +kernel
theorem dX0_wasGone_8 : decode cX0_wasGone 8 = .ok (.ifCond .eq 7, 3) := by decide +kernel
theorem dX0_wasGone_11 : decode cX0_wasGone 11 = .ok (.iconst 1, 1) := by decide +kernel
theorem dX0_wasGone_12 : decode cX0_wasGone 12 = .ok (.goto 4, 3) := by decide +kernel
theorem dX0_wasGone_15 : decode cX0_wasGone 15 = .ok (.iconst 0, 1) := by decide +kernel
theorem dX0_wasGone_16 : decode cX0_wasGone 16 = .ok (.ireturn, 1) := by decide +kernel
theorem dX0_firstGone_0 : decode cX0_firstGone 0 = .ok (.iconst 1, 1) := by decide +kernel
theorem dX0_firstGone_1 : decode cX0_firstGone 1 = .ok (.istore_n 3, 1) := by decide +kernel
theorem dX0_firstGone_2 : decode cX0_firstGone 2 = .ok (.iload_n 3, 1) := by decide +kernel
theorem dX0_firstGone_3 : decode cX0_firstGone 3 = .ok (.iload_n 2, 1) := by decide +kernel
theorem dX0_firstGone_4 : decode cX0_firstGone 4 = .ok (.if_icmp .gt 23, 3) := by decide +kernel
theorem dX0_firstGone_7 : decode cX0_firstGone 7 = .ok (.aload_n 0, 1) := by decide +kernel
theorem dX0_firstGone_8 : decode cX0_firstGone 8 = .ok (.invokevirtual 83, 3) := by decide +kernel
theorem dX0_firstGone_11 : decode cX0_firstGone 11 = .ok (.aload_n 0, 1) := by decide +kernel
theorem dX0_firstGone_12 : decode cX0_firstGone 12 = .ok (.iload_n 1, 1) := by decide +kernel
theorem dX0_firstGone_13 : decode cX0_firstGone 13 = .ok (.invokevirtual 102, 3) := by decide +kernel
theorem dX0_firstGone_16 : decode cX0_firstGone 16 = .ok (.ifCond .eq 5, 3) := by decide +kernel
theorem dX0_firstGone_19 : decode cX0_firstGone 19 = .ok (.iload_n 3, 1) := by decide +kernel
theorem dX0_firstGone_20 : decode cX0_firstGone 20 = .ok (.ireturn, 1) := by decide +kernel
theorem dX0_firstGone_21 : decode cX0_firstGone 21 = .ok (.iinc 3 1, 3) := by decide +kernel
theorem dX0_firstGone_24 : decode cX0_firstGone 24 = .ok (.goto (-22), 3) := by decide +kernel
theorem dX0_firstGone_27 : decode cX0_firstGone 27 = .ok (.bipush (-4), 2) := by decide +kernel
theorem dX0_firstGone_29 : decode cX0_firstGone 29 = .ok (.ireturn, 1) := by decide +kernel
theorem dX0_drawTalk_0 : decode cX0_drawTalk 0 = .ok (.aload_n 0, 1) := by decide +kernel
theorem dX0_drawTalk_1 : decode cX0_drawTalk 1 = .ok (.aload_n 0, 1) := by decide +kernel
theorem dX0_drawTalk_2 : decode cX0_drawTalk 2 = .ok (.getfield 106, 3) := by decide +kernel
theorem dX0_drawTalk_5 : decode cX0_drawTalk 5 = .ok (.i2l, 1) := by decide +kernel
theorem dX0_drawTalk_6 : decode cX0_drawTalk 6 = .ok (.ldc2_w 109, 3) := by decide +kernel
theorem dX0_drawTalk_9 : decode cX0_drawTalk 9 = .ok (.lmul, 1) := by decide +kernel
theorem dX0_drawTalk_10 : decode cX0_drawTalk 10 = .ok (.ldc2_w 111, 3) := by decide +kernel
theorem dX0_drawTalk_13 : decode cX0_drawTalk 13 = .ok (.ladd, 1) := by decide +kernel
theorem dX0_drawTalk_14 : decode cX0_drawTalk 14 = .ok (.ldc2_w 113, 3) := by decide +kernel
theorem dX0_drawTalk_17 : decode cX0_drawTalk 17 = .ok (.land, 1) := by decide +kernel
theorem dX0_drawTalk_18 : decode cX0_drawTalk 18 = .ok (.l2i, 1) := by decide +kernel
theorem dX0_drawTalk_19 : decode cX0_drawTalk 19 = .ok (.putfield 106, 3) := by decide +kernel
theorem dX0_drawTalk_22 : decode cX0_drawTalk 22 = .ok (.aload_n 0, 1) := by decide +kernel
theorem dX0_drawTalk_23 : decode cX0_drawTalk 23 = .ok (.getfield 15, 3) := by decide +kernel
theorem dX0_drawTalk_26 : decode cX0_drawTalk 26 = .ok (.ifCond .le 39, 3) := by decide +kernel
theorem dX0_drawTalk_29 : decode cX0_drawTalk 29 = .ok (.aload_n 0, 1) := by decide +kernel
theorem dX0_drawTalk_30 : decode cX0_drawTalk 30 = .ok (.aload_n 0, 1) := by decide +kernel
theorem dX0_drawTalk_31 : decode cX0_drawTalk 31 = .ok (.getfield 106, 3) := by decide +kernel
theorem dX0_drawTalk_34 : decode cX0_drawTalk 34 = .ok (.ldc 115, 2) := by decide +kernel
theorem dX0_drawTalk_36 : decode cX0_drawTalk 36 = .ok (.idiv, 1) := by decide +kernel
theorem dX0_drawTalk_37 : decode cX0_drawTalk 37 = .ok (.aload_n 0, 1) := by decide +kernel
theorem dX0_drawTalk_38 : decode cX0_drawTalk 38 = .ok (.getfield 15, 3) := by decide +kernel
theorem dX0_drawTalk_41 : decode cX0_drawTalk 41 = .ok (.irem, 1) := by decide +kernel
theorem dX0_drawTalk_42 : decode cX0_drawTalk 42 = .ok (.aload_n 0, 1) := by decide +kernel
theorem dX0_drawTalk_43 : decode cX0_drawTalk 43 = .ok (.getfield 106, 3) := by decide +kernel
theorem dX0_drawTalk_46 : decode cX0_drawTalk 46 = .ok (.sipush 256, 3) := by decide +kernel
theorem dX0_drawTalk_49 : decode cX0_drawTalk 49 = .ok (.idiv, 1) := by decide +kernel
theorem dX0_drawTalk_50 : decode cX0_drawTalk 50 = .ok (.iconst 4, 1) := by decide +kernel
theorem dX0_drawTalk_51 : decode cX0_drawTalk 51 = .ok (.irem, 1) := by decide +kernel
theorem dX0_drawTalk_52 : decode cX0_drawTalk 52 = .ok (.aload_n 0, 1) := by decide +kernel
theorem dX0_drawTalk_53 : decode cX0_drawTalk 53 = .ok (.getfield 106, 3) := by decide +kernel
theorem dX0_drawTalk_56 : decode cX0_drawTalk 56 = .ok (.sipush 1024, 3) := by decide +kernel
theorem dX0_drawTalk_59 : decode cX0_drawTalk 59 = .ok (.idiv, 1) := by decide +kernel
theorem dX0_drawTalk_60 : decode cX0_drawTalk 60 = .ok (.iconst 4, 1) := by decide +kernel
theorem dX0_drawTalk_61 : decode cX0_drawTalk 61 = .ok (.irem, 1) := by decide +kernel
theorem dX0_drawTalk_62 : decode cX0_drawTalk 62 = .ok (.invokevirtual 89, 3) := by decide +kernel
theorem dX0_drawTalk_65 : decode cX0_drawTalk 65 = .ok (.return_, 1) := by decide +kernel
theorem dX1_init_0 : decode cX1_init 0 = .ok (.aload_n 0, 1) := by decide +kernel
theorem dX1_init_1 : decode cX1_init 1 = .ok (.invokespecial 3, 3) := by decide +kernel
theorem dX1_init_4 : decode cX1_init 4 = .ok (.aload_n 0, 1) := by decide +kernel
theorem dX1_init_5 : decode cX1_init 5 = .ok (.bipush 20, 2) := by decide +kernel
theorem dX1_init_7 : decode cX1_init 7 = .ok (.newarray .int, 2) := by decide +kernel
theorem dX1_init_9 : decode cX1_init 9 = .ok (.putfield 9, 3) := by decide +kernel
theorem dX1_init_12 : decode cX1_init 12 = .ok (.aload_n 0, 1) := by decide +kernel
theorem dX1_init_13 : decode cX1_init 13 = .ok (.iconst 4, 1) := by decide +kernel
theorem dX1_init_14 : decode cX1_init 14 = .ok (.newarray .int, 2) := by decide +kernel
theorem dX1_init_16 : decode cX1_init 16 = .ok (.dup, 1) := by decide +kernel
theorem dX1_init_17 : decode cX1_init 17 = .ok (.iconst 0, 1) := by decide +kernel
theorem dX1_init_18 : decode cX1_init 18 = .ok (.bipush (-4), 2) := by decide +kernel
theorem dX1_init_20 : decode cX1_init 20 = .ok (.iastore, 1) := by decide +kernel
theorem dX1_init_21 : decode cX1_init 21 = .ok (.dup, 1) := by decide +kernel
theorem dX1_init_22 : decode cX1_init 22 = .ok (.iconst 1, 1) := by decide +kernel
theorem dX1_init_23 : decode cX1_init 23 = .ok (.bipush (-4), 2) := by decide +kernel
theorem dX1_init_25 : decode cX1_init 25 = .ok (.iastore, 1) := by decide +kernel
theorem dX1_init_26 : decode cX1_init 26 = .ok (.dup, 1) := by decide +kernel
theorem dX1_init_27 : decode cX1_init 27 = .ok (.iconst 2, 1) := by decide +kernel
theorem dX1_init_28 : decode cX1_init 28 = .ok (.bipush (-4), 2) := by decide +kernel
theorem dX1_init_30 : decode cX1_init 30 = .ok (.iastore, 1) := by decide +kernel
theorem dX1_init_31 : decode cX1_init 31 = .ok (.dup, 1) := by decide +kernel
theorem dX1_init_32 : decode cX1_init 32 = .ok (.iconst 3, 1) := by decide +kernel
theorem dX1_init_33 : decode cX1_init 33 = .ok (.bipush (-4), 2) := by decide +kernel
theorem dX1_init_35 : decode cX1_init 35 = .ok (.iastore, 1) := by decide +kernel
theorem dX1_init_36 : decode cX1_init 36 = .ok (.putfield 15, 3) := by decide +kernel
theorem dX1_init_39 : decode cX1_init 39 = .ok (.aload_n 0, 1) := by decide +kernel
theorem dX1_init_40 : decode cX1_init 40 = .ok (.iconst 0, 1) := by decide +kernel
theorem dX1_init_41 : decode cX1_init 41 = .ok (.putfield 18, 3) := by decide +kernel
theorem dX1_init_44 : decode cX1_init 44 = .ok (.aload_n 0, 1) := by decide +kernel
theorem dX1_init_45 : decode cX1_init 45 = .ok (.iconst 0, 1) := by decide +kernel
theorem dX1_init_46 : decode cX1_init 46 = .ok (.putfield 22, 3) := by decide +kernel
theorem dX1_init_49 : decode cX1_init 49 = .ok (.aload_n 0, 1) := by decide +kernel
theorem dX1_init_50 : decode cX1_init 50 = .ok (.iconst 1, 1) := by decide +kernel
theorem dX1_init_51 : decode cX1_init 51 = .ok (.putfield 25, 3) := by decide +kernel
theorem dX1_init_54 : decode cX1_init 54 = .ok (.return_, 1) := by decide +kernel
theorem dX1_recall_0 : decode cX1_recall 0 = .ok (.aload_n 1, 1) := by decide +kernel
theorem dX1_recall_1 : decode cX1_recall 1 = .ok (.getfield 9, 3) := by decide +kernel
theorem dX1_recall_4 : decode cX1_recall 4 = .ok (.iconst 0, 1) := by decide +kernel
theorem dX1_recall_5 : decode cX1_recall 5 = .ok (.aload_n 0, 1) := by decide +kernel
theorem dX1_recall_6 : decode cX1_recall 6 = .ok (.getfield 9, 3) := by decide +kernel
theorem dX1_recall_9 : decode cX1_recall 9 = .ok (.iconst 0, 1) := by decide +kernel
theorem dX1_recall_10 : decode cX1_recall 10 = .ok (.aload_n 0, 1) := by decide +kernel
theorem dX1_recall_11 : decode cX1_recall 11 = .ok (.getfield 9, 3) := by decide +kernel
theorem dX1_recall_14 : decode cX1_recall 14 = .ok (.arraylength, 1) := by decide +kernel
theorem dX1_recall_15 : decode cX1_recall 15 = .ok (.invokestatic 28, 3) := by decide +kernel
theorem dX1_recall_18 : decode cX1_recall 18 = .ok (.aload_n 1, 1) := by decide +kernel
theorem dX1_recall_19 : decode cX1_recall 19 = .ok (.getfield 15, 3) := by decide +kernel
theorem dX1_recall_22 : decode cX1_recall 22 = .ok (.iconst 0, 1) := by decide +kernel
theorem dX1_recall_23 : decode cX1_recall 23 = .ok (.aload_n 0, 1) := by decide +kernel
theorem dX1_recall_24 : decode cX1_recall 24 = .ok (.getfield 15, 3) := by decide +kernel
theorem dX1_recall_27 : decode cX1_recall 27 = .ok (.iconst 0, 1) := by decide +kernel
theorem dX1_recall_28 : decode cX1_recall 28 = .ok (.iconst 4, 1) := by decide +kernel
theorem dX1_recall_29 : decode cX1_recall 29 = .ok (.invokestatic 28, 3) := by decide +kernel
theorem dX1_recall_32 : decode cX1_recall 32 = .ok (.aload_n 0, 1) := by decide +kernel
theorem dX1_recall_33 : decode cX1_recall 33 = .ok (.aload_n 1, 1) := by decide +kernel
theorem dX1_recall_34 : decode cX1_recall 34 = .ok (.getfield 18, 3) := by decide +kernel
theorem dX1_recall_37 : decode cX1_recall 37 = .ok (.putfield 18, 3) := by decide +kernel
theorem dX1_recall_40 : decode cX1_recall 40 = .ok (.aload_n 0, 1) := by decide +kernel
theorem dX1_recall_41 : decode cX1_recall 41 = .ok (.aload_n 1, 1) := by decide +kernel
theorem dX1_recall_42 : decode cX1_recall 42 = .ok (.getfield 22, 3) := by decide +kernel
theorem dX1_recall_45 : decode cX1_recall 45 = .ok (.putfield 22, 3) := by decide +kernel
theorem dX1_recall_48 : decode cX1_recall 48 = .ok (.aload_n 0, 1) := by decide +kernel
theorem dX1_recall_49 : decode cX1_recall 49 = .ok (.aload_n 1, 1) := by decide +kernel
theorem dX1_recall_50 : decode cX1_recall 50 = .ok (.getfield 25, 3) := by decide +kernel
theorem dX1_recall_53 : decode cX1_recall 53 = .ok (.putfield 25, 3) := by decide +kernel
theorem dX1_recall_56 : decode cX1_recall 56 = .ok (.return_, 1) := by decide +kernel
theorem dX2_init_0 : decode cX2_init 0 = .ok (.aload_n 0, 1) := by decide +kernel
theorem dX2_init_1 : decode cX2_init 1 = .ok (.invokespecial 3, 3) := by decide +kernel
theorem dX2_init_4 : decode cX2_init 4 = .ok (.aload_n 0, 1) := by decide +kernel
theorem dX2_init_5 : decode cX2_init 5 = .ok (.bipush 8, 2) := by decide +kernel
theorem dX2_init_7 : decode cX2_init 7 = .ok (.anewarray 9, 3) := by decide +kernel
theorem dX2_init_10 : decode cX2_init 10 = .ok (.putfield 11, 3) := by decide +kernel
theorem dX2_init_13 : decode cX2_init 13 = .ok (.aload_n 0, 1) := by decide +kernel
theorem dX2_init_14 : decode cX2_init 14 = .ok (.iconst 0, 1) := by decide +kernel
theorem dX2_init_15 : decode cX2_init 15 = .ok (.putfield 17, 3) := by decide +kernel
theorem dX2_init_18 : decode cX2_init 18 = .ok (.iconst 0, 1) := by decide +kernel
theorem dX2_init_19 : decode cX2_init 19 = .ok (.istore_n 1, 1) := by decide +kernel
theorem dX2_init_20 : decode cX2_init 20 = .ok (.iload_n 1, 1) := by decide +kernel
theorem dX2_init_21 : decode cX2_init 21 = .ok (.bipush 8, 2) := by decide +kernel
theorem dX2_init_23 : decode cX2_init 23 = .ok (.if_icmp .ge 22, 3) := by decide +kernel
theorem dX2_init_26 : decode cX2_init 26 = .ok (.aload_n 0, 1) := by decide +kernel
theorem dX2_init_27 : decode cX2_init 27 = .ok (.getfield 11, 3) := by decide +kernel
theorem dX2_init_30 : decode cX2_init 30 = .ok (.iload_n 1, 1) := by decide +kernel
theorem dX2_init_31 : decode cX2_init 31 = .ok (.new 9, 3) := by decide +kernel
theorem dX2_init_34 : decode cX2_init 34 = .ok (.dup, 1) := by decide +kernel
theorem dX2_init_35 : decode cX2_init 35 = .ok (.invokespecial 21, 3) := by decide +kernel
theorem dX2_init_38 : decode cX2_init 38 = .ok (.aastore, 1) := by decide +kernel
theorem dX2_init_39 : decode cX2_init 39 = .ok (.iinc 1 1, 3) := by decide +kernel
theorem dX2_init_42 : decode cX2_init 42 = .ok (.goto (-22), 3) := by decide +kernel
theorem dX2_init_45 : decode cX2_init 45 = .ok (.return_, 1) := by decide +kernel
theorem dX2_remember_0 : decode cX2_remember 0 = .ok (.aload_n 0, 1) := by decide +kernel
theorem dX2_remember_1 : decode cX2_remember 1 = .ok (.getfield 17, 3) := by decide +kernel
theorem dX2_remember_4 : decode cX2_remember 4 = .ok (.bipush 8, 2) := by decide +kernel
theorem dX2_remember_6 : decode cX2_remember 6 = .ok (.if_icmp .ne 7, 3) := by decide +kernel
theorem dX2_remember_9 : decode cX2_remember 9 = .ok (.aload_n 0, 1) := by decide +kernel
theorem dX2_remember_10 : decode cX2_remember 10 = .ok (.invokevirtual 22, 3) := by decide +kernel
theorem dX2_remember_13 : decode cX2_remember 13 = .ok (.aload_n 0, 1) := by decide +kernel
theorem dX2_remember_14 : decode cX2_remember 14 = .ok (.getfield 11, 3) := by decide +kernel
theorem dX2_remember_17 : decode cX2_remember 17 = .ok (.aload_n 0, 1) := by decide +kernel
theorem dX2_remember_18 : decode cX2_remember 18 = .ok (.getfield 17, 3) := by decide +kernel
theorem dX2_remember_21 : decode cX2_remember 21 = .ok (.aaload, 1) := by decide +kernel
theorem dX2_remember_22 : decode cX2_remember 22 = .ok (.aload_n 1, 1) := by decide +kernel
theorem dX2_remember_23 : decode cX2_remember 23 = .ok (.invokevirtual 25, 3) := by decide +kernel
theorem dX2_remember_26 : decode cX2_remember 26 = .ok (.aload_n 0, 1) := by decide +kernel
theorem dX2_remember_27 : decode cX2_remember 27 = .ok (.dup, 1) := by decide +kernel
theorem dX2_remember_28 : decode cX2_remember 28 = .ok (.getfield 17, 3) := by decide +kernel
theorem dX2_remember_31 : decode cX2_remember 31 = .ok (.iconst 1, 1) := by decide +kernel
theorem dX2_remember_32 : decode cX2_remember 32 = .ok (.iadd, 1) := by decide +kernel
theorem dX2_remember_33 : decode cX2_remember 33 = .ok (.putfield 17, 3) := by decide +kernel
theorem dX2_remember_36 : decode cX2_remember 36 = .ok (.return_, 1) := by decide +kernel
theorem dX2_loseOldest_0 : decode cX2_loseOldest 0 = .ok (.aload_n 0, 1) := by decide +kernel
theorem dX2_loseOldest_1 : decode cX2_loseOldest 1 = .ok (.getfield 11, 3) := by decide +kernel
theorem dX2_loseOldest_4 : decode cX2_loseOldest 4 = .ok (.iconst 0, 1) := by decide +kernel
theorem dX2_loseOldest_5 : decode cX2_loseOldest 5 = .ok (.aaload, 1) := by decide +kernel
theorem dX2_loseOldest_6 : decode cX2_loseOldest 6 = .ok (.astore_n 1, 1) := by decide +kernel
theorem dX2_loseOldest_7 : decode cX2_loseOldest 7 = .ok (.iconst 1, 1) := by decide +kernel
theorem dX2_loseOldest_8 : decode cX2_loseOldest 8 = .ok (.istore_n 2, 1) := by decide +kernel
theorem dX2_loseOldest_9 : decode cX2_loseOldest 9 = .ok (.iload_n 2, 1) := by decide +kernel
theorem dX2_loseOldest_10 : decode cX2_loseOldest 10 = .ok (.bipush 8, 2) := by decide +kernel
theorem dX2_loseOldest_12 : decode cX2_loseOldest 12 = .ok (.if_icmp .ge 23, 3) := by decide +kernel
theorem dX2_loseOldest_15 : decode cX2_loseOldest 15 = .ok (.aload_n 0, 1) := by decide +kernel
theorem dX2_loseOldest_16 : decode cX2_loseOldest 16 = .ok (.getfield 11, 3) := by decide +kernel
theorem dX2_loseOldest_19 : decode cX2_loseOldest 19 = .ok (.iload_n 2, 1) := by decide +kernel
theorem dX2_loseOldest_20 : decode cX2_loseOldest 20 = .ok (.iconst 1, 1) := by decide +kernel
theorem dX2_loseOldest_21 : decode cX2_loseOldest 21 = .ok (.isub, 1) := by decide +kernel
theorem dX2_loseOldest_22 : decode cX2_loseOldest 22 = .ok (.aload_n 0, 1) := by decide +kernel
theorem dX2_loseOldest_23 : decode cX2_loseOldest 23 = .ok (.getfield 11, 3) := by decide +kernel
theorem dX2_loseOldest_26 : decode cX2_loseOldest 26 = .ok (.iload_n 2, 1) := by decide +kernel
theorem dX2_loseOldest_27 : decode cX2_loseOldest 27 = .ok (.aaload, 1) := by decide +kernel
theorem dX2_loseOldest_28 : decode cX2_loseOldest 28 = .ok (.aastore, 1) := by decide +kernel
theorem dX2_loseOldest_29 : decode cX2_loseOldest 29 = .ok (.iinc 2 1, 3) := by decide +kernel
theorem dX2_loseOldest_32 : decode cX2_loseOldest 32 = .ok (.goto (-23), 3) := by decide +kernel
theorem dX2_loseOldest_35 : decode cX2_loseOldest 35 = .ok (.aload_n 0, 1) := by decide +kernel
theorem dX2_loseOldest_36 : decode cX2_loseOldest 36 = .ok (.getfield 11, 3) := by decide +kernel
theorem dX2_loseOldest_39 : decode cX2_loseOldest 39 = .ok (.bipush 7, 2) := by decide +kernel
theorem dX2_loseOldest_41 : decode cX2_loseOldest 41 = .ok (.aload_n 1, 1) := by decide +kernel
theorem dX2_loseOldest_42 : decode cX2_loseOldest 42 = .ok (.aastore, 1) := by decide +kernel
theorem dX2_loseOldest_43 : decode cX2_loseOldest 43 = .ok (.aload_n 0, 1) := by decide +kernel
theorem dX2_loseOldest_44 : decode cX2_loseOldest 44 = .ok (.bipush 7, 2) := by decide +kernel
theorem dX2_loseOldest_46 : decode cX2_loseOldest 46 = .ok (.putfield 17, 3) := by decide +kernel
theorem dX2_loseOldest_49 : decode cX2_loseOldest 49 = .ok (.return_, 1) := by decide +kernel
theorem dX2_recall_0 : decode cX2_recall 0 = .ok (.aload_n 0, 1) := by decide +kernel
theorem dX2_recall_1 : decode cX2_recall 1 = .ok (.dup, 1) := by decide +kernel
theorem dX2_recall_2 : decode cX2_recall 2 = .ok (.getfield 17, 3) := by decide +kernel
theorem dX2_recall_5 : decode cX2_recall 5 = .ok (.iconst 1, 1) := by decide +kernel
theorem dX2_recall_6 : decode cX2_recall 6 = .ok (.isub, 1) := by decide +kernel
theorem dX2_recall_7 : decode cX2_recall 7 = .ok (.putfield 17, 3) := by decide +kernel
theorem dX2_recall_10 : decode cX2_recall 10 = .ok (.aload_n 1, 1) := by decide +kernel
theorem dX2_recall_11 : decode cX2_recall 11 = .ok (.aload_n 0, 1) := by decide +kernel
theorem dX2_recall_12 : decode cX2_recall 12 = .ok (.getfield 11, 3) := by decide +kernel
theorem dX2_recall_15 : decode cX2_recall 15 = .ok (.aload_n 0, 1) := by decide +kernel
theorem dX2_recall_16 : decode cX2_recall 16 = .ok (.getfield 17, 3) := by decide +kernel
theorem dX2_recall_19 : decode cX2_recall 19 = .ok (.aaload, 1) := by decide +kernel
theorem dX2_recall_20 : decode cX2_recall 20 = .ok (.invokevirtual 25, 3) := by decide +kernel
theorem dX2_recall_23 : decode cX2_recall 23 = .ok (.return_, 1) := by decide +kernel
theorem dX2_forget_0 : decode cX2_forget 0 = .ok (.aload_n 0, 1) := by decide +kernel
theorem dX2_forget_1 : decode cX2_forget 1 = .ok (.iconst 0, 1) := by decide +kernel
theorem dX2_forget_2 : decode cX2_forget 2 = .ok (.putfield 17, 3) := by decide +kernel
theorem dX2_forget_5 : decode cX2_forget 5 = .ok (.return_, 1) := by decide +kernel
theorem dX2_become_0 : decode cX2_become 0 = .ok (.aload_n 0, 1) := by decide +kernel
theorem dX2_become_1 : decode cX2_become 1 = .ok (.aload_n 1, 1) := by decide +kernel
theorem dX2_become_2 : decode cX2_become 2 = .ok (.getfield 17, 3) := by decide +kernel
theorem dX2_become_5 : decode cX2_become 5 = .ok (.putfield 17, 3) := by decide +kernel
theorem dX2_become_8 : decode cX2_become 8 = .ok (.iconst 0, 1) := by decide +kernel
theorem dX2_become_9 : decode cX2_become 9 = .ok (.istore_n 2, 1) := by decide +kernel
theorem dX2_become_10 : decode cX2_become 10 = .ok (.iload_n 2, 1) := by decide +kernel
theorem dX2_become_11 : decode cX2_become 11 = .ok (.aload_n 0, 1) := by decide +kernel
theorem dX2_become_12 : decode cX2_become 12 = .ok (.getfield 17, 3) := by decide +kernel
theorem dX2_become_15 : decode cX2_become 15 = .ok (.if_icmp .ge 24, 3) := by decide +kernel
theorem dX2_become_18 : decode cX2_become 18 = .ok (.aload_n 0, 1) := by decide +kernel
theorem dX2_become_19 : decode cX2_become 19 = .ok (.getfield 11, 3) := by decide +kernel
theorem dX2_become_22 : decode cX2_become 22 = .ok (.iload_n 2, 1) := by decide +kernel
theorem dX2_become_23 : decode cX2_become 23 = .ok (.aaload, 1) := by decide +kernel
theorem dX2_become_24 : decode cX2_become 24 = .ok (.aload_n 1, 1) := by decide +kernel
theorem dX2_become_25 : decode cX2_become 25 = .ok (.getfield 11, 3) := by decide +kernel
theorem dX2_become_28 : decode cX2_become 28 = .ok (.iload_n 2, 1) := by decide +kernel
theorem dX2_become_29 : decode cX2_become 29 = .ok (.aaload, 1) := by decide +kernel
theorem dX2_become_30 : decode cX2_become 30 = .ok (.invokevirtual 25, 3) := by decide +kernel
theorem dX2_become_33 : decode cX2_become 33 = .ok (.iinc 2 1, 3) := by decide +kernel
theorem dX2_become_36 : decode cX2_become 36 = .ok (.goto (-26), 3) := by decide +kernel
theorem dX2_become_39 : decode cX2_become 39 = .ok (.return_, 1) := by decide +kernel
theorem dX3_init_0 : decode cX3_init 0 = .ok (.aload_n 0, 1) := by decide +kernel
theorem dX3_init_1 : decode cX3_init 1 = .ok (.invokespecial 3, 3) := by decide +kernel
theorem dX3_init_4 : decode cX3_init 4 = .ok (.aload_n 0, 1) := by decide +kernel
theorem dX3_init_5 : decode cX3_init 5 = .ok (.iconst 4, 1) := by decide +kernel
theorem dX3_init_6 : decode cX3_init 6 = .ok (.newarray .int, 2) := by decide +kernel
theorem dX3_init_8 : decode cX3_init 8 = .ok (.putfield 9, 3) := by decide +kernel
theorem dX3_init_11 : decode cX3_init 11 = .ok (.aload_n 0, 1) := by decide +kernel
theorem dX3_init_12 : decode cX3_init 12 = .ok (.iconst 0, 1) := by decide +kernel
theorem dX3_init_13 : decode cX3_init 13 = .ok (.putfield 15, 3) := by decide +kernel
theorem dX3_init_16 : decode cX3_init 16 = .ok (.aload_n 0, 1) := by decide +kernel
theorem dX3_init_17 : decode cX3_init 17 = .ok (.iconst 0, 1) := by decide +kernel
theorem dX3_init_18 : decode cX3_init 18 = .ok (.putfield 19, 3) := by decide +kernel
theorem dX3_init_21 : decode cX3_init 21 = .ok (.return_, 1) := by decide +kernel
theorem dX3_seek_0 : decode cX3_seek 0 = .ok (.aload_n 0, 1) := by decide +kernel
theorem dX3_seek_1 : decode cX3_seek 1 = .ok (.bipush 121, 2) := by decide +kernel
theorem dX3_seek_3 : decode cX3_seek 3 = .ok (.putfield 15, 3) := by decide +kernel
theorem dX3_seek_6 : decode cX3_seek 6 = .ok (.aload_n 0, 1) := by decide +kernel
theorem dX3_seek_7 : decode cX3_seek 7 = .ok (.iconst 5, 1) := by decide +kernel
theorem dX3_seek_8 : decode cX3_seek 8 = .ok (.putfield 19, 3) := by decide +kernel
theorem dX3_seek_11 : decode cX3_seek 11 = .ok (.aload_n 1, 1) := by decide +kernel
theorem dX3_seek_12 : decode cX3_seek 12 = .ok (.getfield 22, 3) := by decide +kernel
theorem dX3_seek_15 : decode cX3_seek 15 = .ok (.aload_n 1, 1) := by decide +kernel
theorem dX3_seek_16 : decode cX3_seek 16 = .ok (.getfield 22, 3) := by decide +kernel
theorem dX3_seek_19 : decode cX3_seek 19 = .ok (.imul, 1) := by decide +kernel
theorem dX3_seek_20 : decode cX3_seek 20 = .ok (.aload_n 1, 1) := by decide +kernel
theorem dX3_seek_21 : decode cX3_seek 21 = .ok (.getfield 22, 3) := by decide +kernel
theorem dX3_seek_24 : decode cX3_seek 24 = .ok (.imul, 1) := by decide +kernel
theorem dX3_seek_25 : decode cX3_seek 25 = .ok (.aload_n 1, 1) := by decide +kernel
theorem dX3_seek_26 : decode cX3_seek 26 = .ok (.getfield 22, 3) := by decide +kernel
theorem dX3_seek_29 : decode cX3_seek 29 = .ok (.imul, 1) := by decide +kernel
theorem dX3_seek_30 : decode cX3_seek 30 = .ok (.istore 4, 2) := by decide +kernel
theorem dX3_seek_32 : decode cX3_seek 32 = .ok (.iconst 0, 1) := by decide +kernel
theorem dX3_seek_33 : decode cX3_seek 33 = .ok (.istore 5, 2) := by decide +kernel
theorem dX3_seek_35 : decode cX3_seek 35 = .ok (.iconst 0, 1) := by decide +kernel
theorem dX3_seek_36 : decode cX3_seek 36 = .ok (.istore 6, 2) := by decide +kernel
theorem dX3_seek_38 : decode cX3_seek 38 = .ok (.iload 6, 2) := by decide +kernel
theorem dX3_seek_40 : decode cX3_seek 40 = .ok (.iload 4, 2) := by decide +kernel
theorem dX3_seek_42 : decode cX3_seek 42 = .ok (.if_icmp .ge 41, 3) := by decide +kernel
theorem dX3_seek_45 : decode cX3_seek 45 = .ok (.aload_n 2, 1) := by decide +kernel
theorem dX3_seek_46 : decode cX3_seek 46 = .ok (.aload_n 1, 1) := by decide +kernel
theorem dX3_seek_47 : decode cX3_seek 47 = .ok (.invokevirtual 27, 3) := by decide +kernel
theorem dX3_seek_50 : decode cX3_seek 50 = .ok (.iload 6, 2) := by decide +kernel
theorem dX3_seek_52 : decode cX3_seek 52 = .ok (.aload_n 1, 1) := by decide +kernel
theorem dX3_seek_53 : decode cX3_seek 53 = .ok (.getfield 22, 3) := by decide +kernel
theorem dX3_seek_56 : decode cX3_seek 56 = .ok (.aload_n 2, 1) := by decide +kernel
theorem dX3_seek_57 : decode cX3_seek 57 = .ok (.getfield 31, 3) := by decide +kernel
theorem dX3_seek_60 : decode cX3_seek 60 = .ok (.invokestatic 32, 3) := by decide +kernel
theorem dX3_seek_63 : decode cX3_seek 63 = .ok (.aload_n 0, 1) := by decide +kernel
theorem dX3_seek_64 : decode cX3_seek 64 = .ok (.aload_n 1, 1) := by decide +kernel
theorem dX3_seek_65 : decode cX3_seek 65 = .ok (.aload_n 2, 1) := by decide +kernel
theorem dX3_seek_66 : decode cX3_seek 66 = .ok (.iload_n 3, 1) := by decide +kernel
theorem dX3_seek_67 : decode cX3_seek 67 = .ok (.invokevirtual 36, 3) := by decide +kernel
theorem dX3_seek_70 : decode cX3_seek 70 = .ok (.ifCond .eq 7, 3) := by decide +kernel
theorem dX3_seek_73 : decode cX3_seek 73 = .ok (.iload 6, 2) := by decide +kernel
theorem dX3_seek_75 : decode cX3_seek 75 = .ok (.istore 5, 2) := by decide +kernel
theorem dX3_seek_77 : decode cX3_seek 77 = .ok (.iinc 6 1, 3) := by decide +kernel
theorem dX3_seek_80 : decode cX3_seek 80 = .ok (.goto (-42), 3) := by decide +kernel
theorem dX3_seek_83 : decode cX3_seek 83 = .ok (.iload 5, 2) := by decide +kernel
theorem dX3_seek_85 : decode cX3_seek 85 = .ok (.aload_n 1, 1) := by decide +kernel
theorem dX3_seek_86 : decode cX3_seek 86 = .ok (.getfield 22, 3) := by decide +kernel
theorem dX3_seek_89 : decode cX3_seek 89 = .ok (.aload_n 0, 1) := by decide +kernel
theorem dX3_seek_90 : decode cX3_seek 90 = .ok (.getfield 9, 3) := by decide +kernel
theorem dX3_seek_93 : decode cX3_seek 93 = .ok (.invokestatic 32, 3) := by decide +kernel
theorem dX3_seek_96 : decode cX3_seek 96 = .ok (.return_, 1) := by decide +kernel
theorem dX3_spell_0 : decode cX3_spell 0 = .ok (.iload_n 1, 1) := by decide +kernel
theorem dX3_spell_1 : decode cX3_spell 1 = .ok (.ifCond .gt 4, 3) := by decide +kernel
theorem dX3_spell_4 : decode cX3_spell 4 = .ok (.return_, 1) := by decide +kernel
theorem dX3_spell_5 : decode cX3_spell 5 = .ok (.iload_n 0, 1) := by decide +kernel
theorem dX3_spell_6 : decode cX3_spell 6 = .ok (.istore_n 3, 1) := by decide +kernel
theorem dX3_spell_7 : decode cX3_spell 7 = .ok (.iconst 3, 1) := by decide +kernel
theorem dX3_spell_8 : decode cX3_spell 8 = .ok (.istore 4, 2) := by decide +kernel
theorem dX3_spell_10 : decode cX3_spell 10 = .ok (.iload 4, 2) := by decide +kernel
theorem dX3_spell_12 : decode cX3_spell 12 = .ok (.ifCond .lt 20, 3) := by decide +kernel
theorem dX3_spell_15 : decode cX3_spell 15 = .ok (.aload_n 2, 1) := by decide +kernel
theorem dX3_spell_16 : decode cX3_spell 16 = .ok (.iload 4, 2) := by decide +kernel
theorem dX3_spell_18 : decode cX3_spell 18 = .ok (.iload_n 3, 1) := by decide +kernel
theorem dX3_spell_19 : decode cX3_spell 19 = .ok (.iload_n 1, 1) := by decide +kernel
theorem dX3_spell_20 : decode cX3_spell 20 = .ok (.irem, 1) := by decide +kernel
theorem dX3_spell_21 : decode cX3_spell 21 = .ok (.iastore, 1) := by decide +kernel
theorem dX3_spell_22 : decode cX3_spell 22 = .ok (.iload_n 3, 1) := by decide +kernel
theorem dX3_spell_23 : decode cX3_spell 23 = .ok (.iload_n 1, 1) := by decide +kernel
theorem dX3_spell_24 : decode cX3_spell 24 = .ok (.idiv, 1) := by decide +kernel
theorem dX3_spell_25 : decode cX3_spell 25 = .ok (.istore_n 3, 1) := by decide +kernel
theorem dX3_spell_26 : decode cX3_spell 26 = .ok (.iinc 4 (-1), 3) := by decide +kernel
theorem dX3_spell_29 : decode cX3_spell 29 = .ok (.goto (-19), 3) := by decide +kernel
theorem dX3_spell_32 : decode cX3_spell 32 = .ok (.return_, 1) := by decide +kernel
theorem dX3_isBetter_0 : decode cX3_isBetter 0 = .ok (.iconst 0, 1) := by decide +kernel
theorem dX3_isBetter_1 : decode cX3_isBetter 1 = .ok (.istore 4, 2) := by decide +kernel
theorem dX3_isBetter_3 : decode cX3_isBetter 3 = .ok (.iconst 0, 1) := by decide +kernel
theorem dX3_isBetter_4 : decode cX3_isBetter 4 = .ok (.istore 5, 2) := by decide +kernel
theorem dX3_isBetter_6 : decode cX3_isBetter 6 = .ok (.iload 5, 2) := by decide +kernel
theorem dX3_isBetter_8 : decode cX3_isBetter 8 = .ok (.iconst 4, 1) := by decide +kernel
theorem dX3_isBetter_9 : decode cX3_isBetter 9 = .ok (.if_icmp .ge 36, 3) := by decide +kernel
theorem dX3_isBetter_12 : decode cX3_isBetter 12 = .ok (.iload 4, 2) := by decide +kernel
theorem dX3_isBetter_14 : decode cX3_isBetter 14 = .ok (.aload_n 2, 1) := by decide +kernel
theorem dX3_isBetter_15 : decode cX3_isBetter 15 = .ok (.getfield 31, 3) := by decide +kernel
theorem dX3_isBetter_18 : decode cX3_isBetter 18 = .ok (.iload 5, 2) := by decide +kernel
theorem dX3_isBetter_20 : decode cX3_isBetter 20 = .ok (.iaload, 1) := by decide +kernel
theorem dX3_isBetter_21 : decode cX3_isBetter 21 = .ok (.aload_n 1, 1) := by decide +kernel
theorem dX3_isBetter_22 : decode cX3_isBetter 22 = .ok (.getfield 31, 3) := by decide +kernel
theorem dX3_isBetter_25 : decode cX3_isBetter 25 = .ok (.iload 5, 2) := by decide +kernel
theorem dX3_isBetter_27 : decode cX3_isBetter 27 = .ok (.iaload, 1) := by decide +kernel
theorem dX3_isBetter_28 : decode cX3_isBetter 28 = .ok (.if_icmp .ne 7, 3) := by decide +kernel
theorem dX3_isBetter_31 : decode cX3_isBetter 31 = .ok (.iconst 0, 1) := by decide +kernel
theorem dX3_isBetter_32 : decode cX3_isBetter 32 = .ok (.goto 4, 3) := by decide +kernel
theorem dX3_isBetter_35 : decode cX3_isBetter 35 = .ok (.iconst 1, 1) := by decide +kernel
theorem dX3_isBetter_36 : decode cX3_isBetter 36 = .ok (.iadd, 1) := by decide +kernel
theorem dX3_isBetter_37 : decode cX3_isBetter 37 = .ok (.istore 4, 2) := by decide +kernel
theorem dX3_isBetter_39 : decode cX3_isBetter 39 = .ok (.iinc 5 1, 3) := by decide +kernel
theorem dX3_isBetter_42 : decode cX3_isBetter 42 = .ok (.goto (-36), 3) := by decide +kernel
theorem dX3_isBetter_45 : decode cX3_isBetter 45 = .ok (.aload_n 0, 1) := by decide +kernel
theorem dX3_isBetter_46 : decode cX3_isBetter 46 = .ok (.getfield 15, 3) := by decide +kernel
theorem dX3_isBetter_49 : decode cX3_isBetter 49 = .ok (.ifCond .ne 14, 3) := by decide +kernel
theorem dX3_isBetter_52 : decode cX3_isBetter 52 = .ok (.iload 4, 2) := by decide +kernel
theorem dX3_isBetter_54 : decode cX3_isBetter 54 = .ok (.aload_n 0, 1) := by decide +kernel
theorem dX3_isBetter_55 : decode cX3_isBetter 55 = .ok (.getfield 19, 3) := by decide +kernel
theorem dX3_isBetter_58 : decode cX3_isBetter 58 = .ok (.if_icmp .lt 5, 3) := by decide +kernel
theorem dX3_isBetter_61 : decode cX3_isBetter 61 = .ok (.iconst 0, 1) := by decide +kernel
theorem dX3_isBetter_62 : decode cX3_isBetter 62 = .ok (.ireturn, 1) := by decide +kernel
theorem dX3_isBetter_63 : decode cX3_isBetter 63 = .ok (.iconst 0, 1) := by decide +kernel
theorem dX3_isBetter_64 : decode cX3_isBetter 64 = .ok (.istore 5, 2) := by decide +kernel
theorem dX3_isBetter_66 : decode cX3_isBetter 66 = .ok (.iload 5, 2) := by decide +kernel
theorem dX3_isBetter_68 : decode cX3_isBetter 68 = .ok (.iload_n 3, 1) := by decide +kernel
theorem dX3_isBetter_69 : decode cX3_isBetter 69 = .ok (.if_icmp .ge 29, 3) := by decide +kernel
theorem dX3_isBetter_72 : decode cX3_isBetter 72 = .ok (.aload_n 2, 1) := by decide +kernel
theorem dX3_isBetter_73 : decode cX3_isBetter 73 = .ok (.getfield 40, 3) := by decide +kernel
theorem dX3_isBetter_76 : decode cX3_isBetter 76 = .ok (.aload_n 1, 1) := by decide +kernel
theorem dX3_isBetter_77 : decode cX3_isBetter 77 = .ok (.getfield 40, 3) := by decide +kernel
theorem dX3_isBetter_80 : decode cX3_isBetter 80 = .ok (.isub, 1) := by decide +kernel
theorem dX3_isBetter_81 : decode cX3_isBetter 81 = .ok (.aload_n 0, 1) := by decide +kernel
theorem dX3_isBetter_82 : decode cX3_isBetter 82 = .ok (.getfield 15, 3) := by decide +kernel
theorem dX3_isBetter_85 : decode cX3_isBetter 85 = .ok (.if_icmp .gt 13, 3) := by decide +kernel
theorem dX3_isBetter_88 : decode cX3_isBetter 88 = .ok (.aload_n 2, 1) := by decide +kernel
theorem dX3_isBetter_89 : decode cX3_isBetter 89 = .ok (.invokevirtual 41, 3) := by decide +kernel
theorem dX3_isBetter_92 : decode cX3_isBetter 92 = .ok (.iinc 5 1, 3) := by decide +kernel
theorem dX3_isBetter_95 : decode cX3_isBetter 95 = .ok (.goto (-29), 3) := by decide +kernel
theorem dX3_isBetter_98 : decode cX3_isBetter 98 = .ok (.aload_n 2, 1) := by decide +kernel
theorem dX3_isBetter_99 : decode cX3_isBetter 99 = .ok (.getfield 40, 3) := by decide +kernel
theorem dX3_isBetter_102 : decode cX3_isBetter 102 = .ok (.aload_n 1, 1) := by decide +kernel
theorem dX3_isBetter_103 : decode cX3_isBetter 103 = .ok (.getfield 40, 3) := by decide +kernel
theorem dX3_isBetter_106 : decode cX3_isBetter 106 = .ok (.isub, 1) := by decide +kernel
theorem dX3_isBetter_107 : decode cX3_isBetter 107 = .ok (.istore 5, 2) := by decide +kernel
theorem dX3_isBetter_109 : decode cX3_isBetter 109 = .ok (.iload 5, 2) := by decide +kernel
theorem dX3_isBetter_111 : decode cX3_isBetter 111 = .ok (.aload_n 0, 1) := by decide +kernel
theorem dX3_isBetter_112 : decode cX3_isBetter 112 = .ok (.getfield 15, 3) := by decide +kernel
theorem dX3_isBetter_115 : decode cX3_isBetter 115 = .ok (.if_icmp .gt 21, 3) := by decide +kernel
theorem dX3_isBetter_118 : decode cX3_isBetter 118 = .ok (.iload 5, 2) := by decide +kernel
theorem dX3_isBetter_120 : decode cX3_isBetter 120 = .ok (.aload_n 0, 1) := by decide +kernel
theorem dX3_isBetter_121 : decode cX3_isBetter 121 = .ok (.getfield 15, 3) := by decide +kernel
theorem dX3_isBetter_124 : decode cX3_isBetter 124 = .ok (.if_icmp .ne 14, 3) := by decide +kernel
theorem dX3_isBetter_127 : decode cX3_isBetter 127 = .ok (.iload 4, 2) := by decide +kernel
theorem dX3_isBetter_129 : decode cX3_isBetter 129 = .ok (.aload_n 0, 1) := by decide +kernel
theorem dX3_isBetter_130 : decode cX3_isBetter 130 = .ok (.getfield 19, 3) := by decide +kernel
theorem dX3_isBetter_133 : decode cX3_isBetter 133 = .ok (.if_icmp .lt 5, 3) := by decide +kernel
theorem dX3_isBetter_136 : decode cX3_isBetter 136 = .ok (.iconst 0, 1) := by decide +kernel
theorem dX3_isBetter_137 : decode cX3_isBetter 137 = .ok (.ireturn, 1) := by decide +kernel
theorem dX3_isBetter_138 : decode cX3_isBetter 138 = .ok (.aload_n 0, 1) := by decide +kernel
theorem dX3_isBetter_139 : decode cX3_isBetter 139 = .ok (.iload 5, 2) := by decide +kernel
theorem dX3_isBetter_141 : decode cX3_isBetter 141 = .ok (.putfield 15, 3) := by decide +kernel
theorem dX3_isBetter_144 : decode cX3_isBetter 144 = .ok (.aload_n 0, 1) := by decide +kernel
theorem dX3_isBetter_145 : decode cX3_isBetter 145 = .ok (.iload 4, 2) := by decide +kernel
theorem dX3_isBetter_147 : decode cX3_isBetter 147 = .ok (.putfield 19, 3) := by decide +kernel
theorem dX3_isBetter_150 : decode cX3_isBetter 150 = .ok (.iconst 1, 1) := by decide +kernel
theorem dX3_isBetter_151 : decode cX3_isBetter 151 = .ok (.ireturn, 1) := by decide +kernel
theorem dX4_init_0 : decode cX4_init 0 = .ok (.aload_n 0, 1) := by decide +kernel
theorem dX4_init_1 : decode cX4_init 1 = .ok (.invokespecial 3, 3) := by decide +kernel
theorem dX4_init_4 : decode cX4_init 4 = .ok (.aload_n 0, 1) := by decide +kernel
theorem dX4_init_5 : decode cX4_init 5 = .ok (.bipush 24, 2) := by decide +kernel
theorem dX4_init_7 : decode cX4_init 7 = .ok (.newarray .long, 2) := by decide +kernel
theorem dX4_init_9 : decode cX4_init 9 = .ok (.putfield 9, 3) := by decide +kernel
theorem dX4_init_12 : decode cX4_init 12 = .ok (.aload_n 0, 1) := by decide +kernel
theorem dX4_init_13 : decode cX4_init 13 = .ok (.iconst 0, 1) := by decide +kernel
theorem dX4_init_14 : decode cX4_init 14 = .ok (.putfield 15, 3) := by decide +kernel
theorem dX4_init_17 : decode cX4_init 17 = .ok (.aload_n 0, 1) := by decide +kernel
theorem dX4_init_18 : decode cX4_init 18 = .ok (.iconst (-1), 1) := by decide +kernel
theorem dX4_init_19 : decode cX4_init 19 = .ok (.putfield 19, 3) := by decide +kernel
theorem dX4_init_22 : decode cX4_init 22 = .ok (.return_, 1) := by decide +kernel
theorem dX4_isMissing_0 : decode cX4_isMissing 0 = .ok (.aload_n 0, 1) := by decide +kernel
theorem dX4_isMissing_1 : decode cX4_isMissing 1 = .ok (.getfield 19, 3) := by decide +kernel
theorem dX4_isMissing_4 : decode cX4_isMissing 4 = .ok (.iconst (-1), 1) := by decide +kernel
theorem dX4_isMissing_5 : decode cX4_isMissing 5 = .ok (.if_icmp .ne 7, 3) := by decide +kernel
theorem dX4_isMissing_8 : decode cX4_isMissing 8 = .ok (.iconst 1, 1) := by decide +kernel
theorem dX4_isMissing_9 : decode cX4_isMissing 9 = .ok (.goto 4, 3) := by decide +kernel
theorem dX4_isMissing_12 : decode cX4_isMissing 12 = .ok (.iconst 0, 1) := by decide +kernel
theorem dX4_isMissing_13 : decode cX4_isMissing 13 = .ok (.ireturn, 1) := by decide +kernel
theorem dX4_renew_0 : decode cX4_renew 0 = .ok (.aload_n 0, 1) := by decide +kernel
theorem dX4_renew_1 : decode cX4_renew 1 = .ok (.iload_n 1, 1) := by decide +kernel
theorem dX4_renew_2 : decode cX4_renew 2 = .ok (.putfield 15, 3) := by decide +kernel
theorem dX4_renew_5 : decode cX4_renew 5 = .ok (.aload_n 0, 1) := by decide +kernel
theorem dX4_renew_6 : decode cX4_renew 6 = .ok (.iload_n 2, 1) := by decide +kernel
theorem dX4_renew_7 : decode cX4_renew 7 = .ok (.putfield 19, 3) := by decide +kernel
theorem dX4_renew_10 : decode cX4_renew 10 = .ok (.iconst 0, 1) := by decide +kernel
theorem dX4_renew_11 : decode cX4_renew 11 = .ok (.istore_n 3, 1) := by decide +kernel
theorem dX4_renew_12 : decode cX4_renew 12 = .ok (.iload_n 3, 1) := by decide +kernel
theorem dX4_renew_13 : decode cX4_renew 13 = .ok (.bipush 24, 2) := by decide +kernel
theorem dX4_renew_15 : decode cX4_renew 15 = .ok (.if_icmp .ge 16, 3) := by decide +kernel
theorem dX4_renew_18 : decode cX4_renew 18 = .ok (.aload_n 0, 1) := by decide +kernel
theorem dX4_renew_19 : decode cX4_renew 19 = .ok (.getfield 9, 3) := by decide +kernel
theorem dX4_renew_22 : decode cX4_renew 22 = .ok (.iload_n 3, 1) := by decide +kernel
theorem dX4_renew_23 : decode cX4_renew 23 = .ok (.lconst 0, 1) := by decide +kernel
theorem dX4_renew_24 : decode cX4_renew 24 = .ok (.lastore, 1) := by decide +kernel
theorem dX4_renew_25 : decode cX4_renew 25 = .ok (.iinc 3 1, 3) := by decide +kernel
theorem dX4_renew_28 : decode cX4_renew 28 = .ok (.goto (-16), 3) := by decide +kernel
theorem dX4_renew_31 : decode cX4_renew 31 = .ok (.return_, 1) := by decide +kernel
theorem dX4_empty_0 : decode cX4_empty 0 = .ok (.aload_n 0, 1) := by decide +kernel
theorem dX4_empty_1 : decode cX4_empty 1 = .ok (.getfield 19, 3) := by decide +kernel
theorem dX4_empty_4 : decode cX4_empty 4 = .ok (.istore_n 1, 1) := by decide +kernel
theorem dX4_empty_5 : decode cX4_empty 5 = .ok (.aload_n 0, 1) := by decide +kernel
theorem dX4_empty_6 : decode cX4_empty 6 = .ok (.iconst (-1), 1) := by decide +kernel
theorem dX4_empty_7 : decode cX4_empty 7 = .ok (.putfield 19, 3) := by decide +kernel
theorem dX4_empty_10 : decode cX4_empty 10 = .ok (.iload_n 1, 1) := by decide +kernel
theorem dX4_empty_11 : decode cX4_empty 11 = .ok (.ireturn, 1) := by decide +kernel
theorem dX4_spans_0 : decode cX4_spans 0 = .ok (.iload_n 2, 1) := by decide +kernel
theorem dX4_spans_1 : decode cX4_spans 1 = .ok (.ifCond .lt 21, 3) := by decide +kernel
theorem dX4_spans_4 : decode cX4_spans 4 = .ok (.iload_n 1, 1) := by decide +kernel
theorem dX4_spans_5 : decode cX4_spans 5 = .ok (.ifCond .lt 17, 3) := by decide +kernel
theorem dX4_spans_8 : decode cX4_spans 8 = .ok (.iload_n 1, 1) := by decide +kernel
theorem dX4_spans_9 : decode cX4_spans 9 = .ok (.aload_n 0, 1) := by decide +kernel
theorem dX4_spans_10 : decode cX4_spans 10 = .ok (.getfield 19, 3) := by decide +kernel
theorem dX4_spans_13 : decode cX4_spans 13 = .ok (.iload_n 2, 1) := by decide +kernel
theorem dX4_spans_14 : decode cX4_spans 14 = .ok (.isub, 1) := by decide +kernel
theorem dX4_spans_15 : decode cX4_spans 15 = .ok (.if_icmp .gt 7, 3) := by decide +kernel
theorem dX4_spans_18 : decode cX4_spans 18 = .ok (.iconst 1, 1) := by decide +kernel
theorem dX4_spans_19 : decode cX4_spans 19 = .ok (.goto 4, 3) := by decide +kernel
theorem dX4_spans_22 : decode cX4_spans 22 = .ok (.iconst 0, 1) := by decide +kernel
theorem dX4_spans_23 : decode cX4_spans 23 = .ok (.ireturn, 1) := by decide +kernel
theorem dX4_refusal_0 : decode cX4_refusal 0 = .ok (.aload_n 0, 1) := by decide +kernel
theorem dX4_refusal_1 : decode cX4_refusal 1 = .ok (.invokevirtual 22, 3) := by decide +kernel
theorem dX4_refusal_4 : decode cX4_refusal 4 = .ok (.ifCond .eq 6, 3) := by decide +kernel
theorem dX4_refusal_7 : decode cX4_refusal 7 = .ok (.bipush (-11), 2) := by decide +kernel
theorem dX4_refusal_9 : decode cX4_refusal 9 = .ok (.ireturn, 1) := by decide +kernel
theorem dX4_refusal_10 : decode cX4_refusal 10 = .ok (.iload_n 1, 1) := by decide +kernel
theorem dX4_refusal_11 : decode cX4_refusal 11 = .ok (.aload_n 0, 1) := by decide +kernel
theorem dX4_refusal_12 : decode cX4_refusal 12 = .ok (.getfield 15, 3) := by decide +kernel
theorem dX4_refusal_15 : decode cX4_refusal 15 = .ok (.if_icmp .eq 6, 3) := by decide +kernel
theorem dX4_refusal_18 : decode cX4_refusal 18 = .ok (.bipush (-12), 2) := by decide +kernel
theorem dX4_refusal_20 : decode cX4_refusal 20 = .ok (.ireturn, 1) := by decide +kernel
theorem dX4_refusal_21 : decode cX4_refusal 21 = .ok (.aload_n 0, 1) := by decide +kernel
theorem dX4_refusal_22 : decode cX4_refusal 22 = .ok (.iload_n 2, 1) := by decide +kernel
theorem dX4_refusal_23 : decode cX4_refusal 23 = .ok (.iload_n 3, 1) := by decide +kernel
theorem dX4_refusal_24 : decode cX4_refusal 24 = .ok (.invokevirtual 26, 3) := by decide +kernel
theorem dX4_refusal_27 : decode cX4_refusal 27 = .ok (.ifCond .eq 7, 3) := by decide +kernel
theorem dX4_refusal_30 : decode cX4_refusal 30 = .ok (.iconst 0, 1) := by decide +kernel
theorem dX4_refusal_31 : decode cX4_refusal 31 = .ok (.goto 5, 3) := by decide +kernel
theorem dX4_refusal_34 : decode cX4_refusal 34 = .ok (.bipush (-13), 2) := by decide +kernel
theorem dX4_refusal_36 : decode cX4_refusal 36 = .ok (.ireturn, 1) := by decide +kernel
theorem dX4_put_0 : decode cX4_put 0 = .ok (.aload_n 0, 1) := by decide +kernel
theorem dX4_put_1 : decode cX4_put 1 = .ok (.getfield 15, 3) := by decide +kernel
theorem dX4_put_4 : decode cX4_put 4 = .ok (.tableswitch 66 0 2 #[28, 41, 54], 28) := by decide +kernel
theorem dX4_put_32 : decode cX4_put 32 = .ok (.aload_n 0, 1) := by decide +kernel
theorem dX4_put_33 : decode cX4_put 33 = .ok (.getfield 9, 3) := by decide +kernel
theorem dX4_put_36 : decode cX4_put 36 = .ok (.iload_n 1, 1) := by decide +kernel
theorem dX4_put_37 : decode cX4_put 37 = .ok (.lload_n 2, 1) := by decide +kernel
theorem dX4_put_38 : decode cX4_put 38 = .ok (.l2i, 1) := by decide +kernel
theorem dX4_put_39 : decode cX4_put 39 = .ok (.i2b, 1) := by decide +kernel
theorem dX4_put_40 : decode cX4_put 40 = .ok (.i2l, 1) := by decide +kernel
theorem dX4_put_41 : decode cX4_put 41 = .ok (.lastore, 1) := by decide +kernel
theorem dX4_put_42 : decode cX4_put 42 = .ok (.goto 35, 3) := by decide +kernel
theorem dX4_put_45 : decode cX4_put 45 = .ok (.aload_n 0, 1) := by decide +kernel
theorem dX4_put_46 : decode cX4_put 46 = .ok (.getfield 9, 3) := by decide +kernel
theorem dX4_put_49 : decode cX4_put 49 = .ok (.iload_n 1, 1) := by decide +kernel
theorem dX4_put_50 : decode cX4_put 50 = .ok (.lload_n 2, 1) := by decide +kernel
theorem dX4_put_51 : decode cX4_put 51 = .ok (.l2i, 1) := by decide +kernel
theorem dX4_put_52 : decode cX4_put 52 = .ok (.i2s, 1) := by decide +kernel
theorem dX4_put_53 : decode cX4_put 53 = .ok (.i2l, 1) := by decide +kernel
theorem dX4_put_54 : decode cX4_put 54 = .ok (.lastore, 1) := by decide +kernel
theorem dX4_put_55 : decode cX4_put 55 = .ok (.goto 22, 3) := by decide +kernel
theorem dX4_put_58 : decode cX4_put 58 = .ok (.aload_n 0, 1) := by decide +kernel
theorem dX4_put_59 : decode cX4_put 59 = .ok (.getfield 9, 3) := by decide +kernel
theorem dX4_put_62 : decode cX4_put 62 = .ok (.iload_n 1, 1) := by decide +kernel
theorem dX4_put_63 : decode cX4_put 63 = .ok (.lload_n 2, 1) := by decide +kernel
theorem dX4_put_64 : decode cX4_put 64 = .ok (.l2i, 1) := by decide +kernel
theorem dX4_put_65 : decode cX4_put 65 = .ok (.i2l, 1) := by decide +kernel
theorem dX4_put_66 : decode cX4_put 66 = .ok (.lastore, 1) := by decide +kernel
theorem dX4_put_67 : decode cX4_put 67 = .ok (.goto 10, 3) := by decide +kernel
theorem dX4_put_70 : decode cX4_put 70 = .ok (.aload_n 0, 1) := by decide +kernel
theorem dX4_put_71 : decode cX4_put 71 = .ok (.getfield 9, 3) := by decide +kernel
theorem dX4_put_74 : decode cX4_put 74 = .ok (.iload_n 1, 1) := by decide +kernel
theorem dX4_put_75 : decode cX4_put 75 = .ok (.lload_n 2, 1) := by decide +kernel
theorem dX4_put_76 : decode cX4_put 76 = .ok (.lastore, 1) := by decide +kernel
theorem dX4_put_77 : decode cX4_put 77 = .ok (.return_, 1) := by decide +kernel
theorem dX4_tells_0 : decode cX4_tells 0 = .ok (.iconst 0, 1) := by decide +kernel
theorem dX4_tells_1 : decode cX4_tells 1 = .ok (.istore 6, 2) := by decide +kernel
theorem dX4_tells_3 : decode cX4_tells 3 = .ok (.iload 6, 2) := by decide +kernel
theorem dX4_tells_5 : decode cX4_tells 5 = .ok (.iload 5, 2) := by decide +kernel
theorem dX4_tells_7 : decode cX4_tells 7 = .ok (.if_icmp .ge 36, 3) := by decide +kernel
theorem dX4_tells_10 : decode cX4_tells 10 = .ok (.aload_n 1, 1) := by decide +kernel
theorem dX4_tells_11 : decode cX4_tells 11 = .ok (.invokevirtual 30, 3) := by decide +kernel
theorem dX4_tells_14 : decode cX4_tells 14 = .ok (.aload_n 0, 1) := by decide +kernel
theorem dX4_tells_15 : decode cX4_tells 15 = .ok (.getfield 9, 3) := by decide +kernel
theorem dX4_tells_18 : decode cX4_tells 18 = .ok (.iload 4, 2) := by decide +kernel
theorem dX4_tells_20 : decode cX4_tells 20 = .ok (.iload 6, 2) := by decide +kernel
theorem dX4_tells_22 : decode cX4_tells 22 = .ok (.iadd, 1) := by decide +kernel
theorem dX4_tells_23 : decode cX4_tells 23 = .ok (.laload, 1) := by decide +kernel
theorem dX4_tells_24 : decode cX4_tells 24 = .ok (.aload_n 1, 1) := by decide +kernel
theorem dX4_tells_25 : decode cX4_tells 25 = .ok (.iload_n 2, 1) := by decide +kernel
theorem dX4_tells_26 : decode cX4_tells 26 = .ok (.iload_n 3, 1) := by decide +kernel
theorem dX4_tells_27 : decode cX4_tells 27 = .ok (.invokevirtual 35, 3) := by decide +kernel
theorem dX4_tells_30 : decode cX4_tells 30 = .ok (.i2l, 1) := by decide +kernel
theorem dX4_tells_31 : decode cX4_tells 31 = .ok (.lcmp, 1) := by decide +kernel
theorem dX4_tells_32 : decode cX4_tells 32 = .ok (.ifCond .eq 5, 3) := by decide +kernel
theorem dX4_tells_35 : decode cX4_tells 35 = .ok (.iconst 0, 1) := by decide +kernel
theorem dX4_tells_36 : decode cX4_tells 36 = .ok (.ireturn, 1) := by decide +kernel
theorem dX4_tells_37 : decode cX4_tells 37 = .ok (.iinc 6 1, 3) := by decide +kernel
theorem dX4_tells_40 : decode cX4_tells 40 = .ok (.goto (-37), 3) := by decide +kernel
theorem dX4_tells_43 : decode cX4_tells 43 = .ok (.iconst 1, 1) := by decide +kernel
theorem dX4_tells_44 : decode cX4_tells 44 = .ok (.ireturn, 1) := by decide +kernel
theorem dX5_init_0 : decode cX5_init 0 = .ok (.aload_n 0, 1) := by decide +kernel
theorem dX5_init_1 : decode cX5_init 1 = .ok (.invokespecial 3, 3) := by decide +kernel
theorem dX5_init_4 : decode cX5_init 4 = .ok (.aload_n 0, 1) := by decide +kernel
theorem dX5_init_5 : decode cX5_init 5 = .ok (.bipush 50, 2) := by decide +kernel
theorem dX5_init_7 : decode cX5_init 7 = .ok (.newarray .int, 2) := by decide +kernel
theorem dX5_init_9 : decode cX5_init 9 = .ok (.putfield 9, 3) := by decide +kernel
theorem dX5_init_12 : decode cX5_init 12 = .ok (.aload_n 0, 1) := by decide +kernel
theorem dX5_init_13 : decode cX5_init 13 = .ok (.iconst 0, 1) := by decide +kernel
theorem dX5_init_14 : decode cX5_init 14 = .ok (.putfield 15, 3) := by decide +kernel
theorem dX5_init_17 : decode cX5_init 17 = .ok (.aload_n 0, 1) := by decide +kernel
theorem dX5_init_18 : decode cX5_init 18 = .ok (.iconst 0, 1) := by decide +kernel
theorem dX5_init_19 : decode cX5_init 19 = .ok (.putfield 19, 3) := by decide +kernel
theorem dX5_init_22 : decode cX5_init 22 = .ok (.return_, 1) := by decide +kernel
theorem dX5_append_0 : decode cX5_append 0 = .ok (.aload_n 0, 1) := by decide +kernel
theorem dX5_append_1 : decode cX5_append 1 = .ok (.getfield 9, 3) := by decide +kernel
theorem dX5_append_4 : decode cX5_append 4 = .ok (.aload_n 0, 1) := by decide +kernel
theorem dX5_append_5 : decode cX5_append 5 = .ok (.getfield 15, 3) := by decide +kernel
theorem dX5_append_8 : decode cX5_append 8 = .ok (.iload_n 1, 1) := by decide +kernel
theorem dX5_append_9 : decode cX5_append 9 = .ok (.iastore, 1) := by decide +kernel
theorem dX5_append_10 : decode cX5_append 10 = .ok (.aload_n 0, 1) := by decide +kernel
theorem dX5_append_11 : decode cX5_append 11 = .ok (.dup, 1) := by decide +kernel
theorem dX5_append_12 : decode cX5_append 12 = .ok (.getfield 15, 3) := by decide +kernel
theorem dX5_append_15 : decode cX5_append 15 = .ok (.iconst 1, 1) := by decide +kernel
theorem dX5_append_16 : decode cX5_append 16 = .ok (.iadd, 1) := by decide +kernel
theorem dX5_append_17 : decode cX5_append 17 = .ok (.putfield 15, 3) := by decide +kernel
theorem dX5_append_20 : decode cX5_append 20 = .ok (.aload_n 0, 1) := by decide +kernel
theorem dX5_append_21 : decode cX5_append 21 = .ok (.getfield 15, 3) := by decide +kernel
theorem dX5_append_24 : decode cX5_append 24 = .ok (.ireturn, 1) := by decide +kernel
theorem dX5_read_0 : decode cX5_read 0 = .ok (.aload_n 0, 1) := by decide +kernel
theorem dX5_read_1 : decode cX5_read 1 = .ok (.iconst 0, 1) := by decide +kernel
theorem dX5_read_2 : decode cX5_read 2 = .ok (.putfield 19, 3) := by decide +kernel
theorem dX5_read_5 : decode cX5_read 5 = .ok (.aload_n 0, 1) := by decide +kernel
theorem dX5_read_6 : decode cX5_read 6 = .ok (.aload_n 1, 1) := by decide +kernel
theorem dX5_read_7 : decode cX5_read 7 = .ok (.invokevirtual 22, 3) := by decide +kernel
theorem dX5_read_10 : decode cX5_read 10 = .ok (.ifCond .eq 31, 3) := by decide +kernel
theorem dX5_read_13 : decode cX5_read 13 = .ok (.aload_n 0, 1) := by decide +kernel
theorem dX5_read_14 : decode cX5_read 14 = .ok (.aload_n 1, 1) := by decide +kernel
theorem dX5_read_15 : decode cX5_read 15 = .ok (.invokevirtual 26, 3) := by decide +kernel
theorem dX5_read_18 : decode cX5_read 18 = .ok (.ifCond .eq 23, 3) := by decide +kernel
theorem dX5_read_21 : decode cX5_read 21 = .ok (.aload_n 0, 1) := by decide +kernel
theorem dX5_read_22 : decode cX5_read 22 = .ok (.aload_n 1, 1) := by decide +kernel
theorem dX5_read_23 : decode cX5_read 23 = .ok (.invokevirtual 29, 3) := by decide +kernel
theorem dX5_read_26 : decode cX5_read 26 = .ok (.ifCond .eq 15, 3) := by decide +kernel
theorem dX5_read_29 : decode cX5_read 29 = .ok (.aload_n 0, 1) := by decide +kernel
theorem dX5_read_30 : decode cX5_read 30 = .ok (.invokevirtual 32, 3) := by decide +kernel
theorem dX5_read_33 : decode cX5_read 33 = .ok (.iconst (-1), 1) := by decide +kernel
theorem dX5_read_34 : decode cX5_read 34 = .ok (.if_icmp .ne 7, 3) := by decide +kernel
theorem dX5_read_37 : decode cX5_read 37 = .ok (.iconst 1, 1) := by decide +kernel
theorem dX5_read_38 : decode cX5_read 38 = .ok (.goto 4, 3) := by decide +kernel
theorem dX5_read_41 : decode cX5_read 41 = .ok (.iconst 0, 1) := by decide +kernel
theorem dX5_read_42 : decode cX5_read 42 = .ok (.istore_n 2, 1) := by decide +kernel
theorem dX5_read_43 : decode cX5_read 43 = .ok (.iload_n 2, 1) := by decide +kernel
theorem dX5_read_44 : decode cX5_read 44 = .ok (.ifCond .eq 7, 3) := by decide +kernel
theorem dX5_read_47 : decode cX5_read 47 = .ok (.iconst 0, 1) := by decide +kernel
theorem dX5_read_48 : decode cX5_read 48 = .ok (.goto 10, 3) := by decide +kernel
theorem dX5_read_51 : decode cX5_read 51 = .ok (.bipush (-20), 2) := by decide +kernel
theorem dX5_read_53 : decode cX5_read 53 = .ok (.aload_n 0, 1) := by decide +kernel
theorem dX5_read_54 : decode cX5_read 54 = .ok (.getfield 19, 3) := by decide +kernel
theorem dX5_read_57 : decode cX5_read 57 = .ok (.isub, 1) := by decide +kernel
theorem dX5_read_58 : decode cX5_read 58 = .ok (.ireturn, 1) := by decide +kernel
theorem dX5_nextLetter_0 : decode cX5_nextLetter 0 = .ok (.aload_n 0, 1) := by decide +kernel
theorem dX5_nextLetter_1 : decode cX5_nextLetter 1 = .ok (.getfield 19, 3) := by decide +kernel
theorem dX5_nextLetter_4 : decode cX5_nextLetter 4 = .ok (.aload_n 0, 1) := by decide +kernel
theorem dX5_nextLetter_5 : decode cX5_nextLetter 5 = .ok (.getfield 15, 3) := by decide +kernel
theorem dX5_nextLetter_8 : decode cX5_nextLetter 8 = .ok (.if_icmp .ge 30, 3) := by decide +kernel
theorem dX5_nextLetter_11 : decode cX5_nextLetter 11 = .ok (.aload_n 0, 1) := by decide +kernel
theorem dX5_nextLetter_12 : decode cX5_nextLetter 12 = .ok (.getfield 9, 3) := by decide +kernel
theorem dX5_nextLetter_15 : decode cX5_nextLetter 15 = .ok (.aload_n 0, 1) := by decide +kernel
theorem dX5_nextLetter_16 : decode cX5_nextLetter 16 = .ok (.getfield 19, 3) := by decide +kernel
theorem dX5_nextLetter_19 : decode cX5_nextLetter 19 = .ok (.iaload, 1) := by decide +kernel
theorem dX5_nextLetter_20 : decode cX5_nextLetter 20 = .ok (.bipush 32, 2) := by decide +kernel
theorem dX5_nextLetter_22 : decode cX5_nextLetter 22 = .ok (.if_icmp .ne 16, 3) := by decide +kernel
theorem dX5_nextLetter_25 : decode cX5_nextLetter 25 = .ok (.aload_n 0, 1) := by decide +kernel
theorem dX5_nextLetter_26 : decode cX5_nextLetter 26 = .ok (.dup, 1) := by decide +kernel
theorem dX5_nextLetter_27 : decode cX5_nextLetter 27 = .ok (.getfield 19, 3) := by decide +kernel
theorem dX5_nextLetter_30 : decode cX5_nextLetter 30 = .ok (.iconst 1, 1) := by decide +kernel
theorem dX5_nextLetter_31 : decode cX5_nextLetter 31 = .ok (.iadd, 1) := by decide +kernel
theorem dX5_nextLetter_32 : decode cX5_nextLetter 32 = .ok (.putfield 19, 3) := by decide +kernel
theorem dX5_nextLetter_35 : decode cX5_nextLetter 35 = .ok (.goto (-35), 3) := by decide +kernel
theorem dX5_nextLetter_38 : decode cX5_nextLetter 38 = .ok (.aload_n 0, 1) := by decide +kernel
theorem dX5_nextLetter_39 : decode cX5_nextLetter 39 = .ok (.invokevirtual 36, 3) := by decide +kernel
theorem dX5_nextLetter_42 : decode cX5_nextLetter 42 = .ok (.ireturn, 1) := by decide +kernel
theorem dX5_letterHere_0 : decode cX5_letterHere 0 = .ok (.aload_n 0, 1) := by decide +kernel
theorem dX5_letterHere_1 : decode cX5_letterHere 1 = .ok (.getfield 19, 3) := by decide +kernel
theorem dX5_letterHere_4 : decode cX5_letterHere 4 = .ok (.aload_n 0, 1) := by decide +kernel
theorem dX5_letterHere_5 : decode cX5_letterHere 5 = .ok (.getfield 15, 3) := by decide +kernel
theorem dX5_letterHere_8 : decode cX5_letterHere 8 = .ok (.if_icmp .ge 15, 3) := by decide +kernel
theorem dX5_letterHere_11 : decode cX5_letterHere 11 = .ok (.aload_n 0, 1) := by decide +kernel
theorem dX5_letterHere_12 : decode cX5_letterHere 12 = .ok (.getfield 9, 3) := by decide +kernel
theorem dX5_letterHere_15 : decode cX5_letterHere 15 = .ok (.aload_n 0, 1) := by decide +kernel
theorem dX5_letterHere_16 : decode cX5_letterHere 16 = .ok (.getfield 19, 3) := by decide +kernel
theorem dX5_letterHere_19 : decode cX5_letterHere 19 = .ok (.iaload, 1) := by decide +kernel
theorem dX5_letterHere_20 : decode cX5_letterHere 20 = .ok (.goto 4, 3) := by decide +kernel
theorem dX5_letterHere_23 : decode cX5_letterHere 23 = .ok (.iconst (-1), 1) := by decide +kernel
theorem dX5_letterHere_24 : decode cX5_letterHere 24 = .ok (.ireturn, 1) := by decide +kernel
theorem dX5_isDigit_0 : decode cX5_isDigit 0 = .ok (.iload_n 0, 1) := by decide +kernel
theorem dX5_isDigit_1 : decode cX5_isDigit 1 = .ok (.bipush 48, 2) := by decide +kernel
theorem dX5_isDigit_3 : decode cX5_isDigit 3 = .ok (.bipush 57, 2) := by decide +kernel
theorem dX5_isDigit_5 : decode cX5_isDigit 5 = .ok (.invokestatic 39, 3) := by decide +kernel
theorem dX5_isDigit_8 : decode cX5_isDigit 8 = .ok (.ireturn, 1) := by decide +kernel
theorem dX5_readRule_0 : decode cX5_readRule 0 = .ok (.iconst 0, 1) := by decide +kernel
theorem dX5_readRule_1 : decode cX5_readRule 1 = .ok (.istore_n 2, 1) := by decide +kernel
theorem dX5_readRule_2 : decode cX5_readRule 2 = .ok (.aload_n 0, 1) := by decide +kernel
theorem dX5_readRule_3 : decode cX5_readRule 3 = .ok (.invokevirtual 32, 3) := by decide +kernel
theorem dX5_readRule_6 : decode cX5_readRule 6 = .ok (.pop, 1) := by decide +kernel
theorem dX5_readRule_7 : decode cX5_readRule 7 = .ok (.aload_n 0, 1) := by decide +kernel
theorem dX5_readRule_8 : decode cX5_readRule 8 = .ok (.getfield 19, 3) := by decide +kernel
theorem dX5_readRule_11 : decode cX5_readRule 11 = .ok (.istore_n 3, 1) := by decide +kernel
theorem dX5_readRule_12 : decode cX5_readRule 12 = .ok (.aload_n 0, 1) := by decide +kernel
theorem dX5_readRule_13 : decode cX5_readRule 13 = .ok (.getfield 19, 3) := by decide +kernel
theorem dX5_readRule_16 : decode cX5_readRule 16 = .ok (.iload_n 3, 1) := by decide +kernel
theorem dX5_readRule_17 : decode cX5_readRule 17 = .ok (.iconst 2, 1) := by decide +kernel
theorem dX5_readRule_18 : decode cX5_readRule 18 = .ok (.iadd, 1) := by decide +kernel
theorem dX5_readRule_19 : decode cX5_readRule 19 = .ok (.if_icmp .ge 39, 3) := by decide +kernel
theorem dX5_readRule_22 : decode cX5_readRule 22 = .ok (.aload_n 0, 1) := by decide +kernel
theorem dX5_readRule_23 : decode cX5_readRule 23 = .ok (.invokevirtual 36, 3) := by decide +kernel
theorem dX5_readRule_26 : decode cX5_readRule 26 = .ok (.invokestatic 43, 3) := by decide +kernel
theorem dX5_readRule_29 : decode cX5_readRule 29 = .ok (.ifCond .eq 29, 3) := by decide +kernel
theorem dX5_readRule_32 : decode cX5_readRule 32 = .ok (.iload_n 2, 1) := by decide +kernel
theorem dX5_readRule_33 : decode cX5_readRule 33 = .ok (.bipush 10, 2) := by decide +kernel
theorem dX5_readRule_35 : decode cX5_readRule 35 = .ok (.imul, 1) := by decide +kernel
theorem dX5_readRule_36 : decode cX5_readRule 36 = .ok (.aload_n 0, 1) := by decide +kernel
theorem dX5_readRule_37 : decode cX5_readRule 37 = .ok (.invokevirtual 36, 3) := by decide +kernel
theorem dX5_readRule_40 : decode cX5_readRule 40 = .ok (.iadd, 1) := by decide +kernel
theorem dX5_readRule_41 : decode cX5_readRule 41 = .ok (.bipush 48, 2) := by decide +kernel
theorem dX5_readRule_43 : decode cX5_readRule 43 = .ok (.isub, 1) := by decide +kernel
theorem dX5_readRule_44 : decode cX5_readRule 44 = .ok (.istore_n 2, 1) := by decide +kernel
theorem dX5_readRule_45 : decode cX5_readRule 45 = .ok (.aload_n 0, 1) := by decide +kernel
theorem dX5_readRule_46 : decode cX5_readRule 46 = .ok (.dup, 1) := by decide +kernel
theorem dX5_readRule_47 : decode cX5_readRule 47 = .ok (.getfield 19, 3) := by decide +kernel
theorem dX5_readRule_50 : decode cX5_readRule 50 = .ok (.iconst 1, 1) := by decide +kernel
theorem dX5_readRule_51 : decode cX5_readRule 51 = .ok (.iadd, 1) := by decide +kernel
theorem dX5_readRule_52 : decode cX5_readRule 52 = .ok (.putfield 19, 3) := by decide +kernel
theorem dX5_readRule_55 : decode cX5_readRule 55 = .ok (.goto (-43), 3) := by decide +kernel
theorem dX5_readRule_58 : decode cX5_readRule 58 = .ok (.iload_n 2, 1) := by decide +kernel
theorem dX5_readRule_59 : decode cX5_readRule 59 = .ok (.iconst 1, 1) := by decide +kernel
theorem dX5_readRule_60 : decode cX5_readRule 60 = .ok (.bipush 20, 2) := by decide +kernel
theorem dX5_readRule_62 : decode cX5_readRule 62 = .ok (.invokestatic 39, 3) := by decide +kernel
theorem dX5_readRule_65 : decode cX5_readRule 65 = .ok (.ifCond .ne 10, 3) := by decide +kernel
theorem dX5_readRule_68 : decode cX5_readRule 68 = .ok (.aload_n 0, 1) := by decide +kernel
theorem dX5_readRule_69 : decode cX5_readRule 69 = .ok (.iload_n 3, 1) := by decide +kernel
theorem dX5_readRule_70 : decode cX5_readRule 70 = .ok (.putfield 19, 3) := by decide +kernel
theorem dX5_readRule_73 : decode cX5_readRule 73 = .ok (.iconst 0, 1) := by decide +kernel
theorem dX5_readRule_74 : decode cX5_readRule 74 = .ok (.ireturn, 1) := by decide +kernel
theorem dX5_readRule_75 : decode cX5_readRule 75 = .ok (.aload_n 1, 1) := by decide +kernel
theorem dX5_readRule_76 : decode cX5_readRule 76 = .ok (.iload_n 2, 1) := by decide +kernel
theorem dX5_readRule_77 : decode cX5_readRule 77 = .ok (.putfield 47, 3) := by decide +kernel
theorem dX5_readRule_80 : decode cX5_readRule 80 = .ok (.iconst 1, 1) := by decide +kernel
theorem dX5_readRule_81 : decode cX5_readRule 81 = .ok (.ireturn, 1) := by decide +kernel
theorem dX5_readPeople_0 : decode cX5_readPeople 0 = .ok (.aload_n 1, 1) := by decide +kernel
theorem dX5_readPeople_1 : decode cX5_readPeople 1 = .ok (.iconst 0, 1) := by decide +kernel
theorem dX5_readPeople_2 : decode cX5_readPeople 2 = .ok (.putfield 52, 3) := by decide +kernel
theorem dX5_readPeople_5 : decode cX5_readPeople 5 = .ok (.iconst 0, 1) := by decide +kernel
theorem dX5_readPeople_6 : decode cX5_readPeople 6 = .ok (.istore_n 2, 1) := by decide +kernel
theorem dX5_readPeople_7 : decode cX5_readPeople 7 = .ok (.iload_n 2, 1) := by decide +kernel
theorem dX5_readPeople_8 : decode cX5_readPeople 8 = .ok (.iconst 5, 1) := by decide +kernel
theorem dX5_readPeople_9 : decode cX5_readPeople 9 = .ok (.if_icmp .ge 38, 3) := by decide +kernel
theorem dX5_readPeople_12 : decode cX5_readPeople 12 = .ok (.aload_n 0, 1) := by decide +kernel
theorem dX5_readPeople_13 : decode cX5_readPeople 13 = .ok (.invokevirtual 32, 3) := by decide +kernel
theorem dX5_readPeople_16 : decode cX5_readPeople 16 = .ok (.bipush 47, 2) := by decide +kernel
theorem dX5_readPeople_18 : decode cX5_readPeople 18 = .ok (.if_icmp .ne 29, 3) := by decide +kernel
theorem dX5_readPeople_21 : decode cX5_readPeople 21 = .ok (.aload_n 0, 1) := by decide +kernel
theorem dX5_readPeople_22 : decode cX5_readPeople 22 = .ok (.dup, 1) := by decide +kernel
theorem dX5_readPeople_23 : decode cX5_readPeople 23 = .ok (.getfield 19, 3) := by decide +kernel
theorem dX5_readPeople_26 : decode cX5_readPeople 26 = .ok (.iconst 1, 1) := by decide +kernel
theorem dX5_readPeople_27 : decode cX5_readPeople 27 = .ok (.iadd, 1) := by decide +kernel
theorem dX5_readPeople_28 : decode cX5_readPeople 28 = .ok (.putfield 19, 3) := by decide +kernel
theorem dX5_readPeople_31 : decode cX5_readPeople 31 = .ok (.aload_n 0, 1) := by decide +kernel
theorem dX5_readPeople_32 : decode cX5_readPeople 32 = .ok (.aload_n 1, 1) := by decide +kernel
theorem dX5_readPeople_33 : decode cX5_readPeople 33 = .ok (.invokevirtual 55, 3) := by decide +kernel
theorem dX5_readPeople_36 : decode cX5_readPeople 36 = .ok (.ifCond .ne 5, 3) := by decide +kernel
theorem dX5_readPeople_39 : decode cX5_readPeople 39 = .ok (.iconst 0, 1) := by decide +kernel
theorem dX5_readPeople_40 : decode cX5_readPeople 40 = .ok (.ireturn, 1) := by decide +kernel
theorem dX5_readPeople_41 : decode cX5_readPeople 41 = .ok (.iinc 2 1, 3) := by decide +kernel
theorem dX5_readPeople_44 : decode cX5_readPeople 44 = .ok (.goto (-37), 3) := by decide +kernel
theorem dX5_readPeople_47 : decode cX5_readPeople 47 = .ok (.aload_n 1, 1) := by decide +kernel
theorem dX5_readPeople_48 : decode cX5_readPeople 48 = .ok (.getfield 52, 3) := by decide +kernel
theorem dX5_readPeople_51 : decode cX5_readPeople 51 = .ok (.ifCond .le 7, 3) := by decide +kernel
theorem dX5_readPeople_54 : decode cX5_readPeople 54 = .ok (.iconst 1, 1) := by decide +kernel
theorem dX5_readPeople_55 : decode cX5_readPeople 55 = .ok (.goto 4, 3) := by decide +kernel
theorem dX5_readPeople_58 : decode cX5_readPeople 58 = .ok (.iconst 0, 1) := by decide +kernel
theorem dX5_readPeople_59 : decode cX5_readPeople 59 = .ok (.ireturn, 1) := by decide +kernel
theorem dX5_readPerson_0 : decode cX5_readPerson 0 = .ok (.aload_n 0, 1) := by decide +kernel
theorem dX5_readPerson_1 : decode cX5_readPerson 1 = .ok (.invokevirtual 32, 3) := by decide +kernel
theorem dX5_readPerson_4 : decode cX5_readPerson 4 = .ok (.istore_n 2, 1) := by decide +kernel
theorem dX5_readPerson_5 : decode cX5_readPerson 5 = .ok (.iload_n 2, 1) := by decide +kernel
theorem dX5_readPerson_6 : decode cX5_readPerson 6 = .ok (.iconst (-1), 1) := by decide +kernel
theorem dX5_readPerson_7 : decode cX5_readPerson 7 = .ok (.if_icmp .ne 7, 3) := by decide +kernel
theorem dX5_readPerson_10 : decode cX5_readPerson 10 = .ok (.iconst (-1), 1) := by decide +kernel
theorem dX5_readPerson_11 : decode cX5_readPerson 11 = .ok (.goto 10, 3) := by decide +kernel
theorem dX5_readPerson_14 : decode cX5_readPerson 14 = .ok (.ldc 58, 2) := by decide +kernel
theorem dX5_readPerson_16 : decode cX5_readPerson 16 = .ok (.iload_n 2, 1) := by decide +kernel
theorem dX5_readPerson_17 : decode cX5_readPerson 17 = .ok (.i2c, 1) := by decide +kernel
theorem dX5_readPerson_18 : decode cX5_readPerson 18 = .ok (.invokevirtual 60, 3) := by decide +kernel
theorem dX5_readPerson_21 : decode cX5_readPerson 21 = .ok (.istore_n 3, 1) := by decide +kernel
theorem dX5_readPerson_22 : decode cX5_readPerson 22 = .ok (.iload_n 3, 1) := by decide +kernel
theorem dX5_readPerson_23 : decode cX5_readPerson 23 = .ok (.ifCond .ge 5, 3) := by decide +kernel
theorem dX5_readPerson_26 : decode cX5_readPerson 26 = .ok (.iconst 0, 1) := by decide +kernel
theorem dX5_readPerson_27 : decode cX5_readPerson 27 = .ok (.ireturn, 1) := by decide +kernel
theorem dX5_readPerson_28 : decode cX5_readPerson 28 = .ok (.aload_n 0, 1) := by decide +kernel
theorem dX5_readPerson_29 : decode cX5_readPerson 29 = .ok (.dup, 1) := by decide +kernel
theorem dX5_readPerson_30 : decode cX5_readPerson 30 = .ok (.getfield 19, 3) := by decide +kernel
theorem dX5_readPerson_33 : decode cX5_readPerson 33 = .ok (.iconst 1, 1) := by decide +kernel
theorem dX5_readPerson_34 : decode cX5_readPerson 34 = .ok (.iadd, 1) := by decide +kernel
theorem dX5_readPerson_35 : decode cX5_readPerson 35 = .ok (.putfield 19, 3) := by decide +kernel
theorem dX5_readPerson_38 : decode cX5_readPerson 38 = .ok (.aload_n 1, 1) := by decide +kernel
theorem dX5_readPerson_39 : decode cX5_readPerson 39 = .ok (.iload_n 3, 1) := by decide +kernel
theorem dX5_readPerson_40 : decode cX5_readPerson 40 = .ok (.iconst 0, 1) := by decide +kernel
theorem dX5_readPerson_41 : decode cX5_readPerson 41 = .ok (.invokevirtual 66, 3) := by decide +kernel
theorem dX5_readPerson_44 : decode cX5_readPerson 44 = .ok (.istore 4, 2) := by decide +kernel
theorem dX5_readPerson_46 : decode cX5_readPerson 46 = .ok (.iconst 0, 1) := by decide +kernel
theorem dX5_readPerson_47 : decode cX5_readPerson 47 = .ok (.istore 5, 2) := by decide +kernel
theorem dX5_readPerson_49 : decode cX5_readPerson 49 = .ok (.iload 5, 2) := by decide +kernel
theorem dX5_readPerson_51 : decode cX5_readPerson 51 = .ok (.iconst 4, 1) := by decide +kernel
theorem dX5_readPerson_52 : decode cX5_readPerson 52 = .ok (.if_icmp .ge 51, 3) := by decide +kernel
theorem dX5_readPerson_55 : decode cX5_readPerson 55 = .ok (.aload_n 0, 1) := by decide +kernel
theorem dX5_readPerson_56 : decode cX5_readPerson 56 = .ok (.invokevirtual 32, 3) := by decide +kernel
theorem dX5_readPerson_59 : decode cX5_readPerson 59 = .ok (.bipush 97, 2) := by decide +kernel
theorem dX5_readPerson_61 : decode cX5_readPerson 61 = .ok (.isub, 1) := by decide +kernel
theorem dX5_readPerson_62 : decode cX5_readPerson 62 = .ok (.istore 6, 2) := by decide +kernel
theorem dX5_readPerson_64 : decode cX5_readPerson 64 = .ok (.iload 6, 2) := by decide +kernel
theorem dX5_readPerson_66 : decode cX5_readPerson 66 = .ok (.iconst 0, 1) := by decide +kernel
theorem dX5_readPerson_67 : decode cX5_readPerson 67 = .ok (.bipush 20, 2) := by decide +kernel
theorem dX5_readPerson_69 : decode cX5_readPerson 69 = .ok (.invokestatic 39, 3) := by decide +kernel
theorem dX5_readPerson_72 : decode cX5_readPerson 72 = .ok (.ifCond .ne 5, 3) := by decide +kernel
theorem dX5_readPerson_75 : decode cX5_readPerson 75 = .ok (.iconst 0, 1) := by decide +kernel
theorem dX5_readPerson_76 : decode cX5_readPerson 76 = .ok (.ireturn, 1) := by decide +kernel
theorem dX5_readPerson_77 : decode cX5_readPerson 77 = .ok (.aload_n 1, 1) := by decide +kernel
theorem dX5_readPerson_78 : decode cX5_readPerson 78 = .ok (.iload 4, 2) := by decide +kernel
theorem dX5_readPerson_80 : decode cX5_readPerson 80 = .ok (.iload 5, 2) := by decide +kernel
theorem dX5_readPerson_82 : decode cX5_readPerson 82 = .ok (.iload 6, 2) := by decide +kernel
theorem dX5_readPerson_84 : decode cX5_readPerson 84 = .ok (.invokevirtual 70, 3) := by decide +kernel
theorem dX5_readPerson_87 : decode cX5_readPerson 87 = .ok (.aload_n 0, 1) := by decide +kernel
theorem dX5_readPerson_88 : decode cX5_readPerson 88 = .ok (.dup, 1) := by decide +kernel
theorem dX5_readPerson_89 : decode cX5_readPerson 89 = .ok (.getfield 19, 3) := by decide +kernel
theorem dX5_readPerson_92 : decode cX5_readPerson 92 = .ok (.iconst 1, 1) := by decide +kernel
theorem dX5_readPerson_93 : decode cX5_readPerson 93 = .ok (.iadd, 1) := by decide +kernel
theorem dX5_readPerson_94 : decode cX5_readPerson 94 = .ok (.putfield 19, 3) := by decide +kernel
theorem dX5_readPerson_97 : decode cX5_readPerson 97 = .ok (.iinc 5 1, 3) := by decide +kernel
theorem dX5_readPerson_100 : decode cX5_readPerson 100 = .ok (.goto (-51), 3) := by decide +kernel
theorem dX5_readPerson_103 : decode cX5_readPerson 103 = .ok (.iconst 1, 1) := by decide +kernel
theorem dX5_readPerson_104 : decode cX5_readPerson 104 = .ok (.ireturn, 1) := by decide +kernel
theorem dX5_readKeys_0 : decode cX5_readKeys 0 = .ok (.aload_n 0, 1) := by decide +kernel
theorem dX5_readKeys_1 : decode cX5_readKeys 1 = .ok (.invokevirtual 32, 3) := by decide +kernel
theorem dX5_readKeys_4 : decode cX5_readKeys 4 = .ok (.bipush 59, 2) := by decide +kernel
theorem dX5_readKeys_6 : decode cX5_readKeys 6 = .ok (.if_icmp .eq 5, 3) := by decide +kernel
theorem dX5_readKeys_9 : decode cX5_readKeys 9 = .ok (.iconst 0, 1) := by decide +kernel
theorem dX5_readKeys_10 : decode cX5_readKeys 10 = .ok (.ireturn, 1) := by decide +kernel
theorem dX5_readKeys_11 : decode cX5_readKeys 11 = .ok (.aload_n 0, 1) := by decide +kernel
theorem dX5_readKeys_12 : decode cX5_readKeys 12 = .ok (.dup, 1) := by decide +kernel
theorem dX5_readKeys_13 : decode cX5_readKeys 13 = .ok (.getfield 19, 3) := by decide +kernel
theorem dX5_readKeys_16 : decode cX5_readKeys 16 = .ok (.iconst 1, 1) := by decide +kernel
theorem dX5_readKeys_17 : decode cX5_readKeys 17 = .ok (.iadd, 1) := by decide +kernel
theorem dX5_readKeys_18 : decode cX5_readKeys 18 = .ok (.putfield 19, 3) := by decide +kernel
theorem dX5_readKeys_21 : decode cX5_readKeys 21 = .ok (.iconst 0, 1) := by decide +kernel
theorem dX5_readKeys_22 : decode cX5_readKeys 22 = .ok (.istore_n 2, 1) := by decide +kernel
theorem dX5_readKeys_23 : decode cX5_readKeys 23 = .ok (.iload_n 2, 1) := by decide +kernel
theorem dX5_readKeys_24 : decode cX5_readKeys 24 = .ok (.iconst 4, 1) := by decide +kernel
theorem dX5_readKeys_25 : decode cX5_readKeys 25 = .ok (.if_icmp .ge 64, 3) := by decide +kernel
theorem dX5_readKeys_28 : decode cX5_readKeys 28 = .ok (.aload_n 0, 1) := by decide +kernel
theorem dX5_readKeys_29 : decode cX5_readKeys 29 = .ok (.invokevirtual 32, 3) := by decide +kernel
theorem dX5_readKeys_32 : decode cX5_readKeys 32 = .ok (.istore_n 3, 1) := by decide +kernel
theorem dX5_readKeys_33 : decode cX5_readKeys 33 = .ok (.iload_n 3, 1) := by decide +kernel
theorem dX5_readKeys_34 : decode cX5_readKeys 34 = .ok (.bipush 45, 2) := by decide +kernel
theorem dX5_readKeys_36 : decode cX5_readKeys 36 = .ok (.if_icmp .eq 16, 3) := by decide +kernel
theorem dX5_readKeys_39 : decode cX5_readKeys 39 = .ok (.aload_n 1, 1) := by decide +kernel
theorem dX5_readKeys_40 : decode cX5_readKeys 40 = .ok (.iload_n 3, 1) := by decide +kernel
theorem dX5_readKeys_41 : decode cX5_readKeys 41 = .ok (.bipush 48, 2) := by decide +kernel
theorem dX5_readKeys_43 : decode cX5_readKeys 43 = .ok (.isub, 1) := by decide +kernel
theorem dX5_readKeys_44 : decode cX5_readKeys 44 = .ok (.invokevirtual 74, 3) := by decide +kernel
theorem dX5_readKeys_47 : decode cX5_readKeys 47 = .ok (.ifCond .ne 5, 3) := by decide +kernel
theorem dX5_readKeys_50 : decode cX5_readKeys 50 = .ok (.iconst 0, 1) := by decide +kernel
theorem dX5_readKeys_51 : decode cX5_readKeys 51 = .ok (.ireturn, 1) := by decide +kernel
theorem dX5_readKeys_52 : decode cX5_readKeys 52 = .ok (.aload_n 1, 1) := by decide +kernel
theorem dX5_readKeys_53 : decode cX5_readKeys 53 = .ok (.getfield 77, 3) := by decide +kernel
theorem dX5_readKeys_56 : decode cX5_readKeys 56 = .ok (.iload_n 2, 1) := by decide +kernel
theorem dX5_readKeys_57 : decode cX5_readKeys 57 = .ok (.iload_n 3, 1) := by decide +kernel
theorem dX5_readKeys_58 : decode cX5_readKeys 58 = .ok (.bipush 45, 2) := by decide +kernel
theorem dX5_readKeys_60 : decode cX5_readKeys 60 = .ok (.if_icmp .ne 8, 3) := by decide +kernel
theorem dX5_readKeys_63 : decode cX5_readKeys 63 = .ok (.bipush (-4), 2) := by decide +kernel
theorem dX5_readKeys_65 : decode cX5_readKeys 65 = .ok (.goto 7, 3) := by decide +kernel
theorem dX5_readKeys_68 : decode cX5_readKeys 68 = .ok (.iload_n 3, 1) := by decide +kernel
theorem dX5_readKeys_69 : decode cX5_readKeys 69 = .ok (.bipush 48, 2) := by decide +kernel
theorem dX5_readKeys_71 : decode cX5_readKeys 71 = .ok (.isub, 1) := by decide +kernel
theorem dX5_readKeys_72 : decode cX5_readKeys 72 = .ok (.iastore, 1) := by decide +kernel
theorem dX5_readKeys_73 : decode cX5_readKeys 73 = .ok (.aload_n 0, 1) := by decide +kernel
theorem dX5_readKeys_74 : decode cX5_readKeys 74 = .ok (.dup, 1) := by decide +kernel
theorem dX5_readKeys_75 : decode cX5_readKeys 75 = .ok (.getfield 19, 3) := by decide +kernel
theorem dX5_readKeys_78 : decode cX5_readKeys 78 = .ok (.iconst 1, 1) := by decide +kernel
theorem dX5_readKeys_79 : decode cX5_readKeys 79 = .ok (.iadd, 1) := by decide +kernel
theorem dX5_readKeys_80 : decode cX5_readKeys 80 = .ok (.putfield 19, 3) := by decide +kernel
theorem dX5_readKeys_83 : decode cX5_readKeys 83 = .ok (.iinc 2 1, 3) := by decide +kernel
theorem dX5_readKeys_86 : decode cX5_readKeys 86 = .ok (.goto (-63), 3) := by decide +kernel
theorem dX5_readKeys_89 : decode cX5_readKeys 89 = .ok (.iconst 1, 1) := by decide +kernel
theorem dX5_readKeys_90 : decode cX5_readKeys 90 = .ok (.ireturn, 1) := by decide +kernel
theorem dX6_init_0 : decode cX6_init 0 = .ok (.aload_n 0, 1) := by decide +kernel
theorem dX6_init_1 : decode cX6_init 1 = .ok (.invokespecial 1, 3) := by decide +kernel
theorem dX6_init_4 : decode cX6_init 4 = .ok (.aload_n 0, 1) := by decide +kernel
theorem dX6_init_5 : decode cX6_init 5 = .ok (.new 7, 3) := by decide +kernel
theorem dX6_init_8 : decode cX6_init 8 = .ok (.dup, 1) := by decide +kernel
theorem dX6_init_9 : decode cX6_init 9 = .ok (.invokespecial 9, 3) := by decide +kernel
theorem dX6_init_12 : decode cX6_init 12 = .ok (.putfield 10, 3) := by decide +kernel
theorem dX6_init_15 : decode cX6_init 15 = .ok (.aload_n 0, 1) := by decide +kernel
theorem dX6_init_16 : decode cX6_init 16 = .ok (.new 7, 3) := by decide +kernel
theorem dX6_init_19 : decode cX6_init 19 = .ok (.dup, 1) := by decide +kernel
theorem dX6_init_20 : decode cX6_init 20 = .ok (.invokespecial 9, 3) := by decide +kernel
theorem dX6_init_23 : decode cX6_init 23 = .ok (.putfield 16, 3) := by decide +kernel
theorem dX6_init_26 : decode cX6_init 26 = .ok (.aload_n 0, 1) := by decide +kernel
theorem dX6_init_27 : decode cX6_init 27 = .ok (.new 19, 3) := by decide +kernel
theorem dX6_init_30 : decode cX6_init 30 = .ok (.dup, 1) := by decide +kernel
theorem dX6_init_31 : decode cX6_init 31 = .ok (.invokespecial 21, 3) := by decide +kernel
theorem dX6_init_34 : decode cX6_init 34 = .ok (.putfield 22, 3) := by decide +kernel
theorem dX6_init_37 : decode cX6_init 37 = .ok (.aload_n 0, 1) := by decide +kernel
theorem dX6_init_38 : decode cX6_init 38 = .ok (.new 7, 3) := by decide +kernel
theorem dX6_init_41 : decode cX6_init 41 = .ok (.dup, 1) := by decide +kernel
theorem dX6_init_42 : decode cX6_init 42 = .ok (.invokespecial 9, 3) := by decide +kernel
theorem dX6_init_45 : decode cX6_init 45 = .ok (.putfield 26, 3) := by decide +kernel
theorem dX6_init_48 : decode cX6_init 48 = .ok (.aload_n 0, 1) := by decide +kernel
theorem dX6_init_49 : decode cX6_init 49 = .ok (.new 19, 3) := by decide +kernel
theorem dX6_init_52 : decode cX6_init 52 = .ok (.dup, 1) := by decide +kernel
theorem dX6_init_53 : decode cX6_init 53 = .ok (.invokespecial 21, 3) := by decide +kernel
theorem dX6_init_56 : decode cX6_init 56 = .ok (.putfield 29, 3) := by decide +kernel
theorem dX6_init_59 : decode cX6_init 59 = .ok (.aload_n 0, 1) := by decide +kernel
theorem dX6_init_60 : decode cX6_init 60 = .ok (.iconst 0, 1) := by decide +kernel
theorem dX6_init_61 : decode cX6_init 61 = .ok (.putfield 32, 3) := by decide +kernel
theorem dX6_init_64 : decode cX6_init 64 = .ok (.aload_n 0, 1) := by decide +kernel
theorem dX6_init_65 : decode cX6_init 65 = .ok (.new 36, 3) := by decide +kernel
theorem dX6_init_68 : decode cX6_init 68 = .ok (.dup, 1) := by decide +kernel
theorem dX6_init_69 : decode cX6_init 69 = .ok (.invokespecial 38, 3) := by decide +kernel
theorem dX6_init_72 : decode cX6_init 72 = .ok (.putfield 39, 3) := by decide +kernel
theorem dX6_init_75 : decode cX6_init 75 = .ok (.aload_n 0, 1) := by decide +kernel
theorem dX6_init_76 : decode cX6_init 76 = .ok (.new 43, 3) := by decide +kernel
theorem dX6_init_79 : decode cX6_init 79 = .ok (.dup, 1) := by decide +kernel
theorem dX6_init_80 : decode cX6_init 80 = .ok (.invokespecial 45, 3) := by decide +kernel
theorem dX6_init_83 : decode cX6_init 83 = .ok (.putfield 46, 3) := by decide +kernel
theorem dX6_init_86 : decode cX6_init 86 = .ok (.aload_n 0, 1) := by decide +kernel
theorem dX6_init_87 : decode cX6_init 87 = .ok (.iconst 4, 1) := by decide +kernel
theorem dX6_init_88 : decode cX6_init 88 = .ok (.anewarray 50, 3) := by decide +kernel
theorem dX6_init_91 : decode cX6_init 91 = .ok (.dup, 1) := by decide +kernel
theorem dX6_init_92 : decode cX6_init 92 = .ok (.iconst 0, 1) := by decide +kernel
theorem dX6_init_93 : decode cX6_init 93 = .ok (.new 50, 3) := by decide +kernel
theorem dX6_init_96 : decode cX6_init 96 = .ok (.dup, 1) := by decide +kernel
theorem dX6_init_97 : decode cX6_init 97 = .ok (.invokespecial 52, 3) := by decide +kernel
theorem dX6_init_100 : decode cX6_init 100 = .ok (.aastore, 1) := by decide +kernel
theorem dX6_init_101 : decode cX6_init 101 = .ok (.dup, 1) := by decide +kernel
theorem dX6_init_102 : decode cX6_init 102 = .ok (.iconst 1, 1) := by decide +kernel
theorem dX6_init_103 : decode cX6_init 103 = .ok (.new 50, 3) := by decide +kernel
theorem dX6_init_106 : decode cX6_init 106 = .ok (.dup, 1) := by decide +kernel
theorem dX6_init_107 : decode cX6_init 107 = .ok (.invokespecial 52, 3) := by decide +kernel
theorem dX6_init_110 : decode cX6_init 110 = .ok (.aastore, 1) := by decide +kernel
theorem dX6_init_111 : decode cX6_init 111 = .ok (.dup, 1) := by decide +kernel
theorem dX6_init_112 : decode cX6_init 112 = .ok (.iconst 2, 1) := by decide +kernel
theorem dX6_init_113 : decode cX6_init 113 = .ok (.new 50, 3) := by decide +kernel
theorem dX6_init_116 : decode cX6_init 116 = .ok (.dup, 1) := by decide +kernel
theorem dX6_init_117 : decode cX6_init 117 = .ok (.invokespecial 52, 3) := by decide +kernel
theorem dX6_init_120 : decode cX6_init 120 = .ok (.aastore, 1) := by decide +kernel
theorem dX6_init_121 : decode cX6_init 121 = .ok (.dup, 1) := by decide +kernel
theorem dX6_init_122 : decode cX6_init 122 = .ok (.iconst 3, 1) := by decide +kernel
theorem dX6_init_123 : decode cX6_init 123 = .ok (.new 50, 3) := by decide +kernel
theorem dX6_init_126 : decode cX6_init 126 = .ok (.dup, 1) := by decide +kernel
theorem dX6_init_127 : decode cX6_init 127 = .ok (.invokespecial 52, 3) := by decide +kernel
theorem dX6_init_130 : decode cX6_init 130 = .ok (.aastore, 1) := by decide +kernel
theorem dX6_init_131 : decode cX6_init 131 = .ok (.putfield 53, 3) := by decide +kernel
theorem dX6_init_134 : decode cX6_init 134 = .ok (.return_, 1) := by decide +kernel
theorem dX6_person_0 : decode cX6_person 0 = .ok (.iload_n 1, 1) := by decide +kernel
theorem dX6_person_1 : decode cX6_person 1 = .ok (.iconst 0, 1) := by decide +kernel
theorem dX6_person_2 : decode cX6_person 2 = .ok (.iconst 4, 1) := by decide +kernel
theorem dX6_person_3 : decode cX6_person 3 = .ok (.invokestatic 57, 3) := by decide +kernel
theorem dX6_person_6 : decode cX6_person 6 = .ok (.ifCond .eq 13, 3) := by decide +kernel
theorem dX6_person_9 : decode cX6_person 9 = .ok (.iload_n 2, 1) := by decide +kernel
theorem dX6_person_10 : decode cX6_person 10 = .ok (.iconst 0, 1) := by decide +kernel
theorem dX6_person_11 : decode cX6_person 11 = .ok (.bipush 20, 2) := by decide +kernel
theorem dX6_person_13 : decode cX6_person 13 = .ok (.invokestatic 57, 3) := by decide +kernel
theorem dX6_person_16 : decode cX6_person 16 = .ok (.ifCond .ne 5, 3) := by decide +kernel
theorem dX6_person_19 : decode cX6_person 19 = .ok (.iconst (-1), 1) := by decide +kernel
theorem dX6_person_20 : decode cX6_person 20 = .ok (.ireturn, 1) := by decide +kernel
theorem dX6_person_21 : decode cX6_person 21 = .ok (.aload_n 0, 1) := by decide +kernel
theorem dX6_person_22 : decode cX6_person 22 = .ok (.getfield 10, 3) := by decide +kernel
theorem dX6_person_25 : decode cX6_person 25 = .ok (.getfield 61, 3) := by decide +kernel
theorem dX6_person_28 : decode cX6_person 28 = .ok (.iconst 5, 1) := by decide +kernel
theorem dX6_person_29 : decode cX6_person 29 = .ok (.if_icmp .lt 6, 3) := by decide +kernel
theorem dX6_person_32 : decode cX6_person 32 = .ok (.bipush (-3), 2) := by decide +kernel
theorem dX6_person_34 : decode cX6_person 34 = .ok (.ireturn, 1) := by decide +kernel
theorem dX6_person_35 : decode cX6_person 35 = .ok (.aload_n 0, 1) := by decide +kernel
theorem dX6_person_36 : decode cX6_person 36 = .ok (.getfield 22, 3) := by decide +kernel
theorem dX6_person_39 : decode cX6_person 39 = .ok (.invokevirtual 65, 3) := by decide +kernel
theorem dX6_person_42 : decode cX6_person 42 = .ok (.aload_n 0, 1) := by decide +kernel
theorem dX6_person_43 : decode cX6_person 43 = .ok (.getfield 10, 3) := by decide +kernel
theorem dX6_person_46 : decode cX6_person 46 = .ok (.iload_n 1, 1) := by decide +kernel
theorem dX6_person_47 : decode cX6_person 47 = .ok (.iload_n 2, 1) := by decide +kernel
theorem dX6_person_48 : decode cX6_person 48 = .ok (.invokevirtual 68, 3) := by decide +kernel
theorem dX6_person_51 : decode cX6_person 51 = .ok (.ireturn, 1) := by decide +kernel
theorem dX6_rule_0 : decode cX6_rule 0 = .ok (.iload_n 1, 1) := by decide +kernel
theorem dX6_rule_1 : decode cX6_rule 1 = .ok (.iconst 1, 1) := by decide +kernel
theorem dX6_rule_2 : decode cX6_rule 2 = .ok (.bipush 20, 2) := by decide +kernel
theorem dX6_rule_4 : decode cX6_rule 4 = .ok (.invokestatic 57, 3) := by decide +kernel
theorem dX6_rule_7 : decode cX6_rule 7 = .ok (.ifCond .ne 5, 3) := by decide +kernel
theorem dX6_rule_10 : decode cX6_rule 10 = .ok (.iconst (-1), 1) := by decide +kernel
theorem dX6_rule_11 : decode cX6_rule 11 = .ok (.ireturn, 1) := by decide +kernel
theorem dX6_rule_12 : decode cX6_rule 12 = .ok (.aload_n 0, 1) := by decide +kernel
theorem dX6_rule_13 : decode cX6_rule 13 = .ok (.getfield 10, 3) := by decide +kernel
theorem dX6_rule_16 : decode cX6_rule 16 = .ok (.getfield 72, 3) := by decide +kernel
theorem dX6_rule_19 : decode cX6_rule 19 = .ok (.istore_n 2, 1) := by decide +kernel
theorem dX6_rule_20 : decode cX6_rule 20 = .ok (.aload_n 0, 1) := by decide +kernel
theorem dX6_rule_21 : decode cX6_rule 21 = .ok (.getfield 10, 3) := by decide +kernel
theorem dX6_rule_24 : decode cX6_rule 24 = .ok (.iload_n 1, 1) := by decide +kernel
theorem dX6_rule_25 : decode cX6_rule 25 = .ok (.putfield 72, 3) := by decide +kernel
theorem dX6_rule_28 : decode cX6_rule 28 = .ok (.iload_n 2, 1) := by decide +kernel
theorem dX6_rule_29 : decode cX6_rule 29 = .ok (.ireturn, 1) := by decide +kernel
theorem dX6_wants_0 : decode cX6_wants 0 = .ok (.aload_n 0, 1) := by decide +kernel
theorem dX6_wants_1 : decode cX6_wants 1 = .ok (.getfield 10, 3) := by decide +kernel
theorem dX6_wants_4 : decode cX6_wants 4 = .ok (.iload_n 1, 1) := by decide +kernel
theorem dX6_wants_5 : decode cX6_wants 5 = .ok (.invokevirtual 75, 3) := by decide +kernel
theorem dX6_wants_8 : decode cX6_wants 8 = .ok (.ifCond .eq 10, 3) := by decide +kernel
theorem dX6_wants_11 : decode cX6_wants 11 = .ok (.iload_n 2, 1) := by decide +kernel
theorem dX6_wants_12 : decode cX6_wants 12 = .ok (.invokestatic 79, 3) := by decide +kernel
theorem dX6_wants_15 : decode cX6_wants 15 = .ok (.ifCond .ne 5, 3) := by decide +kernel
theorem dX6_wants_18 : decode cX6_wants 18 = .ok (.iconst (-1), 1) := by decide +kernel
theorem dX6_wants_19 : decode cX6_wants 19 = .ok (.ireturn, 1) := by decide +kernel
theorem dX6_wants_20 : decode cX6_wants 20 = .ok (.aload_n 0, 1) := by decide +kernel
theorem dX6_wants_21 : decode cX6_wants 21 = .ok (.getfield 10, 3) := by decide +kernel
theorem dX6_wants_24 : decode cX6_wants 24 = .ok (.iload_n 1, 1) := by decide +kernel
theorem dX6_wants_25 : decode cX6_wants 25 = .ok (.iload_n 2, 1) := by decide +kernel
theorem dX6_wants_26 : decode cX6_wants 26 = .ok (.invokevirtual 82, 3) := by decide +kernel
theorem dX6_wants_29 : decode cX6_wants 29 = .ok (.ireturn, 1) := by decide +kernel
theorem dX6_of_0 : decode cX6_of 0 = .ok (.aload_n 0, 1) := by decide +kernel
theorem dX6_of_1 : decode cX6_of 1 = .ok (.getfield 10, 3) := by decide +kernel
theorem dX6_of_4 : decode cX6_of 4 = .ok (.iload_n 1, 1) := by decide +kernel
theorem dX6_of_5 : decode cX6_of 5 = .ok (.invokevirtual 75, 3) := by decide +kernel
theorem dX6_of_8 : decode cX6_of 8 = .ok (.ifCond .ne 5, 3) := by decide +kernel
theorem dX6_of_11 : decode cX6_of 11 = .ok (.iconst (-1), 1) := by decide +kernel
theorem dX6_of_12 : decode cX6_of 12 = .ok (.ireturn, 1) := by decide +kernel
theorem dX6_of_13 : decode cX6_of 13 = .ok (.iload_n 2, 1) := by decide +kernel
theorem dX6_of_14 : decode cX6_of 14 = .ok (.tableswitch 54 0 2 #[26, 36, 45], 26) := by decide +kernel
theorem dX6_of_40 : decode cX6_of 40 = .ok (.aload_n 0, 1) := by decide +kernel
theorem dX6_of_41 : decode cX6_of 41 = .ok (.getfield 10, 3) := by decide +kernel
theorem dX6_of_44 : decode cX6_of 44 = .ok (.getfield 85, 3) := by decide +kernel
theorem dX6_of_47 : decode cX6_of 47 = .ok (.iload_n 1, 1) := by decide +kernel
theorem dX6_of_48 : decode cX6_of 48 = .ok (.iaload, 1) := by decide +kernel
theorem dX6_of_49 : decode cX6_of 49 = .ok (.ireturn, 1) := by decide +kernel
theorem dX6_of_50 : decode cX6_of 50 = .ok (.aload_n 0, 1) := by decide +kernel
theorem dX6_of_51 : decode cX6_of 51 = .ok (.getfield 10, 3) := by decide +kernel
theorem dX6_of_54 : decode cX6_of 54 = .ok (.iload_n 1, 1) := by decide +kernel
theorem dX6_of_55 : decode cX6_of 55 = .ok (.invokevirtual 89, 3) := by decide +kernel
theorem dX6_of_58 : decode cX6_of 58 = .ok (.ireturn, 1) := by decide +kernel
theorem dX6_of_59 : decode cX6_of 59 = .ok (.aload_n 0, 1) := by decide +kernel
theorem dX6_of_60 : decode cX6_of 60 = .ok (.getfield 10, 3) := by decide +kernel
theorem dX6_of_63 : decode cX6_of 63 = .ok (.iload_n 1, 1) := by decide +kernel
theorem dX6_of_64 : decode cX6_of 64 = .ok (.invokevirtual 93, 3) := by decide +kernel
theorem dX6_of_67 : decode cX6_of 67 = .ok (.ireturn, 1) := by decide +kernel
theorem dX6_of_68 : decode cX6_of 68 = .ok (.iconst (-1), 1) := by decide +kernel
theorem dX6_of_69 : decode cX6_of 69 = .ok (.ireturn, 1) := by decide +kernel
theorem dX6_at_0 : decode cX6_at 0 = .ok (.iload_n 1, 1) := by decide +kernel
theorem dX6_at_1 : decode cX6_at 1 = .ok (.invokestatic 79, 3) := by decide +kernel
theorem dX6_at_4 : decode cX6_at 4 = .ok (.ifCond .ne 5, 3) := by decide +kernel
theorem dX6_at_7 : decode cX6_at 7 = .ok (.iconst (-1), 1) := by decide +kernel
theorem dX6_at_8 : decode cX6_at 8 = .ok (.ireturn, 1) := by decide +kernel
theorem dX6_at_9 : decode cX6_at 9 = .ok (.iload_n 2, 1) := by decide +kernel
theorem dX6_at_10 : decode cX6_at 10 = .ok (.tableswitch 54 0 2 #[26, 36, 45], 26) := by decide +kernel
theorem dX6_at_36 : decode cX6_at 36 = .ok (.aload_n 0, 1) := by decide +kernel
theorem dX6_at_37 : decode cX6_at 37 = .ok (.getfield 10, 3) := by decide +kernel
theorem dX6_at_40 : decode cX6_at 40 = .ok (.getfield 96, 3) := by decide +kernel
theorem dX6_at_43 : decode cX6_at 43 = .ok (.iload_n 1, 1) := by decide +kernel
theorem dX6_at_44 : decode cX6_at 44 = .ok (.iaload, 1) := by decide +kernel
theorem dX6_at_45 : decode cX6_at 45 = .ok (.ireturn, 1) := by decide +kernel
theorem dX6_at_46 : decode cX6_at 46 = .ok (.aload_n 0, 1) := by decide +kernel
theorem dX6_at_47 : decode cX6_at 47 = .ok (.getfield 10, 3) := by decide +kernel
theorem dX6_at_50 : decode cX6_at 50 = .ok (.iload_n 1, 1) := by decide +kernel
theorem dX6_at_51 : decode cX6_at 51 = .ok (.invokevirtual 99, 3) := by decide +kernel
theorem dX6_at_54 : decode cX6_at 54 = .ok (.ireturn, 1) := by decide +kernel
theorem dX6_at_55 : decode cX6_at 55 = .ok (.aload_n 0, 1) := by decide +kernel
theorem dX6_at_56 : decode cX6_at 56 = .ok (.getfield 10, 3) := by decide +kernel
theorem dX6_at_59 : decode cX6_at 59 = .ok (.iload_n 1, 1) := by decide +kernel
theorem dX6_at_60 : decode cX6_at 60 = .ok (.invokevirtual 102, 3) := by decide +kernel
theorem dX6_at_63 : decode cX6_at 63 = .ok (.ireturn, 1) := by decide +kernel
theorem dX6_at_64 : decode cX6_at 64 = .ok (.iconst (-1), 1) := by decide +kernel
theorem dX6_at_65 : decode cX6_at 65 = .ok (.ireturn, 1) := by decide +kernel
theorem dX6_type_0 : decode cX6_type 0 = .ok (.iload_n 1, 1) := by decide +kernel
theorem dX6_type_1 : decode cX6_type 1 = .ok (.bipush 32, 2) := by decide +kernel
theorem dX6_type_3 : decode cX6_type 3 = .ok (.bipush 126, 2) := by decide +kernel
theorem dX6_type_5 : decode cX6_type 5 = .ok (.invokestatic 57, 3) := by decide +kernel
theorem dX6_type_8 : decode cX6_type 8 = .ok (.ifCond .ne 5, 3) := by decide +kernel
theorem dX6_type_11 : decode cX6_type 11 = .ok (.iconst (-1), 1) := by decide +kernel
theorem dX6_type_12 : decode cX6_type 12 = .ok (.ireturn, 1) := by decide +kernel
theorem dX6_type_13 : decode cX6_type 13 = .ok (.aload_n 0, 1) := by decide +kernel
theorem dX6_type_14 : decode cX6_type 14 = .ok (.getfield 39, 3) := by decide +kernel
theorem dX6_type_17 : decode cX6_type 17 = .ok (.getfield 105, 3) := by decide +kernel
theorem dX6_type_20 : decode cX6_type 20 = .ok (.bipush 50, 2) := by decide +kernel
theorem dX6_type_22 : decode cX6_type 22 = .ok (.if_icmp .lt 6, 3) := by decide +kernel
theorem dX6_type_25 : decode cX6_type 25 = .ok (.bipush (-3), 2) := by decide +kernel
theorem dX6_type_27 : decode cX6_type 27 = .ok (.ireturn, 1) := by decide +kernel
theorem dX6_type_28 : decode cX6_type 28 = .ok (.aload_n 0, 1) := by decide +kernel
theorem dX6_type_29 : decode cX6_type 29 = .ok (.getfield 39, 3) := by decide +kernel
theorem dX6_type_32 : decode cX6_type 32 = .ok (.iload_n 1, 1) := by decide +kernel
theorem dX6_type_33 : decode cX6_type 33 = .ok (.invokevirtual 108, 3) := by decide +kernel
theorem dX6_type_36 : decode cX6_type 36 = .ok (.ireturn, 1) := by decide +kernel
theorem dX6_college_0 : decode cX6_college 0 = .ok (.aload_n 0, 1) := by decide +kernel
theorem dX6_college_1 : decode cX6_college 1 = .ok (.getfield 39, 3) := by decide +kernel
theorem dX6_college_4 : decode cX6_college 4 = .ok (.aload_n 0, 1) := by decide +kernel
theorem dX6_college_5 : decode cX6_college 5 = .ok (.getfield 16, 3) := by decide +kernel
theorem dX6_college_8 : decode cX6_college 8 = .ok (.invokevirtual 111, 3) := by decide +kernel
theorem dX6_college_11 : decode cX6_college 11 = .ok (.istore_n 1, 1) := by decide +kernel
theorem dX6_college_12 : decode cX6_college 12 = .ok (.aload_n 0, 1) := by decide +kernel
theorem dX6_college_13 : decode cX6_college 13 = .ok (.getfield 39, 3) := by decide +kernel
theorem dX6_college_16 : decode cX6_college 16 = .ok (.iconst 0, 1) := by decide +kernel
theorem dX6_college_17 : decode cX6_college 17 = .ok (.putfield 105, 3) := by decide +kernel
theorem dX6_college_20 : decode cX6_college 20 = .ok (.iload_n 1, 1) := by decide +kernel
theorem dX6_college_21 : decode cX6_college 21 = .ok (.ifCond .eq 5, 3) := by decide +kernel
theorem dX6_college_24 : decode cX6_college 24 = .ok (.iload_n 1, 1) := by decide +kernel
theorem dX6_college_25 : decode cX6_college 25 = .ok (.ireturn, 1) := by decide +kernel
theorem dX6_college_26 : decode cX6_college 26 = .ok (.aload_n 0, 1) := by decide +kernel
theorem dX6_college_27 : decode cX6_college 27 = .ok (.getfield 16, 3) := by decide +kernel
theorem dX6_college_30 : decode cX6_college 30 = .ok (.iconst 0, 1) := by decide +kernel
theorem dX6_college_31 : decode cX6_college 31 = .ok (.putfield 115, 3) := by decide +kernel
theorem dX6_college_34 : decode cX6_college 34 = .ok (.aload_n 0, 1) := by decide +kernel
theorem dX6_college_35 : decode cX6_college 35 = .ok (.getfield 16, 3) := by decide +kernel
theorem dX6_college_38 : decode cX6_college 38 = .ok (.iconst 0, 1) := by decide +kernel
theorem dX6_college_39 : decode cX6_college 39 = .ok (.putfield 118, 3) := by decide +kernel
theorem dX6_college_42 : decode cX6_college 42 = .ok (.aload_n 0, 1) := by decide +kernel
theorem dX6_college_43 : decode cX6_college 43 = .ok (.getfield 16, 3) := by decide +kernel
theorem dX6_college_46 : decode cX6_college 46 = .ok (.aload_n 0, 1) := by decide +kernel
theorem dX6_college_47 : decode cX6_college 47 = .ok (.getfield 10, 3) := by decide +kernel
theorem dX6_college_50 : decode cX6_college 50 = .ok (.getfield 121, 3) := by decide +kernel
theorem dX6_college_53 : decode cX6_college 53 = .ok (.putfield 121, 3) := by decide +kernel
theorem dX6_college_56 : decode cX6_college 56 = .ok (.aload_n 0, 1) := by decide +kernel
theorem dX6_college_57 : decode cX6_college 57 = .ok (.getfield 10, 3) := by decide +kernel
theorem dX6_college_60 : decode cX6_college 60 = .ok (.aload_n 0, 1) := by decide +kernel
theorem dX6_college_61 : decode cX6_college 61 = .ok (.getfield 16, 3) := by decide +kernel
theorem dX6_college_64 : decode cX6_college 64 = .ok (.invokevirtual 124, 3) := by decide +kernel
theorem dX6_college_67 : decode cX6_college 67 = .ok (.aload_n 0, 1) := by decide +kernel
theorem dX6_college_68 : decode cX6_college 68 = .ok (.getfield 22, 3) := by decide +kernel
theorem dX6_college_71 : decode cX6_college 71 = .ok (.invokevirtual 65, 3) := by decide +kernel
theorem dX6_college_74 : decode cX6_college 74 = .ok (.aload_n 0, 1) := by decide +kernel
theorem dX6_college_75 : decode cX6_college 75 = .ok (.getfield 10, 3) := by decide +kernel
theorem dX6_college_78 : decode cX6_college 78 = .ok (.getfield 61, 3) := by decide +kernel
theorem dX6_college_81 : decode cX6_college 81 = .ok (.ireturn, 1) := by decide +kernel
theorem dX6_count_0 : decode cX6_count 0 = .ok (.iload_n 1, 1) := by decide +kernel
theorem dX6_count_1 : decode cX6_count 1 = .ok (.tableswitch 111 0 7 #[47, 55, 63, 71, 79, 87, 95, 103], 47) := by decide +kernel
theorem dX6_count_48 : decode cX6_count 48 = .ok (.aload_n 0, 1) := by decide +kernel
theorem dX6_count_49 : decode cX6_count 49 = .ok (.getfield 10, 3) := by decide +kernel
theorem dX6_count_52 : decode cX6_count 52 = .ok (.getfield 61, 3) := by decide +kernel
theorem dX6_count_55 : decode cX6_count 55 = .ok (.ireturn, 1) := by decide +kernel
theorem dX6_count_56 : decode cX6_count 56 = .ok (.aload_n 0, 1) := by decide +kernel
theorem dX6_count_57 : decode cX6_count 57 = .ok (.getfield 10, 3) := by decide +kernel
theorem dX6_count_60 : decode cX6_count 60 = .ok (.getfield 115, 3) := by decide +kernel
theorem dX6_count_63 : decode cX6_count 63 = .ok (.ireturn, 1) := by decide +kernel
theorem dX6_count_64 : decode cX6_count 64 = .ok (.aload_n 0, 1) := by decide +kernel
theorem dX6_count_65 : decode cX6_count 65 = .ok (.getfield 10, 3) := by decide +kernel
theorem dX6_count_68 : decode cX6_count 68 = .ok (.getfield 72, 3) := by decide +kernel
theorem dX6_count_71 : decode cX6_count 71 = .ok (.ireturn, 1) := by decide +kernel
theorem dX6_count_72 : decode cX6_count 72 = .ok (.aload_n 0, 1) := by decide +kernel
theorem dX6_count_73 : decode cX6_count 73 = .ok (.getfield 10, 3) := by decide +kernel
theorem dX6_count_76 : decode cX6_count 76 = .ok (.getfield 118, 3) := by decide +kernel
theorem dX6_count_79 : decode cX6_count 79 = .ok (.ireturn, 1) := by decide +kernel
theorem dX6_count_80 : decode cX6_count 80 = .ok (.aload_n 0, 1) := by decide +kernel
theorem dX6_count_81 : decode cX6_count 81 = .ok (.getfield 10, 3) := by decide +kernel
theorem dX6_count_84 : decode cX6_count 84 = .ok (.invokevirtual 128, 3) := by decide +kernel
theorem dX6_count_87 : decode cX6_count 87 = .ok (.ireturn, 1) := by decide +kernel
theorem dX6_count_88 : decode cX6_count 88 = .ok (.aload_n 0, 1) := by decide +kernel
theorem dX6_count_89 : decode cX6_count 89 = .ok (.getfield 10, 3) := by decide +kernel
theorem dX6_count_92 : decode cX6_count 92 = .ok (.invokevirtual 132, 3) := by decide +kernel
theorem dX6_count_95 : decode cX6_count 95 = .ok (.ireturn, 1) := by decide +kernel
theorem dX6_count_96 : decode cX6_count 96 = .ok (.aload_n 0, 1) := by decide +kernel
theorem dX6_count_97 : decode cX6_count 97 = .ok (.getfield 10, 3) := by decide +kernel
theorem dX6_count_100 : decode cX6_count 100 = .ok (.invokevirtual 135, 3) := by decide +kernel
theorem dX6_count_103 : decode cX6_count 103 = .ok (.ireturn, 1) := by decide +kernel
theorem dX6_count_104 : decode cX6_count 104 = .ok (.aload_n 0, 1) := by decide +kernel
theorem dX6_count_105 : decode cX6_count 105 = .ok (.getfield 22, 3) := by decide +kernel
theorem dX6_count_108 : decode cX6_count 108 = .ok (.getfield 138, 3) := by decide +kernel
theorem dX6_count_111 : decode cX6_count 111 = .ok (.ireturn, 1) := by decide +kernel
theorem dX6_count_112 : decode cX6_count 112 = .ok (.iconst (-1), 1) := by decide +kernel
theorem dX6_count_113 : decode cX6_count 113 = .ok (.ireturn, 1) := by decide +kernel
theorem dX6_days_0 : decode cX6_days 0 = .ok (.aload_n 0, 1) := by decide +kernel
theorem dX6_days_1 : decode cX6_days 1 = .ok (.iload_n 1, 1) := by decide +kernel
theorem dX6_days_2 : decode cX6_days 2 = .ok (.iconst 0, 1) := by decide +kernel
theorem dX6_days_3 : decode cX6_days 3 = .ok (.invokevirtual 141, 3) := by decide +kernel
theorem dX6_days_6 : decode cX6_days 6 = .ok (.ireturn, 1) := by decide +kernel
theorem dX6_talk_0 : decode cX6_talk 0 = .ok (.aload_n 0, 1) := by decide +kernel
theorem dX6_talk_1 : decode cX6_talk 1 = .ok (.getfield 10, 3) := by decide +kernel
theorem dX6_talk_4 : decode cX6_talk 4 = .ok (.iload_n 1, 1) := by decide +kernel
theorem dX6_talk_5 : decode cX6_talk 5 = .ok (.invokevirtual 75, 3) := by decide +kernel
theorem dX6_talk_8 : decode cX6_talk 8 = .ok (.ifCond .eq 20, 3) := by decide +kernel
theorem dX6_talk_11 : decode cX6_talk 11 = .ok (.iload_n 2, 1) := by decide +kernel
theorem dX6_talk_12 : decode cX6_talk 12 = .ok (.invokestatic 79, 3) := by decide +kernel
theorem dX6_talk_15 : decode cX6_talk 15 = .ok (.ifCond .eq 13, 3) := by decide +kernel
theorem dX6_talk_18 : decode cX6_talk 18 = .ok (.iload_n 3, 1) := by decide +kernel
theorem dX6_talk_19 : decode cX6_talk 19 = .ok (.iconst 1, 1) := by decide +kernel
theorem dX6_talk_20 : decode cX6_talk 20 = .ok (.bipush 20, 2) := by decide +kernel
theorem dX6_talk_22 : decode cX6_talk 22 = .ok (.invokestatic 57, 3) := by decide +kernel
theorem dX6_talk_25 : decode cX6_talk 25 = .ok (.ifCond .ne 5, 3) := by decide +kernel
theorem dX6_talk_28 : decode cX6_talk 28 = .ok (.iconst (-1), 1) := by decide +kernel
theorem dX6_talk_29 : decode cX6_talk 29 = .ok (.ireturn, 1) := by decide +kernel
theorem dX6_talk_30 : decode cX6_talk 30 = .ok (.aload_n 0, 1) := by decide +kernel
theorem dX6_talk_31 : decode cX6_talk 31 = .ok (.getfield 10, 3) := by decide +kernel
theorem dX6_talk_34 : decode cX6_talk 34 = .ok (.iload_n 1, 1) := by decide +kernel
theorem dX6_talk_35 : decode cX6_talk 35 = .ok (.iload_n 2, 1) := by decide +kernel
theorem dX6_talk_36 : decode cX6_talk 36 = .ok (.invokevirtual 82, 3) := by decide +kernel
theorem dX6_talk_39 : decode cX6_talk 39 = .ok (.bipush 20, 2) := by decide +kernel
theorem dX6_talk_41 : decode cX6_talk 41 = .ok (.if_icmp .lt 6, 3) := by decide +kernel
theorem dX6_talk_44 : decode cX6_talk 44 = .ok (.bipush (-2), 2) := by decide +kernel
theorem dX6_talk_46 : decode cX6_talk 46 = .ok (.ireturn, 1) := by decide +kernel
theorem dX6_talk_47 : decode cX6_talk 47 = .ok (.aload_n 0, 1) := by decide +kernel
theorem dX6_talk_48 : decode cX6_talk 48 = .ok (.getfield 22, 3) := by decide +kernel
theorem dX6_talk_51 : decode cX6_talk 51 = .ok (.aload_n 0, 1) := by decide +kernel
theorem dX6_talk_52 : decode cX6_talk 52 = .ok (.getfield 10, 3) := by decide +kernel
theorem dX6_talk_55 : decode cX6_talk 55 = .ok (.invokevirtual 145, 3) := by decide +kernel
theorem dX6_talk_58 : decode cX6_talk 58 = .ok (.aload_n 0, 1) := by decide +kernel
theorem dX6_talk_59 : decode cX6_talk 59 = .ok (.getfield 10, 3) := by decide +kernel
theorem dX6_talk_62 : decode cX6_talk 62 = .ok (.iload_n 1, 1) := by decide +kernel
theorem dX6_talk_63 : decode cX6_talk 63 = .ok (.iload_n 2, 1) := by decide +kernel
theorem dX6_talk_64 : decode cX6_talk 64 = .ok (.iload_n 3, 1) := by decide +kernel
theorem dX6_talk_65 : decode cX6_talk 65 = .ok (.invokevirtual 149, 3) := by decide +kernel
theorem dX6_talk_68 : decode cX6_talk 68 = .ok (.aload_n 0, 1) := by decide +kernel
theorem dX6_talk_69 : decode cX6_talk 69 = .ok (.getfield 10, 3) := by decide +kernel
theorem dX6_talk_72 : decode cX6_talk 72 = .ok (.iload_n 1, 1) := by decide +kernel
theorem dX6_talk_73 : decode cX6_talk 73 = .ok (.iload_n 2, 1) := by decide +kernel
theorem dX6_talk_74 : decode cX6_talk 74 = .ok (.invokevirtual 82, 3) := by decide +kernel
theorem dX6_talk_77 : decode cX6_talk 77 = .ok (.ireturn, 1) := by decide +kernel
theorem dX6_give_0 : decode cX6_give 0 = .ok (.iload_n 1, 1) := by decide +kernel
theorem dX6_give_1 : decode cX6_give 1 = .ok (.invokestatic 79, 3) := by decide +kernel
theorem dX6_give_4 : decode cX6_give 4 = .ok (.ifCond .eq 20, 3) := by decide +kernel
theorem dX6_give_7 : decode cX6_give 7 = .ok (.iload_n 2, 1) := by decide +kernel
theorem dX6_give_8 : decode cX6_give 8 = .ok (.bipush (-4), 2) := by decide +kernel
theorem dX6_give_10 : decode cX6_give 10 = .ok (.if_icmp .eq 16, 3) := by decide +kernel
theorem dX6_give_13 : decode cX6_give 13 = .ok (.aload_n 0, 1) := by decide +kernel
theorem dX6_give_14 : decode cX6_give 14 = .ok (.getfield 10, 3) := by decide +kernel
theorem dX6_give_17 : decode cX6_give 17 = .ok (.iload_n 2, 1) := by decide +kernel
theorem dX6_give_18 : decode cX6_give 18 = .ok (.invokevirtual 75, 3) := by decide +kernel
theorem dX6_give_21 : decode cX6_give 21 = .ok (.ifCond .ne 5, 3) := by decide +kernel
theorem dX6_give_24 : decode cX6_give 24 = .ok (.iconst (-1), 1) := by decide +kernel
theorem dX6_give_25 : decode cX6_give 25 = .ok (.ireturn, 1) := by decide +kernel
theorem dX6_give_26 : decode cX6_give 26 = .ok (.aload_n 0, 1) := by decide +kernel
theorem dX6_give_27 : decode cX6_give 27 = .ok (.getfield 10, 3) := by decide +kernel
theorem dX6_give_30 : decode cX6_give 30 = .ok (.getfield 96, 3) := by decide +kernel
theorem dX6_give_33 : decode cX6_give 33 = .ok (.iload_n 1, 1) := by decide +kernel
theorem dX6_give_34 : decode cX6_give 34 = .ok (.iaload, 1) := by decide +kernel
theorem dX6_give_35 : decode cX6_give 35 = .ok (.istore_n 3, 1) := by decide +kernel
theorem dX6_give_36 : decode cX6_give 36 = .ok (.iload_n 3, 1) := by decide +kernel
theorem dX6_give_37 : decode cX6_give 37 = .ok (.iload_n 2, 1) := by decide +kernel
theorem dX6_give_38 : decode cX6_give 38 = .ok (.if_icmp .ne 6, 3) := by decide +kernel
theorem dX6_give_41 : decode cX6_give 41 = .ok (.bipush (-2), 2) := by decide +kernel
theorem dX6_give_43 : decode cX6_give 43 = .ok (.ireturn, 1) := by decide +kernel
theorem dX6_give_44 : decode cX6_give 44 = .ok (.aload_n 0, 1) := by decide +kernel
theorem dX6_give_45 : decode cX6_give 45 = .ok (.getfield 22, 3) := by decide +kernel
theorem dX6_give_48 : decode cX6_give 48 = .ok (.aload_n 0, 1) := by decide +kernel
theorem dX6_give_49 : decode cX6_give 49 = .ok (.getfield 10, 3) := by decide +kernel
theorem dX6_give_52 : decode cX6_give 52 = .ok (.invokevirtual 145, 3) := by decide +kernel
theorem dX6_give_55 : decode cX6_give 55 = .ok (.aload_n 0, 1) := by decide +kernel
theorem dX6_give_56 : decode cX6_give 56 = .ok (.getfield 10, 3) := by decide +kernel
theorem dX6_give_59 : decode cX6_give 59 = .ok (.getfield 96, 3) := by decide +kernel
theorem dX6_give_62 : decode cX6_give 62 = .ok (.iload_n 1, 1) := by decide +kernel
theorem dX6_give_63 : decode cX6_give 63 = .ok (.iload_n 2, 1) := by decide +kernel
theorem dX6_give_64 : decode cX6_give 64 = .ok (.iastore, 1) := by decide +kernel
theorem dX6_give_65 : decode cX6_give 65 = .ok (.iload_n 3, 1) := by decide +kernel
theorem dX6_give_66 : decode cX6_give 66 = .ok (.ireturn, 1) := by decide +kernel
theorem dX6_drift_0 : decode cX6_drift 0 = .ok (.aload_n 0, 1) := by decide +kernel
theorem dX6_drift_1 : decode cX6_drift 1 = .ok (.iload_n 1, 1) := by decide +kernel
theorem dX6_drift_2 : decode cX6_drift 2 = .ok (.iconst 1, 1) := by decide +kernel
theorem dX6_drift_3 : decode cX6_drift 3 = .ok (.invokevirtual 141, 3) := by decide +kernel
theorem dX6_drift_6 : decode cX6_drift 6 = .ok (.ireturn, 1) := by decide +kernel
theorem dX6_undo_0 : decode cX6_undo 0 = .ok (.aload_n 0, 1) := by decide +kernel
theorem dX6_undo_1 : decode cX6_undo 1 = .ok (.getfield 22, 3) := by decide +kernel
theorem dX6_undo_4 : decode cX6_undo 4 = .ok (.getfield 138, 3) := by decide +kernel
theorem dX6_undo_7 : decode cX6_undo 7 = .ok (.ifCond .ne 6, 3) := by decide +kernel
theorem dX6_undo_10 : decode cX6_undo 10 = .ok (.bipush (-4), 2) := by decide +kernel
theorem dX6_undo_12 : decode cX6_undo 12 = .ok (.ireturn, 1) := by decide +kernel
theorem dX6_undo_13 : decode cX6_undo 13 = .ok (.aload_n 0, 1) := by decide +kernel
theorem dX6_undo_14 : decode cX6_undo 14 = .ok (.getfield 22, 3) := by decide +kernel
theorem dX6_undo_17 : decode cX6_undo 17 = .ok (.aload_n 0, 1) := by decide +kernel
theorem dX6_undo_18 : decode cX6_undo 18 = .ok (.getfield 10, 3) := by decide +kernel
theorem dX6_undo_21 : decode cX6_undo 21 = .ok (.invokevirtual 153, 3) := by decide +kernel
theorem dX6_undo_24 : decode cX6_undo 24 = .ok (.aload_n 0, 1) := by decide +kernel
theorem dX6_undo_25 : decode cX6_undo 25 = .ok (.getfield 22, 3) := by decide +kernel
theorem dX6_undo_28 : decode cX6_undo 28 = .ok (.getfield 138, 3) := by decide +kernel
theorem dX6_undo_31 : decode cX6_undo 31 = .ok (.ireturn, 1) := by decide +kernel
theorem dX6_seed_0 : decode cX6_seed 0 = .ok (.iload_n 1, 1) := by decide +kernel
theorem dX6_seed_1 : decode cX6_seed 1 = .ok (.ifCond .ge 5, 3) := by decide +kernel
theorem dX6_seed_4 : decode cX6_seed 4 = .ok (.iconst (-1), 1) := by decide +kernel
theorem dX6_seed_5 : decode cX6_seed 5 = .ok (.ireturn, 1) := by decide +kernel
theorem dX6_seed_6 : decode cX6_seed 6 = .ok (.aload_n 0, 1) := by decide +kernel
theorem dX6_seed_7 : decode cX6_seed 7 = .ok (.getfield 10, 3) := by decide +kernel
theorem dX6_seed_10 : decode cX6_seed 10 = .ok (.getfield 121, 3) := by decide +kernel
theorem dX6_seed_13 : decode cX6_seed 13 = .ok (.istore_n 2, 1) := by decide +kernel
theorem dX6_seed_14 : decode cX6_seed 14 = .ok (.aload_n 0, 1) := by decide +kernel
theorem dX6_seed_15 : decode cX6_seed 15 = .ok (.getfield 10, 3) := by decide +kernel
theorem dX6_seed_18 : decode cX6_seed 18 = .ok (.iload_n 1, 1) := by decide +kernel
theorem dX6_seed_19 : decode cX6_seed 19 = .ok (.putfield 121, 3) := by decide +kernel
theorem dX6_seed_22 : decode cX6_seed 22 = .ok (.iload_n 2, 1) := by decide +kernel
theorem dX6_seed_23 : decode cX6_seed 23 = .ok (.ireturn, 1) := by decide +kernel
theorem dX6_keeper_0 : decode cX6_keeper 0 = .ok (.iload_n 1, 1) := by decide +kernel
theorem dX6_keeper_1 : decode cX6_keeper 1 = .ok (.invokestatic 79, 3) := by decide +kernel
theorem dX6_keeper_4 : decode cX6_keeper 4 = .ok (.ifCond .eq 13, 3) := by decide +kernel
theorem dX6_keeper_7 : decode cX6_keeper 7 = .ok (.iload_n 2, 1) := by decide +kernel
theorem dX6_keeper_8 : decode cX6_keeper 8 = .ok (.iconst 0, 1) := by decide +kernel
theorem dX6_keeper_9 : decode cX6_keeper 9 = .ok (.bipush 60, 2) := by decide +kernel
theorem dX6_keeper_11 : decode cX6_keeper 11 = .ok (.invokestatic 57, 3) := by decide +kernel
theorem dX6_keeper_14 : decode cX6_keeper 14 = .ok (.ifCond .ne 5, 3) := by decide +kernel
theorem dX6_keeper_17 : decode cX6_keeper 17 = .ok (.iconst (-1), 1) := by decide +kernel
theorem dX6_keeper_18 : decode cX6_keeper 18 = .ok (.ireturn, 1) := by decide +kernel
theorem dX6_keeper_19 : decode cX6_keeper 19 = .ok (.aload_n 0, 1) := by decide +kernel
theorem dX6_keeper_20 : decode cX6_keeper 20 = .ok (.iload_n 2, 1) := by decide +kernel
theorem dX6_keeper_21 : decode cX6_keeper 21 = .ok (.invokevirtual 156, 3) := by decide +kernel
theorem dX6_keeper_24 : decode cX6_keeper 24 = .ok (.aload_n 0, 1) := by decide +kernel
theorem dX6_keeper_25 : decode cX6_keeper 25 = .ok (.getfield 16, 3) := by decide +kernel
theorem dX6_keeper_28 : decode cX6_keeper 28 = .ok (.getfield 96, 3) := by decide +kernel
theorem dX6_keeper_31 : decode cX6_keeper 31 = .ok (.iload_n 1, 1) := by decide +kernel
theorem dX6_keeper_32 : decode cX6_keeper 32 = .ok (.iaload, 1) := by decide +kernel
theorem dX6_keeper_33 : decode cX6_keeper 33 = .ok (.ireturn, 1) := by decide +kernel
theorem dX6_ahead_0 : decode cX6_ahead 0 = .ok (.aload_n 0, 1) := by decide +kernel
theorem dX6_ahead_1 : decode cX6_ahead 1 = .ok (.getfield 10, 3) := by decide +kernel
theorem dX6_ahead_4 : decode cX6_ahead 4 = .ok (.iload_n 1, 1) := by decide +kernel
theorem dX6_ahead_5 : decode cX6_ahead 5 = .ok (.invokevirtual 75, 3) := by decide +kernel
theorem dX6_ahead_8 : decode cX6_ahead 8 = .ok (.ifCond .eq 20, 3) := by decide +kernel
theorem dX6_ahead_11 : decode cX6_ahead 11 = .ok (.iload_n 2, 1) := by decide +kernel
theorem dX6_ahead_12 : decode cX6_ahead 12 = .ok (.invokestatic 79, 3) := by decide +kernel
theorem dX6_ahead_15 : decode cX6_ahead 15 = .ok (.ifCond .eq 13, 3) := by decide +kernel
theorem dX6_ahead_18 : decode cX6_ahead 18 = .ok (.iload_n 3, 1) := by decide +kernel
theorem dX6_ahead_19 : decode cX6_ahead 19 = .ok (.iconst 0, 1) := by decide +kernel
theorem dX6_ahead_20 : decode cX6_ahead 20 = .ok (.bipush 60, 2) := by decide +kernel
theorem dX6_ahead_22 : decode cX6_ahead 22 = .ok (.invokestatic 57, 3) := by decide +kernel
theorem dX6_ahead_25 : decode cX6_ahead 25 = .ok (.ifCond .ne 5, 3) := by decide +kernel
theorem dX6_ahead_28 : decode cX6_ahead 28 = .ok (.iconst (-1), 1) := by decide +kernel
theorem dX6_ahead_29 : decode cX6_ahead 29 = .ok (.ireturn, 1) := by decide +kernel
theorem dX6_ahead_30 : decode cX6_ahead 30 = .ok (.aload_n 0, 1) := by decide +kernel
theorem dX6_ahead_31 : decode cX6_ahead 31 = .ok (.iload_n 3, 1) := by decide +kernel
theorem dX6_ahead_32 : decode cX6_ahead 32 = .ok (.invokevirtual 156, 3) := by decide +kernel
theorem dX6_ahead_35 : decode cX6_ahead 35 = .ok (.aload_n 0, 1) := by decide +kernel
theorem dX6_ahead_36 : decode cX6_ahead 36 = .ok (.getfield 16, 3) := by decide +kernel
theorem dX6_ahead_39 : decode cX6_ahead 39 = .ok (.iload_n 1, 1) := by decide +kernel
theorem dX6_ahead_40 : decode cX6_ahead 40 = .ok (.iload_n 2, 1) := by decide +kernel
theorem dX6_ahead_41 : decode cX6_ahead 41 = .ok (.invokevirtual 82, 3) := by decide +kernel
theorem dX6_ahead_44 : decode cX6_ahead 44 = .ok (.ireturn, 1) := by decide +kernel
theorem dX6_then_0 : decode cX6_then 0 = .ok (.iload_n 1, 1) := by decide +kernel
theorem dX6_then_1 : decode cX6_then 1 = .ok (.iconst 0, 1) := by decide +kernel
theorem dX6_then_2 : decode cX6_then 2 = .ok (.bipush 60, 2) := by decide +kernel
theorem dX6_then_4 : decode cX6_then 4 = .ok (.invokestatic 57, 3) := by decide +kernel
theorem dX6_then_7 : decode cX6_then 7 = .ok (.ifCond .ne 5, 3) := by decide +kernel
theorem dX6_then_10 : decode cX6_then 10 = .ok (.iconst (-1), 1) := by decide +kernel
theorem dX6_then_11 : decode cX6_then 11 = .ok (.ireturn, 1) := by decide +kernel
theorem dX6_then_12 : decode cX6_then 12 = .ok (.aload_n 0, 1) := by decide +kernel
theorem dX6_then_13 : decode cX6_then 13 = .ok (.iload_n 1, 1) := by decide +kernel
theorem dX6_then_14 : decode cX6_then 14 = .ok (.invokevirtual 156, 3) := by decide +kernel
theorem dX6_then_17 : decode cX6_then 17 = .ok (.aload_n 0, 1) := by decide +kernel
theorem dX6_then_18 : decode cX6_then 18 = .ok (.getfield 16, 3) := by decide +kernel
theorem dX6_then_21 : decode cX6_then 21 = .ok (.getfield 118, 3) := by decide +kernel
theorem dX6_then_24 : decode cX6_then 24 = .ok (.ireturn, 1) := by decide +kernel
theorem dX6_in_0 : decode cX6_in 0 = .ok (.iload_n 1, 1) := by decide +kernel
theorem dX6_in_1 : decode cX6_in 1 = .ok (.invokestatic 79, 3) := by decide +kernel
theorem dX6_in_4 : decode cX6_in 4 = .ok (.ifCond .ne 5, 3) := by decide +kernel
theorem dX6_in_7 : decode cX6_in 7 = .ok (.iconst (-1), 1) := by decide +kernel
theorem dX6_in_8 : decode cX6_in 8 = .ok (.ireturn, 1) := by decide +kernel
theorem dX6_in_9 : decode cX6_in 9 = .ok (.aload_n 0, 1) := by decide +kernel
theorem dX6_in_10 : decode cX6_in 10 = .ok (.getfield 16, 3) := by decide +kernel
theorem dX6_in_13 : decode cX6_in 13 = .ok (.aload_n 0, 1) := by decide +kernel
theorem dX6_in_14 : decode cX6_in 14 = .ok (.getfield 10, 3) := by decide +kernel
theorem dX6_in_17 : decode cX6_in 17 = .ok (.invokevirtual 124, 3) := by decide +kernel
theorem dX6_in_20 : decode cX6_in 20 = .ok (.aload_n 0, 1) := by decide +kernel
theorem dX6_in_21 : decode cX6_in 21 = .ok (.getfield 16, 3) := by decide +kernel
theorem dX6_in_24 : decode cX6_in 24 = .ok (.iload_n 1, 1) := by decide +kernel
theorem dX6_in_25 : decode cX6_in 25 = .ok (.bipush 60, 2) := by decide +kernel
theorem dX6_in_27 : decode cX6_in 27 = .ok (.invokevirtual 160, 3) := by decide +kernel
theorem dX6_in_30 : decode cX6_in 30 = .ok (.ireturn, 1) := by decide +kernel
theorem dX6_holds_0 : decode cX6_holds 0 = .ok (.iload_n 1, 1) := by decide +kernel
theorem dX6_holds_1 : decode cX6_holds 1 = .ok (.invokestatic 79, 3) := by decide +kernel
theorem dX6_holds_4 : decode cX6_holds 4 = .ok (.ifCond .ne 5, 3) := by decide +kernel
theorem dX6_holds_7 : decode cX6_holds 7 = .ok (.iconst (-1), 1) := by decide +kernel
theorem dX6_holds_8 : decode cX6_holds 8 = .ok (.ireturn, 1) := by decide +kernel
theorem dX6_holds_9 : decode cX6_holds 9 = .ok (.aload_n 0, 1) := by decide +kernel
theorem dX6_holds_10 : decode cX6_holds 10 = .ok (.getfield 16, 3) := by decide +kernel
theorem dX6_holds_13 : decode cX6_holds 13 = .ok (.aload_n 0, 1) := by decide +kernel
theorem dX6_holds_14 : decode cX6_holds 14 = .ok (.getfield 10, 3) := by decide +kernel
theorem dX6_holds_17 : decode cX6_holds 17 = .ok (.invokevirtual 124, 3) := by decide +kernel
theorem dX6_holds_20 : decode cX6_holds 20 = .ok (.iconst 1, 1) := by decide +kernel
theorem dX6_holds_21 : decode cX6_holds 21 = .ok (.istore_n 2, 1) := by decide +kernel
theorem dX6_holds_22 : decode cX6_holds 22 = .ok (.iload_n 2, 1) := by decide +kernel
theorem dX6_holds_23 : decode cX6_holds 23 = .ok (.bipush 60, 2) := by decide +kernel
theorem dX6_holds_25 : decode cX6_holds 25 = .ok (.if_icmp .gt 50, 3) := by decide +kernel
theorem dX6_holds_28 : decode cX6_holds 28 = .ok (.aload_n 0, 1) := by decide +kernel
theorem dX6_holds_29 : decode cX6_holds 29 = .ok (.getfield 16, 3) := by decide +kernel
theorem dX6_holds_32 : decode cX6_holds 32 = .ok (.invokevirtual 163, 3) := by decide +kernel
theorem dX6_holds_35 : decode cX6_holds 35 = .ok (.aload_n 0, 1) := by decide +kernel
theorem dX6_holds_36 : decode cX6_holds 36 = .ok (.getfield 16, 3) := by decide +kernel
theorem dX6_holds_39 : decode cX6_holds 39 = .ok (.iload_n 1, 1) := by decide +kernel
theorem dX6_holds_40 : decode cX6_holds 40 = .ok (.invokevirtual 166, 3) := by decide +kernel
theorem dX6_holds_43 : decode cX6_holds 43 = .ok (.ifCond .ne 24, 3) := by decide +kernel
theorem dX6_holds_46 : decode cX6_holds 46 = .ok (.aload_n 0, 1) := by decide +kernel
theorem dX6_holds_47 : decode cX6_holds 47 = .ok (.getfield 16, 3) := by decide +kernel
theorem dX6_holds_50 : decode cX6_holds 50 = .ok (.getfield 96, 3) := by decide +kernel
theorem dX6_holds_53 : decode cX6_holds 53 = .ok (.iload_n 1, 1) := by decide +kernel
theorem dX6_holds_54 : decode cX6_holds 54 = .ok (.iaload, 1) := by decide +kernel
theorem dX6_holds_55 : decode cX6_holds 55 = .ok (.aload_n 0, 1) := by decide +kernel
theorem dX6_holds_56 : decode cX6_holds 56 = .ok (.getfield 10, 3) := by decide +kernel
theorem dX6_holds_59 : decode cX6_holds 59 = .ok (.getfield 96, 3) := by decide +kernel
theorem dX6_holds_62 : decode cX6_holds 62 = .ok (.iload_n 1, 1) := by decide +kernel
theorem dX6_holds_63 : decode cX6_holds 63 = .ok (.iaload, 1) := by decide +kernel
theorem dX6_holds_64 : decode cX6_holds 64 = .ok (.if_icmp .eq 5, 3) := by decide +kernel
theorem dX6_holds_67 : decode cX6_holds 67 = .ok (.iload_n 2, 1) := by decide +kernel
theorem dX6_holds_68 : decode cX6_holds 68 = .ok (.ireturn, 1) := by decide +kernel
theorem dX6_holds_69 : decode cX6_holds 69 = .ok (.iinc 2 1, 3) := by decide +kernel
theorem dX6_holds_72 : decode cX6_holds 72 = .ok (.goto (-50), 3) := by decide +kernel
theorem dX6_holds_75 : decode cX6_holds 75 = .ok (.bipush (-4), 2) := by decide +kernel
theorem dX6_holds_77 : decode cX6_holds 77 = .ok (.ireturn, 1) := by decide +kernel
theorem dX6_had_0 : decode cX6_had 0 = .ok (.iload_n 1, 1) := by decide +kernel
theorem dX6_had_1 : decode cX6_had 1 = .ok (.invokestatic 79, 3) := by decide +kernel
theorem dX6_had_4 : decode cX6_had 4 = .ok (.ifCond .eq 13, 3) := by decide +kernel
theorem dX6_had_7 : decode cX6_had 7 = .ok (.iload_n 2, 1) := by decide +kernel
theorem dX6_had_8 : decode cX6_had 8 = .ok (.iconst 0, 1) := by decide +kernel
theorem dX6_had_9 : decode cX6_had 9 = .ok (.bipush 60, 2) := by decide +kernel
theorem dX6_had_11 : decode cX6_had 11 = .ok (.invokestatic 57, 3) := by decide +kernel
theorem dX6_had_14 : decode cX6_had 14 = .ok (.ifCond .ne 5, 3) := by decide +kernel
theorem dX6_had_17 : decode cX6_had 17 = .ok (.iconst (-1), 1) := by decide +kernel
theorem dX6_had_18 : decode cX6_had 18 = .ok (.ireturn, 1) := by decide +kernel
theorem dX6_had_19 : decode cX6_had 19 = .ok (.aload_n 0, 1) := by decide +kernel
theorem dX6_had_20 : decode cX6_had 20 = .ok (.getfield 16, 3) := by decide +kernel
theorem dX6_had_23 : decode cX6_had 23 = .ok (.aload_n 0, 1) := by decide +kernel
theorem dX6_had_24 : decode cX6_had 24 = .ok (.getfield 10, 3) := by decide +kernel
theorem dX6_had_27 : decode cX6_had 27 = .ok (.invokevirtual 124, 3) := by decide +kernel
theorem dX6_had_30 : decode cX6_had 30 = .ok (.aload_n 0, 1) := by decide +kernel
theorem dX6_had_31 : decode cX6_had 31 = .ok (.getfield 16, 3) := by decide +kernel
theorem dX6_had_34 : decode cX6_had 34 = .ok (.iload_n 1, 1) := by decide +kernel
theorem dX6_had_35 : decode cX6_had 35 = .ok (.invokevirtual 169, 3) := by decide +kernel
theorem dX6_had_38 : decode cX6_had 38 = .ok (.istore_n 3, 1) := by decide +kernel
theorem dX6_had_39 : decode cX6_had 39 = .ok (.iconst 1, 1) := by decide +kernel
theorem dX6_had_40 : decode cX6_had 40 = .ok (.istore 4, 2) := by decide +kernel
theorem dX6_had_42 : decode cX6_had 42 = .ok (.iload 4, 2) := by decide +kernel
theorem dX6_had_44 : decode cX6_had 44 = .ok (.iload_n 2, 1) := by decide +kernel
theorem dX6_had_45 : decode cX6_had 45 = .ok (.if_icmp .gt 27, 3) := by decide +kernel
theorem dX6_had_48 : decode cX6_had 48 = .ok (.aload_n 0, 1) := by decide +kernel
theorem dX6_had_49 : decode cX6_had 49 = .ok (.getfield 16, 3) := by decide +kernel
theorem dX6_had_52 : decode cX6_had 52 = .ok (.invokevirtual 163, 3) := by decide +kernel
theorem dX6_had_55 : decode cX6_had 55 = .ok (.iload_n 3, 1) := by decide +kernel
theorem dX6_had_56 : decode cX6_had 56 = .ok (.aload_n 0, 1) := by decide +kernel
theorem dX6_had_57 : decode cX6_had 57 = .ok (.getfield 16, 3) := by decide +kernel
theorem dX6_had_60 : decode cX6_had 60 = .ok (.iload_n 1, 1) := by decide +kernel
theorem dX6_had_61 : decode cX6_had 61 = .ok (.invokevirtual 169, 3) := by decide +kernel
theorem dX6_had_64 : decode cX6_had 64 = .ok (.ior, 1) := by decide +kernel
theorem dX6_had_65 : decode cX6_had 65 = .ok (.istore_n 3, 1) := by decide +kernel
theorem dX6_had_66 : decode cX6_had 66 = .ok (.iinc 4 1, 3) := by decide +kernel
theorem dX6_had_69 : decode cX6_had 69 = .ok (.goto (-27), 3) := by decide +kernel
theorem dX6_had_72 : decode cX6_had 72 = .ok (.iload_n 3, 1) := by decide +kernel
theorem dX6_had_73 : decode cX6_had 73 = .ok (.ireturn, 1) := by decide +kernel
theorem dX6_keep_0 : decode cX6_keep 0 = .ok (.iload_n 1, 1) := by decide +kernel
theorem dX6_keep_1 : decode cX6_keep 1 = .ok (.iconst 1, 1) := by decide +kernel
theorem dX6_keep_2 : decode cX6_keep 2 = .ok (.bipush 30, 2) := by decide +kernel
theorem dX6_keep_4 : decode cX6_keep 4 = .ok (.invokestatic 57, 3) := by decide +kernel
theorem dX6_keep_7 : decode cX6_keep 7 = .ok (.ifCond .eq 13, 3) := by decide +kernel
theorem dX6_keep_10 : decode cX6_keep 10 = .ok (.iload_n 2, 1) := by decide +kernel
theorem dX6_keep_11 : decode cX6_keep 11 = .ok (.bipush (-2), 2) := by decide +kernel
theorem dX6_keep_13 : decode cX6_keep 13 = .ok (.iconst 3, 1) := by decide +kernel
theorem dX6_keep_14 : decode cX6_keep 14 = .ok (.invokestatic 57, 3) := by decide +kernel
theorem dX6_keep_17 : decode cX6_keep 17 = .ok (.ifCond .ne 5, 3) := by decide +kernel
theorem dX6_keep_20 : decode cX6_keep 20 = .ok (.iconst (-1), 1) := by decide +kernel
theorem dX6_keep_21 : decode cX6_keep 21 = .ok (.ireturn, 1) := by decide +kernel
theorem dX6_keep_22 : decode cX6_keep 22 = .ok (.aload_n 0, 1) := by decide +kernel
theorem dX6_keep_23 : decode cX6_keep 23 = .ok (.getfield 10, 3) := by decide +kernel
theorem dX6_keep_26 : decode cX6_keep 26 = .ok (.getfield 61, 3) := by decide +kernel
theorem dX6_keep_29 : decode cX6_keep 29 = .ok (.ifCond .ne 6, 3) := by decide +kernel
theorem dX6_keep_32 : decode cX6_keep 32 = .ok (.bipush (-4), 2) := by decide +kernel
theorem dX6_keep_34 : decode cX6_keep 34 = .ok (.ireturn, 1) := by decide +kernel
theorem dX6_keep_35 : decode cX6_keep 35 = .ok (.aload_n 0, 1) := by decide +kernel
theorem dX6_keep_36 : decode cX6_keep 36 = .ok (.getfield 46, 3) := by decide +kernel
theorem dX6_keep_39 : decode cX6_keep 39 = .ok (.aload_n 0, 1) := by decide +kernel
theorem dX6_keep_40 : decode cX6_keep 40 = .ok (.getfield 10, 3) := by decide +kernel
theorem dX6_keep_43 : decode cX6_keep 43 = .ok (.aload_n 0, 1) := by decide +kernel
theorem dX6_keep_44 : decode cX6_keep 44 = .ok (.getfield 16, 3) := by decide +kernel
theorem dX6_keep_47 : decode cX6_keep 47 = .ok (.iload_n 1, 1) := by decide +kernel
theorem dX6_keep_48 : decode cX6_keep 48 = .ok (.invokevirtual 172, 3) := by decide +kernel
theorem dX6_keep_51 : decode cX6_keep 51 = .ok (.iload_n 2, 1) := by decide +kernel
theorem dX6_keep_52 : decode cX6_keep 52 = .ok (.lookupswitch 44 #[(-2, 36), (-1, 28)], 28) := by decide +kernel
theorem dX6_keep_80 : decode cX6_keep 80 = .ok (.aload_n 0, 1) := by decide +kernel
theorem dX6_keep_81 : decode cX6_keep 81 = .ok (.getfield 46, 3) := by decide +kernel
theorem dX6_keep_84 : decode cX6_keep 84 = .ok (.getfield 176, 3) := by decide +kernel
theorem dX6_keep_87 : decode cX6_keep 87 = .ok (.ireturn, 1) := by decide +kernel
theorem dX6_keep_88 : decode cX6_keep 88 = .ok (.aload_n 0, 1) := by decide +kernel
theorem dX6_keep_89 : decode cX6_keep 89 = .ok (.getfield 46, 3) := by decide +kernel
theorem dX6_keep_92 : decode cX6_keep 92 = .ok (.getfield 177, 3) := by decide +kernel
theorem dX6_keep_95 : decode cX6_keep 95 = .ok (.ireturn, 1) := by decide +kernel
theorem dX6_keep_96 : decode cX6_keep 96 = .ok (.aload_n 0, 1) := by decide +kernel
theorem dX6_keep_97 : decode cX6_keep 97 = .ok (.getfield 46, 3) := by decide +kernel
theorem dX6_keep_100 : decode cX6_keep 100 = .ok (.getfield 180, 3) := by decide +kernel
theorem dX6_keep_103 : decode cX6_keep 103 = .ok (.iload_n 2, 1) := by decide +kernel
theorem dX6_keep_104 : decode cX6_keep 104 = .ok (.iaload, 1) := by decide +kernel
theorem dX6_keep_105 : decode cX6_keep 105 = .ok (.ireturn, 1) := by decide +kernel
theorem dX6_tempt_0 : decode cX6_tempt 0 = .ok (.iload_n 1, 1) := by decide +kernel
theorem dX6_tempt_1 : decode cX6_tempt 1 = .ok (.invokestatic 79, 3) := by decide +kernel
theorem dX6_tempt_4 : decode cX6_tempt 4 = .ok (.ifCond .eq 13, 3) := by decide +kernel
theorem dX6_tempt_7 : decode cX6_tempt 7 = .ok (.iload_n 2, 1) := by decide +kernel
theorem dX6_tempt_8 : decode cX6_tempt 8 = .ok (.iconst 1, 1) := by decide +kernel
theorem dX6_tempt_9 : decode cX6_tempt 9 = .ok (.bipush 30, 2) := by decide +kernel
theorem dX6_tempt_11 : decode cX6_tempt 11 = .ok (.invokestatic 57, 3) := by decide +kernel
theorem dX6_tempt_14 : decode cX6_tempt 14 = .ok (.ifCond .ne 5, 3) := by decide +kernel
theorem dX6_tempt_17 : decode cX6_tempt 17 = .ok (.iconst (-1), 1) := by decide +kernel
theorem dX6_tempt_18 : decode cX6_tempt 18 = .ok (.ireturn, 1) := by decide +kernel
theorem dX6_tempt_19 : decode cX6_tempt 19 = .ok (.aload_n 0, 1) := by decide +kernel
theorem dX6_tempt_20 : decode cX6_tempt 20 = .ok (.getfield 10, 3) := by decide +kernel
theorem dX6_tempt_23 : decode cX6_tempt 23 = .ok (.getfield 96, 3) := by decide +kernel
theorem dX6_tempt_26 : decode cX6_tempt 26 = .ok (.iload_n 1, 1) := by decide +kernel
theorem dX6_tempt_27 : decode cX6_tempt 27 = .ok (.iaload, 1) := by decide +kernel
theorem dX6_tempt_28 : decode cX6_tempt 28 = .ok (.istore_n 3, 1) := by decide +kernel
theorem dX6_tempt_29 : decode cX6_tempt 29 = .ok (.iload_n 3, 1) := by decide +kernel
theorem dX6_tempt_30 : decode cX6_tempt 30 = .ok (.bipush (-4), 2) := by decide +kernel
theorem dX6_tempt_32 : decode cX6_tempt 32 = .ok (.if_icmp .ne 6, 3) := by decide +kernel
theorem dX6_tempt_35 : decode cX6_tempt 35 = .ok (.bipush (-4), 2) := by decide +kernel
theorem dX6_tempt_37 : decode cX6_tempt 37 = .ok (.ireturn, 1) := by decide +kernel
theorem dX6_tempt_38 : decode cX6_tempt 38 = .ok (.iconst 0, 1) := by decide +kernel
theorem dX6_tempt_39 : decode cX6_tempt 39 = .ok (.istore 4, 2) := by decide +kernel
theorem dX6_tempt_41 : decode cX6_tempt 41 = .ok (.iload 4, 2) := by decide +kernel
theorem dX6_tempt_43 : decode cX6_tempt 43 = .ok (.bipush 20, 2) := by decide +kernel
theorem dX6_tempt_45 : decode cX6_tempt 45 = .ok (.if_icmp .gt 48, 3) := by decide +kernel
theorem dX6_tempt_48 : decode cX6_tempt 48 = .ok (.aload_n 0, 1) := by decide +kernel
theorem dX6_tempt_49 : decode cX6_tempt 49 = .ok (.getfield 16, 3) := by decide +kernel
theorem dX6_tempt_52 : decode cX6_tempt 52 = .ok (.aload_n 0, 1) := by decide +kernel
theorem dX6_tempt_53 : decode cX6_tempt 53 = .ok (.getfield 10, 3) := by decide +kernel
theorem dX6_tempt_56 : decode cX6_tempt 56 = .ok (.invokevirtual 124, 3) := by decide +kernel
theorem dX6_tempt_59 : decode cX6_tempt 59 = .ok (.aload_n 0, 1) := by decide +kernel
theorem dX6_tempt_60 : decode cX6_tempt 60 = .ok (.getfield 16, 3) := by decide +kernel
theorem dX6_tempt_63 : decode cX6_tempt 63 = .ok (.iload_n 3, 1) := by decide +kernel
theorem dX6_tempt_64 : decode cX6_tempt 64 = .ok (.iload_n 1, 1) := by decide +kernel
theorem dX6_tempt_65 : decode cX6_tempt 65 = .ok (.iload 4, 2) := by decide +kernel
theorem dX6_tempt_67 : decode cX6_tempt 67 = .ok (.invokevirtual 149, 3) := by decide +kernel
theorem dX6_tempt_70 : decode cX6_tempt 70 = .ok (.aload_n 0, 1) := by decide +kernel
theorem dX6_tempt_71 : decode cX6_tempt 71 = .ok (.getfield 16, 3) := by decide +kernel
theorem dX6_tempt_74 : decode cX6_tempt 74 = .ok (.iload_n 1, 1) := by decide +kernel
theorem dX6_tempt_75 : decode cX6_tempt 75 = .ok (.iload_n 2, 1) := by decide +kernel
theorem dX6_tempt_76 : decode cX6_tempt 76 = .ok (.invokevirtual 160, 3) := by decide +kernel
theorem dX6_tempt_79 : decode cX6_tempt 79 = .ok (.bipush (-4), 2) := by decide +kernel
theorem dX6_tempt_81 : decode cX6_tempt 81 = .ok (.if_icmp .eq 6, 3) := by decide +kernel
theorem dX6_tempt_84 : decode cX6_tempt 84 = .ok (.iload 4, 2) := by decide +kernel
theorem dX6_tempt_86 : decode cX6_tempt 86 = .ok (.ireturn, 1) := by decide +kernel
theorem dX6_tempt_87 : decode cX6_tempt 87 = .ok (.iinc 4 1, 3) := by decide +kernel
theorem dX6_tempt_90 : decode cX6_tempt 90 = .ok (.goto (-49), 3) := by decide +kernel
theorem dX6_tempt_93 : decode cX6_tempt 93 = .ok (.bipush (-4), 2) := by decide +kernel
theorem dX6_tempt_95 : decode cX6_tempt 95 = .ok (.ireturn, 1) := by decide +kernel
theorem dX6_strict_0 : decode cX6_strict 0 = .ok (.iload_n 1, 1) := by decide +kernel
theorem dX6_strict_1 : decode cX6_strict 1 = .ok (.iconst 1, 1) := by decide +kernel
theorem dX6_strict_2 : decode cX6_strict 2 = .ok (.bipush 30, 2) := by decide +kernel
theorem dX6_strict_4 : decode cX6_strict 4 = .ok (.invokestatic 57, 3) := by decide +kernel
theorem dX6_strict_7 : decode cX6_strict 7 = .ok (.ifCond .ne 5, 3) := by decide +kernel
theorem dX6_strict_10 : decode cX6_strict 10 = .ok (.iconst (-1), 1) := by decide +kernel
theorem dX6_strict_11 : decode cX6_strict 11 = .ok (.ireturn, 1) := by decide +kernel
theorem dX6_strict_12 : decode cX6_strict 12 = .ok (.bipush 20, 2) := by decide +kernel
theorem dX6_strict_14 : decode cX6_strict 14 = .ok (.istore_n 2, 1) := by decide +kernel
theorem dX6_strict_15 : decode cX6_strict 15 = .ok (.iload_n 2, 1) := by decide +kernel
theorem dX6_strict_16 : decode cX6_strict 16 = .ok (.iconst 1, 1) := by decide +kernel
theorem dX6_strict_17 : decode cX6_strict 17 = .ok (.if_icmp .lt 55, 3) := by decide +kernel
theorem dX6_strict_20 : decode cX6_strict 20 = .ok (.aload_n 0, 1) := by decide +kernel
theorem dX6_strict_21 : decode cX6_strict 21 = .ok (.getfield 16, 3) := by decide +kernel
theorem dX6_strict_24 : decode cX6_strict 24 = .ok (.aload_n 0, 1) := by decide +kernel
theorem dX6_strict_25 : decode cX6_strict 25 = .ok (.getfield 10, 3) := by decide +kernel
theorem dX6_strict_28 : decode cX6_strict 28 = .ok (.invokevirtual 124, 3) := by decide +kernel
theorem dX6_strict_31 : decode cX6_strict 31 = .ok (.aload_n 0, 1) := by decide +kernel
theorem dX6_strict_32 : decode cX6_strict 32 = .ok (.getfield 16, 3) := by decide +kernel
theorem dX6_strict_35 : decode cX6_strict 35 = .ok (.iload_n 2, 1) := by decide +kernel
theorem dX6_strict_36 : decode cX6_strict 36 = .ok (.putfield 72, 3) := by decide +kernel
theorem dX6_strict_39 : decode cX6_strict 39 = .ok (.aload_n 0, 1) := by decide +kernel
theorem dX6_strict_40 : decode cX6_strict 40 = .ok (.getfield 16, 3) := by decide +kernel
theorem dX6_strict_43 : decode cX6_strict 43 = .ok (.iload_n 1, 1) := by decide +kernel
theorem dX6_strict_44 : decode cX6_strict 44 = .ok (.invokevirtual 181, 3) := by decide +kernel
theorem dX6_strict_47 : decode cX6_strict 47 = .ok (.aload_n 0, 1) := by decide +kernel
theorem dX6_strict_48 : decode cX6_strict 48 = .ok (.getfield 16, 3) := by decide +kernel
theorem dX6_strict_51 : decode cX6_strict 51 = .ok (.getfield 118, 3) := by decide +kernel
theorem dX6_strict_54 : decode cX6_strict 54 = .ok (.aload_n 0, 1) := by decide +kernel
theorem dX6_strict_55 : decode cX6_strict 55 = .ok (.getfield 10, 3) := by decide +kernel
theorem dX6_strict_58 : decode cX6_strict 58 = .ok (.getfield 118, 3) := by decide +kernel
theorem dX6_strict_61 : decode cX6_strict 61 = .ok (.if_icmp .ne 5, 3) := by decide +kernel
theorem dX6_strict_64 : decode cX6_strict 64 = .ok (.iload_n 2, 1) := by decide +kernel
theorem dX6_strict_65 : decode cX6_strict 65 = .ok (.ireturn, 1) := by decide +kernel
theorem dX6_strict_66 : decode cX6_strict 66 = .ok (.iinc 2 (-1), 3) := by decide +kernel
theorem dX6_strict_69 : decode cX6_strict 69 = .ok (.goto (-54), 3) := by decide +kernel
theorem dX6_strict_72 : decode cX6_strict 72 = .ok (.bipush (-4), 2) := by decide +kernel
theorem dX6_strict_74 : decode cX6_strict 74 = .ok (.ireturn, 1) := by decide +kernel
theorem dX6_yawn_0 : decode cX6_yawn 0 = .ok (.iload_n 1, 1) := by decide +kernel
theorem dX6_yawn_1 : decode cX6_yawn 1 = .ok (.invokestatic 79, 3) := by decide +kernel
theorem dX6_yawn_4 : decode cX6_yawn 4 = .ok (.ifCond .eq 22, 3) := by decide +kernel
theorem dX6_yawn_7 : decode cX6_yawn 7 = .ok (.iload_n 2, 1) := by decide +kernel
theorem dX6_yawn_8 : decode cX6_yawn 8 = .ok (.iconst 0, 1) := by decide +kernel
theorem dX6_yawn_9 : decode cX6_yawn 9 = .ok (.bipush 10, 2) := by decide +kernel
theorem dX6_yawn_11 : decode cX6_yawn 11 = .ok (.invokestatic 57, 3) := by decide +kernel
theorem dX6_yawn_14 : decode cX6_yawn 14 = .ok (.ifCond .eq 12, 3) := by decide +kernel
theorem dX6_yawn_17 : decode cX6_yawn 17 = .ok (.iload_n 3, 1) := by decide +kernel
theorem dX6_yawn_18 : decode cX6_yawn 18 = .ok (.iconst 0, 1) := by decide +kernel
theorem dX6_yawn_19 : decode cX6_yawn 19 = .ok (.iconst 1, 1) := by decide +kernel
theorem dX6_yawn_20 : decode cX6_yawn 20 = .ok (.invokestatic 57, 3) := by decide +kernel
theorem dX6_yawn_23 : decode cX6_yawn 23 = .ok (.ifCond .ne 5, 3) := by decide +kernel
theorem dX6_yawn_26 : decode cX6_yawn 26 = .ok (.iconst (-1), 1) := by decide +kernel
theorem dX6_yawn_27 : decode cX6_yawn 27 = .ok (.ireturn, 1) := by decide +kernel
theorem dX6_yawn_28 : decode cX6_yawn 28 = .ok (.iconst 1, 1) := by decide +kernel
theorem dX6_yawn_29 : decode cX6_yawn 29 = .ok (.istore 4, 2) := by decide +kernel
theorem dX6_yawn_31 : decode cX6_yawn 31 = .ok (.iconst 1, 1) := by decide +kernel
theorem dX6_yawn_32 : decode cX6_yawn 32 = .ok (.istore 5, 2) := by decide +kernel
theorem dX6_yawn_34 : decode cX6_yawn 34 = .ok (.iconst 0, 1) := by decide +kernel
theorem dX6_yawn_35 : decode cX6_yawn 35 = .ok (.istore 6, 2) := by decide +kernel
theorem dX6_yawn_37 : decode cX6_yawn 37 = .ok (.iload 6, 2) := by decide +kernel
theorem dX6_yawn_39 : decode cX6_yawn 39 = .ok (.aload_n 0, 1) := by decide +kernel
theorem dX6_yawn_40 : decode cX6_yawn 40 = .ok (.getfield 10, 3) := by decide +kernel
theorem dX6_yawn_43 : decode cX6_yawn 43 = .ok (.getfield 61, 3) := by decide +kernel
theorem dX6_yawn_46 : decode cX6_yawn 46 = .ok (.if_icmp .ge 45, 3) := by decide +kernel
theorem dX6_yawn_49 : decode cX6_yawn 49 = .ok (.aload_n 0, 1) := by decide +kernel
theorem dX6_yawn_50 : decode cX6_yawn 50 = .ok (.getfield 10, 3) := by decide +kernel
theorem dX6_yawn_53 : decode cX6_yawn 53 = .ok (.iload 6, 2) := by decide +kernel
theorem dX6_yawn_55 : decode cX6_yawn 55 = .ok (.iload_n 1, 1) := by decide +kernel
theorem dX6_yawn_56 : decode cX6_yawn 56 = .ok (.invokevirtual 82, 3) := by decide +kernel
theorem dX6_yawn_59 : decode cX6_yawn 59 = .ok (.aload_n 0, 1) := by decide +kernel
theorem dX6_yawn_60 : decode cX6_yawn 60 = .ok (.getfield 10, 3) := by decide +kernel
theorem dX6_yawn_63 : decode cX6_yawn 63 = .ok (.getfield 72, 3) := by decide +kernel
theorem dX6_yawn_66 : decode cX6_yawn 66 = .ok (.if_icmp .lt 19, 3) := by decide +kernel
theorem dX6_yawn_69 : decode cX6_yawn 69 = .ok (.iload 4, 2) := by decide +kernel
theorem dX6_yawn_71 : decode cX6_yawn 71 = .ok (.bipush 10, 2) := by decide +kernel
theorem dX6_yawn_73 : decode cX6_yawn 73 = .ok (.iload_n 2, 1) := by decide +kernel
theorem dX6_yawn_74 : decode cX6_yawn 74 = .ok (.isub, 1) := by decide +kernel
theorem dX6_yawn_75 : decode cX6_yawn 75 = .ok (.imul, 1) := by decide +kernel
theorem dX6_yawn_76 : decode cX6_yawn 76 = .ok (.istore 4, 2) := by decide +kernel
theorem dX6_yawn_78 : decode cX6_yawn 78 = .ok (.iload 5, 2) := by decide +kernel
theorem dX6_yawn_80 : decode cX6_yawn 80 = .ok (.bipush 10, 2) := by decide +kernel
theorem dX6_yawn_82 : decode cX6_yawn 82 = .ok (.imul, 1) := by decide +kernel
theorem dX6_yawn_83 : decode cX6_yawn 83 = .ok (.istore 5, 2) := by decide +kernel
theorem dX6_yawn_85 : decode cX6_yawn 85 = .ok (.iinc 6 1, 3) := by decide +kernel
theorem dX6_yawn_88 : decode cX6_yawn 88 = .ok (.goto (-51), 3) := by decide +kernel
theorem dX6_yawn_91 : decode cX6_yawn 91 = .ok (.iload 4, 2) := by decide +kernel
theorem dX6_yawn_93 : decode cX6_yawn 93 = .ok (.iload 5, 2) := by decide +kernel
theorem dX6_yawn_95 : decode cX6_yawn 95 = .ok (.invokestatic 184, 3) := by decide +kernel
theorem dX6_yawn_98 : decode cX6_yawn 98 = .ok (.istore 6, 2) := by decide +kernel
theorem dX6_yawn_100 : decode cX6_yawn 100 = .ok (.iload_n 3, 1) := by decide +kernel
theorem dX6_yawn_101 : decode cX6_yawn 101 = .ok (.ifCond .ne 8, 3) := by decide +kernel
theorem dX6_yawn_104 : decode cX6_yawn 104 = .ok (.iload 4, 2) := by decide +kernel
theorem dX6_yawn_106 : decode cX6_yawn 106 = .ok (.goto 5, 3) := by decide +kernel
theorem dX6_yawn_109 : decode cX6_yawn 109 = .ok (.iload 5, 2) := by decide +kernel
theorem dX6_yawn_111 : decode cX6_yawn 111 = .ok (.iload 6, 2) := by decide +kernel
theorem dX6_yawn_113 : decode cX6_yawn 113 = .ok (.idiv, 1) := by decide +kernel
theorem dX6_yawn_114 : decode cX6_yawn 114 = .ok (.ireturn, 1) := by decide +kernel
theorem dX6_image_0 : decode cX6_image 0 = .ok (.aload_n 0, 1) := by decide +kernel
theorem dX6_image_1 : decode cX6_image 1 = .ok (.getfield 26, 3) := by decide +kernel
theorem dX6_image_4 : decode cX6_image 4 = .ok (.aload_n 0, 1) := by decide +kernel
theorem dX6_image_5 : decode cX6_image 5 = .ok (.getfield 10, 3) := by decide +kernel
theorem dX6_image_8 : decode cX6_image 8 = .ok (.invokevirtual 124, 3) := by decide +kernel
theorem dX6_image_11 : decode cX6_image 11 = .ok (.aload_n 0, 1) := by decide +kernel
theorem dX6_image_12 : decode cX6_image 12 = .ok (.getfield 29, 3) := by decide +kernel
theorem dX6_image_15 : decode cX6_image 15 = .ok (.aload_n 0, 1) := by decide +kernel
theorem dX6_image_16 : decode cX6_image 16 = .ok (.getfield 22, 3) := by decide +kernel
theorem dX6_image_19 : decode cX6_image 19 = .ok (.invokevirtual 187, 3) := by decide +kernel
theorem dX6_image_22 : decode cX6_image 22 = .ok (.aload_n 0, 1) := by decide +kernel
theorem dX6_image_23 : decode cX6_image 23 = .ok (.iconst 1, 1) := by decide +kernel
theorem dX6_image_24 : decode cX6_image 24 = .ok (.putfield 32, 3) := by decide +kernel
theorem dX6_image_27 : decode cX6_image 27 = .ok (.iconst 1, 1) := by decide +kernel
theorem dX6_image_28 : decode cX6_image 28 = .ok (.ireturn, 1) := by decide +kernel
theorem dX6_restore_0 : decode cX6_restore 0 = .ok (.aload_n 0, 1) := by decide +kernel
theorem dX6_restore_1 : decode cX6_restore 1 = .ok (.getfield 32, 3) := by decide +kernel
theorem dX6_restore_4 : decode cX6_restore 4 = .ok (.ifCond .ne 6, 3) := by decide +kernel
theorem dX6_restore_7 : decode cX6_restore 7 = .ok (.bipush (-4), 2) := by decide +kernel
theorem dX6_restore_9 : decode cX6_restore 9 = .ok (.ireturn, 1) := by decide +kernel
theorem dX6_restore_10 : decode cX6_restore 10 = .ok (.aload_n 0, 1) := by decide +kernel
theorem dX6_restore_11 : decode cX6_restore 11 = .ok (.getfield 10, 3) := by decide +kernel
theorem dX6_restore_14 : decode cX6_restore 14 = .ok (.aload_n 0, 1) := by decide +kernel
theorem dX6_restore_15 : decode cX6_restore 15 = .ok (.getfield 26, 3) := by decide +kernel
theorem dX6_restore_18 : decode cX6_restore 18 = .ok (.invokevirtual 124, 3) := by decide +kernel
theorem dX6_restore_21 : decode cX6_restore 21 = .ok (.aload_n 0, 1) := by decide +kernel
theorem dX6_restore_22 : decode cX6_restore 22 = .ok (.getfield 22, 3) := by decide +kernel
theorem dX6_restore_25 : decode cX6_restore 25 = .ok (.aload_n 0, 1) := by decide +kernel
theorem dX6_restore_26 : decode cX6_restore 26 = .ok (.getfield 29, 3) := by decide +kernel
theorem dX6_restore_29 : decode cX6_restore 29 = .ok (.invokevirtual 187, 3) := by decide +kernel
theorem dX6_restore_32 : decode cX6_restore 32 = .ok (.iconst 1, 1) := by decide +kernel
theorem dX6_restore_33 : decode cX6_restore 33 = .ok (.ireturn, 1) := by decide +kernel
theorem dX6_told_0 : decode cX6_told 0 = .ok (.aload_n 0, 1) := by decide +kernel
theorem dX6_told_1 : decode cX6_told 1 = .ok (.getfield 10, 3) := by decide +kernel
theorem dX6_told_4 : decode cX6_told 4 = .ok (.iload_n 1, 1) := by decide +kernel
theorem dX6_told_5 : decode cX6_told 5 = .ok (.invokevirtual 75, 3) := by decide +kernel
theorem dX6_told_8 : decode cX6_told 8 = .ok (.ifCond .eq 46, 3) := by decide +kernel
theorem dX6_told_11 : decode cX6_told 11 = .ok (.iload_n 2, 1) := by decide +kernel
theorem dX6_told_12 : decode cX6_told 12 = .ok (.invokestatic 79, 3) := by decide +kernel
theorem dX6_told_15 : decode cX6_told 15 = .ok (.ifCond .eq 39, 3) := by decide +kernel
theorem dX6_told_18 : decode cX6_told 18 = .ok (.iload_n 3, 1) := by decide +kernel
theorem dX6_told_19 : decode cX6_told 19 = .ok (.invokestatic 190, 3) := by decide +kernel
theorem dX6_told_22 : decode cX6_told 22 = .ok (.ifCond .eq 32, 3) := by decide +kernel
theorem dX6_told_25 : decode cX6_told 25 = .ok (.iload 4, 2) := by decide +kernel
theorem dX6_told_27 : decode cX6_told 27 = .ok (.invokestatic 193, 3) := by decide +kernel
theorem dX6_told_30 : decode cX6_told 30 = .ok (.ifCond .eq 24, 3) := by decide +kernel
theorem dX6_told_33 : decode cX6_told 33 = .ok (.iload 6, 2) := by decide +kernel
theorem dX6_told_35 : decode cX6_told 35 = .ok (.iconst 1, 1) := by decide +kernel
theorem dX6_told_36 : decode cX6_told 36 = .ok (.bipush 8, 2) := by decide +kernel
theorem dX6_told_38 : decode cX6_told 38 = .ok (.invokestatic 57, 3) := by decide +kernel
theorem dX6_told_41 : decode cX6_told 41 = .ok (.ifCond .eq 13, 3) := by decide +kernel
theorem dX6_told_44 : decode cX6_told 44 = .ok (.iload 7, 2) := by decide +kernel
theorem dX6_told_46 : decode cX6_told 46 = .ok (.iconst 0, 1) := by decide +kernel
theorem dX6_told_47 : decode cX6_told 47 = .ok (.iconst 2, 1) := by decide +kernel
theorem dX6_told_48 : decode cX6_told 48 = .ok (.invokestatic 57, 3) := by decide +kernel
theorem dX6_told_51 : decode cX6_told 51 = .ok (.ifCond .ne 5, 3) := by decide +kernel
theorem dX6_told_54 : decode cX6_told 54 = .ok (.iconst (-1), 1) := by decide +kernel
theorem dX6_told_55 : decode cX6_told 55 = .ok (.ireturn, 1) := by decide +kernel
theorem dX6_told_56 : decode cX6_told 56 = .ok (.aload_n 0, 1) := by decide +kernel
theorem dX6_told_57 : decode cX6_told 57 = .ok (.getfield 53, 3) := by decide +kernel
theorem dX6_told_60 : decode cX6_told 60 = .ok (.iload_n 3, 1) := by decide +kernel
theorem dX6_told_61 : decode cX6_told 61 = .ok (.aaload, 1) := by decide +kernel
theorem dX6_told_62 : decode cX6_told 62 = .ok (.iload 4, 2) := by decide +kernel
theorem dX6_told_64 : decode cX6_told 64 = .ok (.iload 5, 2) := by decide +kernel
theorem dX6_told_66 : decode cX6_told 66 = .ok (.iload 6, 2) := by decide +kernel
theorem dX6_told_68 : decode cX6_told 68 = .ok (.invokevirtual 196, 3) := by decide +kernel
theorem dX6_told_71 : decode cX6_told 71 = .ok (.istore 8, 2) := by decide +kernel
theorem dX6_told_73 : decode cX6_told 73 = .ok (.iload 8, 2) := by decide +kernel
theorem dX6_told_75 : decode cX6_told 75 = .ok (.ifCond .eq 6, 3) := by decide +kernel
theorem dX6_told_78 : decode cX6_told 78 = .ok (.iload 8, 2) := by decide +kernel
theorem dX6_told_80 : decode cX6_told 80 = .ok (.ireturn, 1) := by decide +kernel
theorem dX6_told_81 : decode cX6_told 81 = .ok (.iload 7, 2) := by decide +kernel
theorem dX6_told_83 : decode cX6_told 83 = .ok (.iconst 2, 1) := by decide +kernel
theorem dX6_told_84 : decode cX6_told 84 = .ok (.if_icmp .ne 7, 3) := by decide +kernel
theorem dX6_told_87 : decode cX6_told 87 = .ok (.iconst 1, 1) := by decide +kernel
theorem dX6_told_88 : decode cX6_told 88 = .ok (.goto 4, 3) := by decide +kernel
theorem dX6_told_91 : decode cX6_told 91 = .ok (.iconst 0, 1) := by decide +kernel
theorem dX6_told_92 : decode cX6_told 92 = .ok (.istore 9, 2) := by decide +kernel
theorem dX6_told_94 : decode cX6_told 94 = .ok (.iload 7, 2) := by decide +kernel
theorem dX6_told_96 : decode cX6_told 96 = .ok (.ifCond .ne 7, 3) := by decide +kernel
theorem dX6_told_99 : decode cX6_told 99 = .ok (.iconst 4, 1) := by decide +kernel
theorem dX6_told_100 : decode cX6_told 100 = .ok (.goto 5, 3) := by decide +kernel
theorem dX6_told_103 : decode cX6_told 103 = .ok (.bipush 20, 2) := by decide +kernel
theorem dX6_told_105 : decode cX6_told 105 = .ok (.istore 10, 2) := by decide +kernel
theorem dX6_told_107 : decode cX6_told 107 = .ok (.iconst 0, 1) := by decide +kernel
theorem dX6_told_108 : decode cX6_told 108 = .ok (.istore 11, 2) := by decide +kernel
theorem dX6_told_110 : decode cX6_told 110 = .ok (.iload 9, 2) := by decide +kernel
theorem dX6_told_112 : decode cX6_told 112 = .ok (.istore 12, 2) := by decide +kernel
theorem dX6_told_114 : decode cX6_told 114 = .ok (.iload 12, 2) := by decide +kernel
theorem dX6_told_116 : decode cX6_told 116 = .ok (.iload 10, 2) := by decide +kernel
theorem dX6_told_118 : decode cX6_told 118 = .ok (.if_icmp .gt 50, 3) := by decide +kernel
theorem dX6_told_121 : decode cX6_told 121 = .ok (.aload_n 0, 1) := by decide +kernel
theorem dX6_told_122 : decode cX6_told 122 = .ok (.iload_n 1, 1) := by decide +kernel
theorem dX6_told_123 : decode cX6_told 123 = .ok (.iload_n 2, 1) := by decide +kernel
theorem dX6_told_124 : decode cX6_told 124 = .ok (.iload 7, 2) := by decide +kernel
theorem dX6_told_126 : decode cX6_told 126 = .ok (.iload 12, 2) := by decide +kernel
theorem dX6_told_128 : decode cX6_told 128 = .ok (.invokevirtual 200, 3) := by decide +kernel
theorem dX6_told_131 : decode cX6_told 131 = .ok (.aload_n 0, 1) := by decide +kernel
theorem dX6_told_132 : decode cX6_told 132 = .ok (.getfield 53, 3) := by decide +kernel
theorem dX6_told_135 : decode cX6_told 135 = .ok (.iload_n 3, 1) := by decide +kernel
theorem dX6_told_136 : decode cX6_told 136 = .ok (.aaload, 1) := by decide +kernel
theorem dX6_told_137 : decode cX6_told 137 = .ok (.aload_n 0, 1) := by decide +kernel
theorem dX6_told_138 : decode cX6_told 138 = .ok (.getfield 16, 3) := by decide +kernel
theorem dX6_told_141 : decode cX6_told 141 = .ok (.iload_n 1, 1) := by decide +kernel
theorem dX6_told_142 : decode cX6_told 142 = .ok (.iload_n 2, 1) := by decide +kernel
theorem dX6_told_143 : decode cX6_told 143 = .ok (.iload 5, 2) := by decide +kernel
theorem dX6_told_145 : decode cX6_told 145 = .ok (.iload 6, 2) := by decide +kernel
theorem dX6_told_147 : decode cX6_told 147 = .ok (.invokevirtual 204, 3) := by decide +kernel
theorem dX6_told_150 : decode cX6_told 150 = .ok (.ifCond .eq 12, 3) := by decide +kernel
theorem dX6_told_153 : decode cX6_told 153 = .ok (.iload 11, 2) := by decide +kernel
theorem dX6_told_155 : decode cX6_told 155 = .ok (.iconst 1, 1) := by decide +kernel
theorem dX6_told_156 : decode cX6_told 156 = .ok (.iload 12, 2) := by decide +kernel
theorem dX6_told_158 : decode cX6_told 158 = .ok (.ishl, 1) := by decide +kernel
theorem dX6_told_159 : decode cX6_told 159 = .ok (.ior, 1) := by decide +kernel
theorem dX6_told_160 : decode cX6_told 160 = .ok (.istore 11, 2) := by decide +kernel
theorem dX6_told_162 : decode cX6_told 162 = .ok (.iinc 12 1, 3) := by decide +kernel
theorem dX6_told_165 : decode cX6_told 165 = .ok (.goto (-51), 3) := by decide +kernel
theorem dX6_told_168 : decode cX6_told 168 = .ok (.iload 11, 2) := by decide +kernel
theorem dX6_told_170 : decode cX6_told 170 = .ok (.ireturn, 1) := by decide +kernel
theorem dX6_film_0 : decode cX6_film 0 = .ok (.aload_n 0, 1) := by decide +kernel
theorem dX6_film_1 : decode cX6_film 1 = .ok (.getfield 10, 3) := by decide +kernel
theorem dX6_film_4 : decode cX6_film 4 = .ok (.iload_n 1, 1) := by decide +kernel
theorem dX6_film_5 : decode cX6_film 5 = .ok (.invokevirtual 75, 3) := by decide +kernel
theorem dX6_film_8 : decode cX6_film 8 = .ok (.ifCond .eq 36, 3) := by decide +kernel
theorem dX6_film_11 : decode cX6_film 11 = .ok (.iload_n 2, 1) := by decide +kernel
theorem dX6_film_12 : decode cX6_film 12 = .ok (.invokestatic 79, 3) := by decide +kernel
theorem dX6_film_15 : decode cX6_film 15 = .ok (.ifCond .eq 29, 3) := by decide +kernel
theorem dX6_film_18 : decode cX6_film 18 = .ok (.iload 4, 2) := by decide +kernel
theorem dX6_film_20 : decode cX6_film 20 = .ok (.invokestatic 190, 3) := by decide +kernel
theorem dX6_film_23 : decode cX6_film 23 = .ok (.ifCond .eq 21, 3) := by decide +kernel
theorem dX6_film_26 : decode cX6_film 26 = .ok (.iload 5, 2) := by decide +kernel
theorem dX6_film_28 : decode cX6_film 28 = .ok (.invokestatic 193, 3) := by decide +kernel
theorem dX6_film_31 : decode cX6_film 31 = .ok (.ifCond .eq 13, 3) := by decide +kernel
theorem dX6_film_34 : decode cX6_film 34 = .ok (.iload_n 3, 1) := by decide +kernel
theorem dX6_film_35 : decode cX6_film 35 = .ok (.iconst 1, 1) := by decide +kernel
theorem dX6_film_36 : decode cX6_film 36 = .ok (.bipush 24, 2) := by decide +kernel
theorem dX6_film_38 : decode cX6_film 38 = .ok (.invokestatic 57, 3) := by decide +kernel
theorem dX6_film_41 : decode cX6_film 41 = .ok (.ifCond .ne 5, 3) := by decide +kernel
theorem dX6_film_44 : decode cX6_film 44 = .ok (.iconst (-1), 1) := by decide +kernel
theorem dX6_film_45 : decode cX6_film 45 = .ok (.ireturn, 1) := by decide +kernel
theorem dX6_film_46 : decode cX6_film 46 = .ok (.aload_n 0, 1) := by decide +kernel
theorem dX6_film_47 : decode cX6_film 47 = .ok (.getfield 53, 3) := by decide +kernel
theorem dX6_film_50 : decode cX6_film 50 = .ok (.iload 4, 2) := by decide +kernel
theorem dX6_film_52 : decode cX6_film 52 = .ok (.aaload, 1) := by decide +kernel
theorem dX6_film_53 : decode cX6_film 53 = .ok (.iload 5, 2) := by decide +kernel
theorem dX6_film_55 : decode cX6_film 55 = .ok (.iload 6, 2) := by decide +kernel
theorem dX6_film_57 : decode cX6_film 57 = .ok (.iload_n 3, 1) := by decide +kernel
theorem dX6_film_58 : decode cX6_film 58 = .ok (.invokevirtual 196, 3) := by decide +kernel
theorem dX6_film_61 : decode cX6_film 61 = .ok (.istore 7, 2) := by decide +kernel
theorem dX6_film_63 : decode cX6_film 63 = .ok (.iload 7, 2) := by decide +kernel
theorem dX6_film_65 : decode cX6_film 65 = .ok (.ifCond .eq 6, 3) := by decide +kernel
theorem dX6_film_68 : decode cX6_film 68 = .ok (.iload 7, 2) := by decide +kernel
theorem dX6_film_70 : decode cX6_film 70 = .ok (.ireturn, 1) := by decide +kernel
theorem dX6_film_71 : decode cX6_film 71 = .ok (.aload_n 0, 1) := by decide +kernel
theorem dX6_film_72 : decode cX6_film 72 = .ok (.getfield 16, 3) := by decide +kernel
theorem dX6_film_75 : decode cX6_film 75 = .ok (.aload_n 0, 1) := by decide +kernel
theorem dX6_film_76 : decode cX6_film 76 = .ok (.getfield 10, 3) := by decide +kernel
theorem dX6_film_79 : decode cX6_film 79 = .ok (.invokevirtual 124, 3) := by decide +kernel
theorem dX6_film_82 : decode cX6_film 82 = .ok (.iconst 0, 1) := by decide +kernel
theorem dX6_film_83 : decode cX6_film 83 = .ok (.istore 8, 2) := by decide +kernel
theorem dX6_film_85 : decode cX6_film 85 = .ok (.iload 8, 2) := by decide +kernel
theorem dX6_film_87 : decode cX6_film 87 = .ok (.iload_n 3, 1) := by decide +kernel
theorem dX6_film_88 : decode cX6_film 88 = .ok (.if_icmp .ge 41, 3) := by decide +kernel
theorem dX6_film_91 : decode cX6_film 91 = .ok (.aload_n 0, 1) := by decide +kernel
theorem dX6_film_92 : decode cX6_film 92 = .ok (.getfield 16, 3) := by decide +kernel
theorem dX6_film_95 : decode cX6_film 95 = .ok (.invokevirtual 163, 3) := by decide +kernel
theorem dX6_film_98 : decode cX6_film 98 = .ok (.aload_n 0, 1) := by decide +kernel
theorem dX6_film_99 : decode cX6_film 99 = .ok (.getfield 53, 3) := by decide +kernel
theorem dX6_film_102 : decode cX6_film 102 = .ok (.iload 4, 2) := by decide +kernel
theorem dX6_film_104 : decode cX6_film 104 = .ok (.aaload, 1) := by decide +kernel
theorem dX6_film_105 : decode cX6_film 105 = .ok (.iload 6, 2) := by decide +kernel
theorem dX6_film_107 : decode cX6_film 107 = .ok (.iload 8, 2) := by decide +kernel
theorem dX6_film_109 : decode cX6_film 109 = .ok (.iadd, 1) := by decide +kernel
theorem dX6_film_110 : decode cX6_film 110 = .ok (.aload_n 0, 1) := by decide +kernel
theorem dX6_film_111 : decode cX6_film 111 = .ok (.getfield 16, 3) := by decide +kernel
theorem dX6_film_114 : decode cX6_film 114 = .ok (.iload_n 1, 1) := by decide +kernel
theorem dX6_film_115 : decode cX6_film 115 = .ok (.iload_n 2, 1) := by decide +kernel
theorem dX6_film_116 : decode cX6_film 116 = .ok (.invokevirtual 82, 3) := by decide +kernel
theorem dX6_film_119 : decode cX6_film 119 = .ok (.i2l, 1) := by decide +kernel
theorem dX6_film_120 : decode cX6_film 120 = .ok (.invokevirtual 208, 3) := by decide +kernel
theorem dX6_film_123 : decode cX6_film 123 = .ok (.iinc 8 1, 3) := by decide +kernel
theorem dX6_film_126 : decode cX6_film 126 = .ok (.goto (-41), 3) := by decide +kernel
theorem dX6_film_129 : decode cX6_film 129 = .ok (.iload_n 3, 1) := by decide +kernel
theorem dX6_film_130 : decode cX6_film 130 = .ok (.ireturn, 1) := by decide +kernel
theorem dX6_sheet_0 : decode cX6_sheet 0 = .ok (.iload_n 1, 1) := by decide +kernel
theorem dX6_sheet_1 : decode cX6_sheet 1 = .ok (.invokestatic 190, 3) := by decide +kernel
theorem dX6_sheet_4 : decode cX6_sheet 4 = .ok (.ifCond .eq 16, 3) := by decide +kernel
theorem dX6_sheet_7 : decode cX6_sheet 7 = .ok (.iload_n 2, 1) := by decide +kernel
theorem dX6_sheet_8 : decode cX6_sheet 8 = .ok (.invokestatic 193, 3) := by decide +kernel
theorem dX6_sheet_11 : decode cX6_sheet 11 = .ok (.ifCond .eq 9, 3) := by decide +kernel
theorem dX6_sheet_14 : decode cX6_sheet 14 = .ok (.iload_n 3, 1) := by decide +kernel
theorem dX6_sheet_15 : decode cX6_sheet 15 = .ok (.bipush 24, 2) := by decide +kernel
theorem dX6_sheet_17 : decode cX6_sheet 17 = .ok (.if_icmp .le 5, 3) := by decide +kernel
theorem dX6_sheet_20 : decode cX6_sheet 20 = .ok (.iconst (-1), 1) := by decide +kernel
theorem dX6_sheet_21 : decode cX6_sheet 21 = .ok (.ireturn, 1) := by decide +kernel
theorem dX6_sheet_22 : decode cX6_sheet 22 = .ok (.iload_n 3, 1) := by decide +kernel
theorem dX6_sheet_23 : decode cX6_sheet 23 = .ok (.ifCond .ge 6, 3) := by decide +kernel
theorem dX6_sheet_26 : decode cX6_sheet 26 = .ok (.bipush (-14), 2) := by decide +kernel
theorem dX6_sheet_28 : decode cX6_sheet 28 = .ok (.ireturn, 1) := by decide +kernel
theorem dX6_sheet_29 : decode cX6_sheet 29 = .ok (.aload_n 0, 1) := by decide +kernel
theorem dX6_sheet_30 : decode cX6_sheet 30 = .ok (.getfield 53, 3) := by decide +kernel
theorem dX6_sheet_33 : decode cX6_sheet 33 = .ok (.iload_n 1, 1) := by decide +kernel
theorem dX6_sheet_34 : decode cX6_sheet 34 = .ok (.aaload, 1) := by decide +kernel
theorem dX6_sheet_35 : decode cX6_sheet 35 = .ok (.iload_n 2, 1) := by decide +kernel
theorem dX6_sheet_36 : decode cX6_sheet 36 = .ok (.iload_n 3, 1) := by decide +kernel
theorem dX6_sheet_37 : decode cX6_sheet 37 = .ok (.invokevirtual 212, 3) := by decide +kernel
theorem dX6_sheet_40 : decode cX6_sheet 40 = .ok (.iload_n 3, 1) := by decide +kernel
theorem dX6_sheet_41 : decode cX6_sheet 41 = .ok (.ireturn, 1) := by decide +kernel
theorem dX6_drop_0 : decode cX6_drop 0 = .ok (.iload_n 1, 1) := by decide +kernel
theorem dX6_drop_1 : decode cX6_drop 1 = .ok (.invokestatic 190, 3) := by decide +kernel
theorem dX6_drop_4 : decode cX6_drop 4 = .ok (.ifCond .ne 5, 3) := by decide +kernel
theorem dX6_drop_7 : decode cX6_drop 7 = .ok (.iconst (-1), 1) := by decide +kernel
theorem dX6_drop_8 : decode cX6_drop 8 = .ok (.ireturn, 1) := by decide +kernel
theorem dX6_drop_9 : decode cX6_drop 9 = .ok (.aload_n 0, 1) := by decide +kernel
theorem dX6_drop_10 : decode cX6_drop 10 = .ok (.getfield 53, 3) := by decide +kernel
theorem dX6_drop_13 : decode cX6_drop 13 = .ok (.iload_n 1, 1) := by decide +kernel
theorem dX6_drop_14 : decode cX6_drop 14 = .ok (.aaload, 1) := by decide +kernel
theorem dX6_drop_15 : decode cX6_drop 15 = .ok (.invokevirtual 216, 3) := by decide +kernel
theorem dX6_drop_18 : decode cX6_drop 18 = .ok (.ifCond .eq 6, 3) := by decide +kernel
theorem dX6_drop_21 : decode cX6_drop 21 = .ok (.bipush (-11), 2) := by decide +kernel
theorem dX6_drop_23 : decode cX6_drop 23 = .ok (.ireturn, 1) := by decide +kernel
theorem dX6_drop_24 : decode cX6_drop 24 = .ok (.aload_n 0, 1) := by decide +kernel
theorem dX6_drop_25 : decode cX6_drop 25 = .ok (.getfield 53, 3) := by decide +kernel
theorem dX6_drop_28 : decode cX6_drop 28 = .ok (.iload_n 1, 1) := by decide +kernel
theorem dX6_drop_29 : decode cX6_drop 29 = .ok (.aaload, 1) := by decide +kernel
theorem dX6_drop_30 : decode cX6_drop 30 = .ok (.invokevirtual 220, 3) := by decide +kernel
theorem dX6_drop_33 : decode cX6_drop 33 = .ok (.ireturn, 1) := by decide +kernel
theorem dX6_item_0 : decode cX6_item 0 = .ok (.iload_n 1, 1) := by decide +kernel
theorem dX6_item_1 : decode cX6_item 1 = .ok (.invokestatic 190, 3) := by decide +kernel
theorem dX6_item_4 : decode cX6_item 4 = .ok (.ifCond .eq 10, 3) := by decide +kernel
theorem dX6_item_7 : decode cX6_item 7 = .ok (.iload_n 2, 1) := by decide +kernel
theorem dX6_item_8 : decode cX6_item 8 = .ok (.invokestatic 193, 3) := by decide +kernel
theorem dX6_item_11 : decode cX6_item 11 = .ok (.ifCond .ne 5, 3) := by decide +kernel
theorem dX6_item_14 : decode cX6_item 14 = .ok (.iconst (-1), 1) := by decide +kernel
theorem dX6_item_15 : decode cX6_item 15 = .ok (.ireturn, 1) := by decide +kernel
theorem dX6_item_16 : decode cX6_item 16 = .ok (.aload_n 0, 1) := by decide +kernel
theorem dX6_item_17 : decode cX6_item 17 = .ok (.getfield 53, 3) := by decide +kernel
theorem dX6_item_20 : decode cX6_item 20 = .ok (.iload_n 1, 1) := by decide +kernel
theorem dX6_item_21 : decode cX6_item 21 = .ok (.aaload, 1) := by decide +kernel
theorem dX6_item_22 : decode cX6_item 22 = .ok (.iload_n 2, 1) := by decide +kernel
theorem dX6_item_23 : decode cX6_item 23 = .ok (.iload_n 3, 1) := by decide +kernel
theorem dX6_item_24 : decode cX6_item 24 = .ok (.iconst 1, 1) := by decide +kernel
theorem dX6_item_25 : decode cX6_item 25 = .ok (.invokevirtual 196, 3) := by decide +kernel
theorem dX6_item_28 : decode cX6_item 28 = .ok (.istore 6, 2) := by decide +kernel
theorem dX6_item_30 : decode cX6_item 30 = .ok (.iload 6, 2) := by decide +kernel
theorem dX6_item_32 : decode cX6_item 32 = .ok (.ifCond .eq 6, 3) := by decide +kernel
theorem dX6_item_35 : decode cX6_item 35 = .ok (.iload 6, 2) := by decide +kernel
theorem dX6_item_37 : decode cX6_item 37 = .ok (.ireturn, 1) := by decide +kernel
theorem dX6_item_38 : decode cX6_item 38 = .ok (.aload_n 0, 1) := by decide +kernel
theorem dX6_item_39 : decode cX6_item 39 = .ok (.getfield 53, 3) := by decide +kernel
theorem dX6_item_42 : decode cX6_item 42 = .ok (.iload_n 1, 1) := by decide +kernel
theorem dX6_item_43 : decode cX6_item 43 = .ok (.aaload, 1) := by decide +kernel
theorem dX6_item_44 : decode cX6_item 44 = .ok (.iload_n 3, 1) := by decide +kernel
theorem dX6_item_45 : decode cX6_item 45 = .ok (.lload 4, 2) := by decide +kernel
theorem dX6_item_47 : decode cX6_item 47 = .ok (.invokevirtual 208, 3) := by decide +kernel
theorem dX6_item_50 : decode cX6_item 50 = .ok (.iconst 1, 1) := by decide +kernel
theorem dX6_item_51 : decode cX6_item 51 = .ok (.ireturn, 1) := by decide +kernel
theorem dX6_copy_0 : decode cX6_copy 0 = .ok (.iload_n 1, 1) := by decide +kernel
theorem dX6_copy_1 : decode cX6_copy 1 = .ok (.invokestatic 190, 3) := by decide +kernel
theorem dX6_copy_4 : decode cX6_copy 4 = .ok (.ifCond .eq 10, 3) := by decide +kernel
theorem dX6_copy_7 : decode cX6_copy 7 = .ok (.iload_n 3, 1) := by decide +kernel
theorem dX6_copy_8 : decode cX6_copy 8 = .ok (.invokestatic 190, 3) := by decide +kernel
theorem dX6_copy_11 : decode cX6_copy 11 = .ok (.ifCond .ne 5, 3) := by decide +kernel
theorem dX6_copy_14 : decode cX6_copy 14 = .ok (.iconst (-1), 1) := by decide +kernel
theorem dX6_copy_15 : decode cX6_copy 15 = .ok (.ireturn, 1) := by decide +kernel
theorem dX6_copy_16 : decode cX6_copy 16 = .ok (.aload_n 0, 1) := by decide +kernel
theorem dX6_copy_17 : decode cX6_copy 17 = .ok (.getfield 53, 3) := by decide +kernel
theorem dX6_copy_20 : decode cX6_copy 20 = .ok (.iload_n 1, 1) := by decide +kernel
theorem dX6_copy_21 : decode cX6_copy 21 = .ok (.aaload, 1) := by decide +kernel
theorem dX6_copy_22 : decode cX6_copy 22 = .ok (.astore 6, 2) := by decide +kernel
theorem dX6_copy_24 : decode cX6_copy 24 = .ok (.aload_n 0, 1) := by decide +kernel
theorem dX6_copy_25 : decode cX6_copy 25 = .ok (.getfield 53, 3) := by decide +kernel
theorem dX6_copy_28 : decode cX6_copy 28 = .ok (.iload_n 3, 1) := by decide +kernel
theorem dX6_copy_29 : decode cX6_copy 29 = .ok (.aaload, 1) := by decide +kernel
theorem dX6_copy_30 : decode cX6_copy 30 = .ok (.astore 7, 2) := by decide +kernel
theorem dX6_copy_32 : decode cX6_copy 32 = .ok (.aload 6, 2) := by decide +kernel
theorem dX6_copy_34 : decode cX6_copy 34 = .ok (.invokevirtual 216, 3) := by decide +kernel
theorem dX6_copy_37 : decode cX6_copy 37 = .ok (.ifCond .ne 11, 3) := by decide +kernel
theorem dX6_copy_40 : decode cX6_copy 40 = .ok (.aload 7, 2) := by decide +kernel
theorem dX6_copy_42 : decode cX6_copy 42 = .ok (.invokevirtual 216, 3) := by decide +kernel
theorem dX6_copy_45 : decode cX6_copy 45 = .ok (.ifCond .eq 6, 3) := by decide +kernel
theorem dX6_copy_48 : decode cX6_copy 48 = .ok (.bipush (-11), 2) := by decide +kernel
theorem dX6_copy_50 : decode cX6_copy 50 = .ok (.ireturn, 1) := by decide +kernel
theorem dX6_copy_51 : decode cX6_copy 51 = .ok (.aload 6, 2) := by decide +kernel
theorem dX6_copy_53 : decode cX6_copy 53 = .ok (.getfield 223, 3) := by decide +kernel
theorem dX6_copy_56 : decode cX6_copy 56 = .ok (.aload 7, 2) := by decide +kernel
theorem dX6_copy_58 : decode cX6_copy 58 = .ok (.getfield 223, 3) := by decide +kernel
theorem dX6_copy_61 : decode cX6_copy 61 = .ok (.if_icmp .eq 6, 3) := by decide +kernel
theorem dX6_copy_64 : decode cX6_copy 64 = .ok (.bipush (-12), 2) := by decide +kernel
theorem dX6_copy_66 : decode cX6_copy 66 = .ok (.ireturn, 1) := by decide +kernel
theorem dX6_copy_67 : decode cX6_copy 67 = .ok (.aload 6, 2) := by decide +kernel
theorem dX6_copy_69 : decode cX6_copy 69 = .ok (.iload_n 2, 1) := by decide +kernel
theorem dX6_copy_70 : decode cX6_copy 70 = .ok (.iload 5, 2) := by decide +kernel
theorem dX6_copy_72 : decode cX6_copy 72 = .ok (.invokevirtual 226, 3) := by decide +kernel
theorem dX6_copy_75 : decode cX6_copy 75 = .ok (.ifCond .eq 15, 3) := by decide +kernel
theorem dX6_copy_78 : decode cX6_copy 78 = .ok (.aload 7, 2) := by decide +kernel
theorem dX6_copy_80 : decode cX6_copy 80 = .ok (.iload 4, 2) := by decide +kernel
theorem dX6_copy_82 : decode cX6_copy 82 = .ok (.iload 5, 2) := by decide +kernel
theorem dX6_copy_84 : decode cX6_copy 84 = .ok (.invokevirtual 226, 3) := by decide +kernel
theorem dX6_copy_87 : decode cX6_copy 87 = .ok (.ifCond .ne 6, 3) := by decide +kernel
theorem dX6_copy_90 : decode cX6_copy 90 = .ok (.bipush (-13), 2) := by decide +kernel
theorem dX6_copy_92 : decode cX6_copy 92 = .ok (.ireturn, 1) := by decide +kernel
theorem dX6_copy_93 : decode cX6_copy 93 = .ok (.aload 6, 2) := by decide +kernel
theorem dX6_copy_95 : decode cX6_copy 95 = .ok (.getfield 230, 3) := by decide +kernel
theorem dX6_copy_98 : decode cX6_copy 98 = .ok (.iload_n 2, 1) := by decide +kernel
theorem dX6_copy_99 : decode cX6_copy 99 = .ok (.aload 7, 2) := by decide +kernel
theorem dX6_copy_101 : decode cX6_copy 101 = .ok (.getfield 230, 3) := by decide +kernel
theorem dX6_copy_104 : decode cX6_copy 104 = .ok (.iload 4, 2) := by decide +kernel
theorem dX6_copy_106 : decode cX6_copy 106 = .ok (.iload 5, 2) := by decide +kernel
theorem dX6_copy_108 : decode cX6_copy 108 = .ok (.invokestatic 234, 3) := by decide +kernel
theorem dX6_copy_111 : decode cX6_copy 111 = .ok (.iload 5, 2) := by decide +kernel
theorem dX6_copy_113 : decode cX6_copy 113 = .ok (.ireturn, 1) := by decide +kernel
theorem dX6_within_0 : decode cX6_within 0 = .ok (.iload_n 0, 1) := by decide +kernel
theorem dX6_within_1 : decode cX6_within 1 = .ok (.iload_n 1, 1) := by decide +kernel
theorem dX6_within_2 : decode cX6_within 2 = .ok (.if_icmp .lt 12, 3) := by decide +kernel
theorem dX6_within_5 : decode cX6_within 5 = .ok (.iload_n 0, 1) := by decide +kernel
theorem dX6_within_6 : decode cX6_within 6 = .ok (.iload_n 2, 1) := by decide +kernel
theorem dX6_within_7 : decode cX6_within 7 = .ok (.if_icmp .gt 7, 3) := by decide +kernel
theorem dX6_within_10 : decode cX6_within 10 = .ok (.iconst 1, 1) := by decide +kernel
theorem dX6_within_11 : decode cX6_within 11 = .ok (.goto 4, 3) := by decide +kernel
theorem dX6_within_14 : decode cX6_within 14 = .ok (.iconst 0, 1) := by decide +kernel
theorem dX6_within_15 : decode cX6_within 15 = .ok (.ireturn, 1) := by decide +kernel
theorem dX6_isDoor_0 : decode cX6_isDoor 0 = .ok (.iload_n 0, 1) := by decide +kernel
theorem dX6_isDoor_1 : decode cX6_isDoor 1 = .ok (.iconst 0, 1) := by decide +kernel
theorem dX6_isDoor_2 : decode cX6_isDoor 2 = .ok (.iconst 3, 1) := by decide +kernel
theorem dX6_isDoor_3 : decode cX6_isDoor 3 = .ok (.invokestatic 57, 3) := by decide +kernel
theorem dX6_isDoor_6 : decode cX6_isDoor 6 = .ok (.ireturn, 1) := by decide +kernel
theorem dX6_isSheet_0 : decode cX6_isSheet 0 = .ok (.iload_n 0, 1) := by decide +kernel
theorem dX6_isSheet_1 : decode cX6_isSheet 1 = .ok (.iconst 0, 1) := by decide +kernel
theorem dX6_isSheet_2 : decode cX6_isSheet 2 = .ok (.iconst 3, 1) := by decide +kernel
theorem dX6_isSheet_3 : decode cX6_isSheet 3 = .ok (.invokestatic 57, 3) := by decide +kernel
theorem dX6_isSheet_6 : decode cX6_isSheet 6 = .ok (.ireturn, 1) := by decide +kernel
theorem dX6_isLane_0 : decode cX6_isLane 0 = .ok (.iload_n 0, 1) := by decide +kernel
theorem dX6_isLane_1 : decode cX6_isLane 1 = .ok (.iconst 0, 1) := by decide +kernel
theorem dX6_isLane_2 : decode cX6_isLane 2 = .ok (.iconst 3, 1) := by decide +kernel
theorem dX6_isLane_3 : decode cX6_isLane 3 = .ok (.invokestatic 57, 3) := by decide +kernel
theorem dX6_isLane_6 : decode cX6_isLane 6 = .ok (.ireturn, 1) := by decide +kernel
theorem dX6_live_0 : decode cX6_live 0 = .ok (.iload_n 1, 1) := by decide +kernel
theorem dX6_live_1 : decode cX6_live 1 = .ok (.iconst 1, 1) := by decide +kernel
theorem dX6_live_2 : decode cX6_live 2 = .ok (.bipush 40, 2) := by decide +kernel
theorem dX6_live_4 : decode cX6_live 4 = .ok (.invokestatic 57, 3) := by decide +kernel
theorem dX6_live_7 : decode cX6_live 7 = .ok (.ifCond .ne 5, 3) := by decide +kernel
theorem dX6_live_10 : decode cX6_live 10 = .ok (.iconst (-1), 1) := by decide +kernel
theorem dX6_live_11 : decode cX6_live 11 = .ok (.ireturn, 1) := by decide +kernel
theorem dX6_live_12 : decode cX6_live 12 = .ok (.aload_n 0, 1) := by decide +kernel
theorem dX6_live_13 : decode cX6_live 13 = .ok (.getfield 10, 3) := by decide +kernel
theorem dX6_live_16 : decode cX6_live 16 = .ok (.getfield 115, 3) := by decide +kernel
theorem dX6_live_19 : decode cX6_live 19 = .ok (.iload_n 1, 1) := by decide +kernel
theorem dX6_live_20 : decode cX6_live 20 = .ok (.iadd, 1) := by decide +kernel
theorem dX6_live_21 : decode cX6_live 21 = .ok (.sipush 9999, 3) := by decide +kernel
theorem dX6_live_24 : decode cX6_live 24 = .ok (.if_icmp .le 6, 3) := by decide +kernel
theorem dX6_live_27 : decode cX6_live 27 = .ok (.bipush (-3), 2) := by decide +kernel
theorem dX6_live_29 : decode cX6_live 29 = .ok (.ireturn, 1) := by decide +kernel
theorem dX6_live_30 : decode cX6_live 30 = .ok (.aload_n 0, 1) := by decide +kernel
theorem dX6_live_31 : decode cX6_live 31 = .ok (.getfield 10, 3) := by decide +kernel
theorem dX6_live_34 : decode cX6_live 34 = .ok (.getfield 118, 3) := by decide +kernel
theorem dX6_live_37 : decode cX6_live 37 = .ok (.istore_n 3, 1) := by decide +kernel
theorem dX6_live_38 : decode cX6_live 38 = .ok (.iconst 0, 1) := by decide +kernel
theorem dX6_live_39 : decode cX6_live 39 = .ok (.istore 4, 2) := by decide +kernel
theorem dX6_live_41 : decode cX6_live 41 = .ok (.iload 4, 2) := by decide +kernel
theorem dX6_live_43 : decode cX6_live 43 = .ok (.iload_n 1, 1) := by decide +kernel
theorem dX6_live_44 : decode cX6_live 44 = .ok (.if_icmp .ge 38, 3) := by decide +kernel
theorem dX6_live_47 : decode cX6_live 47 = .ok (.aload_n 0, 1) := by decide +kernel
theorem dX6_live_48 : decode cX6_live 48 = .ok (.getfield 22, 3) := by decide +kernel
theorem dX6_live_51 : decode cX6_live 51 = .ok (.aload_n 0, 1) := by decide +kernel
theorem dX6_live_52 : decode cX6_live 52 = .ok (.getfield 10, 3) := by decide +kernel
theorem dX6_live_55 : decode cX6_live 55 = .ok (.invokevirtual 145, 3) := by decide +kernel
theorem dX6_live_58 : decode cX6_live 58 = .ok (.iload_n 2, 1) := by decide +kernel
theorem dX6_live_59 : decode cX6_live 59 = .ok (.ifCond .eq 10, 3) := by decide +kernel
theorem dX6_live_62 : decode cX6_live 62 = .ok (.aload_n 0, 1) := by decide +kernel
theorem dX6_live_63 : decode cX6_live 63 = .ok (.getfield 10, 3) := by decide +kernel
theorem dX6_live_66 : decode cX6_live 66 = .ok (.invokevirtual 240, 3) := by decide +kernel
theorem dX6_live_69 : decode cX6_live 69 = .ok (.aload_n 0, 1) := by decide +kernel
theorem dX6_live_70 : decode cX6_live 70 = .ok (.getfield 10, 3) := by decide +kernel
theorem dX6_live_73 : decode cX6_live 73 = .ok (.invokevirtual 163, 3) := by decide +kernel
theorem dX6_live_76 : decode cX6_live 76 = .ok (.iinc 4 1, 3) := by decide +kernel
theorem dX6_live_79 : decode cX6_live 79 = .ok (.goto (-38), 3) := by decide +kernel
theorem dX6_live_82 : decode cX6_live 82 = .ok (.aload_n 0, 1) := by decide +kernel
theorem dX6_live_83 : decode cX6_live 83 = .ok (.getfield 10, 3) := by decide +kernel
theorem dX6_live_86 : decode cX6_live 86 = .ok (.getfield 118, 3) := by decide +kernel
theorem dX6_live_89 : decode cX6_live 89 = .ok (.iload_n 3, 1) := by decide +kernel
theorem dX6_live_90 : decode cX6_live 90 = .ok (.isub, 1) := by decide +kernel
theorem dX6_live_91 : decode cX6_live 91 = .ok (.ireturn, 1) := by decide +kernel
theorem dX6_foretell_0 : decode cX6_foretell 0 = .ok (.aload_n 0, 1) := by decide +kernel
theorem dX6_foretell_1 : decode cX6_foretell 1 = .ok (.getfield 16, 3) := by decide +kernel
theorem dX6_foretell_4 : decode cX6_foretell 4 = .ok (.aload_n 0, 1) := by decide +kernel
theorem dX6_foretell_5 : decode cX6_foretell 5 = .ok (.getfield 10, 3) := by decide +kernel
theorem dX6_foretell_8 : decode cX6_foretell 8 = .ok (.invokevirtual 124, 3) := by decide +kernel
theorem dX6_foretell_11 : decode cX6_foretell 11 = .ok (.aload_n 0, 1) := by decide +kernel
theorem dX6_foretell_12 : decode cX6_foretell 12 = .ok (.getfield 16, 3) := by decide +kernel
theorem dX6_foretell_15 : decode cX6_foretell 15 = .ok (.iload_n 1, 1) := by decide +kernel
theorem dX6_foretell_16 : decode cX6_foretell 16 = .ok (.invokevirtual 181, 3) := by decide +kernel
theorem dX6_foretell_19 : decode cX6_foretell 19 = .ok (.return_, 1) := by decide +kernel
theorem dX6_suppose_0 : decode cX6_suppose 0 = .ok (.aload_n 0, 1) := by decide +kernel
theorem dX6_suppose_1 : decode cX6_suppose 1 = .ok (.getfield 16, 3) := by decide +kernel
theorem dX6_suppose_4 : decode cX6_suppose 4 = .ok (.aload_n 0, 1) := by decide +kernel
theorem dX6_suppose_5 : decode cX6_suppose 5 = .ok (.getfield 10, 3) := by decide +kernel
theorem dX6_suppose_8 : decode cX6_suppose 8 = .ok (.invokevirtual 124, 3) := by decide +kernel
theorem dX6_suppose_11 : decode cX6_suppose 11 = .ok (.iload_n 3, 1) := by decide +kernel
theorem dX6_suppose_12 : decode cX6_suppose 12 = .ok (.lookupswitch 56 #[(0, 28), (1, 42)], 28) := by decide +kernel
theorem dX6_suppose_40 : decode cX6_suppose 40 = .ok (.aload_n 0, 1) := by decide +kernel
theorem dX6_suppose_41 : decode cX6_suppose 41 = .ok (.getfield 16, 3) := by decide +kernel
theorem dX6_suppose_44 : decode cX6_suppose 44 = .ok (.getfield 85, 3) := by decide +kernel
theorem dX6_suppose_47 : decode cX6_suppose 47 = .ok (.iload_n 1, 1) := by decide +kernel
theorem dX6_suppose_48 : decode cX6_suppose 48 = .ok (.iload 4, 2) := by decide +kernel
theorem dX6_suppose_50 : decode cX6_suppose 50 = .ok (.iastore, 1) := by decide +kernel
theorem dX6_suppose_51 : decode cX6_suppose 51 = .ok (.goto 26, 3) := by decide +kernel
theorem dX6_suppose_54 : decode cX6_suppose 54 = .ok (.aload_n 0, 1) := by decide +kernel
theorem dX6_suppose_55 : decode cX6_suppose 55 = .ok (.getfield 16, 3) := by decide +kernel
theorem dX6_suppose_58 : decode cX6_suppose 58 = .ok (.iload_n 1, 1) := by decide +kernel
theorem dX6_suppose_59 : decode cX6_suppose 59 = .ok (.iload_n 2, 1) := by decide +kernel
theorem dX6_suppose_60 : decode cX6_suppose 60 = .ok (.iload 4, 2) := by decide +kernel
theorem dX6_suppose_62 : decode cX6_suppose 62 = .ok (.invokevirtual 243, 3) := by decide +kernel
theorem dX6_suppose_65 : decode cX6_suppose 65 = .ok (.goto 12, 3) := by decide +kernel
theorem dX6_suppose_68 : decode cX6_suppose 68 = .ok (.aload_n 0, 1) := by decide +kernel
theorem dX6_suppose_69 : decode cX6_suppose 69 = .ok (.getfield 16, 3) := by decide +kernel
theorem dX6_suppose_72 : decode cX6_suppose 72 = .ok (.iload 4, 2) := by decide +kernel
theorem dX6_suppose_74 : decode cX6_suppose 74 = .ok (.putfield 72, 3) := by decide +kernel
theorem dX6_suppose_77 : decode cX6_suppose 77 = .ok (.return_, 1) := by decide +kernel
theorem dX6_commonDivisor_0 : decode cX6_commonDivisor 0 = .ok (.iload_n 0, 1) := by decide +kernel
theorem dX6_commonDivisor_1 : decode cX6_commonDivisor 1 = .ok (.istore_n 2, 1) := by decide +kernel
theorem dX6_commonDivisor_2 : decode cX6_commonDivisor 2 = .ok (.iload_n 1, 1) := by decide +kernel
theorem dX6_commonDivisor_3 : decode cX6_commonDivisor 3 = .ok (.istore_n 3, 1) := by decide +kernel
theorem dX6_commonDivisor_4 : decode cX6_commonDivisor 4 = .ok (.iconst 0, 1) := by decide +kernel
theorem dX6_commonDivisor_5 : decode cX6_commonDivisor 5 = .ok (.istore 4, 2) := by decide +kernel
theorem dX6_commonDivisor_7 : decode cX6_commonDivisor 7 = .ok (.iload 4, 2) := by decide +kernel
theorem dX6_commonDivisor_9 : decode cX6_commonDivisor 9 = .ok (.bipush 64, 2) := by decide +kernel
theorem dX6_commonDivisor_11 : decode cX6_commonDivisor 11 = .ok (.if_icmp .ge 23, 3) := by decide +kernel
theorem dX6_commonDivisor_14 : decode cX6_commonDivisor 14 = .ok (.iload_n 2, 1) := by decide +kernel
theorem dX6_commonDivisor_15 : decode cX6_commonDivisor 15 = .ok (.ifCond .le 19, 3) := by decide +kernel
theorem dX6_commonDivisor_18 : decode cX6_commonDivisor 18 = .ok (.iload_n 3, 1) := by decide +kernel
theorem dX6_commonDivisor_19 : decode cX6_commonDivisor 19 = .ok (.iload_n 2, 1) := by decide +kernel
theorem dX6_commonDivisor_20 : decode cX6_commonDivisor 20 = .ok (.irem, 1) := by decide +kernel
theorem dX6_commonDivisor_21 : decode cX6_commonDivisor 21 = .ok (.istore 5, 2) := by decide +kernel
theorem dX6_commonDivisor_23 : decode cX6_commonDivisor 23 = .ok (.iload_n 2, 1) := by decide +kernel
theorem dX6_commonDivisor_24 : decode cX6_commonDivisor 24 = .ok (.istore_n 3, 1) := by decide +kernel
theorem dX6_commonDivisor_25 : decode cX6_commonDivisor 25 = .ok (.iload 5, 2) := by decide +kernel
theorem dX6_commonDivisor_27 : decode cX6_commonDivisor 27 = .ok (.istore_n 2, 1) := by decide +kernel
theorem dX6_commonDivisor_28 : decode cX6_commonDivisor 28 = .ok (.iinc 4 1, 3) := by decide +kernel
theorem dX6_commonDivisor_31 : decode cX6_commonDivisor 31 = .ok (.goto (-24), 3) := by decide +kernel
theorem dX6_commonDivisor_34 : decode cX6_commonDivisor 34 = .ok (.iconst 1, 1) := by decide +kernel
theorem dX6_commonDivisor_35 : decode cX6_commonDivisor 35 = .ok (.iload_n 3, 1) := by decide +kernel
theorem dX6_commonDivisor_36 : decode cX6_commonDivisor 36 = .ok (.invokestatic 246, 3) := by decide +kernel
theorem dX6_commonDivisor_39 : decode cX6_commonDivisor 39 = .ok (.ireturn, 1) := by decide +kernel
