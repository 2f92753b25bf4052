/-! the instructions, decoded -/
theorem dX0_init_0 : decode cX0_init 0 = .ok (.aload_n 0, 1) := by decide +kernel
theorem dX0_init_1 : decode cX0_init 1 = .ok (.invokespecial 3, 3) := by decide +kernel
theorem dX0_init_4 : decode cX0_init 4 = .ok (.aload_n 0, 1) := by decide +kernel
theorem dX0_init_5 : decode cX0_init 5 = .ok (.bipush 32, 2) := by decide +kernel
theorem dX0_init_7 : decode cX0_init 7 = .ok (.newarray .int, 2) := by decide +kernel
theorem dX0_init_9 : decode cX0_init 9 = .ok (.putfield 9, 3) := by decide +kernel
theorem dX0_init_12 : decode cX0_init 12 = .ok (.return_, 1) := by decide +kernel
theorem dX0_isDue_0 : decode cX0_isDue 0 = .ok (.aload_n 0, 1) := by decide +kernel
theorem dX0_isDue_1 : decode cX0_isDue 1 = .ok (.getfield 15, 3) := by decide +kernel
theorem dX0_isDue_4 : decode cX0_isDue 4 = .ok (.iload_n 1, 1) := by decide +kernel
theorem dX0_isDue_5 : decode cX0_isDue 5 = .ok (.invokestatic 19, 3) := by decide +kernel
theorem dX0_isDue_8 : decode cX0_isDue 8 = .ok (.ifCond .eq 17, 3) := by decide +kernel
theorem dX0_isDue_11 : decode cX0_isDue 11 = .ok (.aload_n 0, 1) := by decide +kernel
theorem dX0_isDue_12 : decode cX0_isDue 12 = .ok (.getfield 9, 3) := by decide +kernel
theorem dX0_isDue_15 : decode cX0_isDue 15 = .ok (.iload_n 1, 1) := by decide +kernel
theorem dX0_isDue_16 : decode cX0_isDue 16 = .ok (.iaload, 1) := by decide +kernel
theorem dX0_isDue_17 : decode cX0_isDue 17 = .ok (.iload_n 2, 1) := by decide +kernel
theorem dX0_isDue_18 : decode cX0_isDue 18 = .ok (.if_icmp .gt 7, 3) := by decide +kernel
theorem dX0_isDue_21 : decode cX0_isDue 21 = .ok (.iconst 1, 1) := by decide +kernel
theorem dX0_isDue_22 : decode cX0_isDue 22 = .ok (.goto 4, 3) := by decide +kernel
theorem dX0_isDue_25 : decode cX0_isDue 25 = .ok (.iconst 0, 1) := by decide +kernel
theorem dX0_isDue_26 : decode cX0_isDue 26 = .ok (.ireturn, 1) := by decide +kernel
theorem dX0_size_0 : decode cX0_size 0 = .ok (.aload_n 0, 1) := by decide +kernel
theorem dX0_size_1 : decode cX0_size 1 = .ok (.getfield 15, 3) := by decide +kernel
theorem dX0_size_4 : decode cX0_size 4 = .ok (.invokestatic 23, 3) := by decide +kernel
theorem dX0_size_7 : decode cX0_size 7 = .ok (.ireturn, 1) := by decide +kernel
theorem dX0_comeDue_0 : decode cX0_comeDue 0 = .ok (.aload_n 0, 1) := by decide +kernel
theorem dX0_comeDue_1 : decode cX0_comeDue 1 = .ok (.getfield 15, 3) := by decide +kernel
theorem dX0_comeDue_4 : decode cX0_comeDue 4 = .ok (.iload_n 1, 1) := by decide +kernel
theorem dX0_comeDue_5 : decode cX0_comeDue 5 = .ok (.invokestatic 19, 3) := by decide +kernel
theorem dX0_comeDue_8 : decode cX0_comeDue 8 = .ok (.ifCond .eq 13, 3) := by decide +kernel
theorem dX0_comeDue_11 : decode cX0_comeDue 11 = .ok (.aload_n 0, 1) := by decide +kernel
theorem dX0_comeDue_12 : decode cX0_comeDue 12 = .ok (.getfield 9, 3) := by decide +kernel
theorem dX0_comeDue_15 : decode cX0_comeDue 15 = .ok (.iload_n 1, 1) := by decide +kernel
theorem dX0_comeDue_16 : decode cX0_comeDue 16 = .ok (.iaload, 1) := by decide +kernel
theorem dX0_comeDue_17 : decode cX0_comeDue 17 = .ok (.iload_n 2, 1) := by decide +kernel
theorem dX0_comeDue_18 : decode cX0_comeDue 18 = .ok (.if_icmp .le 22, 3) := by decide +kernel
theorem dX0_comeDue_21 : decode cX0_comeDue 21 = .ok (.aload_n 0, 1) := by decide +kernel
theorem dX0_comeDue_22 : decode cX0_comeDue 22 = .ok (.dup, 1) := by decide +kernel
theorem dX0_comeDue_23 : decode cX0_comeDue 23 = .ok (.getfield 15, 3) := by decide +kernel
theorem dX0_comeDue_26 : decode cX0_comeDue 26 = .ok (.iconst 1, 1) := by decide +kernel
theorem dX0_comeDue_27 : decode cX0_comeDue 27 = .ok (.iload_n 1, 1) := by decide +kernel
theorem dX0_comeDue_28 : decode cX0_comeDue 28 = .ok (.ishl, 1) := by decide +kernel
theorem dX0_comeDue_29 : decode cX0_comeDue 29 = .ok (.ior, 1) := by decide +kernel
theorem dX0_comeDue_30 : decode cX0_comeDue 30 = .ok (.putfield 15, 3) := by decide +kernel
theorem dX0_comeDue_33 : decode cX0_comeDue 33 = .ok (.aload_n 0, 1) := by decide +kernel
theorem dX0_comeDue_34 : decode cX0_comeDue 34 = .ok (.getfield 9, 3) := by decide +kernel
theorem dX0_comeDue_37 : decode cX0_comeDue 37 = .ok (.iload_n 1, 1) := by decide +kernel
theorem dX0_comeDue_38 : decode cX0_comeDue 38 = .ok (.iload_n 2, 1) := by decide +kernel
theorem dX0_comeDue_39 : decode cX0_comeDue 39 = .ok (.iastore, 1) := by decide +kernel
theorem dX0_comeDue_40 : decode cX0_comeDue 40 = .ok (.return_, 1) := by decide +kernel
theorem dX0_remove_0 : decode cX0_remove 0 = .ok (.aload_n 0, 1) := by decide +kernel
theorem dX0_remove_1 : decode cX0_remove 1 = .ok (.dup, 1) := by decide +kernel
theorem dX0_remove_2 : decode cX0_remove 2 = .ok (.getfield 15, 3) := by decide +kernel
theorem dX0_remove_5 : decode cX0_remove 5 = .ok (.iconst 1, 1) := by decide +kernel
theorem dX0_remove_6 : decode cX0_remove 6 = .ok (.iload_n 1, 1) := by decide +kernel
theorem dX0_remove_7 : decode cX0_remove 7 = .ok (.ishl, 1) := by decide +kernel
theorem dX0_remove_8 : decode cX0_remove 8 = .ok (.iconst (-1), 1) := by decide +kernel
theorem dX0_remove_9 : decode cX0_remove 9 = .ok (.ixor, 1) := by decide +kernel
theorem dX0_remove_10 : decode cX0_remove 10 = .ok (.iand, 1) := by decide +kernel
theorem dX0_remove_11 : decode cX0_remove 11 = .ok (.putfield 15, 3) := by decide +kernel
theorem dX0_remove_14 : decode cX0_remove 14 = .ok (.return_, 1) := by decide +kernel
theorem dX0_clear_0 : decode cX0_clear 0 = .ok (.aload_n 0, 1) := by decide +kernel
theorem dX0_clear_1 : decode cX0_clear 1 = .ok (.iconst 0, 1) := by decide +kernel
theorem dX0_clear_2 : decode cX0_clear 2 = .ok (.putfield 15, 3) := by decide +kernel
theorem dX0_clear_5 : decode cX0_clear 5 = .ok (.return_, 1) := by decide +kernel
theorem dX1_init_0 : decode cX1_init 0 = .ok (.aload_n 0, 1) := by decide +kernel
theorem dX1_init_1 : decode cX1_init 1 = .ok (.invokespecial 3, 3) := by decide +kernel
theorem dX1_init_4 : decode cX1_init 4 = .ok (.aload_n 0, 1) := by decide +kernel
theorem dX1_init_5 : decode cX1_init 5 = .ok (.bipush 16, 2) := by decide +kernel
theorem dX1_init_7 : decode cX1_init 7 = .ok (.newarray .int, 2) := by decide +kernel
theorem dX1_init_9 : decode cX1_init 9 = .ok (.putfield 9, 3) := by decide +kernel
theorem dX1_init_12 : decode cX1_init 12 = .ok (.aload_n 0, 1) := by decide +kernel
theorem dX1_init_13 : decode cX1_init 13 = .ok (.bipush 16, 2) := by decide +kernel
theorem dX1_init_15 : decode cX1_init 15 = .ok (.newarray .int, 2) := by decide +kernel
theorem dX1_init_17 : decode cX1_init 17 = .ok (.putfield 15, 3) := by decide +kernel
theorem dX1_init_20 : decode cX1_init 20 = .ok (.return_, 1) := by decide +kernel
theorem dX1_has_0 : decode cX1_has 0 = .ok (.aload_n 0, 1) := by decide +kernel
theorem dX1_has_1 : decode cX1_has 1 = .ok (.getfield 18, 3) := by decide +kernel
theorem dX1_has_4 : decode cX1_has 4 = .ok (.iload_n 1, 1) := by decide +kernel
theorem dX1_has_5 : decode cX1_has 5 = .ok (.invokestatic 22, 3) := by decide +kernel
theorem dX1_has_8 : decode cX1_has 8 = .ok (.ireturn, 1) := by decide +kernel
theorem dX1_isDue_0 : decode cX1_isDue 0 = .ok (.aload_n 0, 1) := by decide +kernel
theorem dX1_isDue_1 : decode cX1_isDue 1 = .ok (.iload_n 1, 1) := by decide +kernel
theorem dX1_isDue_2 : decode cX1_isDue 2 = .ok (.invokevirtual 26, 3) := by decide +kernel
theorem dX1_isDue_5 : decode cX1_isDue 5 = .ok (.ifCond .eq 17, 3) := by decide +kernel
theorem dX1_isDue_8 : decode cX1_isDue 8 = .ok (.aload_n 0, 1) := by decide +kernel
theorem dX1_isDue_9 : decode cX1_isDue 9 = .ok (.getfield 15, 3) := by decide +kernel
theorem dX1_isDue_12 : decode cX1_isDue 12 = .ok (.iload_n 1, 1) := by decide +kernel
theorem dX1_isDue_13 : decode cX1_isDue 13 = .ok (.iaload, 1) := by decide +kernel
theorem dX1_isDue_14 : decode cX1_isDue 14 = .ok (.iload_n 2, 1) := by decide +kernel
theorem dX1_isDue_15 : decode cX1_isDue 15 = .ok (.if_icmp .gt 7, 3) := by decide +kernel
theorem dX1_isDue_18 : decode cX1_isDue 18 = .ok (.iconst 1, 1) := by decide +kernel
theorem dX1_isDue_19 : decode cX1_isDue 19 = .ok (.goto 4, 3) := by decide +kernel
theorem dX1_isDue_22 : decode cX1_isDue 22 = .ok (.iconst 0, 1) := by decide +kernel
theorem dX1_isDue_23 : decode cX1_isDue 23 = .ok (.ireturn, 1) := by decide +kernel
theorem dX1_isEmpty_0 : decode cX1_isEmpty 0 = .ok (.aload_n 0, 1) := by decide +kernel
theorem dX1_isEmpty_1 : decode cX1_isEmpty 1 = .ok (.getfield 18, 3) := by decide +kernel
theorem dX1_isEmpty_4 : decode cX1_isEmpty 4 = .ok (.ifCond .ne 7, 3) := by decide +kernel
theorem dX1_isEmpty_7 : decode cX1_isEmpty 7 = .ok (.iconst 1, 1) := by decide +kernel
theorem dX1_isEmpty_8 : decode cX1_isEmpty 8 = .ok (.goto 4, 3) := by decide +kernel
theorem dX1_isEmpty_11 : decode cX1_isEmpty 11 = .ok (.iconst 0, 1) := by decide +kernel
theorem dX1_isEmpty_12 : decode cX1_isEmpty 12 = .ok (.ireturn, 1) := by decide +kernel
theorem dX1_size_0 : decode cX1_size 0 = .ok (.aload_n 0, 1) := by decide +kernel
theorem dX1_size_1 : decode cX1_size 1 = .ok (.getfield 18, 3) := by decide +kernel
theorem dX1_size_4 : decode cX1_size 4 = .ok (.invokestatic 30, 3) := by decide +kernel
theorem dX1_size_7 : decode cX1_size 7 = .ok (.ireturn, 1) := by decide +kernel
theorem dX1_put_0 : decode cX1_put 0 = .ok (.aload_n 0, 1) := by decide +kernel
theorem dX1_put_1 : decode cX1_put 1 = .ok (.dup, 1) := by decide +kernel
theorem dX1_put_2 : decode cX1_put 2 = .ok (.getfield 18, 3) := by decide +kernel
theorem dX1_put_5 : decode cX1_put 5 = .ok (.iconst 1, 1) := by decide +kernel
theorem dX1_put_6 : decode cX1_put 6 = .ok (.iload_n 1, 1) := by decide +kernel
theorem dX1_put_7 : decode cX1_put 7 = .ok (.ishl, 1) := by decide +kernel
theorem dX1_put_8 : decode cX1_put 8 = .ok (.ior, 1) := by decide +kernel
theorem dX1_put_9 : decode cX1_put 9 = .ok (.putfield 18, 3) := by decide +kernel
theorem dX1_put_12 : decode cX1_put 12 = .ok (.aload_n 0, 1) := by decide +kernel
theorem dX1_put_13 : decode cX1_put 13 = .ok (.getfield 9, 3) := by decide +kernel
theorem dX1_put_16 : decode cX1_put 16 = .ok (.iload_n 1, 1) := by decide +kernel
theorem dX1_put_17 : decode cX1_put 17 = .ok (.iload_n 2, 1) := by decide +kernel
theorem dX1_put_18 : decode cX1_put 18 = .ok (.iastore, 1) := by decide +kernel
theorem dX1_put_19 : decode cX1_put 19 = .ok (.aload_n 0, 1) := by decide +kernel
theorem dX1_put_20 : decode cX1_put 20 = .ok (.getfield 15, 3) := by decide +kernel
theorem dX1_put_23 : decode cX1_put 23 = .ok (.iload_n 1, 1) := by decide +kernel
theorem dX1_put_24 : decode cX1_put 24 = .ok (.iload_n 3, 1) := by decide +kernel
theorem dX1_put_25 : decode cX1_put 25 = .ok (.iastore, 1) := by decide +kernel
theorem dX1_put_26 : decode cX1_put 26 = .ok (.return_, 1) := by decide +kernel
theorem dX1_remove_0 : decode cX1_remove 0 = .ok (.aload_n 0, 1) := by decide +kernel
theorem dX1_remove_1 : decode cX1_remove 1 = .ok (.dup, 1) := by decide +kernel
theorem dX1_remove_2 : decode cX1_remove 2 = .ok (.getfield 18, 3) := by decide +kernel
theorem dX1_remove_5 : decode cX1_remove 5 = .ok (.iconst 1, 1) := by decide +kernel
theorem dX1_remove_6 : decode cX1_remove 6 = .ok (.iload_n 1, 1) := by decide +kernel
theorem dX1_remove_7 : decode cX1_remove 7 = .ok (.ishl, 1) := by decide +kernel
theorem dX1_remove_8 : decode cX1_remove 8 = .ok (.iconst (-1), 1) := by decide +kernel
theorem dX1_remove_9 : decode cX1_remove 9 = .ok (.ixor, 1) := by decide +kernel
theorem dX1_remove_10 : decode cX1_remove 10 = .ok (.iand, 1) := by decide +kernel
theorem dX1_remove_11 : decode cX1_remove 11 = .ok (.putfield 18, 3) := by decide +kernel
theorem dX1_remove_14 : decode cX1_remove 14 = .ok (.return_, 1) := by decide +kernel
theorem dX1_clear_0 : decode cX1_clear 0 = .ok (.aload_n 0, 1) := by decide +kernel
theorem dX1_clear_1 : decode cX1_clear 1 = .ok (.iconst 0, 1) := by decide +kernel
theorem dX1_clear_2 : decode cX1_clear 2 = .ok (.putfield 18, 3) := by decide +kernel
theorem dX1_clear_5 : decode cX1_clear 5 = .ok (.return_, 1) := by decide +kernel
theorem dX2_init_0 : decode cX2_init 0 = .ok (.aload_n 0, 1) := by decide +kernel
theorem dX2_init_1 : decode cX2_init 1 = .ok (.invokespecial 1, 3) := by decide +kernel
theorem dX2_init_4 : decode cX2_init 4 = .ok (.aload_n 0, 1) := by decide +kernel
theorem dX2_init_5 : decode cX2_init 5 = .ok (.new 7, 3) := by decide +kernel
theorem dX2_init_8 : decode cX2_init 8 = .ok (.dup, 1) := by decide +kernel
theorem dX2_init_9 : decode cX2_init 9 = .ok (.invokespecial 9, 3) := by decide +kernel
theorem dX2_init_12 : decode cX2_init 12 = .ok (.putfield 10, 3) := by decide +kernel
theorem dX2_init_15 : decode cX2_init 15 = .ok (.aload_n 0, 1) := by decide +kernel
theorem dX2_init_16 : decode cX2_init 16 = .ok (.new 7, 3) := by decide +kernel
theorem dX2_init_19 : decode cX2_init 19 = .ok (.dup, 1) := by decide +kernel
theorem dX2_init_20 : decode cX2_init 20 = .ok (.invokespecial 9, 3) := by decide +kernel
theorem dX2_init_23 : decode cX2_init 23 = .ok (.putfield 16, 3) := by decide +kernel
theorem dX2_init_26 : decode cX2_init 26 = .ok (.aload_n 0, 1) := by decide +kernel
theorem dX2_init_27 : decode cX2_init 27 = .ok (.new 7, 3) := by decide +kernel
theorem dX2_init_30 : decode cX2_init 30 = .ok (.dup, 1) := by decide +kernel
theorem dX2_init_31 : decode cX2_init 31 = .ok (.invokespecial 9, 3) := by decide +kernel
theorem dX2_init_34 : decode cX2_init 34 = .ok (.putfield 19, 3) := by decide +kernel
theorem dX2_init_37 : decode cX2_init 37 = .ok (.aload_n 0, 1) := by decide +kernel
theorem dX2_init_38 : decode cX2_init 38 = .ok (.iload_n 1, 1) := by decide +kernel
theorem dX2_init_39 : decode cX2_init 39 = .ok (.putfield 22, 3) := by decide +kernel
theorem dX2_init_42 : decode cX2_init 42 = .ok (.aload_n 0, 1) := by decide +kernel
theorem dX2_init_43 : decode cX2_init 43 = .ok (.iload_n 2, 1) := by decide +kernel
theorem dX2_init_44 : decode cX2_init 44 = .ok (.putfield 26, 3) := by decide +kernel
theorem dX2_init_47 : decode cX2_init 47 = .ok (.return_, 1) := by decide +kernel
theorem dX2_carries_0 : decode cX2_carries 0 = .ok (.aload_n 0, 1) := by decide +kernel
theorem dX2_carries_1 : decode cX2_carries 1 = .ok (.getfield 26, 3) := by decide +kernel
theorem dX2_carries_4 : decode cX2_carries 4 = .ok (.iload_n 1, 1) := by decide +kernel
theorem dX2_carries_5 : decode cX2_carries 5 = .ok (.invokestatic 29, 3) := by decide +kernel
theorem dX2_carries_8 : decode cX2_carries 8 = .ok (.ireturn, 1) := by decide +kernel
theorem dX3_init_0 : decode cX3_init 0 = .ok (.aload_n 0, 1) := by decide +kernel
theorem dX3_init_1 : decode cX3_init 1 = .ok (.invokespecial 3, 3) := by decide +kernel
theorem dX3_init_4 : decode cX3_init 4 = .ok (.aload_n 0, 1) := by decide +kernel
theorem dX3_init_5 : decode cX3_init 5 = .ok (.new 9, 3) := by decide +kernel
theorem dX3_init_8 : decode cX3_init 8 = .ok (.dup, 1) := by decide +kernel
theorem dX3_init_9 : decode cX3_init 9 = .ok (.invokespecial 11, 3) := by decide +kernel
theorem dX3_init_12 : decode cX3_init 12 = .ok (.putfield 12, 3) := by decide +kernel
theorem dX3_init_15 : decode cX3_init 15 = .ok (.aload_n 0, 1) := by decide +kernel
theorem dX3_init_16 : decode cX3_init 16 = .ok (.new 18, 3) := by decide +kernel
theorem dX3_init_19 : decode cX3_init 19 = .ok (.dup, 1) := by decide +kernel
theorem dX3_init_20 : decode cX3_init 20 = .ok (.invokespecial 20, 3) := by decide +kernel
theorem dX3_init_23 : decode cX3_init 23 = .ok (.putfield 21, 3) := by decide +kernel
theorem dX3_init_26 : decode cX3_init 26 = .ok (.aload_n 0, 1) := by decide +kernel
theorem dX3_init_27 : decode cX3_init 27 = .ok (.new 25, 3) := by decide +kernel
theorem dX3_init_30 : decode cX3_init 30 = .ok (.dup, 1) := by decide +kernel
theorem dX3_init_31 : decode cX3_init 31 = .ok (.invokespecial 27, 3) := by decide +kernel
theorem dX3_init_34 : decode cX3_init 34 = .ok (.putfield 28, 3) := by decide +kernel
theorem dX3_init_37 : decode cX3_init 37 = .ok (.aload_n 0, 1) := by decide +kernel
theorem dX3_init_38 : decode cX3_init 38 = .ok (.iconst 2, 1) := by decide +kernel
theorem dX3_init_39 : decode cX3_init 39 = .ok (.putfield 32, 3) := by decide +kernel
theorem dX3_init_42 : decode cX3_init 42 = .ok (.aload_n 0, 1) := by decide +kernel
theorem dX3_init_43 : decode cX3_init 43 = .ok (.new 36, 3) := by decide +kernel
theorem dX3_init_46 : decode cX3_init 46 = .ok (.dup, 1) := by decide +kernel
theorem dX3_init_47 : decode cX3_init 47 = .ok (.invokespecial 38, 3) := by decide +kernel
theorem dX3_init_50 : decode cX3_init 50 = .ok (.putfield 39, 3) := by decide +kernel
theorem dX3_init_53 : decode cX3_init 53 = .ok (.aload_n 0, 1) := by decide +kernel
theorem dX3_init_54 : decode cX3_init 54 = .ok (.iload_n 1, 1) := by decide +kernel
theorem dX3_init_55 : decode cX3_init 55 = .ok (.putfield 43, 3) := by decide +kernel
theorem dX3_init_58 : decode cX3_init 58 = .ok (.aload_n 0, 1) := by decide +kernel
theorem dX3_init_59 : decode cX3_init 59 = .ok (.iload_n 2, 1) := by decide +kernel
theorem dX3_init_60 : decode cX3_init 60 = .ok (.putfield 46, 3) := by decide +kernel
theorem dX3_init_63 : decode cX3_init 63 = .ok (.aload_n 0, 1) := by decide +kernel
theorem dX3_init_64 : decode cX3_init 64 = .ok (.iload_n 3, 1) := by decide +kernel
theorem dX3_init_65 : decode cX3_init 65 = .ok (.putfield 49, 3) := by decide +kernel
theorem dX3_init_68 : decode cX3_init 68 = .ok (.aload_n 0, 1) := by decide +kernel
theorem dX3_init_69 : decode cX3_init 69 = .ok (.iload 4, 2) := by decide +kernel
theorem dX3_init_71 : decode cX3_init 71 = .ok (.putfield 52, 3) := by decide +kernel
theorem dX3_init_74 : decode cX3_init 74 = .ok (.aload_n 0, 1) := by decide +kernel
theorem dX3_init_75 : decode cX3_init 75 = .ok (.iload 5, 2) := by decide +kernel
theorem dX3_init_77 : decode cX3_init 77 = .ok (.putfield 55, 3) := by decide +kernel
theorem dX3_init_80 : decode cX3_init 80 = .ok (.return_, 1) := by decide +kernel
theorem dX3_hasForName_0 : decode cX3_hasForName 0 = .ok (.iload_n 1, 1) := by decide +kernel
theorem dX3_hasForName_1 : decode cX3_hasForName 1 = .ok (.aload_n 0, 1) := by decide +kernel
theorem dX3_hasForName_2 : decode cX3_hasForName 2 = .ok (.getfield 49, 3) := by decide +kernel
theorem dX3_hasForName_5 : decode cX3_hasForName 5 = .ok (.if_icmp .lt 15, 3) := by decide +kernel
theorem dX3_hasForName_8 : decode cX3_hasForName 8 = .ok (.iload_n 1, 1) := by decide +kernel
theorem dX3_hasForName_9 : decode cX3_hasForName 9 = .ok (.aload_n 0, 1) := by decide +kernel
theorem dX3_hasForName_10 : decode cX3_hasForName 10 = .ok (.getfield 52, 3) := by decide +kernel
theorem dX3_hasForName_13 : decode cX3_hasForName 13 = .ok (.if_icmp .gt 7, 3) := by decide +kernel
theorem dX3_hasForName_16 : decode cX3_hasForName 16 = .ok (.iconst 1, 1) := by decide +kernel
theorem dX3_hasForName_17 : decode cX3_hasForName 17 = .ok (.goto 4, 3) := by decide +kernel
theorem dX3_hasForName_20 : decode cX3_hasForName 20 = .ok (.iconst 0, 1) := by decide +kernel
theorem dX3_hasForName_21 : decode cX3_hasForName 21 = .ok (.ireturn, 1) := by decide +kernel
theorem dX3_isOn_0 : decode cX3_isOn 0 = .ok (.aload_n 0, 1) := by decide +kernel
theorem dX3_isOn_1 : decode cX3_isOn 1 = .ok (.getfield 58, 3) := by decide +kernel
theorem dX3_isOn_4 : decode cX3_isOn 4 = .ok (.ifnonnull 17, 3) := by decide +kernel
theorem dX3_isOn_7 : decode cX3_isOn 7 = .ok (.aload_n 0, 1) := by decide +kernel
theorem dX3_isOn_8 : decode cX3_isOn 8 = .ok (.getfield 46, 3) := by decide +kernel
theorem dX3_isOn_11 : decode cX3_isOn 11 = .ok (.iload_n 1, 1) := by decide +kernel
theorem dX3_isOn_12 : decode cX3_isOn 12 = .ok (.if_icmp .ne 7, 3) := by decide +kernel
theorem dX3_isOn_15 : decode cX3_isOn 15 = .ok (.iconst 1, 1) := by decide +kernel
theorem dX3_isOn_16 : decode cX3_isOn 16 = .ok (.goto 4, 3) := by decide +kernel
theorem dX3_isOn_19 : decode cX3_isOn 19 = .ok (.iconst 0, 1) := by decide +kernel
theorem dX3_isOn_20 : decode cX3_isOn 20 = .ok (.ireturn, 1) := by decide +kernel
theorem dX3_isOn_21 : decode cX3_isOn 21 = .ok (.aload_n 0, 1) := by decide +kernel
theorem dX3_isOn_22 : decode cX3_isOn 22 = .ok (.getfield 46, 3) := by decide +kernel
theorem dX3_isOn_25 : decode cX3_isOn 25 = .ok (.aload_n 0, 1) := by decide +kernel
theorem dX3_isOn_26 : decode cX3_isOn 26 = .ok (.getfield 58, 3) := by decide +kernel
theorem dX3_isOn_29 : decode cX3_isOn 29 = .ok (.getfield 62, 3) := by decide +kernel
theorem dX3_isOn_32 : decode cX3_isOn 32 = .ok (.if_icmp .eq 26, 3) := by decide +kernel
theorem dX3_isOn_35 : decode cX3_isOn 35 = .ok (.aload_n 0, 1) := by decide +kernel
theorem dX3_isOn_36 : decode cX3_isOn 36 = .ok (.getfield 46, 3) := by decide +kernel
theorem dX3_isOn_39 : decode cX3_isOn 39 = .ok (.iload_n 1, 1) := by decide +kernel
theorem dX3_isOn_40 : decode cX3_isOn 40 = .ok (.if_icmp .eq 14, 3) := by decide +kernel
theorem dX3_isOn_43 : decode cX3_isOn 43 = .ok (.aload_n 0, 1) := by decide +kernel
theorem dX3_isOn_44 : decode cX3_isOn 44 = .ok (.getfield 58, 3) := by decide +kernel
theorem dX3_isOn_47 : decode cX3_isOn 47 = .ok (.getfield 62, 3) := by decide +kernel
theorem dX3_isOn_50 : decode cX3_isOn 50 = .ok (.iload_n 1, 1) := by decide +kernel
theorem dX3_isOn_51 : decode cX3_isOn 51 = .ok (.if_icmp .ne 7, 3) := by decide +kernel
theorem dX3_isOn_54 : decode cX3_isOn 54 = .ok (.iconst 1, 1) := by decide +kernel
theorem dX3_isOn_55 : decode cX3_isOn 55 = .ok (.goto 4, 3) := by decide +kernel
theorem dX3_isOn_58 : decode cX3_isOn 58 = .ok (.iconst 0, 1) := by decide +kernel
theorem dX3_isOn_59 : decode cX3_isOn 59 = .ok (.ireturn, 1) := by decide +kernel
theorem dX3_move_0 : decode cX3_move 0 = .ok (.aload_n 0, 1) := by decide +kernel
theorem dX3_move_1 : decode cX3_move 1 = .ok (.getfield 46, 3) := by decide +kernel
theorem dX3_move_4 : decode cX3_move 4 = .ok (.iload_n 1, 1) := by decide +kernel
theorem dX3_move_5 : decode cX3_move 5 = .ok (.if_icmp .ne 8, 3) := by decide +kernel
theorem dX3_move_8 : decode cX3_move 8 = .ok (.aload_n 0, 1) := by decide +kernel
theorem dX3_move_9 : decode cX3_move 9 = .ok (.iload_n 2, 1) := by decide +kernel
theorem dX3_move_10 : decode cX3_move 10 = .ok (.putfield 46, 3) := by decide +kernel
theorem dX3_move_13 : decode cX3_move 13 = .ok (.aload_n 0, 1) := by decide +kernel
theorem dX3_move_14 : decode cX3_move 14 = .ok (.getfield 58, 3) := by decide +kernel
theorem dX3_move_17 : decode cX3_move 17 = .ok (.ifnull 22, 3) := by decide +kernel
theorem dX3_move_20 : decode cX3_move 20 = .ok (.aload_n 0, 1) := by decide +kernel
theorem dX3_move_21 : decode cX3_move 21 = .ok (.getfield 58, 3) := by decide +kernel
theorem dX3_move_24 : decode cX3_move 24 = .ok (.getfield 62, 3) := by decide +kernel
theorem dX3_move_27 : decode cX3_move 27 = .ok (.iload_n 1, 1) := by decide +kernel
theorem dX3_move_28 : decode cX3_move 28 = .ok (.if_icmp .ne 11, 3) := by decide +kernel
theorem dX3_move_31 : decode cX3_move 31 = .ok (.aload_n 0, 1) := by decide +kernel
theorem dX3_move_32 : decode cX3_move 32 = .ok (.getfield 58, 3) := by decide +kernel
theorem dX3_move_35 : decode cX3_move 35 = .ok (.iload_n 2, 1) := by decide +kernel
theorem dX3_move_36 : decode cX3_move 36 = .ok (.putfield 62, 3) := by decide +kernel
theorem dX3_move_39 : decode cX3_move 39 = .ok (.return_, 1) := by decide +kernel
theorem dX3_goAway_0 : decode cX3_goAway 0 = .ok (.aload_n 0, 1) := by decide +kernel
theorem dX3_goAway_1 : decode cX3_goAway 1 = .ok (.iconst 0, 1) := by decide +kernel
theorem dX3_goAway_2 : decode cX3_goAway 2 = .ok (.putfield 32, 3) := by decide +kernel
theorem dX3_goAway_5 : decode cX3_goAway 5 = .ok (.aload_n 0, 1) := by decide +kernel
theorem dX3_goAway_6 : decode cX3_goAway 6 = .ok (.iconst 0, 1) := by decide +kernel
theorem dX3_goAway_7 : decode cX3_goAway 7 = .ok (.putfield 65, 3) := by decide +kernel
theorem dX3_goAway_10 : decode cX3_goAway 10 = .ok (.aload_n 0, 1) := by decide +kernel
theorem dX3_goAway_11 : decode cX3_goAway 11 = .ok (.getfield 12, 3) := by decide +kernel
theorem dX3_goAway_14 : decode cX3_goAway 14 = .ok (.invokevirtual 69, 3) := by decide +kernel
theorem dX3_goAway_17 : decode cX3_goAway 17 = .ok (.aload_n 0, 1) := by decide +kernel
theorem dX3_goAway_18 : decode cX3_goAway 18 = .ok (.getfield 21, 3) := by decide +kernel
theorem dX3_goAway_21 : decode cX3_goAway 21 = .ok (.invokevirtual 72, 3) := by decide +kernel
theorem dX3_goAway_24 : decode cX3_goAway 24 = .ok (.aload_n 0, 1) := by decide +kernel
theorem dX3_goAway_25 : decode cX3_goAway 25 = .ok (.getfield 28, 3) := by decide +kernel
theorem dX3_goAway_28 : decode cX3_goAway 28 = .ok (.invokevirtual 73, 3) := by decide +kernel
theorem dX3_goAway_31 : decode cX3_goAway 31 = .ok (.return_, 1) := by decide +kernel
theorem dX3_clearLetters_0 : decode cX3_clearLetters 0 = .ok (.aload_n 0, 1) := by decide +kernel
theorem dX3_clearLetters_1 : decode cX3_clearLetters 1 = .ok (.getfield 39, 3) := by decide +kernel
theorem dX3_clearLetters_4 : decode cX3_clearLetters 4 = .ok (.invokevirtual 74, 3) := by decide +kernel
theorem dX3_clearLetters_7 : decode cX3_clearLetters 7 = .ok (.aload_n 0, 1) := by decide +kernel
theorem dX3_clearLetters_8 : decode cX3_clearLetters 8 = .ok (.getfield 58, 3) := by decide +kernel
theorem dX3_clearLetters_11 : decode cX3_clearLetters 11 = .ok (.ifnull 13, 3) := by decide +kernel
theorem dX3_clearLetters_14 : decode cX3_clearLetters 14 = .ok (.aload_n 0, 1) := by decide +kernel
theorem dX3_clearLetters_15 : decode cX3_clearLetters 15 = .ok (.getfield 58, 3) := by decide +kernel
theorem dX3_clearLetters_18 : decode cX3_clearLetters 18 = .ok (.getfield 75, 3) := by decide +kernel
theorem dX3_clearLetters_21 : decode cX3_clearLetters 21 = .ok (.invokevirtual 74, 3) := by decide +kernel
theorem dX3_clearLetters_24 : decode cX3_clearLetters 24 = .ok (.return_, 1) := by decide +kernel
theorem dX4_init_0 : decode cX4_init 0 = .ok (.aload_n 0, 1) := by decide +kernel
theorem dX4_init_1 : decode cX4_init 1 = .ok (.invokespecial 3, 3) := by decide +kernel
theorem dX4_init_4 : decode cX4_init 4 = .ok (.aload_n 0, 1) := by decide +kernel
theorem dX4_init_5 : decode cX4_init 5 = .ok (.bipush 16, 2) := by decide +kernel
theorem dX4_init_7 : decode cX4_init 7 = .ok (.newarray .int, 2) := by decide +kernel
theorem dX4_init_9 : decode cX4_init 9 = .ok (.putfield 9, 3) := by decide +kernel
theorem dX4_init_12 : decode cX4_init 12 = .ok (.aload_n 0, 1) := by decide +kernel
theorem dX4_init_13 : decode cX4_init 13 = .ok (.bipush 16, 2) := by decide +kernel
theorem dX4_init_15 : decode cX4_init 15 = .ok (.newarray .int, 2) := by decide +kernel
theorem dX4_init_17 : decode cX4_init 17 = .ok (.putfield 15, 3) := by decide +kernel
theorem dX4_init_20 : decode cX4_init 20 = .ok (.aload_n 0, 1) := by decide +kernel
theorem dX4_init_21 : decode cX4_init 21 = .ok (.bipush 16, 2) := by decide +kernel
theorem dX4_init_23 : decode cX4_init 23 = .ok (.newarray .int, 2) := by decide +kernel
theorem dX4_init_25 : decode cX4_init 25 = .ok (.putfield 18, 3) := by decide +kernel
theorem dX4_init_28 : decode cX4_init 28 = .ok (.aload_n 0, 1) := by decide +kernel
theorem dX4_init_29 : decode cX4_init 29 = .ok (.bipush 32, 2) := by decide +kernel
theorem dX4_init_31 : decode cX4_init 31 = .ok (.newarray .int, 2) := by decide +kernel
theorem dX4_init_33 : decode cX4_init 33 = .ok (.putfield 21, 3) := by decide +kernel
theorem dX4_init_36 : decode cX4_init 36 = .ok (.aload_n 0, 1) := by decide +kernel
theorem dX4_init_37 : decode cX4_init 37 = .ok (.bipush 32, 2) := by decide +kernel
theorem dX4_init_39 : decode cX4_init 39 = .ok (.newarray .int, 2) := by decide +kernel
theorem dX4_init_41 : decode cX4_init 41 = .ok (.putfield 24, 3) := by decide +kernel
theorem dX4_init_44 : decode cX4_init 44 = .ok (.aload_n 0, 1) := by decide +kernel
theorem dX4_init_45 : decode cX4_init 45 = .ok (.bipush 32, 2) := by decide +kernel
theorem dX4_init_47 : decode cX4_init 47 = .ok (.newarray .int, 2) := by decide +kernel
theorem dX4_init_49 : decode cX4_init 49 = .ok (.putfield 27, 3) := by decide +kernel
theorem dX4_init_52 : decode cX4_init 52 = .ok (.aload_n 0, 1) := by decide +kernel
theorem dX4_init_53 : decode cX4_init 53 = .ok (.bipush 32, 2) := by decide +kernel
theorem dX4_init_55 : decode cX4_init 55 = .ok (.newarray .int, 2) := by decide +kernel
theorem dX4_init_57 : decode cX4_init 57 = .ok (.putfield 30, 3) := by decide +kernel
theorem dX4_init_60 : decode cX4_init 60 = .ok (.aload_n 0, 1) := by decide +kernel
theorem dX4_init_61 : decode cX4_init 61 = .ok (.bipush 32, 2) := by decide +kernel
theorem dX4_init_63 : decode cX4_init 63 = .ok (.newarray .int, 2) := by decide +kernel
theorem dX4_init_65 : decode cX4_init 65 = .ok (.putfield 33, 3) := by decide +kernel
theorem dX4_init_68 : decode cX4_init 68 = .ok (.aload_n 0, 1) := by decide +kernel
theorem dX4_init_69 : decode cX4_init 69 = .ok (.bipush 32, 2) := by decide +kernel
theorem dX4_init_71 : decode cX4_init 71 = .ok (.newarray .int, 2) := by decide +kernel
theorem dX4_init_73 : decode cX4_init 73 = .ok (.putfield 36, 3) := by decide +kernel
theorem dX4_init_76 : decode cX4_init 76 = .ok (.aload_n 0, 1) := by decide +kernel
theorem dX4_init_77 : decode cX4_init 77 = .ok (.bipush 32, 2) := by decide +kernel
theorem dX4_init_79 : decode cX4_init 79 = .ok (.newarray .int, 2) := by decide +kernel
theorem dX4_init_81 : decode cX4_init 81 = .ok (.putfield 39, 3) := by decide +kernel
theorem dX4_init_84 : decode cX4_init 84 = .ok (.return_, 1) := by decide +kernel
theorem dX4_isEmpty_0 : decode cX4_isEmpty 0 = .ok (.aload_n 0, 1) := by decide +kernel
theorem dX4_isEmpty_1 : decode cX4_isEmpty 1 = .ok (.getfield 42, 3) := by decide +kernel
theorem dX4_isEmpty_4 : decode cX4_isEmpty 4 = .ok (.aload_n 0, 1) := by decide +kernel
theorem dX4_isEmpty_5 : decode cX4_isEmpty 5 = .ok (.getfield 46, 3) := by decide +kernel
theorem dX4_isEmpty_8 : decode cX4_isEmpty 8 = .ok (.ior, 1) := by decide +kernel
theorem dX4_isEmpty_9 : decode cX4_isEmpty 9 = .ok (.aload_n 0, 1) := by decide +kernel
theorem dX4_isEmpty_10 : decode cX4_isEmpty 10 = .ok (.getfield 49, 3) := by decide +kernel
theorem dX4_isEmpty_13 : decode cX4_isEmpty 13 = .ok (.ior, 1) := by decide +kernel
theorem dX4_isEmpty_14 : decode cX4_isEmpty 14 = .ok (.aload_n 0, 1) := by decide +kernel
theorem dX4_isEmpty_15 : decode cX4_isEmpty 15 = .ok (.getfield 52, 3) := by decide +kernel
theorem dX4_isEmpty_18 : decode cX4_isEmpty 18 = .ok (.ior, 1) := by decide +kernel
theorem dX4_isEmpty_19 : decode cX4_isEmpty 19 = .ok (.ifCond .ne 7, 3) := by decide +kernel
theorem dX4_isEmpty_22 : decode cX4_isEmpty 22 = .ok (.iconst 1, 1) := by decide +kernel
theorem dX4_isEmpty_23 : decode cX4_isEmpty 23 = .ok (.goto 4, 3) := by decide +kernel
theorem dX4_isEmpty_26 : decode cX4_isEmpty 26 = .ok (.iconst 0, 1) := by decide +kernel
theorem dX4_isEmpty_27 : decode cX4_isEmpty 27 = .ok (.ireturn, 1) := by decide +kernel
theorem dX4_size_0 : decode cX4_size 0 = .ok (.aload_n 0, 1) := by decide +kernel
theorem dX4_size_1 : decode cX4_size 1 = .ok (.getfield 42, 3) := by decide +kernel
theorem dX4_size_4 : decode cX4_size 4 = .ok (.invokestatic 55, 3) := by decide +kernel
theorem dX4_size_7 : decode cX4_size 7 = .ok (.aload_n 0, 1) := by decide +kernel
theorem dX4_size_8 : decode cX4_size 8 = .ok (.getfield 46, 3) := by decide +kernel
theorem dX4_size_11 : decode cX4_size 11 = .ok (.invokestatic 55, 3) := by decide +kernel
theorem dX4_size_14 : decode cX4_size 14 = .ok (.iadd, 1) := by decide +kernel
theorem dX4_size_15 : decode cX4_size 15 = .ok (.aload_n 0, 1) := by decide +kernel
theorem dX4_size_16 : decode cX4_size 16 = .ok (.getfield 49, 3) := by decide +kernel
theorem dX4_size_19 : decode cX4_size 19 = .ok (.invokestatic 55, 3) := by decide +kernel
theorem dX4_size_22 : decode cX4_size 22 = .ok (.iadd, 1) := by decide +kernel
theorem dX4_size_23 : decode cX4_size 23 = .ok (.aload_n 0, 1) := by decide +kernel
theorem dX4_size_24 : decode cX4_size 24 = .ok (.getfield 52, 3) := by decide +kernel
theorem dX4_size_27 : decode cX4_size 27 = .ok (.invokestatic 55, 3) := by decide +kernel
theorem dX4_size_30 : decode cX4_size 30 = .ok (.iadd, 1) := by decide +kernel
theorem dX4_size_31 : decode cX4_size 31 = .ok (.ireturn, 1) := by decide +kernel
theorem dX4_clear_0 : decode cX4_clear 0 = .ok (.aload_n 0, 1) := by decide +kernel
theorem dX4_clear_1 : decode cX4_clear 1 = .ok (.iconst 0, 1) := by decide +kernel
theorem dX4_clear_2 : decode cX4_clear 2 = .ok (.putfield 42, 3) := by decide +kernel
theorem dX4_clear_5 : decode cX4_clear 5 = .ok (.aload_n 0, 1) := by decide +kernel
theorem dX4_clear_6 : decode cX4_clear 6 = .ok (.iconst 0, 1) := by decide +kernel
theorem dX4_clear_7 : decode cX4_clear 7 = .ok (.putfield 46, 3) := by decide +kernel
theorem dX4_clear_10 : decode cX4_clear 10 = .ok (.aload_n 0, 1) := by decide +kernel
theorem dX4_clear_11 : decode cX4_clear 11 = .ok (.iconst 0, 1) := by decide +kernel
theorem dX4_clear_12 : decode cX4_clear 12 = .ok (.putfield 49, 3) := by decide +kernel
theorem dX4_clear_15 : decode cX4_clear 15 = .ok (.aload_n 0, 1) := by decide +kernel
theorem dX4_clear_16 : decode cX4_clear 16 = .ok (.iconst 0, 1) := by decide +kernel
theorem dX4_clear_17 : decode cX4_clear 17 = .ok (.putfield 52, 3) := by decide +kernel
theorem dX4_clear_20 : decode cX4_clear 20 = .ok (.return_, 1) := by decide +kernel
theorem dX4_hasAsk_0 : decode cX4_hasAsk 0 = .ok (.aload_n 0, 1) := by decide +kernel
theorem dX4_hasAsk_1 : decode cX4_hasAsk 1 = .ok (.getfield 42, 3) := by decide +kernel
theorem dX4_hasAsk_4 : decode cX4_hasAsk 4 = .ok (.iload_n 1, 1) := by decide +kernel
theorem dX4_hasAsk_5 : decode cX4_hasAsk 5 = .ok (.invokestatic 61, 3) := by decide +kernel
theorem dX4_hasAsk_8 : decode cX4_hasAsk 8 = .ok (.ireturn, 1) := by decide +kernel
theorem dX4_hasClaim_0 : decode cX4_hasClaim 0 = .ok (.aload_n 0, 1) := by decide +kernel
theorem dX4_hasClaim_1 : decode cX4_hasClaim 1 = .ok (.getfield 46, 3) := by decide +kernel
theorem dX4_hasClaim_4 : decode cX4_hasClaim 4 = .ok (.iload_n 1, 1) := by decide +kernel
theorem dX4_hasClaim_5 : decode cX4_hasClaim 5 = .ok (.invokestatic 61, 3) := by decide +kernel
theorem dX4_hasClaim_8 : decode cX4_hasClaim 8 = .ok (.ireturn, 1) := by decide +kernel
theorem dX4_hasBye_0 : decode cX4_hasBye 0 = .ok (.aload_n 0, 1) := by decide +kernel
theorem dX4_hasBye_1 : decode cX4_hasBye 1 = .ok (.getfield 49, 3) := by decide +kernel
theorem dX4_hasBye_4 : decode cX4_hasBye 4 = .ok (.iload_n 1, 1) := by decide +kernel
theorem dX4_hasBye_5 : decode cX4_hasBye 5 = .ok (.invokestatic 61, 3) := by decide +kernel
theorem dX4_hasBye_8 : decode cX4_hasBye 8 = .ok (.ireturn, 1) := by decide +kernel
theorem dX4_hasTelling_0 : decode cX4_hasTelling 0 = .ok (.aload_n 0, 1) := by decide +kernel
theorem dX4_hasTelling_1 : decode cX4_hasTelling 1 = .ok (.getfield 52, 3) := by decide +kernel
theorem dX4_hasTelling_4 : decode cX4_hasTelling 4 = .ok (.iload_n 1, 1) := by decide +kernel
theorem dX4_hasTelling_5 : decode cX4_hasTelling 5 = .ok (.invokestatic 61, 3) := by decide +kernel
theorem dX4_hasTelling_8 : decode cX4_hasTelling 8 = .ok (.ireturn, 1) := by decide +kernel
theorem dX4_addAsk_0 : decode cX4_addAsk 0 = .ok (.aload_n 0, 1) := by decide +kernel
theorem dX4_addAsk_1 : decode cX4_addAsk 1 = .ok (.dup, 1) := by decide +kernel
theorem dX4_addAsk_2 : decode cX4_addAsk 2 = .ok (.getfield 42, 3) := by decide +kernel
theorem dX4_addAsk_5 : decode cX4_addAsk 5 = .ok (.iconst 1, 1) := by decide +kernel
theorem dX4_addAsk_6 : decode cX4_addAsk 6 = .ok (.iload_n 1, 1) := by decide +kernel
theorem dX4_addAsk_7 : decode cX4_addAsk 7 = .ok (.ishl, 1) := by decide +kernel
theorem dX4_addAsk_8 : decode cX4_addAsk 8 = .ok (.ior, 1) := by decide +kernel
theorem dX4_addAsk_9 : decode cX4_addAsk 9 = .ok (.putfield 42, 3) := by decide +kernel
theorem dX4_addAsk_12 : decode cX4_addAsk 12 = .ok (.aload_n 0, 1) := by decide +kernel
theorem dX4_addAsk_13 : decode cX4_addAsk 13 = .ok (.getfield 9, 3) := by decide +kernel
theorem dX4_addAsk_16 : decode cX4_addAsk 16 = .ok (.iload_n 1, 1) := by decide +kernel
theorem dX4_addAsk_17 : decode cX4_addAsk 17 = .ok (.iload_n 2, 1) := by decide +kernel
theorem dX4_addAsk_18 : decode cX4_addAsk 18 = .ok (.iastore, 1) := by decide +kernel
theorem dX4_addAsk_19 : decode cX4_addAsk 19 = .ok (.aload_n 0, 1) := by decide +kernel
theorem dX4_addAsk_20 : decode cX4_addAsk 20 = .ok (.getfield 15, 3) := by decide +kernel
theorem dX4_addAsk_23 : decode cX4_addAsk 23 = .ok (.iload_n 1, 1) := by decide +kernel
theorem dX4_addAsk_24 : decode cX4_addAsk 24 = .ok (.iload_n 3, 1) := by decide +kernel
theorem dX4_addAsk_25 : decode cX4_addAsk 25 = .ok (.iastore, 1) := by decide +kernel
theorem dX4_addAsk_26 : decode cX4_addAsk 26 = .ok (.aload_n 0, 1) := by decide +kernel
theorem dX4_addAsk_27 : decode cX4_addAsk 27 = .ok (.getfield 18, 3) := by decide +kernel
theorem dX4_addAsk_30 : decode cX4_addAsk 30 = .ok (.iload_n 1, 1) := by decide +kernel
theorem dX4_addAsk_31 : decode cX4_addAsk 31 = .ok (.iload 4, 2) := by decide +kernel
theorem dX4_addAsk_33 : decode cX4_addAsk 33 = .ok (.iastore, 1) := by decide +kernel
theorem dX4_addAsk_34 : decode cX4_addAsk 34 = .ok (.return_, 1) := by decide +kernel
theorem dX4_addClaim_0 : decode cX4_addClaim 0 = .ok (.aload_n 0, 1) := by decide +kernel
theorem dX4_addClaim_1 : decode cX4_addClaim 1 = .ok (.dup, 1) := by decide +kernel
theorem dX4_addClaim_2 : decode cX4_addClaim 2 = .ok (.getfield 46, 3) := by decide +kernel
theorem dX4_addClaim_5 : decode cX4_addClaim 5 = .ok (.iconst 1, 1) := by decide +kernel
theorem dX4_addClaim_6 : decode cX4_addClaim 6 = .ok (.iload_n 1, 1) := by decide +kernel
theorem dX4_addClaim_7 : decode cX4_addClaim 7 = .ok (.ishl, 1) := by decide +kernel
theorem dX4_addClaim_8 : decode cX4_addClaim 8 = .ok (.ior, 1) := by decide +kernel
theorem dX4_addClaim_9 : decode cX4_addClaim 9 = .ok (.putfield 46, 3) := by decide +kernel
theorem dX4_addClaim_12 : decode cX4_addClaim 12 = .ok (.aload_n 0, 1) := by decide +kernel
theorem dX4_addClaim_13 : decode cX4_addClaim 13 = .ok (.getfield 21, 3) := by decide +kernel
theorem dX4_addClaim_16 : decode cX4_addClaim 16 = .ok (.iload_n 1, 1) := by decide +kernel
theorem dX4_addClaim_17 : decode cX4_addClaim 17 = .ok (.iload_n 2, 1) := by decide +kernel
theorem dX4_addClaim_18 : decode cX4_addClaim 18 = .ok (.iastore, 1) := by decide +kernel
theorem dX4_addClaim_19 : decode cX4_addClaim 19 = .ok (.aload_n 0, 1) := by decide +kernel
theorem dX4_addClaim_20 : decode cX4_addClaim 20 = .ok (.getfield 24, 3) := by decide +kernel
theorem dX4_addClaim_23 : decode cX4_addClaim 23 = .ok (.iload_n 1, 1) := by decide +kernel
theorem dX4_addClaim_24 : decode cX4_addClaim 24 = .ok (.iload_n 3, 1) := by decide +kernel
theorem dX4_addClaim_25 : decode cX4_addClaim 25 = .ok (.iastore, 1) := by decide +kernel
theorem dX4_addClaim_26 : decode cX4_addClaim 26 = .ok (.return_, 1) := by decide +kernel
theorem dX4_addBye_0 : decode cX4_addBye 0 = .ok (.aload_n 0, 1) := by decide +kernel
theorem dX4_addBye_1 : decode cX4_addBye 1 = .ok (.dup, 1) := by decide +kernel
theorem dX4_addBye_2 : decode cX4_addBye 2 = .ok (.getfield 49, 3) := by decide +kernel
theorem dX4_addBye_5 : decode cX4_addBye 5 = .ok (.iconst 1, 1) := by decide +kernel
theorem dX4_addBye_6 : decode cX4_addBye 6 = .ok (.iload_n 1, 1) := by decide +kernel
theorem dX4_addBye_7 : decode cX4_addBye 7 = .ok (.ishl, 1) := by decide +kernel
theorem dX4_addBye_8 : decode cX4_addBye 8 = .ok (.ior, 1) := by decide +kernel
theorem dX4_addBye_9 : decode cX4_addBye 9 = .ok (.putfield 49, 3) := by decide +kernel
theorem dX4_addBye_12 : decode cX4_addBye 12 = .ok (.aload_n 0, 1) := by decide +kernel
theorem dX4_addBye_13 : decode cX4_addBye 13 = .ok (.getfield 27, 3) := by decide +kernel
theorem dX4_addBye_16 : decode cX4_addBye 16 = .ok (.iload_n 1, 1) := by decide +kernel
theorem dX4_addBye_17 : decode cX4_addBye 17 = .ok (.iload_n 2, 1) := by decide +kernel
theorem dX4_addBye_18 : decode cX4_addBye 18 = .ok (.iastore, 1) := by decide +kernel
theorem dX4_addBye_19 : decode cX4_addBye 19 = .ok (.return_, 1) := by decide +kernel
theorem dX4_addTelling_0 : decode cX4_addTelling 0 = .ok (.aload_n 0, 1) := by decide +kernel
theorem dX4_addTelling_1 : decode cX4_addTelling 1 = .ok (.dup, 1) := by decide +kernel
theorem dX4_addTelling_2 : decode cX4_addTelling 2 = .ok (.getfield 52, 3) := by decide +kernel
theorem dX4_addTelling_5 : decode cX4_addTelling 5 = .ok (.iconst 1, 1) := by decide +kernel
theorem dX4_addTelling_6 : decode cX4_addTelling 6 = .ok (.iload_n 1, 1) := by decide +kernel
theorem dX4_addTelling_7 : decode cX4_addTelling 7 = .ok (.ishl, 1) := by decide +kernel
theorem dX4_addTelling_8 : decode cX4_addTelling 8 = .ok (.ior, 1) := by decide +kernel
theorem dX4_addTelling_9 : decode cX4_addTelling 9 = .ok (.putfield 52, 3) := by decide +kernel
theorem dX4_addTelling_12 : decode cX4_addTelling 12 = .ok (.aload_n 0, 1) := by decide +kernel
theorem dX4_addTelling_13 : decode cX4_addTelling 13 = .ok (.getfield 30, 3) := by decide +kernel
theorem dX4_addTelling_16 : decode cX4_addTelling 16 = .ok (.iload_n 1, 1) := by decide +kernel
theorem dX4_addTelling_17 : decode cX4_addTelling 17 = .ok (.iload_n 2, 1) := by decide +kernel
theorem dX4_addTelling_18 : decode cX4_addTelling 18 = .ok (.iastore, 1) := by decide +kernel
theorem dX4_addTelling_19 : decode cX4_addTelling 19 = .ok (.aload_n 0, 1) := by decide +kernel
theorem dX4_addTelling_20 : decode cX4_addTelling 20 = .ok (.getfield 33, 3) := by decide +kernel
theorem dX4_addTelling_23 : decode cX4_addTelling 23 = .ok (.iload_n 1, 1) := by decide +kernel
theorem dX4_addTelling_24 : decode cX4_addTelling 24 = .ok (.iload_n 3, 1) := by decide +kernel
theorem dX4_addTelling_25 : decode cX4_addTelling 25 = .ok (.iastore, 1) := by decide +kernel
theorem dX4_addTelling_26 : decode cX4_addTelling 26 = .ok (.aload_n 0, 1) := by decide +kernel
theorem dX4_addTelling_27 : decode cX4_addTelling 27 = .ok (.getfield 36, 3) := by decide +kernel
theorem dX4_addTelling_30 : decode cX4_addTelling 30 = .ok (.iload_n 1, 1) := by decide +kernel
theorem dX4_addTelling_31 : decode cX4_addTelling 31 = .ok (.iload 4, 2) := by decide +kernel
theorem dX4_addTelling_33 : decode cX4_addTelling 33 = .ok (.iastore, 1) := by decide +kernel
theorem dX4_addTelling_34 : decode cX4_addTelling 34 = .ok (.aload_n 0, 1) := by decide +kernel
theorem dX4_addTelling_35 : decode cX4_addTelling 35 = .ok (.getfield 39, 3) := by decide +kernel
theorem dX4_addTelling_38 : decode cX4_addTelling 38 = .ok (.iload_n 1, 1) := by decide +kernel
theorem dX4_addTelling_39 : decode cX4_addTelling 39 = .ok (.iload 5, 2) := by decide +kernel
theorem dX4_addTelling_41 : decode cX4_addTelling 41 = .ok (.iastore, 1) := by decide +kernel
theorem dX4_addTelling_42 : decode cX4_addTelling 42 = .ok (.return_, 1) := by decide +kernel
theorem dX4_takeAsk_0 : decode cX4_takeAsk 0 = .ok (.aload_n 1, 1) := by decide +kernel
theorem dX4_takeAsk_1 : decode cX4_takeAsk 1 = .ok (.getfield 18, 3) := by decide +kernel
theorem dX4_takeAsk_4 : decode cX4_takeAsk 4 = .ok (.iload_n 2, 1) := by decide +kernel
theorem dX4_takeAsk_5 : decode cX4_takeAsk 5 = .ok (.iaload, 1) := by decide +kernel
theorem dX4_takeAsk_6 : decode cX4_takeAsk 6 = .ok (.iconst 1, 1) := by decide +kernel
theorem dX4_takeAsk_7 : decode cX4_takeAsk 7 = .ok (.aload_n 1, 1) := by decide +kernel
theorem dX4_takeAsk_8 : decode cX4_takeAsk 8 = .ok (.getfield 65, 3) := by decide +kernel
theorem dX4_takeAsk_11 : decode cX4_takeAsk 11 = .ok (.ishl, 1) := by decide +kernel
theorem dX4_takeAsk_12 : decode cX4_takeAsk 12 = .ok (.ior, 1) := by decide +kernel
theorem dX4_takeAsk_13 : decode cX4_takeAsk 13 = .ok (.istore 4, 2) := by decide +kernel
theorem dX4_takeAsk_15 : decode cX4_takeAsk 15 = .ok (.aload_n 1, 1) := by decide +kernel
theorem dX4_takeAsk_16 : decode cX4_takeAsk 16 = .ok (.iload_n 2, 1) := by decide +kernel
theorem dX4_takeAsk_17 : decode cX4_takeAsk 17 = .ok (.invokevirtual 68, 3) := by decide +kernel
theorem dX4_takeAsk_20 : decode cX4_takeAsk 20 = .ok (.ifCond .eq 39, 3) := by decide +kernel
theorem dX4_takeAsk_23 : decode cX4_takeAsk 23 = .ok (.iload 4, 2) := by decide +kernel
theorem dX4_takeAsk_25 : decode cX4_takeAsk 25 = .ok (.iload_n 3, 1) := by decide +kernel
theorem dX4_takeAsk_26 : decode cX4_takeAsk 26 = .ok (.invokestatic 61, 3) := by decide +kernel
theorem dX4_takeAsk_29 : decode cX4_takeAsk 29 = .ok (.ifCond .ne 30, 3) := by decide +kernel
theorem dX4_takeAsk_32 : decode cX4_takeAsk 32 = .ok (.aload_n 0, 1) := by decide +kernel
theorem dX4_takeAsk_33 : decode cX4_takeAsk 33 = .ok (.iload_n 2, 1) := by decide +kernel
theorem dX4_takeAsk_34 : decode cX4_takeAsk 34 = .ok (.invokevirtual 68, 3) := by decide +kernel
theorem dX4_takeAsk_37 : decode cX4_takeAsk 37 = .ok (.ifCond .ne 22, 3) := by decide +kernel
theorem dX4_takeAsk_40 : decode cX4_takeAsk 40 = .ok (.aload_n 0, 1) := by decide +kernel
theorem dX4_takeAsk_41 : decode cX4_takeAsk 41 = .ok (.iload_n 2, 1) := by decide +kernel
theorem dX4_takeAsk_42 : decode cX4_takeAsk 42 = .ok (.aload_n 1, 1) := by decide +kernel
theorem dX4_takeAsk_43 : decode cX4_takeAsk 43 = .ok (.getfield 9, 3) := by decide +kernel
theorem dX4_takeAsk_46 : decode cX4_takeAsk 46 = .ok (.iload_n 2, 1) := by decide +kernel
theorem dX4_takeAsk_47 : decode cX4_takeAsk 47 = .ok (.iaload, 1) := by decide +kernel
theorem dX4_takeAsk_48 : decode cX4_takeAsk 48 = .ok (.aload_n 1, 1) := by decide +kernel
theorem dX4_takeAsk_49 : decode cX4_takeAsk 49 = .ok (.getfield 15, 3) := by decide +kernel
theorem dX4_takeAsk_52 : decode cX4_takeAsk 52 = .ok (.iload_n 2, 1) := by decide +kernel
theorem dX4_takeAsk_53 : decode cX4_takeAsk 53 = .ok (.iaload, 1) := by decide +kernel
theorem dX4_takeAsk_54 : decode cX4_takeAsk 54 = .ok (.iload 4, 2) := by decide +kernel
theorem dX4_takeAsk_56 : decode cX4_takeAsk 56 = .ok (.invokevirtual 72, 3) := by decide +kernel
theorem dX4_takeAsk_59 : decode cX4_takeAsk 59 = .ok (.return_, 1) := by decide +kernel
theorem dX4_takeClaim_0 : decode cX4_takeClaim 0 = .ok (.aload_n 1, 1) := by decide +kernel
theorem dX4_takeClaim_1 : decode cX4_takeClaim 1 = .ok (.getfield 24, 3) := by decide +kernel
theorem dX4_takeClaim_4 : decode cX4_takeClaim 4 = .ok (.iload_n 2, 1) := by decide +kernel
theorem dX4_takeClaim_5 : decode cX4_takeClaim 5 = .ok (.iaload, 1) := by decide +kernel
theorem dX4_takeClaim_6 : decode cX4_takeClaim 6 = .ok (.iconst 1, 1) := by decide +kernel
theorem dX4_takeClaim_7 : decode cX4_takeClaim 7 = .ok (.aload_n 1, 1) := by decide +kernel
theorem dX4_takeClaim_8 : decode cX4_takeClaim 8 = .ok (.getfield 65, 3) := by decide +kernel
theorem dX4_takeClaim_11 : decode cX4_takeClaim 11 = .ok (.ishl, 1) := by decide +kernel
theorem dX4_takeClaim_12 : decode cX4_takeClaim 12 = .ok (.ior, 1) := by decide +kernel
theorem dX4_takeClaim_13 : decode cX4_takeClaim 13 = .ok (.istore 4, 2) := by decide +kernel
theorem dX4_takeClaim_15 : decode cX4_takeClaim 15 = .ok (.aload_n 1, 1) := by decide +kernel
theorem dX4_takeClaim_16 : decode cX4_takeClaim 16 = .ok (.iload_n 2, 1) := by decide +kernel
theorem dX4_takeClaim_17 : decode cX4_takeClaim 17 = .ok (.invokevirtual 76, 3) := by decide +kernel
theorem dX4_takeClaim_20 : decode cX4_takeClaim 20 = .ok (.ifCond .eq 25, 3) := by decide +kernel
theorem dX4_takeClaim_23 : decode cX4_takeClaim 23 = .ok (.iload 4, 2) := by decide +kernel
theorem dX4_takeClaim_25 : decode cX4_takeClaim 25 = .ok (.iload_n 3, 1) := by decide +kernel
theorem dX4_takeClaim_26 : decode cX4_takeClaim 26 = .ok (.invokestatic 61, 3) := by decide +kernel
theorem dX4_takeClaim_29 : decode cX4_takeClaim 29 = .ok (.ifCond .ne 16, 3) := by decide +kernel
theorem dX4_takeClaim_32 : decode cX4_takeClaim 32 = .ok (.aload_n 0, 1) := by decide +kernel
theorem dX4_takeClaim_33 : decode cX4_takeClaim 33 = .ok (.iload_n 2, 1) := by decide +kernel
theorem dX4_takeClaim_34 : decode cX4_takeClaim 34 = .ok (.aload_n 1, 1) := by decide +kernel
theorem dX4_takeClaim_35 : decode cX4_takeClaim 35 = .ok (.getfield 21, 3) := by decide +kernel
theorem dX4_takeClaim_38 : decode cX4_takeClaim 38 = .ok (.iload_n 2, 1) := by decide +kernel
theorem dX4_takeClaim_39 : decode cX4_takeClaim 39 = .ok (.iaload, 1) := by decide +kernel
theorem dX4_takeClaim_40 : decode cX4_takeClaim 40 = .ok (.iload 4, 2) := by decide +kernel
theorem dX4_takeClaim_42 : decode cX4_takeClaim 42 = .ok (.invokevirtual 79, 3) := by decide +kernel
theorem dX4_takeClaim_45 : decode cX4_takeClaim 45 = .ok (.return_, 1) := by decide +kernel
theorem dX4_takeBye_0 : decode cX4_takeBye 0 = .ok (.aload_n 1, 1) := by decide +kernel
theorem dX4_takeBye_1 : decode cX4_takeBye 1 = .ok (.getfield 27, 3) := by decide +kernel
theorem dX4_takeBye_4 : decode cX4_takeBye 4 = .ok (.iload_n 2, 1) := by decide +kernel
theorem dX4_takeBye_5 : decode cX4_takeBye 5 = .ok (.iaload, 1) := by decide +kernel
theorem dX4_takeBye_6 : decode cX4_takeBye 6 = .ok (.iconst 1, 1) := by decide +kernel
theorem dX4_takeBye_7 : decode cX4_takeBye 7 = .ok (.aload_n 1, 1) := by decide +kernel
theorem dX4_takeBye_8 : decode cX4_takeBye 8 = .ok (.getfield 65, 3) := by decide +kernel
theorem dX4_takeBye_11 : decode cX4_takeBye 11 = .ok (.ishl, 1) := by decide +kernel
theorem dX4_takeBye_12 : decode cX4_takeBye 12 = .ok (.ior, 1) := by decide +kernel
theorem dX4_takeBye_13 : decode cX4_takeBye 13 = .ok (.istore 4, 2) := by decide +kernel
theorem dX4_takeBye_15 : decode cX4_takeBye 15 = .ok (.aload_n 1, 1) := by decide +kernel
theorem dX4_takeBye_16 : decode cX4_takeBye 16 = .ok (.iload_n 2, 1) := by decide +kernel
theorem dX4_takeBye_17 : decode cX4_takeBye 17 = .ok (.invokevirtual 83, 3) := by decide +kernel
theorem dX4_takeBye_20 : decode cX4_takeBye 20 = .ok (.ifCond .eq 19, 3) := by decide +kernel
theorem dX4_takeBye_23 : decode cX4_takeBye 23 = .ok (.iload 4, 2) := by decide +kernel
theorem dX4_takeBye_25 : decode cX4_takeBye 25 = .ok (.iload_n 3, 1) := by decide +kernel
theorem dX4_takeBye_26 : decode cX4_takeBye 26 = .ok (.invokestatic 61, 3) := by decide +kernel
theorem dX4_takeBye_29 : decode cX4_takeBye 29 = .ok (.ifCond .ne 10, 3) := by decide +kernel
theorem dX4_takeBye_32 : decode cX4_takeBye 32 = .ok (.aload_n 0, 1) := by decide +kernel
theorem dX4_takeBye_33 : decode cX4_takeBye 33 = .ok (.iload_n 2, 1) := by decide +kernel
theorem dX4_takeBye_34 : decode cX4_takeBye 34 = .ok (.iload 4, 2) := by decide +kernel
theorem dX4_takeBye_36 : decode cX4_takeBye 36 = .ok (.invokevirtual 86, 3) := by decide +kernel
theorem dX4_takeBye_39 : decode cX4_takeBye 39 = .ok (.return_, 1) := by decide +kernel
theorem dX4_takeTelling_0 : decode cX4_takeTelling 0 = .ok (.aload_n 1, 1) := by decide +kernel
theorem dX4_takeTelling_1 : decode cX4_takeTelling 1 = .ok (.getfield 39, 3) := by decide +kernel
theorem dX4_takeTelling_4 : decode cX4_takeTelling 4 = .ok (.iload_n 2, 1) := by decide +kernel
theorem dX4_takeTelling_5 : decode cX4_takeTelling 5 = .ok (.iaload, 1) := by decide +kernel
theorem dX4_takeTelling_6 : decode cX4_takeTelling 6 = .ok (.iconst 1, 1) := by decide +kernel
theorem dX4_takeTelling_7 : decode cX4_takeTelling 7 = .ok (.aload_n 1, 1) := by decide +kernel
theorem dX4_takeTelling_8 : decode cX4_takeTelling 8 = .ok (.getfield 65, 3) := by decide +kernel
theorem dX4_takeTelling_11 : decode cX4_takeTelling 11 = .ok (.ishl, 1) := by decide +kernel
theorem dX4_takeTelling_12 : decode cX4_takeTelling 12 = .ok (.ior, 1) := by decide +kernel
theorem dX4_takeTelling_13 : decode cX4_takeTelling 13 = .ok (.istore 4, 2) := by decide +kernel
theorem dX4_takeTelling_15 : decode cX4_takeTelling 15 = .ok (.aload_n 1, 1) := by decide +kernel
theorem dX4_takeTelling_16 : decode cX4_takeTelling 16 = .ok (.getfield 36, 3) := by decide +kernel
theorem dX4_takeTelling_19 : decode cX4_takeTelling 19 = .ok (.iload_n 2, 1) := by decide +kernel
theorem dX4_takeTelling_20 : decode cX4_takeTelling 20 = .ok (.iaload, 1) := by decide +kernel
theorem dX4_takeTelling_21 : decode cX4_takeTelling 21 = .ok (.iconst 1, 1) := by decide +kernel
theorem dX4_takeTelling_22 : decode cX4_takeTelling 22 = .ok (.isub, 1) := by decide +kernel
theorem dX4_takeTelling_23 : decode cX4_takeTelling 23 = .ok (.istore 5, 2) := by decide +kernel
theorem dX4_takeTelling_25 : decode cX4_takeTelling 25 = .ok (.aload_n 1, 1) := by decide +kernel
theorem dX4_takeTelling_26 : decode cX4_takeTelling 26 = .ok (.iload_n 2, 1) := by decide +kernel
theorem dX4_takeTelling_27 : decode cX4_takeTelling 27 = .ok (.invokevirtual 90, 3) := by decide +kernel
theorem dX4_takeTelling_30 : decode cX4_takeTelling 30 = .ok (.ifCond .eq 38, 3) := by decide +kernel
theorem dX4_takeTelling_33 : decode cX4_takeTelling 33 = .ok (.iload 4, 2) := by decide +kernel
theorem dX4_takeTelling_35 : decode cX4_takeTelling 35 = .ok (.iload_n 3, 1) := by decide +kernel
theorem dX4_takeTelling_36 : decode cX4_takeTelling 36 = .ok (.invokestatic 61, 3) := by decide +kernel
theorem dX4_takeTelling_39 : decode cX4_takeTelling 39 = .ok (.ifCond .ne 29, 3) := by decide +kernel
theorem dX4_takeTelling_42 : decode cX4_takeTelling 42 = .ok (.iload 5, 2) := by decide +kernel
theorem dX4_takeTelling_44 : decode cX4_takeTelling 44 = .ok (.ifCond .le 24, 3) := by decide +kernel
theorem dX4_takeTelling_47 : decode cX4_takeTelling 47 = .ok (.aload_n 0, 1) := by decide +kernel
theorem dX4_takeTelling_48 : decode cX4_takeTelling 48 = .ok (.iload_n 2, 1) := by decide +kernel
theorem dX4_takeTelling_49 : decode cX4_takeTelling 49 = .ok (.aload_n 1, 1) := by decide +kernel
theorem dX4_takeTelling_50 : decode cX4_takeTelling 50 = .ok (.getfield 30, 3) := by decide +kernel
theorem dX4_takeTelling_53 : decode cX4_takeTelling 53 = .ok (.iload_n 2, 1) := by decide +kernel
theorem dX4_takeTelling_54 : decode cX4_takeTelling 54 = .ok (.iaload, 1) := by decide +kernel
theorem dX4_takeTelling_55 : decode cX4_takeTelling 55 = .ok (.aload_n 1, 1) := by decide +kernel
theorem dX4_takeTelling_56 : decode cX4_takeTelling 56 = .ok (.getfield 33, 3) := by decide +kernel
theorem dX4_takeTelling_59 : decode cX4_takeTelling 59 = .ok (.iload_n 2, 1) := by decide +kernel
theorem dX4_takeTelling_60 : decode cX4_takeTelling 60 = .ok (.iaload, 1) := by decide +kernel
theorem dX4_takeTelling_61 : decode cX4_takeTelling 61 = .ok (.iload 5, 2) := by decide +kernel
theorem dX4_takeTelling_63 : decode cX4_takeTelling 63 = .ok (.iload 4, 2) := by decide +kernel
theorem dX4_takeTelling_65 : decode cX4_takeTelling 65 = .ok (.invokevirtual 93, 3) := by decide +kernel
theorem dX4_takeTelling_68 : decode cX4_takeTelling 68 = .ok (.return_, 1) := by decide +kernel
theorem dX5_init_0 : decode cX5_init 0 = .ok (.aload_n 0, 1) := by decide +kernel
theorem dX5_init_1 : decode cX5_init 1 = .ok (.invokespecial 3, 3) := by decide +kernel
theorem dX5_init_4 : decode cX5_init 4 = .ok (.aload_n 0, 1) := by decide +kernel
theorem dX5_init_5 : decode cX5_init 5 = .ok (.iconst 1, 1) := by decide +kernel
theorem dX5_init_6 : decode cX5_init 6 = .ok (.putfield 9, 3) := by decide +kernel
theorem dX5_init_9 : decode cX5_init 9 = .ok (.aload_n 0, 1) := by decide +kernel
theorem dX5_init_10 : decode cX5_init 10 = .ok (.iconst 3, 1) := by decide +kernel
theorem dX5_init_11 : decode cX5_init 11 = .ok (.putfield 15, 3) := by decide +kernel
theorem dX5_init_14 : decode cX5_init 14 = .ok (.aload_n 0, 1) := by decide +kernel
theorem dX5_init_15 : decode cX5_init 15 = .ok (.iload_n 1, 1) := by decide +kernel
theorem dX5_init_16 : decode cX5_init 16 = .ok (.putfield 18, 3) := by decide +kernel
theorem dX5_init_19 : decode cX5_init 19 = .ok (.aload_n 0, 1) := by decide +kernel
theorem dX5_init_20 : decode cX5_init 20 = .ok (.aload_n 2, 1) := by decide +kernel
theorem dX5_init_21 : decode cX5_init 21 = .ok (.putfield 21, 3) := by decide +kernel
theorem dX5_init_24 : decode cX5_init 24 = .ok (.aload_n 0, 1) := by decide +kernel
theorem dX5_init_25 : decode cX5_init 25 = .ok (.iload_n 3, 1) := by decide +kernel
theorem dX5_init_26 : decode cX5_init 26 = .ok (.putfield 25, 3) := by decide +kernel
theorem dX5_init_29 : decode cX5_init 29 = .ok (.aload_n 0, 1) := by decide +kernel
theorem dX5_init_30 : decode cX5_init 30 = .ok (.iload 4, 2) := by decide +kernel
theorem dX5_init_32 : decode cX5_init 32 = .ok (.putfield 28, 3) := by decide +kernel
theorem dX5_init_35 : decode cX5_init 35 = .ok (.aload_n 0, 1) := by decide +kernel
theorem dX5_init_36 : decode cX5_init 36 = .ok (.iload 5, 2) := by decide +kernel
theorem dX5_init_38 : decode cX5_init 38 = .ok (.putfield 31, 3) := by decide +kernel
theorem dX5_init_41 : decode cX5_init 41 = .ok (.aload_n 0, 1) := by decide +kernel
theorem dX5_init_42 : decode cX5_init 42 = .ok (.iload 6, 2) := by decide +kernel
theorem dX5_init_44 : decode cX5_init 44 = .ok (.putfield 34, 3) := by decide +kernel
theorem dX5_init_47 : decode cX5_init 47 = .ok (.aload_n 0, 1) := by decide +kernel
theorem dX5_init_48 : decode cX5_init 48 = .ok (.iload 7, 2) := by decide +kernel
theorem dX5_init_50 : decode cX5_init 50 = .ok (.putfield 37, 3) := by decide +kernel
theorem dX5_init_53 : decode cX5_init 53 = .ok (.return_, 1) := by decide +kernel
theorem dX5_hold_0 : decode cX5_hold 0 = .ok (.aload_n 0, 1) := by decide +kernel
theorem dX5_hold_1 : decode cX5_hold 1 = .ok (.iconst 2, 1) := by decide +kernel
theorem dX5_hold_2 : decode cX5_hold 2 = .ok (.putfield 9, 3) := by decide +kernel
theorem dX5_hold_5 : decode cX5_hold 5 = .ok (.aload_n 0, 1) := by decide +kernel
theorem dX5_hold_6 : decode cX5_hold 6 = .ok (.iload_n 1, 1) := by decide +kernel
theorem dX5_hold_7 : decode cX5_hold 7 = .ok (.putfield 41, 3) := by decide +kernel
theorem dX5_hold_10 : decode cX5_hold 10 = .ok (.return_, 1) := by decide +kernel
theorem dX5_end_0 : decode cX5_end 0 = .ok (.aload_n 0, 1) := by decide +kernel
theorem dX5_end_1 : decode cX5_end 1 = .ok (.aload_n 0, 1) := by decide +kernel
theorem dX5_end_2 : decode cX5_end 2 = .ok (.getfield 44, 3) := by decide +kernel
theorem dX5_end_5 : decode cX5_end 5 = .ok (.ifCond .ne 11, 3) := by decide +kernel
theorem dX5_end_8 : decode cX5_end 8 = .ok (.aload_n 0, 1) := by decide +kernel
theorem dX5_end_9 : decode cX5_end 9 = .ok (.getfield 9, 3) := by decide +kernel
theorem dX5_end_12 : decode cX5_end 12 = .ok (.iconst 2, 1) := by decide +kernel
theorem dX5_end_13 : decode cX5_end 13 = .ok (.if_icmp .ne 7, 3) := by decide +kernel
theorem dX5_end_16 : decode cX5_end 16 = .ok (.iconst 1, 1) := by decide +kernel
theorem dX5_end_17 : decode cX5_end 17 = .ok (.goto 4, 3) := by decide +kernel
theorem dX5_end_20 : decode cX5_end 20 = .ok (.iconst 0, 1) := by decide +kernel
theorem dX5_end_21 : decode cX5_end 21 = .ok (.putfield 44, 3) := by decide +kernel
theorem dX5_end_24 : decode cX5_end 24 = .ok (.aload_n 0, 1) := by decide +kernel
theorem dX5_end_25 : decode cX5_end 25 = .ok (.iconst 0, 1) := by decide +kernel
theorem dX5_end_26 : decode cX5_end 26 = .ok (.putfield 9, 3) := by decide +kernel
theorem dX5_end_29 : decode cX5_end 29 = .ok (.return_, 1) := by decide +kernel
theorem dX5_claimAnew_0 : decode cX5_claimAnew 0 = .ok (.aload_n 0, 1) := by decide +kernel
theorem dX5_claimAnew_1 : decode cX5_claimAnew 1 = .ok (.aload_n 0, 1) := by decide +kernel
theorem dX5_claimAnew_2 : decode cX5_claimAnew 2 = .ok (.getfield 44, 3) := by decide +kernel
theorem dX5_claimAnew_5 : decode cX5_claimAnew 5 = .ok (.ifCond .ne 11, 3) := by decide +kernel
theorem dX5_claimAnew_8 : decode cX5_claimAnew 8 = .ok (.aload_n 0, 1) := by decide +kernel
theorem dX5_claimAnew_9 : decode cX5_claimAnew 9 = .ok (.getfield 9, 3) := by decide +kernel
theorem dX5_claimAnew_12 : decode cX5_claimAnew 12 = .ok (.iconst 2, 1) := by decide +kernel
theorem dX5_claimAnew_13 : decode cX5_claimAnew 13 = .ok (.if_icmp .ne 7, 3) := by decide +kernel
theorem dX5_claimAnew_16 : decode cX5_claimAnew 16 = .ok (.iconst 1, 1) := by decide +kernel
theorem dX5_claimAnew_17 : decode cX5_claimAnew 17 = .ok (.goto 4, 3) := by decide +kernel
theorem dX5_claimAnew_20 : decode cX5_claimAnew 20 = .ok (.iconst 0, 1) := by decide +kernel
theorem dX5_claimAnew_21 : decode cX5_claimAnew 21 = .ok (.putfield 44, 3) := by decide +kernel
theorem dX5_claimAnew_24 : decode cX5_claimAnew 24 = .ok (.aload_n 0, 1) := by decide +kernel
theorem dX5_claimAnew_25 : decode cX5_claimAnew 25 = .ok (.iload_n 1, 1) := by decide +kernel
theorem dX5_claimAnew_26 : decode cX5_claimAnew 26 = .ok (.putfield 28, 3) := by decide +kernel
theorem dX5_claimAnew_29 : decode cX5_claimAnew 29 = .ok (.aload_n 0, 1) := by decide +kernel
theorem dX5_claimAnew_30 : decode cX5_claimAnew 30 = .ok (.iconst 1, 1) := by decide +kernel
theorem dX5_claimAnew_31 : decode cX5_claimAnew 31 = .ok (.putfield 9, 3) := by decide +kernel
theorem dX5_claimAnew_34 : decode cX5_claimAnew 34 = .ok (.aload_n 0, 1) := by decide +kernel
theorem dX5_claimAnew_35 : decode cX5_claimAnew 35 = .ok (.iconst 3, 1) := by decide +kernel
theorem dX5_claimAnew_36 : decode cX5_claimAnew 36 = .ok (.putfield 15, 3) := by decide +kernel
theorem dX5_claimAnew_39 : decode cX5_claimAnew 39 = .ok (.aload_n 0, 1) := by decide +kernel
theorem dX5_claimAnew_40 : decode cX5_claimAnew 40 = .ok (.dup, 1) := by decide +kernel
theorem dX5_claimAnew_41 : decode cX5_claimAnew 41 = .ok (.getfield 47, 3) := by decide +kernel
theorem dX5_claimAnew_44 : decode cX5_claimAnew 44 = .ok (.iconst 1, 1) := by decide +kernel
theorem dX5_claimAnew_45 : decode cX5_claimAnew 45 = .ok (.iadd, 1) := by decide +kernel
theorem dX5_claimAnew_46 : decode cX5_claimAnew 46 = .ok (.putfield 47, 3) := by decide +kernel
theorem dX5_claimAnew_49 : decode cX5_claimAnew 49 = .ok (.return_, 1) := by decide +kernel
theorem dX6_init_0 : decode cX6_init 0 = .ok (.aload_n 0, 1) := by decide +kernel
theorem dX6_init_1 : decode cX6_init 1 = .ok (.invokespecial 3, 3) := by decide +kernel
theorem dX6_init_4 : decode cX6_init 4 = .ok (.aload_n 0, 1) := by decide +kernel
theorem dX6_init_5 : decode cX6_init 5 = .ok (.bipush 32, 2) := by decide +kernel
theorem dX6_init_7 : decode cX6_init 7 = .ok (.newarray .int, 2) := by decide +kernel
theorem dX6_init_9 : decode cX6_init 9 = .ok (.putfield 9, 3) := by decide +kernel
theorem dX6_init_12 : decode cX6_init 12 = .ok (.aload_n 0, 1) := by decide +kernel
theorem dX6_init_13 : decode cX6_init 13 = .ok (.bipush 32, 2) := by decide +kernel
theorem dX6_init_15 : decode cX6_init 15 = .ok (.newarray .int, 2) := by decide +kernel
theorem dX6_init_17 : decode cX6_init 17 = .ok (.putfield 15, 3) := by decide +kernel
theorem dX6_init_20 : decode cX6_init 20 = .ok (.aload_n 0, 1) := by decide +kernel
theorem dX6_init_21 : decode cX6_init 21 = .ok (.bipush 32, 2) := by decide +kernel
theorem dX6_init_23 : decode cX6_init 23 = .ok (.newarray .int, 2) := by decide +kernel
theorem dX6_init_25 : decode cX6_init 25 = .ok (.putfield 18, 3) := by decide +kernel
theorem dX6_init_28 : decode cX6_init 28 = .ok (.aload_n 0, 1) := by decide +kernel
theorem dX6_init_29 : decode cX6_init 29 = .ok (.bipush 32, 2) := by decide +kernel
theorem dX6_init_31 : decode cX6_init 31 = .ok (.newarray .int, 2) := by decide +kernel
theorem dX6_init_33 : decode cX6_init 33 = .ok (.putfield 21, 3) := by decide +kernel
theorem dX6_init_36 : decode cX6_init 36 = .ok (.return_, 1) := by decide +kernel
theorem dX6_has_0 : decode cX6_has 0 = .ok (.aload_n 0, 1) := by decide +kernel
theorem dX6_has_1 : decode cX6_has 1 = .ok (.getfield 24, 3) := by decide +kernel
theorem dX6_has_4 : decode cX6_has 4 = .ok (.iload_n 1, 1) := by decide +kernel
theorem dX6_has_5 : decode cX6_has 5 = .ok (.invokestatic 28, 3) := by decide +kernel
theorem dX6_has_8 : decode cX6_has 8 = .ok (.ireturn, 1) := by decide +kernel
theorem dX6_size_0 : decode cX6_size 0 = .ok (.aload_n 0, 1) := by decide +kernel
theorem dX6_size_1 : decode cX6_size 1 = .ok (.getfield 24, 3) := by decide +kernel
theorem dX6_size_4 : decode cX6_size 4 = .ok (.invokestatic 32, 3) := by decide +kernel
theorem dX6_size_7 : decode cX6_size 7 = .ok (.ireturn, 1) := by decide +kernel
theorem dX6_left_0 : decode cX6_left 0 = .ok (.aload_n 0, 1) := by decide +kernel
theorem dX6_left_1 : decode cX6_left 1 = .ok (.getfield 21, 3) := by decide +kernel
theorem dX6_left_4 : decode cX6_left 4 = .ok (.iload_n 1, 1) := by decide +kernel
theorem dX6_left_5 : decode cX6_left 5 = .ok (.iaload, 1) := by decide +kernel
theorem dX6_left_6 : decode cX6_left 6 = .ok (.iload_n 2, 1) := by decide +kernel
theorem dX6_left_7 : decode cX6_left 7 = .ok (.isub, 1) := by decide +kernel
theorem dX6_left_8 : decode cX6_left 8 = .ok (.ireturn, 1) := by decide +kernel
theorem dX6_isFresh_0 : decode cX6_isFresh 0 = .ok (.aload_n 0, 1) := by decide +kernel
theorem dX6_isFresh_1 : decode cX6_isFresh 1 = .ok (.getfield 24, 3) := by decide +kernel
theorem dX6_isFresh_4 : decode cX6_isFresh 4 = .ok (.iload_n 1, 1) := by decide +kernel
theorem dX6_isFresh_5 : decode cX6_isFresh 5 = .ok (.invokestatic 28, 3) := by decide +kernel
theorem dX6_isFresh_8 : decode cX6_isFresh 8 = .ok (.ifCond .eq 26, 3) := by decide +kernel
theorem dX6_isFresh_11 : decode cX6_isFresh 11 = .ok (.iconst 2, 1) := by decide +kernel
theorem dX6_isFresh_12 : decode cX6_isFresh 12 = .ok (.aload_n 0, 1) := by decide +kernel
theorem dX6_isFresh_13 : decode cX6_isFresh 13 = .ok (.getfield 21, 3) := by decide +kernel
theorem dX6_isFresh_16 : decode cX6_isFresh 16 = .ok (.iload_n 1, 1) := by decide +kernel
theorem dX6_isFresh_17 : decode cX6_isFresh 17 = .ok (.iaload, 1) := by decide +kernel
theorem dX6_isFresh_18 : decode cX6_isFresh 18 = .ok (.iload_n 2, 1) := by decide +kernel
theorem dX6_isFresh_19 : decode cX6_isFresh 19 = .ok (.isub, 1) := by decide +kernel
theorem dX6_isFresh_20 : decode cX6_isFresh 20 = .ok (.imul, 1) := by decide +kernel
theorem dX6_isFresh_21 : decode cX6_isFresh 21 = .ok (.aload_n 0, 1) := by decide +kernel
theorem dX6_isFresh_22 : decode cX6_isFresh 22 = .ok (.getfield 18, 3) := by decide +kernel
theorem dX6_isFresh_25 : decode cX6_isFresh 25 = .ok (.iload_n 1, 1) := by decide +kernel
theorem dX6_isFresh_26 : decode cX6_isFresh 26 = .ok (.iaload, 1) := by decide +kernel
theorem dX6_isFresh_27 : decode cX6_isFresh 27 = .ok (.if_icmp .le 7, 3) := by decide +kernel
theorem dX6_isFresh_30 : decode cX6_isFresh 30 = .ok (.iconst 1, 1) := by decide +kernel
theorem dX6_isFresh_31 : decode cX6_isFresh 31 = .ok (.goto 4, 3) := by decide +kernel
theorem dX6_isFresh_34 : decode cX6_isFresh 34 = .ok (.iconst 0, 1) := by decide +kernel
theorem dX6_isFresh_35 : decode cX6_isFresh 35 = .ok (.ireturn, 1) := by decide +kernel
theorem dX6_put_0 : decode cX6_put 0 = .ok (.aload_n 0, 1) := by decide +kernel
theorem dX6_put_1 : decode cX6_put 1 = .ok (.dup, 1) := by decide +kernel
theorem dX6_put_2 : decode cX6_put 2 = .ok (.getfield 24, 3) := by decide +kernel
theorem dX6_put_5 : decode cX6_put 5 = .ok (.iconst 1, 1) := by decide +kernel
theorem dX6_put_6 : decode cX6_put 6 = .ok (.iload_n 1, 1) := by decide +kernel
theorem dX6_put_7 : decode cX6_put 7 = .ok (.ishl, 1) := by decide +kernel
theorem dX6_put_8 : decode cX6_put 8 = .ok (.ior, 1) := by decide +kernel
theorem dX6_put_9 : decode cX6_put 9 = .ok (.putfield 24, 3) := by decide +kernel
theorem dX6_put_12 : decode cX6_put 12 = .ok (.aload_n 0, 1) := by decide +kernel
theorem dX6_put_13 : decode cX6_put 13 = .ok (.getfield 9, 3) := by decide +kernel
theorem dX6_put_16 : decode cX6_put 16 = .ok (.iload_n 1, 1) := by decide +kernel
theorem dX6_put_17 : decode cX6_put 17 = .ok (.iload_n 2, 1) := by decide +kernel
theorem dX6_put_18 : decode cX6_put 18 = .ok (.iastore, 1) := by decide +kernel
theorem dX6_put_19 : decode cX6_put 19 = .ok (.aload_n 0, 1) := by decide +kernel
theorem dX6_put_20 : decode cX6_put 20 = .ok (.getfield 15, 3) := by decide +kernel
theorem dX6_put_23 : decode cX6_put 23 = .ok (.iload_n 1, 1) := by decide +kernel
theorem dX6_put_24 : decode cX6_put 24 = .ok (.iload_n 3, 1) := by decide +kernel
theorem dX6_put_25 : decode cX6_put 25 = .ok (.iastore, 1) := by decide +kernel
theorem dX6_put_26 : decode cX6_put 26 = .ok (.aload_n 0, 1) := by decide +kernel
theorem dX6_put_27 : decode cX6_put 27 = .ok (.getfield 18, 3) := by decide +kernel
theorem dX6_put_30 : decode cX6_put 30 = .ok (.iload_n 1, 1) := by decide +kernel
theorem dX6_put_31 : decode cX6_put 31 = .ok (.iload 4, 2) := by decide +kernel
theorem dX6_put_33 : decode cX6_put 33 = .ok (.iastore, 1) := by decide +kernel
theorem dX6_put_34 : decode cX6_put 34 = .ok (.aload_n 0, 1) := by decide +kernel
theorem dX6_put_35 : decode cX6_put 35 = .ok (.getfield 21, 3) := by decide +kernel
theorem dX6_put_38 : decode cX6_put 38 = .ok (.iload_n 1, 1) := by decide +kernel
theorem dX6_put_39 : decode cX6_put 39 = .ok (.iload 5, 2) := by decide +kernel
theorem dX6_put_41 : decode cX6_put 41 = .ok (.iastore, 1) := by decide +kernel
theorem dX6_put_42 : decode cX6_put 42 = .ok (.return_, 1) := by decide +kernel
theorem dX6_remove_0 : decode cX6_remove 0 = .ok (.aload_n 0, 1) := by decide +kernel
theorem dX6_remove_1 : decode cX6_remove 1 = .ok (.dup, 1) := by decide +kernel
theorem dX6_remove_2 : decode cX6_remove 2 = .ok (.getfield 24, 3) := by decide +kernel
theorem dX6_remove_5 : decode cX6_remove 5 = .ok (.iconst 1, 1) := by decide +kernel
theorem dX6_remove_6 : decode cX6_remove 6 = .ok (.iload_n 1, 1) := by decide +kernel
theorem dX6_remove_7 : decode cX6_remove 7 = .ok (.ishl, 1) := by decide +kernel
theorem dX6_remove_8 : decode cX6_remove 8 = .ok (.iconst (-1), 1) := by decide +kernel
theorem dX6_remove_9 : decode cX6_remove 9 = .ok (.ixor, 1) := by decide +kernel
theorem dX6_remove_10 : decode cX6_remove 10 = .ok (.iand, 1) := by decide +kernel
theorem dX6_remove_11 : decode cX6_remove 11 = .ok (.putfield 24, 3) := by decide +kernel
theorem dX6_remove_14 : decode cX6_remove 14 = .ok (.return_, 1) := by decide +kernel
theorem dX6_removeAll_0 : decode cX6_removeAll 0 = .ok (.aload_n 0, 1) := by decide +kernel
theorem dX6_removeAll_1 : decode cX6_removeAll 1 = .ok (.dup, 1) := by decide +kernel
theorem dX6_removeAll_2 : decode cX6_removeAll 2 = .ok (.getfield 24, 3) := by decide +kernel
theorem dX6_removeAll_5 : decode cX6_removeAll 5 = .ok (.iload_n 1, 1) := by decide +kernel
theorem dX6_removeAll_6 : decode cX6_removeAll 6 = .ok (.iconst (-1), 1) := by decide +kernel
theorem dX6_removeAll_7 : decode cX6_removeAll 7 = .ok (.ixor, 1) := by decide +kernel
theorem dX6_removeAll_8 : decode cX6_removeAll 8 = .ok (.iand, 1) := by decide +kernel
theorem dX6_removeAll_9 : decode cX6_removeAll 9 = .ok (.putfield 24, 3) := by decide +kernel
theorem dX6_removeAll_12 : decode cX6_removeAll 12 = .ok (.return_, 1) := by decide +kernel
theorem dX6_removeEnding_0 : decode cX6_removeEnding 0 = .ok (.aload_n 0, 1) := by decide +kernel
theorem dX6_removeEnding_1 : decode cX6_removeEnding 1 = .ok (.getfield 24, 3) := by decide +kernel
theorem dX6_removeEnding_4 : decode cX6_removeEnding 4 = .ok (.ifCond .ne 4, 3) := by decide +kernel
theorem dX6_removeEnding_7 : decode cX6_removeEnding 7 = .ok (.return_, 1) := by decide +kernel
theorem dX6_removeEnding_8 : decode cX6_removeEnding 8 = .ok (.iconst 0, 1) := by decide +kernel
theorem dX6_removeEnding_9 : decode cX6_removeEnding 9 = .ok (.istore_n 2, 1) := by decide +kernel
theorem dX6_removeEnding_10 : decode cX6_removeEnding 10 = .ok (.iload_n 2, 1) := by decide +kernel
theorem dX6_removeEnding_11 : decode cX6_removeEnding 11 = .ok (.bipush 32, 2) := by decide +kernel
theorem dX6_removeEnding_13 : decode cX6_removeEnding 13 = .ok (.if_icmp .ge 32, 3) := by decide +kernel
theorem dX6_removeEnding_16 : decode cX6_removeEnding 16 = .ok (.aload_n 0, 1) := by decide +kernel
theorem dX6_removeEnding_17 : decode cX6_removeEnding 17 = .ok (.getfield 21, 3) := by decide +kernel
theorem dX6_removeEnding_20 : decode cX6_removeEnding 20 = .ok (.iload_n 2, 1) := by decide +kernel
theorem dX6_removeEnding_21 : decode cX6_removeEnding 21 = .ok (.iaload, 1) := by decide +kernel
theorem dX6_removeEnding_22 : decode cX6_removeEnding 22 = .ok (.iload_n 1, 1) := by decide +kernel
theorem dX6_removeEnding_23 : decode cX6_removeEnding 23 = .ok (.if_icmp .gt 16, 3) := by decide +kernel
theorem dX6_removeEnding_26 : decode cX6_removeEnding 26 = .ok (.aload_n 0, 1) := by decide +kernel
theorem dX6_removeEnding_27 : decode cX6_removeEnding 27 = .ok (.iload_n 2, 1) := by decide +kernel
theorem dX6_removeEnding_28 : decode cX6_removeEnding 28 = .ok (.invokevirtual 38, 3) := by decide +kernel
theorem dX6_removeEnding_31 : decode cX6_removeEnding 31 = .ok (.ifCond .eq 8, 3) := by decide +kernel
theorem dX6_removeEnding_34 : decode cX6_removeEnding 34 = .ok (.aload_n 0, 1) := by decide +kernel
theorem dX6_removeEnding_35 : decode cX6_removeEnding 35 = .ok (.iload_n 2, 1) := by decide +kernel
theorem dX6_removeEnding_36 : decode cX6_removeEnding 36 = .ok (.invokevirtual 42, 3) := by decide +kernel
theorem dX6_removeEnding_39 : decode cX6_removeEnding 39 = .ok (.iinc 2 1, 3) := by decide +kernel
theorem dX6_removeEnding_42 : decode cX6_removeEnding 42 = .ok (.goto (-32), 3) := by decide +kernel
theorem dX6_removeEnding_45 : decode cX6_removeEnding 45 = .ok (.return_, 1) := by decide +kernel
theorem dX6_clear_0 : decode cX6_clear 0 = .ok (.aload_n 0, 1) := by decide +kernel
theorem dX6_clear_1 : decode cX6_clear 1 = .ok (.iconst 0, 1) := by decide +kernel
theorem dX6_clear_2 : decode cX6_clear 2 = .ok (.putfield 24, 3) := by decide +kernel
theorem dX6_clear_5 : decode cX6_clear 5 = .ok (.return_, 1) := by decide +kernel
theorem dX7_init_0 : decode cX7_init 0 = .ok (.aload_n 0, 1) := by decide +kernel
theorem dX7_init_1 : decode cX7_init 1 = .ok (.invokespecial 1, 3) := by decide +kernel
theorem dX7_init_4 : decode cX7_init 4 = .ok (.aload_n 0, 1) := by decide +kernel
theorem dX7_init_5 : decode cX7_init 5 = .ok (.bipush 12, 2) := by decide +kernel
theorem dX7_init_7 : decode cX7_init 7 = .ok (.anewarray 9, 3) := by decide +kernel
theorem dX7_init_10 : decode cX7_init 10 = .ok (.putfield 11, 3) := by decide +kernel
theorem dX7_init_13 : decode cX7_init 13 = .ok (.aload_n 0, 1) := by decide +kernel
theorem dX7_init_14 : decode cX7_init 14 = .ok (.bipush 32, 2) := by decide +kernel
theorem dX7_init_16 : decode cX7_init 16 = .ok (.anewarray 15, 3) := by decide +kernel
theorem dX7_init_19 : decode cX7_init 19 = .ok (.putfield 17, 3) := by decide +kernel
theorem dX7_init_22 : decode cX7_init 22 = .ok (.return_, 1) := by decide +kernel
theorem dX7_host_0 : decode cX7_host 0 = .ok (.iload_n 2, 1) := by decide +kernel
theorem dX7_host_1 : decode cX7_host 1 = .ok (.iconst 1, 1) := by decide +kernel
theorem dX7_host_2 : decode cX7_host 2 = .ok (.if_icmp .lt 19, 3) := by decide +kernel
theorem dX7_host_5 : decode cX7_host 5 = .ok (.iload_n 2, 1) := by decide +kernel
theorem dX7_host_6 : decode cX7_host 6 = .ok (.iload_n 3, 1) := by decide +kernel
theorem dX7_host_7 : decode cX7_host 7 = .ok (.if_icmp .gt 14, 3) := by decide +kernel
theorem dX7_host_10 : decode cX7_host 10 = .ok (.iload_n 3, 1) := by decide +kernel
theorem dX7_host_11 : decode cX7_host 11 = .ok (.sipush 250, 3) := by decide +kernel
theorem dX7_host_14 : decode cX7_host 14 = .ok (.if_icmp .gt 7, 3) := by decide +kernel
theorem dX7_host_17 : decode cX7_host 17 = .ok (.iconst 1, 1) := by decide +kernel
theorem dX7_host_18 : decode cX7_host 18 = .ok (.goto 4, 3) := by decide +kernel
theorem dX7_host_21 : decode cX7_host 21 = .ok (.iconst 0, 1) := by decide +kernel
theorem dX7_host_22 : decode cX7_host 22 = .ok (.istore 5, 2) := by decide +kernel
theorem dX7_host_24 : decode cX7_host 24 = .ok (.iload_n 1, 1) := by decide +kernel
theorem dX7_host_25 : decode cX7_host 25 = .ok (.invokestatic 21, 3) := by decide +kernel
theorem dX7_host_28 : decode cX7_host 28 = .ok (.ifCond .eq 30, 3) := by decide +kernel
theorem dX7_host_31 : decode cX7_host 31 = .ok (.iload 5, 2) := by decide +kernel
theorem dX7_host_33 : decode cX7_host 33 = .ok (.ifCond .eq 25, 3) := by decide +kernel
theorem dX7_host_36 : decode cX7_host 36 = .ok (.iload 4, 2) := by decide +kernel
theorem dX7_host_38 : decode cX7_host 38 = .ok (.ifCond .lt 20, 3) := by decide +kernel
theorem dX7_host_41 : decode cX7_host 41 = .ok (.iload 4, 2) := by decide +kernel
theorem dX7_host_43 : decode cX7_host 43 = .ok (.sipush 1000, 3) := by decide +kernel
theorem dX7_host_46 : decode cX7_host 46 = .ok (.if_icmp .gt 12, 3) := by decide +kernel
theorem dX7_host_49 : decode cX7_host 49 = .ok (.aload_n 0, 1) := by decide +kernel
theorem dX7_host_50 : decode cX7_host 50 = .ok (.getfield 25, 3) := by decide +kernel
theorem dX7_host_53 : decode cX7_host 53 = .ok (.bipush 12, 2) := by decide +kernel
theorem dX7_host_55 : decode cX7_host 55 = .ok (.if_icmp .lt 5, 3) := by decide +kernel
theorem dX7_host_58 : decode cX7_host 58 = .ok (.iconst (-1), 1) := by decide +kernel
theorem dX7_host_59 : decode cX7_host 59 = .ok (.ireturn, 1) := by decide +kernel
theorem dX7_host_60 : decode cX7_host 60 = .ok (.new 9, 3) := by decide +kernel
theorem dX7_host_63 : decode cX7_host 63 = .ok (.dup, 1) := by decide +kernel
theorem dX7_host_64 : decode cX7_host 64 = .ok (.aload_n 0, 1) := by decide +kernel
theorem dX7_host_65 : decode cX7_host 65 = .ok (.getfield 25, 3) := by decide +kernel
theorem dX7_host_68 : decode cX7_host 68 = .ok (.iload_n 1, 1) := by decide +kernel
theorem dX7_host_69 : decode cX7_host 69 = .ok (.iload_n 2, 1) := by decide +kernel
theorem dX7_host_70 : decode cX7_host 70 = .ok (.iload_n 3, 1) := by decide +kernel
theorem dX7_host_71 : decode cX7_host 71 = .ok (.iload 4, 2) := by decide +kernel
theorem dX7_host_73 : decode cX7_host 73 = .ok (.invokespecial 29, 3) := by decide +kernel
theorem dX7_host_76 : decode cX7_host 76 = .ok (.astore 6, 2) := by decide +kernel
theorem dX7_host_78 : decode cX7_host 78 = .ok (.aload_n 0, 1) := by decide +kernel
theorem dX7_host_79 : decode cX7_host 79 = .ok (.getfield 11, 3) := by decide +kernel
theorem dX7_host_82 : decode cX7_host 82 = .ok (.aload_n 0, 1) := by decide +kernel
theorem dX7_host_83 : decode cX7_host 83 = .ok (.getfield 25, 3) := by decide +kernel
theorem dX7_host_86 : decode cX7_host 86 = .ok (.aload 6, 2) := by decide +kernel
theorem dX7_host_88 : decode cX7_host 88 = .ok (.aastore, 1) := by decide +kernel
theorem dX7_host_89 : decode cX7_host 89 = .ok (.aload_n 0, 1) := by decide +kernel
theorem dX7_host_90 : decode cX7_host 90 = .ok (.dup, 1) := by decide +kernel
theorem dX7_host_91 : decode cX7_host 91 = .ok (.getfield 25, 3) := by decide +kernel
theorem dX7_host_94 : decode cX7_host 94 = .ok (.iconst 1, 1) := by decide +kernel
theorem dX7_host_95 : decode cX7_host 95 = .ok (.iadd, 1) := by decide +kernel
theorem dX7_host_96 : decode cX7_host 96 = .ok (.putfield 25, 3) := by decide +kernel
theorem dX7_host_99 : decode cX7_host 99 = .ok (.aload 6, 2) := by decide +kernel
theorem dX7_host_101 : decode cX7_host 101 = .ok (.getfield 32, 3) := by decide +kernel
theorem dX7_host_104 : decode cX7_host 104 = .ok (.ireturn, 1) := by decide +kernel
theorem dX7_offer_0 : decode cX7_offer 0 = .ok (.aload_n 0, 1) := by decide +kernel
theorem dX7_offer_1 : decode cX7_offer 1 = .ok (.iload_n 1, 1) := by decide +kernel
theorem dX7_offer_2 : decode cX7_offer 2 = .ok (.invokevirtual 35, 3) := by decide +kernel
theorem dX7_offer_5 : decode cX7_offer 5 = .ok (.astore 6, 2) := by decide +kernel
theorem dX7_offer_7 : decode cX7_offer 7 = .ok (.aload 6, 2) := by decide +kernel
theorem dX7_offer_9 : decode cX7_offer 9 = .ok (.ifnull 12, 3) := by decide +kernel
theorem dX7_offer_12 : decode cX7_offer 12 = .ok (.aload 6, 2) := by decide +kernel
theorem dX7_offer_14 : decode cX7_offer 14 = .ok (.iload_n 3, 1) := by decide +kernel
theorem dX7_offer_15 : decode cX7_offer 15 = .ok (.invokevirtual 39, 3) := by decide +kernel
theorem dX7_offer_18 : decode cX7_offer 18 = .ok (.ifCond .ne 5, 3) := by decide +kernel
theorem dX7_offer_21 : decode cX7_offer 21 = .ok (.iconst (-1), 1) := by decide +kernel
theorem dX7_offer_22 : decode cX7_offer 22 = .ok (.ireturn, 1) := by decide +kernel
theorem dX7_offer_23 : decode cX7_offer 23 = .ok (.aload_n 0, 1) := by decide +kernel
theorem dX7_offer_24 : decode cX7_offer 24 = .ok (.aload 6, 2) := by decide +kernel
theorem dX7_offer_26 : decode cX7_offer 26 = .ok (.iload_n 2, 1) := by decide +kernel
theorem dX7_offer_27 : decode cX7_offer 27 = .ok (.iload_n 3, 1) := by decide +kernel
theorem dX7_offer_28 : decode cX7_offer 28 = .ok (.iload 4, 2) := by decide +kernel
theorem dX7_offer_30 : decode cX7_offer 30 = .ok (.iload 5, 2) := by decide +kernel
theorem dX7_offer_32 : decode cX7_offer 32 = .ok (.iconst 0, 1) := by decide +kernel
theorem dX7_offer_33 : decode cX7_offer 33 = .ok (.invokevirtual 42, 3) := by decide +kernel
theorem dX7_offer_36 : decode cX7_offer 36 = .ok (.ireturn, 1) := by decide +kernel
theorem dX7_lie_0 : decode cX7_lie 0 = .ok (.aload_n 0, 1) := by decide +kernel
theorem dX7_lie_1 : decode cX7_lie 1 = .ok (.iload_n 1, 1) := by decide +kernel
theorem dX7_lie_2 : decode cX7_lie 2 = .ok (.invokevirtual 35, 3) := by decide +kernel
theorem dX7_lie_5 : decode cX7_lie 5 = .ok (.astore 6, 2) := by decide +kernel
theorem dX7_lie_7 : decode cX7_lie 7 = .ok (.aload 6, 2) := by decide +kernel
theorem dX7_lie_9 : decode cX7_lie 9 = .ok (.ifnull 15, 3) := by decide +kernel
theorem dX7_lie_12 : decode cX7_lie 12 = .ok (.iload_n 3, 1) := by decide +kernel
theorem dX7_lie_13 : decode cX7_lie 13 = .ok (.iconst 1, 1) := by decide +kernel
theorem dX7_lie_14 : decode cX7_lie 14 = .ok (.if_icmp .lt 10, 3) := by decide +kernel
theorem dX7_lie_17 : decode cX7_lie 17 = .ok (.iload_n 3, 1) := by decide +kernel
theorem dX7_lie_18 : decode cX7_lie 18 = .ok (.sipush 250, 3) := by decide +kernel
theorem dX7_lie_21 : decode cX7_lie 21 = .ok (.if_icmp .le 5, 3) := by decide +kernel
theorem dX7_lie_24 : decode cX7_lie 24 = .ok (.iconst (-1), 1) := by decide +kernel
theorem dX7_lie_25 : decode cX7_lie 25 = .ok (.ireturn, 1) := by decide +kernel
theorem dX7_lie_26 : decode cX7_lie 26 = .ok (.aload_n 0, 1) := by decide +kernel
theorem dX7_lie_27 : decode cX7_lie 27 = .ok (.aload 6, 2) := by decide +kernel
theorem dX7_lie_29 : decode cX7_lie 29 = .ok (.iload_n 2, 1) := by decide +kernel
theorem dX7_lie_30 : decode cX7_lie 30 = .ok (.iload_n 3, 1) := by decide +kernel
theorem dX7_lie_31 : decode cX7_lie 31 = .ok (.iload 4, 2) := by decide +kernel
theorem dX7_lie_33 : decode cX7_lie 33 = .ok (.iload 5, 2) := by decide +kernel
theorem dX7_lie_35 : decode cX7_lie 35 = .ok (.iconst 1, 1) := by decide +kernel
theorem dX7_lie_36 : decode cX7_lie 36 = .ok (.invokevirtual 42, 3) := by decide +kernel
theorem dX7_lie_39 : decode cX7_lie 39 = .ok (.ireturn, 1) := by decide +kernel
theorem dX7_drop_0 : decode cX7_drop 0 = .ok (.aload_n 0, 1) := by decide +kernel
theorem dX7_drop_1 : decode cX7_drop 1 = .ok (.iload_n 1, 1) := by decide +kernel
theorem dX7_drop_2 : decode cX7_drop 2 = .ok (.invokevirtual 46, 3) := by decide +kernel
theorem dX7_drop_5 : decode cX7_drop 5 = .ok (.astore_n 2, 1) := by decide +kernel
theorem dX7_drop_6 : decode cX7_drop 6 = .ok (.aload_n 2, 1) := by decide +kernel
theorem dX7_drop_7 : decode cX7_drop 7 = .ok (.ifnonnull 5, 3) := by decide +kernel
theorem dX7_drop_10 : decode cX7_drop 10 = .ok (.iconst 0, 1) := by decide +kernel
theorem dX7_drop_11 : decode cX7_drop 11 = .ok (.ireturn, 1) := by decide +kernel
theorem dX7_drop_12 : decode cX7_drop 12 = .ok (.aload_n 2, 1) := by decide +kernel
theorem dX7_drop_13 : decode cX7_drop 13 = .ok (.invokevirtual 50, 3) := by decide +kernel
theorem dX7_drop_16 : decode cX7_drop 16 = .ok (.iconst 1, 1) := by decide +kernel
theorem dX7_drop_17 : decode cX7_drop 17 = .ok (.ireturn, 1) := by decide +kernel
theorem dX7_change_0 : decode cX7_change 0 = .ok (.aload_n 0, 1) := by decide +kernel
theorem dX7_change_1 : decode cX7_change 1 = .ok (.iload_n 1, 1) := by decide +kernel
theorem dX7_change_2 : decode cX7_change 2 = .ok (.invokevirtual 46, 3) := by decide +kernel
theorem dX7_change_5 : decode cX7_change 5 = .ok (.astore_n 3, 1) := by decide +kernel
theorem dX7_change_6 : decode cX7_change 6 = .ok (.aload_n 3, 1) := by decide +kernel
theorem dX7_change_7 : decode cX7_change 7 = .ok (.ifnull 10, 3) := by decide +kernel
theorem dX7_change_10 : decode cX7_change 10 = .ok (.iload_n 2, 1) := by decide +kernel
theorem dX7_change_11 : decode cX7_change 11 = .ok (.invokestatic 53, 3) := by decide +kernel
theorem dX7_change_14 : decode cX7_change 14 = .ok (.ifCond .ne 5, 3) := by decide +kernel
theorem dX7_change_17 : decode cX7_change 17 = .ok (.iconst 0, 1) := by decide +kernel
theorem dX7_change_18 : decode cX7_change 18 = .ok (.ireturn, 1) := by decide +kernel
theorem dX7_change_19 : decode cX7_change 19 = .ok (.aload_n 3, 1) := by decide +kernel
theorem dX7_change_20 : decode cX7_change 20 = .ok (.iload_n 2, 1) := by decide +kernel
theorem dX7_change_21 : decode cX7_change 21 = .ok (.putfield 56, 3) := by decide +kernel
theorem dX7_change_24 : decode cX7_change 24 = .ok (.aload_n 3, 1) := by decide +kernel
theorem dX7_change_25 : decode cX7_change 25 = .ok (.getfield 59, 3) := by decide +kernel
theorem dX7_change_28 : decode cX7_change 28 = .ok (.iconst 2, 1) := by decide +kernel
theorem dX7_change_29 : decode cX7_change 29 = .ok (.if_icmp .ne 11, 3) := by decide +kernel
theorem dX7_change_32 : decode cX7_change 32 = .ok (.aload_n 3, 1) := by decide +kernel
theorem dX7_change_33 : decode cX7_change 33 = .ok (.aload_n 0, 1) := by decide +kernel
theorem dX7_change_34 : decode cX7_change 34 = .ok (.getfield 62, 3) := by decide +kernel
theorem dX7_change_37 : decode cX7_change 37 = .ok (.putfield 65, 3) := by decide +kernel
theorem dX7_change_40 : decode cX7_change 40 = .ok (.iconst 1, 1) := by decide +kernel
theorem dX7_change_41 : decode cX7_change 41 = .ok (.ireturn, 1) := by decide +kernel
theorem dX7_ask_0 : decode cX7_ask 0 = .ok (.aload_n 0, 1) := by decide +kernel
theorem dX7_ask_1 : decode cX7_ask 1 = .ok (.iload_n 1, 1) := by decide +kernel
theorem dX7_ask_2 : decode cX7_ask 2 = .ok (.invokevirtual 35, 3) := by decide +kernel
theorem dX7_ask_5 : decode cX7_ask 5 = .ok (.astore 4, 2) := by decide +kernel
theorem dX7_ask_7 : decode cX7_ask 7 = .ok (.aload 4, 2) := by decide +kernel
theorem dX7_ask_9 : decode cX7_ask 9 = .ok (.ifnull 29, 3) := by decide +kernel
theorem dX7_ask_12 : decode cX7_ask 12 = .ok (.iload_n 2, 1) := by decide +kernel
theorem dX7_ask_13 : decode cX7_ask 13 = .ok (.invokestatic 68, 3) := by decide +kernel
theorem dX7_ask_16 : decode cX7_ask 16 = .ok (.ifCond .eq 22, 3) := by decide +kernel
theorem dX7_ask_19 : decode cX7_ask 19 = .ok (.iload_n 3, 1) := by decide +kernel
theorem dX7_ask_20 : decode cX7_ask 20 = .ok (.invokestatic 53, 3) := by decide +kernel
theorem dX7_ask_23 : decode cX7_ask 23 = .ok (.ifCond .eq 15, 3) := by decide +kernel
theorem dX7_ask_26 : decode cX7_ask 26 = .ok (.aload 4, 2) := by decide +kernel
theorem dX7_ask_28 : decode cX7_ask 28 = .ok (.getfield 71, 3) := by decide +kernel
theorem dX7_ask_31 : decode cX7_ask 31 = .ok (.iload_n 2, 1) := by decide +kernel
theorem dX7_ask_32 : decode cX7_ask 32 = .ok (.invokevirtual 75, 3) := by decide +kernel
theorem dX7_ask_35 : decode cX7_ask 35 = .ok (.ifCond .eq 5, 3) := by decide +kernel
theorem dX7_ask_38 : decode cX7_ask 38 = .ok (.iconst 0, 1) := by decide +kernel
theorem dX7_ask_39 : decode cX7_ask 39 = .ok (.ireturn, 1) := by decide +kernel
theorem dX7_ask_40 : decode cX7_ask 40 = .ok (.aload 4, 2) := by decide +kernel
theorem dX7_ask_42 : decode cX7_ask 42 = .ok (.getfield 71, 3) := by decide +kernel
theorem dX7_ask_45 : decode cX7_ask 45 = .ok (.iload_n 2, 1) := by decide +kernel
theorem dX7_ask_46 : decode cX7_ask 46 = .ok (.iload_n 3, 1) := by decide +kernel
theorem dX7_ask_47 : decode cX7_ask 47 = .ok (.aload_n 0, 1) := by decide +kernel
theorem dX7_ask_48 : decode cX7_ask 48 = .ok (.getfield 62, 3) := by decide +kernel
theorem dX7_ask_51 : decode cX7_ask 51 = .ok (.aload_n 0, 1) := by decide +kernel
theorem dX7_ask_52 : decode cX7_ask 52 = .ok (.aload 4, 2) := by decide +kernel
theorem dX7_ask_54 : decode cX7_ask 54 = .ok (.invokevirtual 80, 3) := by decide +kernel
theorem dX7_ask_57 : decode cX7_ask 57 = .ok (.iadd, 1) := by decide +kernel
theorem dX7_ask_58 : decode cX7_ask 58 = .ok (.invokevirtual 84, 3) := by decide +kernel
theorem dX7_ask_61 : decode cX7_ask 61 = .ok (.iconst 1, 1) := by decide +kernel
theorem dX7_ask_62 : decode cX7_ask 62 = .ok (.ireturn, 1) := by decide +kernel
theorem dX7_sleep_0 : decode cX7_sleep 0 = .ok (.aload_n 0, 1) := by decide +kernel
theorem dX7_sleep_1 : decode cX7_sleep 1 = .ok (.iload_n 1, 1) := by decide +kernel
theorem dX7_sleep_2 : decode cX7_sleep 2 = .ok (.invokevirtual 35, 3) := by decide +kernel
theorem dX7_sleep_5 : decode cX7_sleep 5 = .ok (.astore_n 3, 1) := by decide +kernel
theorem dX7_sleep_6 : decode cX7_sleep 6 = .ok (.aload_n 0, 1) := by decide +kernel
theorem dX7_sleep_7 : decode cX7_sleep 7 = .ok (.iload_n 2, 1) := by decide +kernel
theorem dX7_sleep_8 : decode cX7_sleep 8 = .ok (.invokevirtual 35, 3) := by decide +kernel
theorem dX7_sleep_11 : decode cX7_sleep 11 = .ok (.astore 4, 2) := by decide +kernel
theorem dX7_sleep_13 : decode cX7_sleep 13 = .ok (.aload_n 3, 1) := by decide +kernel
theorem dX7_sleep_14 : decode cX7_sleep 14 = .ok (.ifnull 14, 3) := by decide +kernel
theorem dX7_sleep_17 : decode cX7_sleep 17 = .ok (.aload 4, 2) := by decide +kernel
theorem dX7_sleep_19 : decode cX7_sleep 19 = .ok (.ifnull 9, 3) := by decide +kernel
theorem dX7_sleep_22 : decode cX7_sleep 22 = .ok (.aload_n 3, 1) := by decide +kernel
theorem dX7_sleep_23 : decode cX7_sleep 23 = .ok (.aload 4, 2) := by decide +kernel
theorem dX7_sleep_25 : decode cX7_sleep 25 = .ok (.if_acmp .ne 5, 3) := by decide +kernel
theorem dX7_sleep_28 : decode cX7_sleep 28 = .ok (.iconst 0, 1) := by decide +kernel
theorem dX7_sleep_29 : decode cX7_sleep 29 = .ok (.ireturn, 1) := by decide +kernel
theorem dX7_sleep_30 : decode cX7_sleep 30 = .ok (.aload_n 3, 1) := by decide +kernel
theorem dX7_sleep_31 : decode cX7_sleep 31 = .ok (.getfield 88, 3) := by decide +kernel
theorem dX7_sleep_34 : decode cX7_sleep 34 = .ok (.aload 4, 2) := by decide +kernel
theorem dX7_sleep_36 : decode cX7_sleep 36 = .ok (.getfield 88, 3) := by decide +kernel
theorem dX7_sleep_39 : decode cX7_sleep 39 = .ok (.if_icmp .ne 10, 3) := by decide +kernel
theorem dX7_sleep_42 : decode cX7_sleep 42 = .ok (.aload_n 3, 1) := by decide +kernel
theorem dX7_sleep_43 : decode cX7_sleep 43 = .ok (.getfield 91, 3) := by decide +kernel
theorem dX7_sleep_46 : decode cX7_sleep 46 = .ok (.ifCond .eq 5, 3) := by decide +kernel
theorem dX7_sleep_49 : decode cX7_sleep 49 = .ok (.iconst 0, 1) := by decide +kernel
theorem dX7_sleep_50 : decode cX7_sleep 50 = .ok (.ireturn, 1) := by decide +kernel
theorem dX7_sleep_51 : decode cX7_sleep 51 = .ok (.aload_n 3, 1) := by decide +kernel
theorem dX7_sleep_52 : decode cX7_sleep 52 = .ok (.iconst 1, 1) := by decide +kernel
theorem dX7_sleep_53 : decode cX7_sleep 53 = .ok (.putfield 95, 3) := by decide +kernel
theorem dX7_sleep_56 : decode cX7_sleep 56 = .ok (.aload_n 3, 1) := by decide +kernel
theorem dX7_sleep_57 : decode cX7_sleep 57 = .ok (.aload 4, 2) := by decide +kernel
theorem dX7_sleep_59 : decode cX7_sleep 59 = .ok (.putfield 96, 3) := by decide +kernel
theorem dX7_sleep_62 : decode cX7_sleep 62 = .ok (.iconst 1, 1) := by decide +kernel
theorem dX7_sleep_63 : decode cX7_sleep 63 = .ok (.ireturn, 1) := by decide +kernel
theorem dX7_wake_0 : decode cX7_wake 0 = .ok (.aload_n 0, 1) := by decide +kernel
theorem dX7_wake_1 : decode cX7_wake 1 = .ok (.iload_n 1, 1) := by decide +kernel
theorem dX7_wake_2 : decode cX7_wake 2 = .ok (.invokevirtual 100, 3) := by decide +kernel
theorem dX7_wake_5 : decode cX7_wake 5 = .ok (.astore_n 2, 1) := by decide +kernel
theorem dX7_wake_6 : decode cX7_wake 6 = .ok (.aload_n 2, 1) := by decide +kernel
theorem dX7_wake_7 : decode cX7_wake 7 = .ok (.ifnull 11, 3) := by decide +kernel
theorem dX7_wake_10 : decode cX7_wake 10 = .ok (.aload_n 2, 1) := by decide +kernel
theorem dX7_wake_11 : decode cX7_wake 11 = .ok (.getfield 95, 3) := by decide +kernel
theorem dX7_wake_14 : decode cX7_wake 14 = .ok (.iconst 1, 1) := by decide +kernel
theorem dX7_wake_15 : decode cX7_wake 15 = .ok (.if_icmp .eq 5, 3) := by decide +kernel
theorem dX7_wake_18 : decode cX7_wake 18 = .ok (.iconst 0, 1) := by decide +kernel
theorem dX7_wake_19 : decode cX7_wake 19 = .ok (.ireturn, 1) := by decide +kernel
theorem dX7_wake_20 : decode cX7_wake 20 = .ok (.aload_n 2, 1) := by decide +kernel
theorem dX7_wake_21 : decode cX7_wake 21 = .ok (.iconst 2, 1) := by decide +kernel
theorem dX7_wake_22 : decode cX7_wake 22 = .ok (.putfield 95, 3) := by decide +kernel
theorem dX7_wake_25 : decode cX7_wake 25 = .ok (.iconst 1, 1) := by decide +kernel
theorem dX7_wake_26 : decode cX7_wake 26 = .ok (.ireturn, 1) := by decide +kernel
theorem dX7_fall_0 : decode cX7_fall 0 = .ok (.aload_n 0, 1) := by decide +kernel
theorem dX7_fall_1 : decode cX7_fall 1 = .ok (.iload_n 1, 1) := by decide +kernel
theorem dX7_fall_2 : decode cX7_fall 2 = .ok (.invokevirtual 100, 3) := by decide +kernel
theorem dX7_fall_5 : decode cX7_fall 5 = .ok (.astore_n 2, 1) := by decide +kernel
theorem dX7_fall_6 : decode cX7_fall 6 = .ok (.aload_n 2, 1) := by decide +kernel
theorem dX7_fall_7 : decode cX7_fall 7 = .ok (.ifnull 10, 3) := by decide +kernel
theorem dX7_fall_10 : decode cX7_fall 10 = .ok (.aload_n 2, 1) := by decide +kernel
theorem dX7_fall_11 : decode cX7_fall 11 = .ok (.getfield 95, 3) := by decide +kernel
theorem dX7_fall_14 : decode cX7_fall 14 = .ok (.ifCond .ne 5, 3) := by decide +kernel
theorem dX7_fall_17 : decode cX7_fall 17 = .ok (.iconst 0, 1) := by decide +kernel
theorem dX7_fall_18 : decode cX7_fall 18 = .ok (.ireturn, 1) := by decide +kernel
theorem dX7_fall_19 : decode cX7_fall 19 = .ok (.iconst 0, 1) := by decide +kernel
theorem dX7_fall_20 : decode cX7_fall 20 = .ok (.istore_n 3, 1) := by decide +kernel
theorem dX7_fall_21 : decode cX7_fall 21 = .ok (.iload_n 3, 1) := by decide +kernel
theorem dX7_fall_22 : decode cX7_fall 22 = .ok (.aload_n 0, 1) := by decide +kernel
theorem dX7_fall_23 : decode cX7_fall 23 = .ok (.getfield 103, 3) := by decide +kernel
theorem dX7_fall_26 : decode cX7_fall 26 = .ok (.if_icmp .ge 41, 3) := by decide +kernel
theorem dX7_fall_29 : decode cX7_fall 29 = .ok (.aload_n 0, 1) := by decide +kernel
theorem dX7_fall_30 : decode cX7_fall 30 = .ok (.getfield 17, 3) := by decide +kernel
theorem dX7_fall_33 : decode cX7_fall 33 = .ok (.iload_n 3, 1) := by decide +kernel
theorem dX7_fall_34 : decode cX7_fall 34 = .ok (.aaload, 1) := by decide +kernel
theorem dX7_fall_35 : decode cX7_fall 35 = .ok (.getfield 106, 3) := by decide +kernel
theorem dX7_fall_38 : decode cX7_fall 38 = .ok (.aload_n 2, 1) := by decide +kernel
theorem dX7_fall_39 : decode cX7_fall 39 = .ok (.if_acmp .ne 22, 3) := by decide +kernel
theorem dX7_fall_42 : decode cX7_fall 42 = .ok (.aload_n 0, 1) := by decide +kernel
theorem dX7_fall_43 : decode cX7_fall 43 = .ok (.getfield 17, 3) := by decide +kernel
theorem dX7_fall_46 : decode cX7_fall 46 = .ok (.iload_n 3, 1) := by decide +kernel
theorem dX7_fall_47 : decode cX7_fall 47 = .ok (.aaload, 1) := by decide +kernel
theorem dX7_fall_48 : decode cX7_fall 48 = .ok (.invokevirtual 50, 3) := by decide +kernel
theorem dX7_fall_51 : decode cX7_fall 51 = .ok (.aload_n 0, 1) := by decide +kernel
theorem dX7_fall_52 : decode cX7_fall 52 = .ok (.getfield 17, 3) := by decide +kernel
theorem dX7_fall_55 : decode cX7_fall 55 = .ok (.iload_n 3, 1) := by decide +kernel
theorem dX7_fall_56 : decode cX7_fall 56 = .ok (.aaload, 1) := by decide +kernel
theorem dX7_fall_57 : decode cX7_fall 57 = .ok (.iconst 0, 1) := by decide +kernel
theorem dX7_fall_58 : decode cX7_fall 58 = .ok (.putfield 109, 3) := by decide +kernel
theorem dX7_fall_61 : decode cX7_fall 61 = .ok (.iinc 3 1, 3) := by decide +kernel
theorem dX7_fall_64 : decode cX7_fall 64 = .ok (.goto (-43), 3) := by decide +kernel
theorem dX7_fall_67 : decode cX7_fall 67 = .ok (.aload_n 2, 1) := by decide +kernel
theorem dX7_fall_68 : decode cX7_fall 68 = .ok (.invokevirtual 112, 3) := by decide +kernel
theorem dX7_fall_71 : decode cX7_fall 71 = .ok (.iconst 1, 1) := by decide +kernel
theorem dX7_fall_72 : decode cX7_fall 72 = .ok (.ireturn, 1) := by decide +kernel
theorem dX7_leave_0 : decode cX7_leave 0 = .ok (.aload_n 0, 1) := by decide +kernel
theorem dX7_leave_1 : decode cX7_leave 1 = .ok (.iload_n 1, 1) := by decide +kernel
theorem dX7_leave_2 : decode cX7_leave 2 = .ok (.invokevirtual 115, 3) := by decide +kernel
theorem dX7_leave_5 : decode cX7_leave 5 = .ok (.astore_n 2, 1) := by decide +kernel
theorem dX7_leave_6 : decode cX7_leave 6 = .ok (.aload_n 2, 1) := by decide +kernel
theorem dX7_leave_7 : decode cX7_leave 7 = .ok (.ifnonnull 5, 3) := by decide +kernel
theorem dX7_leave_10 : decode cX7_leave 10 = .ok (.iconst 0, 1) := by decide +kernel
theorem dX7_leave_11 : decode cX7_leave 11 = .ok (.ireturn, 1) := by decide +kernel
theorem dX7_leave_12 : decode cX7_leave 12 = .ok (.iconst 0, 1) := by decide +kernel
theorem dX7_leave_13 : decode cX7_leave 13 = .ok (.istore_n 3, 1) := by decide +kernel
theorem dX7_leave_14 : decode cX7_leave 14 = .ok (.iload_n 3, 1) := by decide +kernel
theorem dX7_leave_15 : decode cX7_leave 15 = .ok (.aload_n 0, 1) := by decide +kernel
theorem dX7_leave_16 : decode cX7_leave 16 = .ok (.getfield 103, 3) := by decide +kernel
theorem dX7_leave_19 : decode cX7_leave 19 = .ok (.if_icmp .ge 31, 3) := by decide +kernel
theorem dX7_leave_22 : decode cX7_leave 22 = .ok (.aload_n 0, 1) := by decide +kernel
theorem dX7_leave_23 : decode cX7_leave 23 = .ok (.getfield 17, 3) := by decide +kernel
theorem dX7_leave_26 : decode cX7_leave 26 = .ok (.iload_n 3, 1) := by decide +kernel
theorem dX7_leave_27 : decode cX7_leave 27 = .ok (.aaload, 1) := by decide +kernel
theorem dX7_leave_28 : decode cX7_leave 28 = .ok (.getfield 106, 3) := by decide +kernel
theorem dX7_leave_31 : decode cX7_leave 31 = .ok (.aload_n 2, 1) := by decide +kernel
theorem dX7_leave_32 : decode cX7_leave 32 = .ok (.if_acmp .ne 12, 3) := by decide +kernel
theorem dX7_leave_35 : decode cX7_leave 35 = .ok (.aload_n 0, 1) := by decide +kernel
theorem dX7_leave_36 : decode cX7_leave 36 = .ok (.getfield 17, 3) := by decide +kernel
theorem dX7_leave_39 : decode cX7_leave 39 = .ok (.iload_n 3, 1) := by decide +kernel
theorem dX7_leave_40 : decode cX7_leave 40 = .ok (.aaload, 1) := by decide +kernel
theorem dX7_leave_41 : decode cX7_leave 41 = .ok (.invokevirtual 50, 3) := by decide +kernel
theorem dX7_leave_44 : decode cX7_leave 44 = .ok (.iinc 3 1, 3) := by decide +kernel
theorem dX7_leave_47 : decode cX7_leave 47 = .ok (.goto (-33), 3) := by decide +kernel
theorem dX7_leave_50 : decode cX7_leave 50 = .ok (.iconst 0, 1) := by decide +kernel
theorem dX7_leave_51 : decode cX7_leave 51 = .ok (.istore_n 3, 1) := by decide +kernel
theorem dX7_leave_52 : decode cX7_leave 52 = .ok (.iload_n 3, 1) := by decide +kernel
theorem dX7_leave_53 : decode cX7_leave 53 = .ok (.aload_n 0, 1) := by decide +kernel
theorem dX7_leave_54 : decode cX7_leave 54 = .ok (.getfield 25, 3) := by decide +kernel
theorem dX7_leave_57 : decode cX7_leave 57 = .ok (.if_icmp .ge 32, 3) := by decide +kernel
theorem dX7_leave_60 : decode cX7_leave 60 = .ok (.aload_n 0, 1) := by decide +kernel
theorem dX7_leave_61 : decode cX7_leave 61 = .ok (.getfield 11, 3) := by decide +kernel
theorem dX7_leave_64 : decode cX7_leave 64 = .ok (.iload_n 3, 1) := by decide +kernel
theorem dX7_leave_65 : decode cX7_leave 65 = .ok (.aaload, 1) := by decide +kernel
theorem dX7_leave_66 : decode cX7_leave 66 = .ok (.getfield 96, 3) := by decide +kernel
theorem dX7_leave_69 : decode cX7_leave 69 = .ok (.aload_n 2, 1) := by decide +kernel
theorem dX7_leave_70 : decode cX7_leave 70 = .ok (.if_acmp .ne 13, 3) := by decide +kernel
theorem dX7_leave_73 : decode cX7_leave 73 = .ok (.aload_n 0, 1) := by decide +kernel
theorem dX7_leave_74 : decode cX7_leave 74 = .ok (.aload_n 0, 1) := by decide +kernel
theorem dX7_leave_75 : decode cX7_leave 75 = .ok (.getfield 11, 3) := by decide +kernel
theorem dX7_leave_78 : decode cX7_leave 78 = .ok (.iload_n 3, 1) := by decide +kernel
theorem dX7_leave_79 : decode cX7_leave 79 = .ok (.aaload, 1) := by decide +kernel
theorem dX7_leave_80 : decode cX7_leave 80 = .ok (.invokevirtual 118, 3) := by decide +kernel
theorem dX7_leave_83 : decode cX7_leave 83 = .ok (.iinc 3 1, 3) := by decide +kernel
theorem dX7_leave_86 : decode cX7_leave 86 = .ok (.goto (-34), 3) := by decide +kernel
theorem dX7_leave_89 : decode cX7_leave 89 = .ok (.aload_n 2, 1) := by decide +kernel
theorem dX7_leave_90 : decode cX7_leave 90 = .ok (.iconst 3, 1) := by decide +kernel
theorem dX7_leave_91 : decode cX7_leave 91 = .ok (.putfield 95, 3) := by decide +kernel
theorem dX7_leave_94 : decode cX7_leave 94 = .ok (.iconst 1, 1) := by decide +kernel
theorem dX7_leave_95 : decode cX7_leave 95 = .ok (.ireturn, 1) := by decide +kernel
theorem dX7_keeper_0 : decode cX7_keeper 0 = .ok (.aload_n 0, 1) := by decide +kernel
theorem dX7_keeper_1 : decode cX7_keeper 1 = .ok (.iload_n 1, 1) := by decide +kernel
theorem dX7_keeper_2 : decode cX7_keeper 2 = .ok (.invokevirtual 35, 3) := by decide +kernel
theorem dX7_keeper_5 : decode cX7_keeper 5 = .ok (.astore_n 3, 1) := by decide +kernel
theorem dX7_keeper_6 : decode cX7_keeper 6 = .ok (.aload_n 3, 1) := by decide +kernel
theorem dX7_keeper_7 : decode cX7_keeper 7 = .ok (.ifnull 11, 3) := by decide +kernel
theorem dX7_keeper_10 : decode cX7_keeper 10 = .ok (.aload_n 3, 1) := by decide +kernel
theorem dX7_keeper_11 : decode cX7_keeper 11 = .ok (.getfield 91, 3) := by decide +kernel
theorem dX7_keeper_14 : decode cX7_keeper 14 = .ok (.iload_n 2, 1) := by decide +kernel
theorem dX7_keeper_15 : decode cX7_keeper 15 = .ok (.if_icmp .ne 5, 3) := by decide +kernel
theorem dX7_keeper_18 : decode cX7_keeper 18 = .ok (.iconst 0, 1) := by decide +kernel
theorem dX7_keeper_19 : decode cX7_keeper 19 = .ok (.ireturn, 1) := by decide +kernel
theorem dX7_keeper_20 : decode cX7_keeper 20 = .ok (.aload_n 3, 1) := by decide +kernel
theorem dX7_keeper_21 : decode cX7_keeper 21 = .ok (.iload_n 2, 1) := by decide +kernel
theorem dX7_keeper_22 : decode cX7_keeper 22 = .ok (.putfield 91, 3) := by decide +kernel
theorem dX7_keeper_25 : decode cX7_keeper 25 = .ok (.iconst 1, 1) := by decide +kernel
theorem dX7_keeper_26 : decode cX7_keeper 26 = .ok (.ireturn, 1) := by decide +kernel
theorem dX7_bridge_0 : decode cX7_bridge 0 = .ok (.aload_n 0, 1) := by decide +kernel
theorem dX7_bridge_1 : decode cX7_bridge 1 = .ok (.iload_n 1, 1) := by decide +kernel
theorem dX7_bridge_2 : decode cX7_bridge 2 = .ok (.invokevirtual 35, 3) := by decide +kernel
theorem dX7_bridge_5 : decode cX7_bridge 5 = .ok (.astore 4, 2) := by decide +kernel
theorem dX7_bridge_7 : decode cX7_bridge 7 = .ok (.aload 4, 2) := by decide +kernel
theorem dX7_bridge_9 : decode cX7_bridge 9 = .ok (.ifnull 29, 3) := by decide +kernel
theorem dX7_bridge_12 : decode cX7_bridge 12 = .ok (.iload_n 2, 1) := by decide +kernel
theorem dX7_bridge_13 : decode cX7_bridge 13 = .ok (.invokestatic 21, 3) := by decide +kernel
theorem dX7_bridge_16 : decode cX7_bridge 16 = .ok (.ifCond .eq 22, 3) := by decide +kernel
theorem dX7_bridge_19 : decode cX7_bridge 19 = .ok (.iload_n 2, 1) := by decide +kernel
theorem dX7_bridge_20 : decode cX7_bridge 20 = .ok (.aload 4, 2) := by decide +kernel
theorem dX7_bridge_22 : decode cX7_bridge 22 = .ok (.getfield 88, 3) := by decide +kernel
theorem dX7_bridge_25 : decode cX7_bridge 25 = .ok (.if_icmp .eq 13, 3) := by decide +kernel
theorem dX7_bridge_28 : decode cX7_bridge 28 = .ok (.iload_n 3, 1) := by decide +kernel
theorem dX7_bridge_29 : decode cX7_bridge 29 = .ok (.ifCond .lt 9, 3) := by decide +kernel
theorem dX7_bridge_32 : decode cX7_bridge 32 = .ok (.iload_n 3, 1) := by decide +kernel
theorem dX7_bridge_33 : decode cX7_bridge 33 = .ok (.ldc 122, 2) := by decide +kernel
theorem dX7_bridge_35 : decode cX7_bridge 35 = .ok (.if_icmp .le 5, 3) := by decide +kernel
theorem dX7_bridge_38 : decode cX7_bridge 38 = .ok (.iconst 0, 1) := by decide +kernel
theorem dX7_bridge_39 : decode cX7_bridge 39 = .ok (.ireturn, 1) := by decide +kernel
theorem dX7_bridge_40 : decode cX7_bridge 40 = .ok (.aload 4, 2) := by decide +kernel
theorem dX7_bridge_42 : decode cX7_bridge 42 = .ok (.getfield 91, 3) := by decide +kernel
theorem dX7_bridge_45 : decode cX7_bridge 45 = .ok (.ifCond .ne 14, 3) := by decide +kernel
theorem dX7_bridge_48 : decode cX7_bridge 48 = .ok (.aload 4, 2) := by decide +kernel
theorem dX7_bridge_50 : decode cX7_bridge 50 = .ok (.getfield 71, 3) := by decide +kernel
theorem dX7_bridge_53 : decode cX7_bridge 53 = .ok (.invokevirtual 123, 3) := by decide +kernel
theorem dX7_bridge_56 : decode cX7_bridge 56 = .ok (.ifCond .ne 5, 3) := by decide +kernel
theorem dX7_bridge_59 : decode cX7_bridge 59 = .ok (.iconst 0, 1) := by decide +kernel
theorem dX7_bridge_60 : decode cX7_bridge 60 = .ok (.ireturn, 1) := by decide +kernel
theorem dX7_bridge_61 : decode cX7_bridge 61 = .ok (.aload_n 0, 1) := by decide +kernel
theorem dX7_bridge_62 : decode cX7_bridge 62 = .ok (.aload 4, 2) := by decide +kernel
theorem dX7_bridge_64 : decode cX7_bridge 64 = .ok (.invokevirtual 127, 3) := by decide +kernel
theorem dX7_bridge_67 : decode cX7_bridge 67 = .ok (.ifCond .ne 12, 3) := by decide +kernel
theorem dX7_bridge_70 : decode cX7_bridge 70 = .ok (.aload_n 0, 1) := by decide +kernel
theorem dX7_bridge_71 : decode cX7_bridge 71 = .ok (.aload 4, 2) := by decide +kernel
theorem dX7_bridge_73 : decode cX7_bridge 73 = .ok (.invokevirtual 131, 3) := by decide +kernel
theorem dX7_bridge_76 : decode cX7_bridge 76 = .ok (.ifCond .eq 5, 3) := by decide +kernel
theorem dX7_bridge_79 : decode cX7_bridge 79 = .ok (.iconst 0, 1) := by decide +kernel
theorem dX7_bridge_80 : decode cX7_bridge 80 = .ok (.ireturn, 1) := by decide +kernel
theorem dX7_bridge_81 : decode cX7_bridge 81 = .ok (.aload 4, 2) := by decide +kernel
theorem dX7_bridge_83 : decode cX7_bridge 83 = .ok (.getfield 134, 3) := by decide +kernel
theorem dX7_bridge_86 : decode cX7_bridge 86 = .ok (.invokevirtual 138, 3) := by decide +kernel
theorem dX7_bridge_89 : decode cX7_bridge 89 = .ok (.aload 4, 2) := by decide +kernel
theorem dX7_bridge_91 : decode cX7_bridge 91 = .ok (.getfield 143, 3) := by decide +kernel
theorem dX7_bridge_94 : decode cX7_bridge 94 = .ok (.invokevirtual 147, 3) := by decide +kernel
theorem dX7_bridge_97 : decode cX7_bridge 97 = .ok (.aload 4, 2) := by decide +kernel
theorem dX7_bridge_99 : decode cX7_bridge 99 = .ok (.new 150, 3) := by decide +kernel
theorem dX7_bridge_102 : decode cX7_bridge 102 = .ok (.dup, 1) := by decide +kernel
theorem dX7_bridge_103 : decode cX7_bridge 103 = .ok (.iload_n 2, 1) := by decide +kernel
theorem dX7_bridge_104 : decode cX7_bridge 104 = .ok (.iload_n 3, 1) := by decide +kernel
theorem dX7_bridge_105 : decode cX7_bridge 105 = .ok (.invokespecial 152, 3) := by decide +kernel
theorem dX7_bridge_108 : decode cX7_bridge 108 = .ok (.putfield 155, 3) := by decide +kernel
theorem dX7_bridge_111 : decode cX7_bridge 111 = .ok (.iconst 1, 1) := by decide +kernel
theorem dX7_bridge_112 : decode cX7_bridge 112 = .ok (.ireturn, 1) := by decide +kernel
theorem dX7_lose_0 : decode cX7_lose 0 = .ok (.aload_n 0, 1) := by decide +kernel
theorem dX7_lose_1 : decode cX7_lose 1 = .ok (.iload_n 1, 1) := by decide +kernel
theorem dX7_lose_2 : decode cX7_lose 2 = .ok (.invokevirtual 100, 3) := by decide +kernel
theorem dX7_lose_5 : decode cX7_lose 5 = .ok (.astore_n 3, 1) := by decide +kernel
theorem dX7_lose_6 : decode cX7_lose 6 = .ok (.aload_n 3, 1) := by decide +kernel
theorem dX7_lose_7 : decode cX7_lose 7 = .ok (.ifnull 13, 3) := by decide +kernel
theorem dX7_lose_10 : decode cX7_lose 10 = .ok (.iload_n 2, 1) := by decide +kernel
theorem dX7_lose_11 : decode cX7_lose 11 = .ok (.ifCond .lt 9, 3) := by decide +kernel
theorem dX7_lose_14 : decode cX7_lose 14 = .ok (.iload_n 2, 1) := by decide +kernel
theorem dX7_lose_15 : decode cX7_lose 15 = .ok (.bipush 100, 2) := by decide +kernel
theorem dX7_lose_17 : decode cX7_lose 17 = .ok (.if_icmp .le 5, 3) := by decide +kernel
theorem dX7_lose_20 : decode cX7_lose 20 = .ok (.iconst 0, 1) := by decide +kernel
theorem dX7_lose_21 : decode cX7_lose 21 = .ok (.ireturn, 1) := by decide +kernel
theorem dX7_lose_22 : decode cX7_lose 22 = .ok (.aload_n 3, 1) := by decide +kernel
theorem dX7_lose_23 : decode cX7_lose 23 = .ok (.iload_n 2, 1) := by decide +kernel
theorem dX7_lose_24 : decode cX7_lose 24 = .ok (.putfield 159, 3) := by decide +kernel
theorem dX7_lose_27 : decode cX7_lose 27 = .ok (.iconst 1, 1) := by decide +kernel
theorem dX7_lose_28 : decode cX7_lose 28 = .ok (.ireturn, 1) := by decide +kernel
theorem dX7_deaf_0 : decode cX7_deaf 0 = .ok (.aload_n 0, 1) := by decide +kernel
theorem dX7_deaf_1 : decode cX7_deaf 1 = .ok (.iload_n 1, 1) := by decide +kernel
theorem dX7_deaf_2 : decode cX7_deaf 2 = .ok (.invokevirtual 100, 3) := by decide +kernel
theorem dX7_deaf_5 : decode cX7_deaf 5 = .ok (.astore_n 3, 1) := by decide +kernel
theorem dX7_deaf_6 : decode cX7_deaf 6 = .ok (.aload_n 3, 1) := by decide +kernel
theorem dX7_deaf_7 : decode cX7_deaf 7 = .ok (.ifnull 13, 3) := by decide +kernel
theorem dX7_deaf_10 : decode cX7_deaf 10 = .ok (.iload_n 2, 1) := by decide +kernel
theorem dX7_deaf_11 : decode cX7_deaf 11 = .ok (.ifCond .lt 9, 3) := by decide +kernel
theorem dX7_deaf_14 : decode cX7_deaf 14 = .ok (.iload_n 2, 1) := by decide +kernel
theorem dX7_deaf_15 : decode cX7_deaf 15 = .ok (.bipush 100, 2) := by decide +kernel
theorem dX7_deaf_17 : decode cX7_deaf 17 = .ok (.if_icmp .le 5, 3) := by decide +kernel
theorem dX7_deaf_20 : decode cX7_deaf 20 = .ok (.iconst 0, 1) := by decide +kernel
theorem dX7_deaf_21 : decode cX7_deaf 21 = .ok (.ireturn, 1) := by decide +kernel
theorem dX7_deaf_22 : decode cX7_deaf 22 = .ok (.aload_n 3, 1) := by decide +kernel
theorem dX7_deaf_23 : decode cX7_deaf 23 = .ok (.iload_n 2, 1) := by decide +kernel
theorem dX7_deaf_24 : decode cX7_deaf 24 = .ok (.putfield 162, 3) := by decide +kernel
theorem dX7_deaf_27 : decode cX7_deaf 27 = .ok (.iconst 1, 1) := by decide +kernel
theorem dX7_deaf_28 : decode cX7_deaf 28 = .ok (.ireturn, 1) := by decide +kernel
theorem dX7_join_0 : decode cX7_join 0 = .ok (.iload_n 1, 1) := by decide +kernel
theorem dX7_join_1 : decode cX7_join 1 = .ok (.invokestatic 21, 3) := by decide +kernel
theorem dX7_join_4 : decode cX7_join 4 = .ok (.ifCond .eq 15, 3) := by decide +kernel
theorem dX7_join_7 : decode cX7_join 7 = .ok (.iload_n 2, 1) := by decide +kernel
theorem dX7_join_8 : decode cX7_join 8 = .ok (.invokestatic 21, 3) := by decide +kernel
theorem dX7_join_11 : decode cX7_join 11 = .ok (.ifCond .eq 8, 3) := by decide +kernel
theorem dX7_join_14 : decode cX7_join 14 = .ok (.iload_n 1, 1) := by decide +kernel
theorem dX7_join_15 : decode cX7_join 15 = .ok (.iload_n 2, 1) := by decide +kernel
theorem dX7_join_16 : decode cX7_join 16 = .ok (.if_icmp .ne 5, 3) := by decide +kernel
theorem dX7_join_19 : decode cX7_join 19 = .ok (.iconst 0, 1) := by decide +kernel
theorem dX7_join_20 : decode cX7_join 20 = .ok (.ireturn, 1) := by decide +kernel
theorem dX7_join_21 : decode cX7_join 21 = .ok (.iconst 0, 1) := by decide +kernel
theorem dX7_join_22 : decode cX7_join 22 = .ok (.istore_n 3, 1) := by decide +kernel
theorem dX7_join_23 : decode cX7_join 23 = .ok (.iload_n 3, 1) := by decide +kernel
theorem dX7_join_24 : decode cX7_join 24 = .ok (.aload_n 0, 1) := by decide +kernel
theorem dX7_join_25 : decode cX7_join 25 = .ok (.getfield 25, 3) := by decide +kernel
theorem dX7_join_28 : decode cX7_join 28 = .ok (.if_icmp .ge 20, 3) := by decide +kernel
theorem dX7_join_31 : decode cX7_join 31 = .ok (.aload_n 0, 1) := by decide +kernel
theorem dX7_join_32 : decode cX7_join 32 = .ok (.getfield 11, 3) := by decide +kernel
theorem dX7_join_35 : decode cX7_join 35 = .ok (.iload_n 3, 1) := by decide +kernel
theorem dX7_join_36 : decode cX7_join 36 = .ok (.aaload, 1) := by decide +kernel
theorem dX7_join_37 : decode cX7_join 37 = .ok (.iload_n 2, 1) := by decide +kernel
theorem dX7_join_38 : decode cX7_join 38 = .ok (.iload_n 1, 1) := by decide +kernel
theorem dX7_join_39 : decode cX7_join 39 = .ok (.invokevirtual 165, 3) := by decide +kernel
theorem dX7_join_42 : decode cX7_join 42 = .ok (.iinc 3 1, 3) := by decide +kernel
theorem dX7_join_45 : decode cX7_join 45 = .ok (.goto (-22), 3) := by decide +kernel
theorem dX7_join_48 : decode cX7_join 48 = .ok (.iconst 0, 1) := by decide +kernel
theorem dX7_join_49 : decode cX7_join 49 = .ok (.istore_n 3, 1) := by decide +kernel
theorem dX7_join_50 : decode cX7_join 50 = .ok (.iload_n 3, 1) := by decide +kernel
theorem dX7_join_51 : decode cX7_join 51 = .ok (.aload_n 0, 1) := by decide +kernel
theorem dX7_join_52 : decode cX7_join 52 = .ok (.getfield 103, 3) := by decide +kernel
theorem dX7_join_55 : decode cX7_join 55 = .ok (.if_icmp .ge 51, 3) := by decide +kernel
theorem dX7_join_58 : decode cX7_join 58 = .ok (.aload_n 0, 1) := by decide +kernel
theorem dX7_join_59 : decode cX7_join 59 = .ok (.getfield 17, 3) := by decide +kernel
theorem dX7_join_62 : decode cX7_join 62 = .ok (.iload_n 3, 1) := by decide +kernel
theorem dX7_join_63 : decode cX7_join 63 = .ok (.aaload, 1) := by decide +kernel
theorem dX7_join_64 : decode cX7_join 64 = .ok (.getfield 59, 3) := by decide +kernel
theorem dX7_join_67 : decode cX7_join 67 = .ok (.iconst 2, 1) := by decide +kernel
theorem dX7_join_68 : decode cX7_join 68 = .ok (.if_icmp .ne 32, 3) := by decide +kernel
theorem dX7_join_71 : decode cX7_join 71 = .ok (.aload_n 0, 1) := by decide +kernel
theorem dX7_join_72 : decode cX7_join 72 = .ok (.getfield 17, 3) := by decide +kernel
theorem dX7_join_75 : decode cX7_join 75 = .ok (.iload_n 3, 1) := by decide +kernel
theorem dX7_join_76 : decode cX7_join 76 = .ok (.aaload, 1) := by decide +kernel
theorem dX7_join_77 : decode cX7_join 77 = .ok (.getfield 106, 3) := by decide +kernel
theorem dX7_join_80 : decode cX7_join 80 = .ok (.getfield 88, 3) := by decide +kernel
theorem dX7_join_83 : decode cX7_join 83 = .ok (.iload_n 1, 1) := by decide +kernel
theorem dX7_join_84 : decode cX7_join 84 = .ok (.if_icmp .ne 16, 3) := by decide +kernel
theorem dX7_join_87 : decode cX7_join 87 = .ok (.aload_n 0, 1) := by decide +kernel
theorem dX7_join_88 : decode cX7_join 88 = .ok (.getfield 17, 3) := by decide +kernel
theorem dX7_join_91 : decode cX7_join 91 = .ok (.iload_n 3, 1) := by decide +kernel
theorem dX7_join_92 : decode cX7_join 92 = .ok (.aaload, 1) := by decide +kernel
theorem dX7_join_93 : decode cX7_join 93 = .ok (.aload_n 0, 1) := by decide +kernel
theorem dX7_join_94 : decode cX7_join 94 = .ok (.getfield 62, 3) := by decide +kernel
theorem dX7_join_97 : decode cX7_join 97 = .ok (.putfield 65, 3) := by decide +kernel
theorem dX7_join_100 : decode cX7_join 100 = .ok (.iinc 3 1, 3) := by decide +kernel
theorem dX7_join_103 : decode cX7_join 103 = .ok (.goto (-53), 3) := by decide +kernel
theorem dX7_join_106 : decode cX7_join 106 = .ok (.iconst 1, 1) := by decide +kernel
theorem dX7_join_107 : decode cX7_join 107 = .ok (.ireturn, 1) := by decide +kernel
theorem dX7_tick_0 : decode cX7_tick 0 = .ok (.iload_n 1, 1) := by decide +kernel
theorem dX7_tick_1 : decode cX7_tick 1 = .ok (.iconst 1, 1) := by decide +kernel
theorem dX7_tick_2 : decode cX7_tick 2 = .ok (.if_icmp .lt 21, 3) := by decide +kernel
theorem dX7_tick_5 : decode cX7_tick 5 = .ok (.iload_n 1, 1) := by decide +kernel
theorem dX7_tick_6 : decode cX7_tick 6 = .ok (.bipush 50, 2) := by decide +kernel
theorem dX7_tick_8 : decode cX7_tick 8 = .ok (.if_icmp .gt 15, 3) := by decide +kernel
theorem dX7_tick_11 : decode cX7_tick 11 = .ok (.aload_n 0, 1) := by decide +kernel
theorem dX7_tick_12 : decode cX7_tick 12 = .ok (.getfield 62, 3) := by decide +kernel
theorem dX7_tick_15 : decode cX7_tick 15 = .ok (.iload_n 1, 1) := by decide +kernel
theorem dX7_tick_16 : decode cX7_tick 16 = .ok (.iadd, 1) := by decide +kernel
theorem dX7_tick_17 : decode cX7_tick 17 = .ok (.sipush 30000, 3) := by decide +kernel
theorem dX7_tick_20 : decode cX7_tick 20 = .ok (.if_icmp .le 5, 3) := by decide +kernel
theorem dX7_tick_23 : decode cX7_tick 23 = .ok (.iconst (-1), 1) := by decide +kernel
theorem dX7_tick_24 : decode cX7_tick 24 = .ok (.ireturn, 1) := by decide +kernel
theorem dX7_tick_25 : decode cX7_tick 25 = .ok (.iconst 0, 1) := by decide +kernel
theorem dX7_tick_26 : decode cX7_tick 26 = .ok (.istore_n 2, 1) := by decide +kernel
theorem dX7_tick_27 : decode cX7_tick 27 = .ok (.iload_n 2, 1) := by decide +kernel
theorem dX7_tick_28 : decode cX7_tick 28 = .ok (.iload_n 1, 1) := by decide +kernel
theorem dX7_tick_29 : decode cX7_tick 29 = .ok (.if_icmp .ge 35, 3) := by decide +kernel
theorem dX7_tick_32 : decode cX7_tick 32 = .ok (.aload_n 0, 1) := by decide +kernel
theorem dX7_tick_33 : decode cX7_tick 33 = .ok (.invokevirtual 168, 3) := by decide +kernel
theorem dX7_tick_36 : decode cX7_tick 36 = .ok (.aload_n 0, 1) := by decide +kernel
theorem dX7_tick_37 : decode cX7_tick 37 = .ok (.invokevirtual 171, 3) := by decide +kernel
theorem dX7_tick_40 : decode cX7_tick 40 = .ok (.aload_n 0, 1) := by decide +kernel
theorem dX7_tick_41 : decode cX7_tick 41 = .ok (.invokevirtual 174, 3) := by decide +kernel
theorem dX7_tick_44 : decode cX7_tick 44 = .ok (.aload_n 0, 1) := by decide +kernel
theorem dX7_tick_45 : decode cX7_tick 45 = .ok (.invokevirtual 177, 3) := by decide +kernel
theorem dX7_tick_48 : decode cX7_tick 48 = .ok (.aload_n 0, 1) := by decide +kernel
theorem dX7_tick_49 : decode cX7_tick 49 = .ok (.dup, 1) := by decide +kernel
theorem dX7_tick_50 : decode cX7_tick 50 = .ok (.getfield 62, 3) := by decide +kernel
theorem dX7_tick_53 : decode cX7_tick 53 = .ok (.iconst 1, 1) := by decide +kernel
theorem dX7_tick_54 : decode cX7_tick 54 = .ok (.iadd, 1) := by decide +kernel
theorem dX7_tick_55 : decode cX7_tick 55 = .ok (.putfield 62, 3) := by decide +kernel
theorem dX7_tick_58 : decode cX7_tick 58 = .ok (.iinc 2 1, 3) := by decide +kernel
theorem dX7_tick_61 : decode cX7_tick 61 = .ok (.goto (-34), 3) := by decide +kernel
theorem dX7_tick_64 : decode cX7_tick 64 = .ok (.aload_n 0, 1) := by decide +kernel
theorem dX7_tick_65 : decode cX7_tick 65 = .ok (.getfield 62, 3) := by decide +kernel
theorem dX7_tick_68 : decode cX7_tick 68 = .ok (.ireturn, 1) := by decide +kernel
theorem dX7_find_0 : decode cX7_find 0 = .ok (.aload_n 0, 1) := by decide +kernel
theorem dX7_find_1 : decode cX7_find 1 = .ok (.iload_n 1, 1) := by decide +kernel
theorem dX7_find_2 : decode cX7_find 2 = .ok (.invokevirtual 100, 3) := by decide +kernel
theorem dX7_find_5 : decode cX7_find 5 = .ok (.astore 5, 2) := by decide +kernel
theorem dX7_find_7 : decode cX7_find 7 = .ok (.aload 5, 2) := by decide +kernel
theorem dX7_find_9 : decode cX7_find 9 = .ok (.ifnull 8, 3) := by decide +kernel
theorem dX7_find_12 : decode cX7_find 12 = .ok (.iload 4, 2) := by decide +kernel
theorem dX7_find_14 : decode cX7_find 14 = .ok (.ifCond .ge 5, 3) := by decide +kernel
theorem dX7_find_17 : decode cX7_find 17 = .ok (.iconst (-1), 1) := by decide +kernel
theorem dX7_find_18 : decode cX7_find 18 = .ok (.ireturn, 1) := by decide +kernel
theorem dX7_find_19 : decode cX7_find 19 = .ok (.iconst 0, 1) := by decide +kernel
theorem dX7_find_20 : decode cX7_find 20 = .ok (.istore 6, 2) := by decide +kernel
theorem dX7_find_22 : decode cX7_find 22 = .ok (.iload 6, 2) := by decide +kernel
theorem dX7_find_24 : decode cX7_find 24 = .ok (.aload_n 0, 1) := by decide +kernel
theorem dX7_find_25 : decode cX7_find 25 = .ok (.getfield 103, 3) := by decide +kernel
theorem dX7_find_28 : decode cX7_find 28 = .ok (.if_icmp .ge 100, 3) := by decide +kernel
theorem dX7_find_31 : decode cX7_find 31 = .ok (.aload_n 0, 1) := by decide +kernel
theorem dX7_find_32 : decode cX7_find 32 = .ok (.aload 5, 2) := by decide +kernel
theorem dX7_find_34 : decode cX7_find 34 = .ok (.getfield 134, 3) := by decide +kernel
theorem dX7_find_37 : decode cX7_find 37 = .ok (.iload 6, 2) := by decide +kernel
theorem dX7_find_39 : decode cX7_find 39 = .ok (.iload_n 2, 1) := by decide +kernel
theorem dX7_find_40 : decode cX7_find 40 = .ok (.iload_n 3, 1) := by decide +kernel
theorem dX7_find_41 : decode cX7_find 41 = .ok (.invokevirtual 180, 3) := by decide +kernel
theorem dX7_find_44 : decode cX7_find 44 = .ok (.ifCond .eq 78, 3) := by decide +kernel
theorem dX7_find_47 : decode cX7_find 47 = .ok (.iconst 0, 1) := by decide +kernel
theorem dX7_find_48 : decode cX7_find 48 = .ok (.istore 7, 2) := by decide +kernel
theorem dX7_find_50 : decode cX7_find 50 = .ok (.iconst 0, 1) := by decide +kernel
theorem dX7_find_51 : decode cX7_find 51 = .ok (.istore 8, 2) := by decide +kernel
theorem dX7_find_53 : decode cX7_find 53 = .ok (.iload 8, 2) := by decide +kernel
theorem dX7_find_55 : decode cX7_find 55 = .ok (.aload_n 0, 1) := by decide +kernel
theorem dX7_find_56 : decode cX7_find 56 = .ok (.getfield 103, 3) := by decide +kernel
theorem dX7_find_59 : decode cX7_find 59 = .ok (.if_icmp .ge 53, 3) := by decide +kernel
theorem dX7_find_62 : decode cX7_find 62 = .ok (.aload_n 0, 1) := by decide +kernel
theorem dX7_find_63 : decode cX7_find 63 = .ok (.aload 5, 2) := by decide +kernel
theorem dX7_find_65 : decode cX7_find 65 = .ok (.getfield 134, 3) := by decide +kernel
theorem dX7_find_68 : decode cX7_find 68 = .ok (.iload 8, 2) := by decide +kernel
theorem dX7_find_70 : decode cX7_find 70 = .ok (.iload_n 2, 1) := by decide +kernel
theorem dX7_find_71 : decode cX7_find 71 = .ok (.iload_n 3, 1) := by decide +kernel
theorem dX7_find_72 : decode cX7_find 72 = .ok (.invokevirtual 180, 3) := by decide +kernel
theorem dX7_find_75 : decode cX7_find 75 = .ok (.ifCond .eq 31, 3) := by decide +kernel
theorem dX7_find_78 : decode cX7_find 78 = .ok (.aload 5, 2) := by decide +kernel
theorem dX7_find_80 : decode cX7_find 80 = .ok (.getfield 134, 3) := by decide +kernel
theorem dX7_find_83 : decode cX7_find 83 = .ok (.getfield 184, 3) := by decide +kernel
theorem dX7_find_86 : decode cX7_find 86 = .ok (.iload 8, 2) := by decide +kernel
theorem dX7_find_88 : decode cX7_find 88 = .ok (.iaload, 1) := by decide +kernel
theorem dX7_find_89 : decode cX7_find 89 = .ok (.aload 5, 2) := by decide +kernel
theorem dX7_find_91 : decode cX7_find 91 = .ok (.getfield 134, 3) := by decide +kernel
theorem dX7_find_94 : decode cX7_find 94 = .ok (.getfield 184, 3) := by decide +kernel
theorem dX7_find_97 : decode cX7_find 97 = .ok (.iload 6, 2) := by decide +kernel
theorem dX7_find_99 : decode cX7_find 99 = .ok (.iaload, 1) := by decide +kernel
theorem dX7_find_100 : decode cX7_find 100 = .ok (.if_icmp .ge 6, 3) := by decide +kernel
theorem dX7_find_103 : decode cX7_find 103 = .ok (.iinc 7 1, 3) := by decide +kernel
theorem dX7_find_106 : decode cX7_find 106 = .ok (.iinc 8 1, 3) := by decide +kernel
theorem dX7_find_109 : decode cX7_find 109 = .ok (.goto (-56), 3) := by decide +kernel
theorem dX7_find_112 : decode cX7_find 112 = .ok (.iload 7, 2) := by decide +kernel
theorem dX7_find_114 : decode cX7_find 114 = .ok (.iload 4, 2) := by decide +kernel
theorem dX7_find_116 : decode cX7_find 116 = .ok (.if_icmp .ne 6, 3) := by decide +kernel
theorem dX7_find_119 : decode cX7_find 119 = .ok (.iload 6, 2) := by decide +kernel
theorem dX7_find_121 : decode cX7_find 121 = .ok (.ireturn, 1) := by decide +kernel
theorem dX7_find_122 : decode cX7_find 122 = .ok (.iinc 6 1, 3) := by decide +kernel
theorem dX7_find_125 : decode cX7_find 125 = .ok (.goto (-103), 3) := by decide +kernel
theorem dX7_find_128 : decode cX7_find 128 = .ok (.iconst (-1), 1) := by decide +kernel
theorem dX7_find_129 : decode cX7_find 129 = .ok (.ireturn, 1) := by decide +kernel
theorem dX7_record_0 : decode cX7_record 0 = .ok (.aload_n 0, 1) := by decide +kernel
theorem dX7_record_1 : decode cX7_record 1 = .ok (.iload_n 1, 1) := by decide +kernel
theorem dX7_record_2 : decode cX7_record 2 = .ok (.invokevirtual 100, 3) := by decide +kernel
theorem dX7_record_5 : decode cX7_record 5 = .ok (.astore 4, 2) := by decide +kernel
theorem dX7_record_7 : decode cX7_record 7 = .ok (.aload 4, 2) := by decide +kernel
theorem dX7_record_9 : decode cX7_record 9 = .ok (.ifnull 23, 3) := by decide +kernel
theorem dX7_record_12 : decode cX7_record 12 = .ok (.aload_n 0, 1) := by decide +kernel
theorem dX7_record_13 : decode cX7_record 13 = .ok (.iload_n 2, 1) := by decide +kernel
theorem dX7_record_14 : decode cX7_record 14 = .ok (.invokevirtual 188, 3) := by decide +kernel
theorem dX7_record_17 : decode cX7_record 17 = .ok (.ifnull 15, 3) := by decide +kernel
theorem dX7_record_20 : decode cX7_record 20 = .ok (.aload 4, 2) := by decide +kernel
theorem dX7_record_22 : decode cX7_record 22 = .ok (.getfield 134, 3) := by decide +kernel
theorem dX7_record_25 : decode cX7_record 25 = .ok (.iload_n 2, 1) := by decide +kernel
theorem dX7_record_26 : decode cX7_record 26 = .ok (.invokevirtual 191, 3) := by decide +kernel
theorem dX7_record_29 : decode cX7_record 29 = .ok (.ifCond .ne 5, 3) := by decide +kernel
theorem dX7_record_32 : decode cX7_record 32 = .ok (.iconst (-1), 1) := by decide +kernel
theorem dX7_record_33 : decode cX7_record 33 = .ok (.ireturn, 1) := by decide +kernel
theorem dX7_record_34 : decode cX7_record 34 = .ok (.iload_n 3, 1) := by decide +kernel
theorem dX7_record_35 : decode cX7_record 35 = .ok (.tableswitch 76 0 3 #[29, 40, 51, 65], 29) := by decide +kernel
theorem dX7_record_64 : decode cX7_record 64 = .ok (.aload 4, 2) := by decide +kernel
theorem dX7_record_66 : decode cX7_record 66 = .ok (.getfield 134, 3) := by decide +kernel
theorem dX7_record_69 : decode cX7_record 69 = .ok (.getfield 184, 3) := by decide +kernel
theorem dX7_record_72 : decode cX7_record 72 = .ok (.iload_n 2, 1) := by decide +kernel
theorem dX7_record_73 : decode cX7_record 73 = .ok (.iaload, 1) := by decide +kernel
theorem dX7_record_74 : decode cX7_record 74 = .ok (.ireturn, 1) := by decide +kernel
theorem dX7_record_75 : decode cX7_record 75 = .ok (.aload 4, 2) := by decide +kernel
theorem dX7_record_77 : decode cX7_record 77 = .ok (.getfield 134, 3) := by decide +kernel
theorem dX7_record_80 : decode cX7_record 80 = .ok (.getfield 192, 3) := by decide +kernel
theorem dX7_record_83 : decode cX7_record 83 = .ok (.iload_n 2, 1) := by decide +kernel
theorem dX7_record_84 : decode cX7_record 84 = .ok (.iaload, 1) := by decide +kernel
theorem dX7_record_85 : decode cX7_record 85 = .ok (.ireturn, 1) := by decide +kernel
theorem dX7_record_86 : decode cX7_record 86 = .ok (.aload 4, 2) := by decide +kernel
theorem dX7_record_88 : decode cX7_record 88 = .ok (.getfield 134, 3) := by decide +kernel
theorem dX7_record_91 : decode cX7_record 91 = .ok (.iload_n 2, 1) := by decide +kernel
theorem dX7_record_92 : decode cX7_record 92 = .ok (.aload_n 0, 1) := by decide +kernel
theorem dX7_record_93 : decode cX7_record 93 = .ok (.getfield 62, 3) := by decide +kernel
theorem dX7_record_96 : decode cX7_record 96 = .ok (.invokevirtual 194, 3) := by decide +kernel
theorem dX7_record_99 : decode cX7_record 99 = .ok (.ireturn, 1) := by decide +kernel
theorem dX7_record_100 : decode cX7_record 100 = .ok (.aload 4, 2) := by decide +kernel
theorem dX7_record_102 : decode cX7_record 102 = .ok (.getfield 134, 3) := by decide +kernel
theorem dX7_record_105 : decode cX7_record 105 = .ok (.getfield 198, 3) := by decide +kernel
theorem dX7_record_108 : decode cX7_record 108 = .ok (.iload_n 2, 1) := by decide +kernel
theorem dX7_record_109 : decode cX7_record 109 = .ok (.iaload, 1) := by decide +kernel
theorem dX7_record_110 : decode cX7_record 110 = .ok (.ireturn, 1) := by decide +kernel
theorem dX7_record_111 : decode cX7_record 111 = .ok (.iconst (-1), 1) := by decide +kernel
theorem dX7_record_112 : decode cX7_record 112 = .ok (.ireturn, 1) := by decide +kernel
theorem dX7_service_0 : decode cX7_service 0 = .ok (.aload_n 0, 1) := by decide +kernel
theorem dX7_service_1 : decode cX7_service 1 = .ok (.iload_n 1, 1) := by decide +kernel
theorem dX7_service_2 : decode cX7_service 2 = .ok (.invokevirtual 188, 3) := by decide +kernel
theorem dX7_service_5 : decode cX7_service 5 = .ok (.astore_n 3, 1) := by decide +kernel
theorem dX7_service_6 : decode cX7_service 6 = .ok (.aload_n 3, 1) := by decide +kernel
theorem dX7_service_7 : decode cX7_service 7 = .ok (.ifnonnull 5, 3) := by decide +kernel
theorem dX7_service_10 : decode cX7_service 10 = .ok (.iconst (-1), 1) := by decide +kernel
theorem dX7_service_11 : decode cX7_service 11 = .ok (.ireturn, 1) := by decide +kernel
theorem dX7_service_12 : decode cX7_service 12 = .ok (.iload_n 2, 1) := by decide +kernel
theorem dX7_service_13 : decode cX7_service 13 = .ok (.tableswitch 122 0 7 #[47, 52, 57, 74, 79, 87, 104, 117], 47) := by decide +kernel
theorem dX7_service_60 : decode cX7_service 60 = .ok (.aload_n 3, 1) := by decide +kernel
theorem dX7_service_61 : decode cX7_service 61 = .ok (.getfield 59, 3) := by decide +kernel
theorem dX7_service_64 : decode cX7_service 64 = .ok (.ireturn, 1) := by decide +kernel
theorem dX7_service_65 : decode cX7_service 65 = .ok (.aload_n 3, 1) := by decide +kernel
theorem dX7_service_66 : decode cX7_service 66 = .ok (.getfield 201, 3) := by decide +kernel
theorem dX7_service_69 : decode cX7_service 69 = .ok (.ireturn, 1) := by decide +kernel
theorem dX7_service_70 : decode cX7_service 70 = .ok (.aload_n 3, 1) := by decide +kernel
theorem dX7_service_71 : decode cX7_service 71 = .ok (.getfield 59, 3) := by decide +kernel
theorem dX7_service_74 : decode cX7_service 74 = .ok (.iconst 1, 1) := by decide +kernel
theorem dX7_service_75 : decode cX7_service 75 = .ok (.if_icmp .ne 10, 3) := by decide +kernel
theorem dX7_service_78 : decode cX7_service 78 = .ok (.aload_n 3, 1) := by decide +kernel
theorem dX7_service_79 : decode cX7_service 79 = .ok (.getfield 203, 3) := by decide +kernel
theorem dX7_service_82 : decode cX7_service 82 = .ok (.goto 4, 3) := by decide +kernel
theorem dX7_service_85 : decode cX7_service 85 = .ok (.iconst 0, 1) := by decide +kernel
theorem dX7_service_86 : decode cX7_service 86 = .ok (.ireturn, 1) := by decide +kernel
theorem dX7_service_87 : decode cX7_service 87 = .ok (.aload_n 3, 1) := by decide +kernel
theorem dX7_service_88 : decode cX7_service 88 = .ok (.getfield 56, 3) := by decide +kernel
theorem dX7_service_91 : decode cX7_service 91 = .ok (.ireturn, 1) := by decide +kernel
theorem dX7_service_92 : decode cX7_service 92 = .ok (.aload_n 3, 1) := by decide +kernel
theorem dX7_service_93 : decode cX7_service 93 = .ok (.getfield 106, 3) := by decide +kernel
theorem dX7_service_96 : decode cX7_service 96 = .ok (.getfield 32, 3) := by decide +kernel
theorem dX7_service_99 : decode cX7_service 99 = .ok (.ireturn, 1) := by decide +kernel
theorem dX7_service_100 : decode cX7_service 100 = .ok (.aload_n 3, 1) := by decide +kernel
theorem dX7_service_101 : decode cX7_service 101 = .ok (.getfield 59, 3) := by decide +kernel
theorem dX7_service_104 : decode cX7_service 104 = .ok (.iconst 2, 1) := by decide +kernel
theorem dX7_service_105 : decode cX7_service 105 = .ok (.if_icmp .ne 10, 3) := by decide +kernel
theorem dX7_service_108 : decode cX7_service 108 = .ok (.aload_n 3, 1) := by decide +kernel
theorem dX7_service_109 : decode cX7_service 109 = .ok (.getfield 65, 3) := by decide +kernel
theorem dX7_service_112 : decode cX7_service 112 = .ok (.goto 4, 3) := by decide +kernel
theorem dX7_service_115 : decode cX7_service 115 = .ok (.iconst (-1), 1) := by decide +kernel
theorem dX7_service_116 : decode cX7_service 116 = .ok (.ireturn, 1) := by decide +kernel
theorem dX7_service_117 : decode cX7_service 117 = .ok (.aload_n 3, 1) := by decide +kernel
theorem dX7_service_118 : decode cX7_service 118 = .ok (.getfield 109, 3) := by decide +kernel
theorem dX7_service_121 : decode cX7_service 121 = .ok (.ifCond .eq 7, 3) := by decide +kernel
theorem dX7_service_124 : decode cX7_service 124 = .ok (.iconst 1, 1) := by decide +kernel
theorem dX7_service_125 : decode cX7_service 125 = .ok (.goto 4, 3) := by decide +kernel
theorem dX7_service_128 : decode cX7_service 128 = .ok (.iconst 0, 1) := by decide +kernel
theorem dX7_service_129 : decode cX7_service 129 = .ok (.ireturn, 1) := by decide +kernel
theorem dX7_service_130 : decode cX7_service 130 = .ok (.aload_n 3, 1) := by decide +kernel
theorem dX7_service_131 : decode cX7_service 131 = .ok (.getfield 206, 3) := by decide +kernel
theorem dX7_service_134 : decode cX7_service 134 = .ok (.ireturn, 1) := by decide +kernel
theorem dX7_service_135 : decode cX7_service 135 = .ok (.iconst (-1), 1) := by decide +kernel
theorem dX7_service_136 : decode cX7_service 136 = .ok (.ireturn, 1) := by decide +kernel
theorem dX7_look_0 : decode cX7_look 0 = .ok (.aload_n 0, 1) := by decide +kernel
theorem dX7_look_1 : decode cX7_look 1 = .ok (.iload_n 1, 1) := by decide +kernel
theorem dX7_look_2 : decode cX7_look 2 = .ok (.invokevirtual 100, 3) := by decide +kernel
theorem dX7_look_5 : decode cX7_look 5 = .ok (.astore_n 3, 1) := by decide +kernel
theorem dX7_look_6 : decode cX7_look 6 = .ok (.aload_n 3, 1) := by decide +kernel
theorem dX7_look_7 : decode cX7_look 7 = .ok (.ifnonnull 5, 3) := by decide +kernel
theorem dX7_look_10 : decode cX7_look 10 = .ok (.iconst (-1), 1) := by decide +kernel
theorem dX7_look_11 : decode cX7_look 11 = .ok (.ireturn, 1) := by decide +kernel
theorem dX7_look_12 : decode cX7_look 12 = .ok (.iload_n 2, 1) := by decide +kernel
theorem dX7_look_13 : decode cX7_look 13 = .ok (.tableswitch 142 0 8 #[51, 56, 61, 80, 100, 105, 113, 126, 134], 51) := by decide +kernel
theorem dX7_look_64 : decode cX7_look 64 = .ok (.aload_n 3, 1) := by decide +kernel
theorem dX7_look_65 : decode cX7_look 65 = .ok (.getfield 95, 3) := by decide +kernel
theorem dX7_look_68 : decode cX7_look 68 = .ok (.ireturn, 1) := by decide +kernel
theorem dX7_look_69 : decode cX7_look 69 = .ok (.aload_n 3, 1) := by decide +kernel
theorem dX7_look_70 : decode cX7_look 70 = .ok (.getfield 88, 3) := by decide +kernel
theorem dX7_look_73 : decode cX7_look 73 = .ok (.ireturn, 1) := by decide +kernel
theorem dX7_look_74 : decode cX7_look 74 = .ok (.aload_n 3, 1) := by decide +kernel
theorem dX7_look_75 : decode cX7_look 75 = .ok (.getfield 155, 3) := by decide +kernel
theorem dX7_look_78 : decode cX7_look 78 = .ok (.ifnonnull 7, 3) := by decide +kernel
theorem dX7_look_81 : decode cX7_look 81 = .ok (.iconst (-1), 1) := by decide +kernel
theorem dX7_look_82 : decode cX7_look 82 = .ok (.goto 10, 3) := by decide +kernel
theorem dX7_look_85 : decode cX7_look 85 = .ok (.aload_n 3, 1) := by decide +kernel
theorem dX7_look_86 : decode cX7_look 86 = .ok (.getfield 155, 3) := by decide +kernel
theorem dX7_look_89 : decode cX7_look 89 = .ok (.getfield 209, 3) := by decide +kernel
theorem dX7_look_92 : decode cX7_look 92 = .ok (.ireturn, 1) := by decide +kernel
theorem dX7_look_93 : decode cX7_look 93 = .ok (.aload_n 0, 1) := by decide +kernel
theorem dX7_look_94 : decode cX7_look 94 = .ok (.aload_n 3, 1) := by decide +kernel
theorem dX7_look_95 : decode cX7_look 95 = .ok (.invokevirtual 210, 3) := by decide +kernel
theorem dX7_look_98 : decode cX7_look 98 = .ok (.ifCond .eq 13, 3) := by decide +kernel
theorem dX7_look_101 : decode cX7_look 101 = .ok (.aload_n 3, 1) := by decide +kernel
theorem dX7_look_102 : decode cX7_look 102 = .ok (.getfield 96, 3) := by decide +kernel
theorem dX7_look_105 : decode cX7_look 105 = .ok (.getfield 32, 3) := by decide +kernel
theorem dX7_look_108 : decode cX7_look 108 = .ok (.goto 4, 3) := by decide +kernel
theorem dX7_look_111 : decode cX7_look 111 = .ok (.iconst (-1), 1) := by decide +kernel
theorem dX7_look_112 : decode cX7_look 112 = .ok (.ireturn, 1) := by decide +kernel
theorem dX7_look_113 : decode cX7_look 113 = .ok (.aload_n 3, 1) := by decide +kernel
theorem dX7_look_114 : decode cX7_look 114 = .ok (.getfield 213, 3) := by decide +kernel
theorem dX7_look_117 : decode cX7_look 117 = .ok (.ireturn, 1) := by decide +kernel
theorem dX7_look_118 : decode cX7_look 118 = .ok (.aload_n 3, 1) := by decide +kernel
theorem dX7_look_119 : decode cX7_look 119 = .ok (.getfield 134, 3) := by decide +kernel
theorem dX7_look_122 : decode cX7_look 122 = .ok (.invokevirtual 216, 3) := by decide +kernel
theorem dX7_look_125 : decode cX7_look 125 = .ok (.ireturn, 1) := by decide +kernel
theorem dX7_look_126 : decode cX7_look 126 = .ok (.aload_n 3, 1) := by decide +kernel
theorem dX7_look_127 : decode cX7_look 127 = .ok (.getfield 91, 3) := by decide +kernel
theorem dX7_look_130 : decode cX7_look 130 = .ok (.ifCond .eq 7, 3) := by decide +kernel
theorem dX7_look_133 : decode cX7_look 133 = .ok (.iconst 1, 1) := by decide +kernel
theorem dX7_look_134 : decode cX7_look 134 = .ok (.goto 4, 3) := by decide +kernel
theorem dX7_look_137 : decode cX7_look 137 = .ok (.iconst 0, 1) := by decide +kernel
theorem dX7_look_138 : decode cX7_look 138 = .ok (.ireturn, 1) := by decide +kernel
theorem dX7_look_139 : decode cX7_look 139 = .ok (.aload_n 3, 1) := by decide +kernel
theorem dX7_look_140 : decode cX7_look 140 = .ok (.getfield 71, 3) := by decide +kernel
theorem dX7_look_143 : decode cX7_look 143 = .ok (.invokevirtual 220, 3) := by decide +kernel
theorem dX7_look_146 : decode cX7_look 146 = .ok (.ireturn, 1) := by decide +kernel
theorem dX7_look_147 : decode cX7_look 147 = .ok (.aload_n 3, 1) := by decide +kernel
theorem dX7_look_148 : decode cX7_look 148 = .ok (.getfield 143, 3) := by decide +kernel
theorem dX7_look_151 : decode cX7_look 151 = .ok (.invokevirtual 221, 3) := by decide +kernel
theorem dX7_look_154 : decode cX7_look 154 = .ok (.ireturn, 1) := by decide +kernel
theorem dX7_look_155 : decode cX7_look 155 = .ok (.iconst (-1), 1) := by decide +kernel
theorem dX7_look_156 : decode cX7_look 156 = .ok (.ireturn, 1) := by decide +kernel
theorem dX7_reach_0 : decode cX7_reach 0 = .ok (.aload_n 0, 1) := by decide +kernel
theorem dX7_reach_1 : decode cX7_reach 1 = .ok (.iload_n 1, 1) := by decide +kernel
theorem dX7_reach_2 : decode cX7_reach 2 = .ok (.invokevirtual 100, 3) := by decide +kernel
theorem dX7_reach_5 : decode cX7_reach 5 = .ok (.astore_n 3, 1) := by decide +kernel
theorem dX7_reach_6 : decode cX7_reach 6 = .ok (.aload_n 0, 1) := by decide +kernel
theorem dX7_reach_7 : decode cX7_reach 7 = .ok (.iload_n 2, 1) := by decide +kernel
theorem dX7_reach_8 : decode cX7_reach 8 = .ok (.invokevirtual 188, 3) := by decide +kernel
theorem dX7_reach_11 : decode cX7_reach 11 = .ok (.astore 4, 2) := by decide +kernel
theorem dX7_reach_13 : decode cX7_reach 13 = .ok (.aload_n 3, 1) := by decide +kernel
theorem dX7_reach_14 : decode cX7_reach 14 = .ok (.ifnull 19, 3) := by decide +kernel
theorem dX7_reach_17 : decode cX7_reach 17 = .ok (.aload 4, 2) := by decide +kernel
theorem dX7_reach_19 : decode cX7_reach 19 = .ok (.ifnull 14, 3) := by decide +kernel
theorem dX7_reach_22 : decode cX7_reach 22 = .ok (.aload_n 3, 1) := by decide +kernel
theorem dX7_reach_23 : decode cX7_reach 23 = .ok (.getfield 134, 3) := by decide +kernel
theorem dX7_reach_26 : decode cX7_reach 26 = .ok (.iload_n 2, 1) := by decide +kernel
theorem dX7_reach_27 : decode cX7_reach 27 = .ok (.invokevirtual 191, 3) := by decide +kernel
theorem dX7_reach_30 : decode cX7_reach 30 = .ok (.ifCond .ne 5, 3) := by decide +kernel
theorem dX7_reach_33 : decode cX7_reach 33 = .ok (.iconst (-1), 1) := by decide +kernel
theorem dX7_reach_34 : decode cX7_reach 34 = .ok (.ireturn, 1) := by decide +kernel
theorem dX7_reach_35 : decode cX7_reach 35 = .ok (.aload_n 3, 1) := by decide +kernel
theorem dX7_reach_36 : decode cX7_reach 36 = .ok (.getfield 95, 3) := by decide +kernel
theorem dX7_reach_39 : decode cX7_reach 39 = .ok (.iconst 2, 1) := by decide +kernel
theorem dX7_reach_40 : decode cX7_reach 40 = .ok (.if_icmp .eq 13, 3) := by decide +kernel
theorem dX7_reach_43 : decode cX7_reach 43 = .ok (.aload_n 3, 1) := by decide +kernel
theorem dX7_reach_44 : decode cX7_reach 44 = .ok (.getfield 95, 3) := by decide +kernel
theorem dX7_reach_47 : decode cX7_reach 47 = .ok (.iconst 3, 1) := by decide +kernel
theorem dX7_reach_48 : decode cX7_reach 48 = .ok (.if_icmp .eq 5, 3) := by decide +kernel
theorem dX7_reach_51 : decode cX7_reach 51 = .ok (.iconst (-1), 1) := by decide +kernel
theorem dX7_reach_52 : decode cX7_reach 52 = .ok (.ireturn, 1) := by decide +kernel
theorem dX7_reach_53 : decode cX7_reach 53 = .ok (.aload 4, 2) := by decide +kernel
theorem dX7_reach_55 : decode cX7_reach 55 = .ok (.getfield 59, 3) := by decide +kernel
theorem dX7_reach_58 : decode cX7_reach 58 = .ok (.iconst 2, 1) := by decide +kernel
theorem dX7_reach_59 : decode cX7_reach 59 = .ok (.if_icmp .ne 20, 3) := by decide +kernel
theorem dX7_reach_62 : decode cX7_reach 62 = .ok (.aload 4, 2) := by decide +kernel
theorem dX7_reach_64 : decode cX7_reach 64 = .ok (.getfield 201, 3) := by decide +kernel
theorem dX7_reach_67 : decode cX7_reach 67 = .ok (.aload_n 3, 1) := by decide +kernel
theorem dX7_reach_68 : decode cX7_reach 68 = .ok (.getfield 134, 3) := by decide +kernel
theorem dX7_reach_71 : decode cX7_reach 71 = .ok (.getfield 184, 3) := by decide +kernel
theorem dX7_reach_74 : decode cX7_reach 74 = .ok (.iload_n 2, 1) := by decide +kernel
theorem dX7_reach_75 : decode cX7_reach 75 = .ok (.iaload, 1) := by decide +kernel
theorem dX7_reach_76 : decode cX7_reach 76 = .ok (.if_icmp .eq 5, 3) := by decide +kernel
theorem dX7_reach_79 : decode cX7_reach 79 = .ok (.iconst 0, 1) := by decide +kernel
theorem dX7_reach_80 : decode cX7_reach 80 = .ok (.ireturn, 1) := by decide +kernel
theorem dX7_reach_81 : decode cX7_reach 81 = .ok (.aload 4, 2) := by decide +kernel
theorem dX7_reach_83 : decode cX7_reach 83 = .ok (.getfield 106, 3) := by decide +kernel
theorem dX7_reach_86 : decode cX7_reach 86 = .ok (.getfield 95, 3) := by decide +kernel
theorem dX7_reach_89 : decode cX7_reach 89 = .ok (.iconst 2, 1) := by decide +kernel
theorem dX7_reach_90 : decode cX7_reach 90 = .ok (.if_icmp .ne 5, 3) := by decide +kernel
theorem dX7_reach_93 : decode cX7_reach 93 = .ok (.iconst 1, 1) := by decide +kernel
theorem dX7_reach_94 : decode cX7_reach 94 = .ok (.ireturn, 1) := by decide +kernel
theorem dX7_reach_95 : decode cX7_reach 95 = .ok (.aload_n 0, 1) := by decide +kernel
theorem dX7_reach_96 : decode cX7_reach 96 = .ok (.aload 4, 2) := by decide +kernel
theorem dX7_reach_98 : decode cX7_reach 98 = .ok (.getfield 106, 3) := by decide +kernel
theorem dX7_reach_101 : decode cX7_reach 101 = .ok (.invokevirtual 210, 3) := by decide +kernel
theorem dX7_reach_104 : decode cX7_reach 104 = .ok (.ifCond .ne 5, 3) := by decide +kernel
theorem dX7_reach_107 : decode cX7_reach 107 = .ok (.iconst 0, 1) := by decide +kernel
theorem dX7_reach_108 : decode cX7_reach 108 = .ok (.ireturn, 1) := by decide +kernel
theorem dX7_reach_109 : decode cX7_reach 109 = .ok (.aload_n 0, 1) := by decide +kernel
theorem dX7_reach_110 : decode cX7_reach 110 = .ok (.aload 4, 2) := by decide +kernel
theorem dX7_reach_112 : decode cX7_reach 112 = .ok (.getfield 106, 3) := by decide +kernel
theorem dX7_reach_115 : decode cX7_reach 115 = .ok (.invokevirtual 118, 3) := by decide +kernel
theorem dX7_reach_118 : decode cX7_reach 118 = .ok (.iconst 2, 1) := by decide +kernel
theorem dX7_reach_119 : decode cX7_reach 119 = .ok (.ireturn, 1) := by decide +kernel
theorem dX7_twice_0 : decode cX7_twice 0 = .ok (.iload_n 1, 1) := by decide +kernel
theorem dX7_twice_1 : decode cX7_twice 1 = .ok (.invokestatic 21, 3) := by decide +kernel
theorem dX7_twice_4 : decode cX7_twice 4 = .ok (.ifCond .ne 5, 3) := by decide +kernel
theorem dX7_twice_7 : decode cX7_twice 7 = .ok (.iconst (-1), 1) := by decide +kernel
theorem dX7_twice_8 : decode cX7_twice 8 = .ok (.ireturn, 1) := by decide +kernel
theorem dX7_twice_9 : decode cX7_twice 9 = .ok (.iconst 0, 1) := by decide +kernel
theorem dX7_twice_10 : decode cX7_twice 10 = .ok (.istore_n 2, 1) := by decide +kernel
theorem dX7_twice_11 : decode cX7_twice 11 = .ok (.iconst 0, 1) := by decide +kernel
theorem dX7_twice_12 : decode cX7_twice 12 = .ok (.istore_n 3, 1) := by decide +kernel
theorem dX7_twice_13 : decode cX7_twice 13 = .ok (.iload_n 3, 1) := by decide +kernel
theorem dX7_twice_14 : decode cX7_twice 14 = .ok (.aload_n 0, 1) := by decide +kernel
theorem dX7_twice_15 : decode cX7_twice 15 = .ok (.getfield 103, 3) := by decide +kernel
theorem dX7_twice_18 : decode cX7_twice 18 = .ok (.if_icmp .ge 83, 3) := by decide +kernel
theorem dX7_twice_21 : decode cX7_twice 21 = .ok (.aload_n 0, 1) := by decide +kernel
theorem dX7_twice_22 : decode cX7_twice 22 = .ok (.aload_n 0, 1) := by decide +kernel
theorem dX7_twice_23 : decode cX7_twice 23 = .ok (.getfield 17, 3) := by decide +kernel
theorem dX7_twice_26 : decode cX7_twice 26 = .ok (.iload_n 3, 1) := by decide +kernel
theorem dX7_twice_27 : decode cX7_twice 27 = .ok (.aaload, 1) := by decide +kernel
theorem dX7_twice_28 : decode cX7_twice 28 = .ok (.iload_n 1, 1) := by decide +kernel
theorem dX7_twice_29 : decode cX7_twice 29 = .ok (.invokevirtual 222, 3) := by decide +kernel
theorem dX7_twice_32 : decode cX7_twice 32 = .ok (.ifCond .eq 63, 3) := by decide +kernel
theorem dX7_twice_35 : decode cX7_twice 35 = .ok (.iload_n 3, 1) := by decide +kernel
theorem dX7_twice_36 : decode cX7_twice 36 = .ok (.iconst 1, 1) := by decide +kernel
theorem dX7_twice_37 : decode cX7_twice 37 = .ok (.iadd, 1) := by decide +kernel
theorem dX7_twice_38 : decode cX7_twice 38 = .ok (.istore 4, 2) := by decide +kernel
theorem dX7_twice_40 : decode cX7_twice 40 = .ok (.iload 4, 2) := by decide +kernel
theorem dX7_twice_42 : decode cX7_twice 42 = .ok (.aload_n 0, 1) := by decide +kernel
theorem dX7_twice_43 : decode cX7_twice 43 = .ok (.getfield 103, 3) := by decide +kernel
theorem dX7_twice_46 : decode cX7_twice 46 = .ok (.if_icmp .ge 49, 3) := by decide +kernel
theorem dX7_twice_49 : decode cX7_twice 49 = .ok (.aload_n 0, 1) := by decide +kernel
theorem dX7_twice_50 : decode cX7_twice 50 = .ok (.getfield 17, 3) := by decide +kernel
theorem dX7_twice_53 : decode cX7_twice 53 = .ok (.iload_n 3, 1) := by decide +kernel
theorem dX7_twice_54 : decode cX7_twice 54 = .ok (.aaload, 1) := by decide +kernel
theorem dX7_twice_55 : decode cX7_twice 55 = .ok (.getfield 201, 3) := by decide +kernel
theorem dX7_twice_58 : decode cX7_twice 58 = .ok (.aload_n 0, 1) := by decide +kernel
theorem dX7_twice_59 : decode cX7_twice 59 = .ok (.getfield 17, 3) := by decide +kernel
theorem dX7_twice_62 : decode cX7_twice 62 = .ok (.iload 4, 2) := by decide +kernel
theorem dX7_twice_64 : decode cX7_twice 64 = .ok (.aaload, 1) := by decide +kernel
theorem dX7_twice_65 : decode cX7_twice 65 = .ok (.getfield 201, 3) := by decide +kernel
theorem dX7_twice_68 : decode cX7_twice 68 = .ok (.if_icmp .ne 21, 3) := by decide +kernel
theorem dX7_twice_71 : decode cX7_twice 71 = .ok (.aload_n 0, 1) := by decide +kernel
theorem dX7_twice_72 : decode cX7_twice 72 = .ok (.aload_n 0, 1) := by decide +kernel
theorem dX7_twice_73 : decode cX7_twice 73 = .ok (.getfield 17, 3) := by decide +kernel
theorem dX7_twice_76 : decode cX7_twice 76 = .ok (.iload 4, 2) := by decide +kernel
theorem dX7_twice_78 : decode cX7_twice 78 = .ok (.aaload, 1) := by decide +kernel
theorem dX7_twice_79 : decode cX7_twice 79 = .ok (.iload_n 1, 1) := by decide +kernel
theorem dX7_twice_80 : decode cX7_twice 80 = .ok (.invokevirtual 222, 3) := by decide +kernel
theorem dX7_twice_83 : decode cX7_twice 83 = .ok (.ifCond .eq 6, 3) := by decide +kernel
theorem dX7_twice_86 : decode cX7_twice 86 = .ok (.iinc 2 1, 3) := by decide +kernel
theorem dX7_twice_89 : decode cX7_twice 89 = .ok (.iinc 4 1, 3) := by decide +kernel
theorem dX7_twice_92 : decode cX7_twice 92 = .ok (.goto (-52), 3) := by decide +kernel
theorem dX7_twice_95 : decode cX7_twice 95 = .ok (.iinc 3 1, 3) := by decide +kernel
theorem dX7_twice_98 : decode cX7_twice 98 = .ok (.goto (-85), 3) := by decide +kernel
theorem dX7_twice_101 : decode cX7_twice 101 = .ok (.iload_n 2, 1) := by decide +kernel
theorem dX7_twice_102 : decode cX7_twice 102 = .ok (.ireturn, 1) := by decide +kernel
theorem dX7_count_0 : decode cX7_count 0 = .ok (.iload_n 1, 1) := by decide +kernel
theorem dX7_count_1 : decode cX7_count 1 = .ok (.tableswitch 114 0 10 #[59, 64, 69, 74, 79, 84, 89, 94, 99, 104, 109], 59) := by decide +kernel
theorem dX7_count_60 : decode cX7_count 60 = .ok (.aload_n 0, 1) := by decide +kernel
theorem dX7_count_61 : decode cX7_count 61 = .ok (.getfield 62, 3) := by decide +kernel
theorem dX7_count_64 : decode cX7_count 64 = .ok (.ireturn, 1) := by decide +kernel
theorem dX7_count_65 : decode cX7_count 65 = .ok (.aload_n 0, 1) := by decide +kernel
theorem dX7_count_66 : decode cX7_count 66 = .ok (.getfield 25, 3) := by decide +kernel
theorem dX7_count_69 : decode cX7_count 69 = .ok (.ireturn, 1) := by decide +kernel
theorem dX7_count_70 : decode cX7_count 70 = .ok (.aload_n 0, 1) := by decide +kernel
theorem dX7_count_71 : decode cX7_count 71 = .ok (.getfield 103, 3) := by decide +kernel
theorem dX7_count_74 : decode cX7_count 74 = .ok (.ireturn, 1) := by decide +kernel
theorem dX7_count_75 : decode cX7_count 75 = .ok (.aload_n 0, 1) := by decide +kernel
theorem dX7_count_76 : decode cX7_count 76 = .ok (.getfield 226, 3) := by decide +kernel
theorem dX7_count_79 : decode cX7_count 79 = .ok (.ireturn, 1) := by decide +kernel
theorem dX7_count_80 : decode cX7_count 80 = .ok (.aload_n 0, 1) := by decide +kernel
theorem dX7_count_81 : decode cX7_count 81 = .ok (.getfield 229, 3) := by decide +kernel
theorem dX7_count_84 : decode cX7_count 84 = .ok (.ireturn, 1) := by decide +kernel
theorem dX7_count_85 : decode cX7_count 85 = .ok (.aload_n 0, 1) := by decide +kernel
theorem dX7_count_86 : decode cX7_count 86 = .ok (.getfield 232, 3) := by decide +kernel
theorem dX7_count_89 : decode cX7_count 89 = .ok (.ireturn, 1) := by decide +kernel
theorem dX7_count_90 : decode cX7_count 90 = .ok (.aload_n 0, 1) := by decide +kernel
theorem dX7_count_91 : decode cX7_count 91 = .ok (.getfield 235, 3) := by decide +kernel
theorem dX7_count_94 : decode cX7_count 94 = .ok (.ireturn, 1) := by decide +kernel
theorem dX7_count_95 : decode cX7_count 95 = .ok (.aload_n 0, 1) := by decide +kernel
theorem dX7_count_96 : decode cX7_count 96 = .ok (.getfield 238, 3) := by decide +kernel
theorem dX7_count_99 : decode cX7_count 99 = .ok (.ireturn, 1) := by decide +kernel
theorem dX7_count_100 : decode cX7_count 100 = .ok (.aload_n 0, 1) := by decide +kernel
theorem dX7_count_101 : decode cX7_count 101 = .ok (.getfield 241, 3) := by decide +kernel
theorem dX7_count_104 : decode cX7_count 104 = .ok (.ireturn, 1) := by decide +kernel
theorem dX7_count_105 : decode cX7_count 105 = .ok (.aload_n 0, 1) := by decide +kernel
theorem dX7_count_106 : decode cX7_count 106 = .ok (.getfield 244, 3) := by decide +kernel
theorem dX7_count_109 : decode cX7_count 109 = .ok (.ireturn, 1) := by decide +kernel
theorem dX7_count_110 : decode cX7_count 110 = .ok (.aload_n 0, 1) := by decide +kernel
theorem dX7_count_111 : decode cX7_count 111 = .ok (.getfield 247, 3) := by decide +kernel
theorem dX7_count_114 : decode cX7_count 114 = .ok (.ireturn, 1) := by decide +kernel
theorem dX7_count_115 : decode cX7_count 115 = .ok (.iconst (-1), 1) := by decide +kernel
theorem dX7_count_116 : decode cX7_count 116 = .ok (.ireturn, 1) := by decide +kernel
theorem dX7_isNet_0 : decode cX7_isNet 0 = .ok (.iload_n 0, 1) := by decide +kernel
theorem dX7_isNet_1 : decode cX7_isNet 1 = .ok (.ifCond .lt 12, 3) := by decide +kernel
theorem dX7_isNet_4 : decode cX7_isNet 4 = .ok (.iload_n 0, 1) := by decide +kernel
theorem dX7_isNet_5 : decode cX7_isNet 5 = .ok (.iconst 4, 1) := by decide +kernel
theorem dX7_isNet_6 : decode cX7_isNet 6 = .ok (.if_icmp .ge 7, 3) := by decide +kernel
theorem dX7_isNet_9 : decode cX7_isNet 9 = .ok (.iconst 1, 1) := by decide +kernel
theorem dX7_isNet_10 : decode cX7_isNet 10 = .ok (.goto 4, 3) := by decide +kernel
theorem dX7_isNet_13 : decode cX7_isNet 13 = .ok (.iconst 0, 1) := by decide +kernel
theorem dX7_isNet_14 : decode cX7_isNet 14 = .ok (.ireturn, 1) := by decide +kernel
theorem dX7_isKind_0 : decode cX7_isKind 0 = .ok (.iload_n 0, 1) := by decide +kernel
theorem dX7_isKind_1 : decode cX7_isKind 1 = .ok (.ifCond .lt 13, 3) := by decide +kernel
theorem dX7_isKind_4 : decode cX7_isKind 4 = .ok (.iload_n 0, 1) := by decide +kernel
theorem dX7_isKind_5 : decode cX7_isKind 5 = .ok (.bipush 16, 2) := by decide +kernel
theorem dX7_isKind_7 : decode cX7_isKind 7 = .ok (.if_icmp .ge 7, 3) := by decide +kernel
theorem dX7_isKind_10 : decode cX7_isKind 10 = .ok (.iconst 1, 1) := by decide +kernel
theorem dX7_isKind_11 : decode cX7_isKind 11 = .ok (.goto 4, 3) := by decide +kernel
theorem dX7_isKind_14 : decode cX7_isKind 14 = .ok (.iconst 0, 1) := by decide +kernel
theorem dX7_isKind_15 : decode cX7_isKind 15 = .ok (.ireturn, 1) := by decide +kernel
theorem dX7_areMarks_0 : decode cX7_areMarks 0 = .ok (.iload_n 0, 1) := by decide +kernel
theorem dX7_areMarks_1 : decode cX7_areMarks 1 = .ok (.ifCond .lt 14, 3) := by decide +kernel
theorem dX7_areMarks_4 : decode cX7_areMarks 4 = .ok (.iload_n 0, 1) := by decide +kernel
theorem dX7_areMarks_5 : decode cX7_areMarks 5 = .ok (.sipush 255, 3) := by decide +kernel
theorem dX7_areMarks_8 : decode cX7_areMarks 8 = .ok (.if_icmp .gt 7, 3) := by decide +kernel
theorem dX7_areMarks_11 : decode cX7_areMarks 11 = .ok (.iconst 1, 1) := by decide +kernel
theorem dX7_areMarks_12 : decode cX7_areMarks 12 = .ok (.goto 4, 3) := by decide +kernel
theorem dX7_areMarks_15 : decode cX7_areMarks 15 = .ok (.iconst 0, 1) := by decide +kernel
theorem dX7_areMarks_16 : decode cX7_areMarks 16 = .ok (.ireturn, 1) := by decide +kernel
theorem dX7_hostAt_0 : decode cX7_hostAt 0 = .ok (.iload_n 1, 1) := by decide +kernel
theorem dX7_hostAt_1 : decode cX7_hostAt 1 = .ok (.ifCond .lt 20, 3) := by decide +kernel
theorem dX7_hostAt_4 : decode cX7_hostAt 4 = .ok (.iload_n 1, 1) := by decide +kernel
theorem dX7_hostAt_5 : decode cX7_hostAt 5 = .ok (.aload_n 0, 1) := by decide +kernel
theorem dX7_hostAt_6 : decode cX7_hostAt 6 = .ok (.getfield 25, 3) := by decide +kernel
theorem dX7_hostAt_9 : decode cX7_hostAt 9 = .ok (.if_icmp .ge 12, 3) := by decide +kernel
theorem dX7_hostAt_12 : decode cX7_hostAt 12 = .ok (.aload_n 0, 1) := by decide +kernel
theorem dX7_hostAt_13 : decode cX7_hostAt 13 = .ok (.getfield 11, 3) := by decide +kernel
theorem dX7_hostAt_16 : decode cX7_hostAt 16 = .ok (.iload_n 1, 1) := by decide +kernel
theorem dX7_hostAt_17 : decode cX7_hostAt 17 = .ok (.aaload, 1) := by decide +kernel
theorem dX7_hostAt_18 : decode cX7_hostAt 18 = .ok (.goto 4, 3) := by decide +kernel
theorem dX7_hostAt_21 : decode cX7_hostAt 21 = .ok (.aconst_null, 1) := by decide +kernel
theorem dX7_hostAt_22 : decode cX7_hostAt 22 = .ok (.areturn, 1) := by decide +kernel
theorem dX7_stayingHost_0 : decode cX7_stayingHost 0 = .ok (.aload_n 0, 1) := by decide +kernel
theorem dX7_stayingHost_1 : decode cX7_stayingHost 1 = .ok (.iload_n 1, 1) := by decide +kernel
theorem dX7_stayingHost_2 : decode cX7_stayingHost 2 = .ok (.invokevirtual 100, 3) := by decide +kernel
theorem dX7_stayingHost_5 : decode cX7_stayingHost 5 = .ok (.astore_n 2, 1) := by decide +kernel
theorem dX7_stayingHost_6 : decode cX7_stayingHost 6 = .ok (.aload_n 2, 1) := by decide +kernel
theorem dX7_stayingHost_7 : decode cX7_stayingHost 7 = .ok (.ifnull 15, 3) := by decide +kernel
theorem dX7_stayingHost_10 : decode cX7_stayingHost 10 = .ok (.aload_n 2, 1) := by decide +kernel
theorem dX7_stayingHost_11 : decode cX7_stayingHost 11 = .ok (.getfield 95, 3) := by decide +kernel
theorem dX7_stayingHost_14 : decode cX7_stayingHost 14 = .ok (.iconst 2, 1) := by decide +kernel
theorem dX7_stayingHost_15 : decode cX7_stayingHost 15 = .ok (.if_icmp .ne 7, 3) := by decide +kernel
theorem dX7_stayingHost_18 : decode cX7_stayingHost 18 = .ok (.aload_n 2, 1) := by decide +kernel
theorem dX7_stayingHost_19 : decode cX7_stayingHost 19 = .ok (.goto 4, 3) := by decide +kernel
theorem dX7_stayingHost_22 : decode cX7_stayingHost 22 = .ok (.aconst_null, 1) := by decide +kernel
theorem dX7_stayingHost_23 : decode cX7_stayingHost 23 = .ok (.areturn, 1) := by decide +kernel
theorem dX7_stayingHelper_0 : decode cX7_stayingHelper 0 = .ok (.aload_n 0, 1) := by decide +kernel
theorem dX7_stayingHelper_1 : decode cX7_stayingHelper 1 = .ok (.iload_n 1, 1) := by decide +kernel
theorem dX7_stayingHelper_2 : decode cX7_stayingHelper 2 = .ok (.invokevirtual 115, 3) := by decide +kernel
theorem dX7_stayingHelper_5 : decode cX7_stayingHelper 5 = .ok (.astore_n 2, 1) := by decide +kernel
theorem dX7_stayingHelper_6 : decode cX7_stayingHelper 6 = .ok (.aload_n 2, 1) := by decide +kernel
theorem dX7_stayingHelper_7 : decode cX7_stayingHelper 7 = .ok (.ifnull 14, 3) := by decide +kernel
theorem dX7_stayingHelper_10 : decode cX7_stayingHelper 10 = .ok (.aload_n 2, 1) := by decide +kernel
theorem dX7_stayingHelper_11 : decode cX7_stayingHelper 11 = .ok (.getfield 155, 3) := by decide +kernel
theorem dX7_stayingHelper_14 : decode cX7_stayingHelper 14 = .ok (.ifnonnull 7, 3) := by decide +kernel
theorem dX7_stayingHelper_17 : decode cX7_stayingHelper 17 = .ok (.aload_n 2, 1) := by decide +kernel
theorem dX7_stayingHelper_18 : decode cX7_stayingHelper 18 = .ok (.goto 4, 3) := by decide +kernel
theorem dX7_stayingHelper_21 : decode cX7_stayingHelper 21 = .ok (.aconst_null, 1) := by decide +kernel
theorem dX7_stayingHelper_22 : decode cX7_stayingHelper 22 = .ok (.areturn, 1) := by decide +kernel
theorem dX7_serviceAt_0 : decode cX7_serviceAt 0 = .ok (.iload_n 1, 1) := by decide +kernel
theorem dX7_serviceAt_1 : decode cX7_serviceAt 1 = .ok (.ifCond .lt 20, 3) := by decide +kernel
theorem dX7_serviceAt_4 : decode cX7_serviceAt 4 = .ok (.iload_n 1, 1) := by decide +kernel
theorem dX7_serviceAt_5 : decode cX7_serviceAt 5 = .ok (.aload_n 0, 1) := by decide +kernel
theorem dX7_serviceAt_6 : decode cX7_serviceAt 6 = .ok (.getfield 103, 3) := by decide +kernel
theorem dX7_serviceAt_9 : decode cX7_serviceAt 9 = .ok (.if_icmp .ge 12, 3) := by decide +kernel
theorem dX7_serviceAt_12 : decode cX7_serviceAt 12 = .ok (.aload_n 0, 1) := by decide +kernel
theorem dX7_serviceAt_13 : decode cX7_serviceAt 13 = .ok (.getfield 17, 3) := by decide +kernel
theorem dX7_serviceAt_16 : decode cX7_serviceAt 16 = .ok (.iload_n 1, 1) := by decide +kernel
theorem dX7_serviceAt_17 : decode cX7_serviceAt 17 = .ok (.aaload, 1) := by decide +kernel
theorem dX7_serviceAt_18 : decode cX7_serviceAt 18 = .ok (.goto 4, 3) := by decide +kernel
theorem dX7_serviceAt_21 : decode cX7_serviceAt 21 = .ok (.aconst_null, 1) := by decide +kernel
theorem dX7_serviceAt_22 : decode cX7_serviceAt 22 = .ok (.areturn, 1) := by decide +kernel
theorem dX7_serviceInCare_0 : decode cX7_serviceInCare 0 = .ok (.aload_n 0, 1) := by decide +kernel
theorem dX7_serviceInCare_1 : decode cX7_serviceInCare 1 = .ok (.iload_n 1, 1) := by decide +kernel
theorem dX7_serviceInCare_2 : decode cX7_serviceInCare 2 = .ok (.invokevirtual 188, 3) := by decide +kernel
theorem dX7_serviceInCare_5 : decode cX7_serviceInCare 5 = .ok (.astore_n 2, 1) := by decide +kernel
theorem dX7_serviceInCare_6 : decode cX7_serviceInCare 6 = .ok (.aload_n 2, 1) := by decide +kernel
theorem dX7_serviceInCare_7 : decode cX7_serviceInCare 7 = .ok (.ifnull 21, 3) := by decide +kernel
theorem dX7_serviceInCare_10 : decode cX7_serviceInCare 10 = .ok (.aload_n 2, 1) := by decide +kernel
theorem dX7_serviceInCare_11 : decode cX7_serviceInCare 11 = .ok (.getfield 59, 3) := by decide +kernel
theorem dX7_serviceInCare_14 : decode cX7_serviceInCare 14 = .ok (.ifCond .eq 14, 3) := by decide +kernel
theorem dX7_serviceInCare_17 : decode cX7_serviceInCare 17 = .ok (.aload_n 2, 1) := by decide +kernel
theorem dX7_serviceInCare_18 : decode cX7_serviceInCare 18 = .ok (.getfield 106, 3) := by decide +kernel
theorem dX7_serviceInCare_21 : decode cX7_serviceInCare 21 = .ok (.getfield 95, 3) := by decide +kernel
theorem dX7_serviceInCare_24 : decode cX7_serviceInCare 24 = .ok (.iconst 2, 1) := by decide +kernel
theorem dX7_serviceInCare_25 : decode cX7_serviceInCare 25 = .ok (.if_icmp .eq 5, 3) := by decide +kernel
theorem dX7_serviceInCare_28 : decode cX7_serviceInCare 28 = .ok (.aconst_null, 1) := by decide +kernel
theorem dX7_serviceInCare_29 : decode cX7_serviceInCare 29 = .ok (.areturn, 1) := by decide +kernel
theorem dX7_serviceInCare_30 : decode cX7_serviceInCare 30 = .ok (.aload_n 2, 1) := by decide +kernel
theorem dX7_serviceInCare_31 : decode cX7_serviceInCare 31 = .ok (.areturn, 1) := by decide +kernel
theorem dX7_addService_0 : decode cX7_addService 0 = .ok (.iload 5, 2) := by decide +kernel
theorem dX7_addService_2 : decode cX7_addService 2 = .ok (.iconst 4, 1) := by decide +kernel
theorem dX7_addService_3 : decode cX7_addService 3 = .ok (.if_icmp .lt 15, 3) := by decide +kernel
theorem dX7_addService_6 : decode cX7_addService 6 = .ok (.iload 5, 2) := by decide +kernel
theorem dX7_addService_8 : decode cX7_addService 8 = .ok (.sipush 200, 3) := by decide +kernel
theorem dX7_addService_11 : decode cX7_addService 11 = .ok (.if_icmp .gt 7, 3) := by decide +kernel
theorem dX7_addService_14 : decode cX7_addService 14 = .ok (.iconst 1, 1) := by decide +kernel
theorem dX7_addService_15 : decode cX7_addService 15 = .ok (.goto 4, 3) := by decide +kernel
theorem dX7_addService_18 : decode cX7_addService 18 = .ok (.iconst 0, 1) := by decide +kernel
theorem dX7_addService_19 : decode cX7_addService 19 = .ok (.istore 7, 2) := by decide +kernel
theorem dX7_addService_21 : decode cX7_addService 21 = .ok (.iload_n 2, 1) := by decide +kernel
theorem dX7_addService_22 : decode cX7_addService 22 = .ok (.invokestatic 68, 3) := by decide +kernel
theorem dX7_addService_25 : decode cX7_addService 25 = .ok (.ifCond .eq 25, 3) := by decide +kernel
theorem dX7_addService_28 : decode cX7_addService 28 = .ok (.iload 4, 2) := by decide +kernel
theorem dX7_addService_30 : decode cX7_addService 30 = .ok (.invokestatic 53, 3) := by decide +kernel
theorem dX7_addService_33 : decode cX7_addService 33 = .ok (.ifCond .eq 17, 3) := by decide +kernel
theorem dX7_addService_36 : decode cX7_addService 36 = .ok (.iload 7, 2) := by decide +kernel
theorem dX7_addService_38 : decode cX7_addService 38 = .ok (.ifCond .eq 12, 3) := by decide +kernel
theorem dX7_addService_41 : decode cX7_addService 41 = .ok (.aload_n 0, 1) := by decide +kernel
theorem dX7_addService_42 : decode cX7_addService 42 = .ok (.getfield 103, 3) := by decide +kernel
theorem dX7_addService_45 : decode cX7_addService 45 = .ok (.bipush 32, 2) := by decide +kernel
theorem dX7_addService_47 : decode cX7_addService 47 = .ok (.if_icmp .lt 5, 3) := by decide +kernel
theorem dX7_addService_50 : decode cX7_addService 50 = .ok (.iconst (-1), 1) := by decide +kernel
theorem dX7_addService_51 : decode cX7_addService 51 = .ok (.ireturn, 1) := by decide +kernel
theorem dX7_addService_52 : decode cX7_addService 52 = .ok (.aload_n 0, 1) := by decide +kernel
theorem dX7_addService_53 : decode cX7_addService 53 = .ok (.aload_n 1, 1) := by decide +kernel
theorem dX7_addService_54 : decode cX7_addService 54 = .ok (.invokevirtual 250, 3) := by decide +kernel
theorem dX7_addService_57 : decode cX7_addService 57 = .ok (.iconst 4, 1) := by decide +kernel
theorem dX7_addService_58 : decode cX7_addService 58 = .ok (.if_icmp .ge 12, 3) := by decide +kernel
theorem dX7_addService_61 : decode cX7_addService 61 = .ok (.aload_n 0, 1) := by decide +kernel
theorem dX7_addService_62 : decode cX7_addService 62 = .ok (.aload_n 1, 1) := by decide +kernel
theorem dX7_addService_63 : decode cX7_addService 63 = .ok (.iload_n 3, 1) := by decide +kernel
theorem dX7_addService_64 : decode cX7_addService 64 = .ok (.invokevirtual 253, 3) := by decide +kernel
theorem dX7_addService_67 : decode cX7_addService 67 = .ok (.ifCond .eq 5, 3) := by decide +kernel
theorem dX7_addService_70 : decode cX7_addService 70 = .ok (.iconst (-1), 1) := by decide +kernel
theorem dX7_addService_71 : decode cX7_addService 71 = .ok (.ireturn, 1) := by decide +kernel
theorem dX7_addService_72 : decode cX7_addService 72 = .ok (.new 15, 3) := by decide +kernel
theorem dX7_addService_75 : decode cX7_addService 75 = .ok (.dup, 1) := by decide +kernel
theorem dX7_addService_76 : decode cX7_addService 76 = .ok (.aload_n 0, 1) := by decide +kernel
theorem dX7_addService_77 : decode cX7_addService 77 = .ok (.getfield 103, 3) := by decide +kernel
theorem dX7_addService_80 : decode cX7_addService 80 = .ok (.aload_n 1, 1) := by decide +kernel
theorem dX7_addService_81 : decode cX7_addService 81 = .ok (.iload_n 2, 1) := by decide +kernel
theorem dX7_addService_82 : decode cX7_addService 82 = .ok (.iload_n 3, 1) := by decide +kernel
theorem dX7_addService_83 : decode cX7_addService 83 = .ok (.iload 4, 2) := by decide +kernel
theorem dX7_addService_85 : decode cX7_addService 85 = .ok (.iload 5, 2) := by decide +kernel
theorem dX7_addService_87 : decode cX7_addService 87 = .ok (.iload 6, 2) := by decide +kernel
theorem dX7_addService_89 : decode cX7_addService 89 = .ok (.invokespecial 257, 3) := by decide +kernel
theorem dX7_addService_92 : decode cX7_addService 92 = .ok (.astore 8, 2) := by decide +kernel
theorem dX7_addService_94 : decode cX7_addService 94 = .ok (.iload 6, 2) := by decide +kernel
theorem dX7_addService_96 : decode cX7_addService 96 = .ok (.ifCond .eq 12, 3) := by decide +kernel
theorem dX7_addService_99 : decode cX7_addService 99 = .ok (.aload 8, 2) := by decide +kernel
theorem dX7_addService_101 : decode cX7_addService 101 = .ok (.aload_n 0, 1) := by decide +kernel
theorem dX7_addService_102 : decode cX7_addService 102 = .ok (.getfield 62, 3) := by decide +kernel
theorem dX7_addService_105 : decode cX7_addService 105 = .ok (.invokevirtual 260, 3) := by decide +kernel
theorem dX7_addService_108 : decode cX7_addService 108 = .ok (.aload_n 0, 1) := by decide +kernel
theorem dX7_addService_109 : decode cX7_addService 109 = .ok (.getfield 17, 3) := by decide +kernel
theorem dX7_addService_112 : decode cX7_addService 112 = .ok (.aload_n 0, 1) := by decide +kernel
theorem dX7_addService_113 : decode cX7_addService 113 = .ok (.getfield 103, 3) := by decide +kernel
theorem dX7_addService_116 : decode cX7_addService 116 = .ok (.aload 8, 2) := by decide +kernel
theorem dX7_addService_118 : decode cX7_addService 118 = .ok (.aastore, 1) := by decide +kernel
theorem dX7_addService_119 : decode cX7_addService 119 = .ok (.aload_n 0, 1) := by decide +kernel
theorem dX7_addService_120 : decode cX7_addService 120 = .ok (.dup, 1) := by decide +kernel
theorem dX7_addService_121 : decode cX7_addService 121 = .ok (.getfield 103, 3) := by decide +kernel
theorem dX7_addService_124 : decode cX7_addService 124 = .ok (.iconst 1, 1) := by decide +kernel
theorem dX7_addService_125 : decode cX7_addService 125 = .ok (.iadd, 1) := by decide +kernel
theorem dX7_addService_126 : decode cX7_addService 126 = .ok (.putfield 103, 3) := by decide +kernel
theorem dX7_addService_129 : decode cX7_addService 129 = .ok (.aload 8, 2) := by decide +kernel
theorem dX7_addService_131 : decode cX7_addService 131 = .ok (.getfield 264, 3) := by decide +kernel
theorem dX7_addService_134 : decode cX7_addService 134 = .ok (.ireturn, 1) := by decide +kernel
theorem dX7_liveServicesOf_0 : decode cX7_liveServicesOf 0 = .ok (.iconst 0, 1) := by decide +kernel
theorem dX7_liveServicesOf_1 : decode cX7_liveServicesOf 1 = .ok (.istore_n 2, 1) := by decide +kernel
theorem dX7_liveServicesOf_2 : decode cX7_liveServicesOf 2 = .ok (.iconst 0, 1) := by decide +kernel
theorem dX7_liveServicesOf_3 : decode cX7_liveServicesOf 3 = .ok (.istore_n 3, 1) := by decide +kernel
theorem dX7_liveServicesOf_4 : decode cX7_liveServicesOf 4 = .ok (.iload_n 3, 1) := by decide +kernel
theorem dX7_liveServicesOf_5 : decode cX7_liveServicesOf 5 = .ok (.aload_n 0, 1) := by decide +kernel
theorem dX7_liveServicesOf_6 : decode cX7_liveServicesOf 6 = .ok (.getfield 103, 3) := by decide +kernel
theorem dX7_liveServicesOf_9 : decode cX7_liveServicesOf 9 = .ok (.if_icmp .ge 37, 3) := by decide +kernel
theorem dX7_liveServicesOf_12 : decode cX7_liveServicesOf 12 = .ok (.aload_n 0, 1) := by decide +kernel
theorem dX7_liveServicesOf_13 : decode cX7_liveServicesOf 13 = .ok (.getfield 17, 3) := by decide +kernel
theorem dX7_liveServicesOf_16 : decode cX7_liveServicesOf 16 = .ok (.iload_n 3, 1) := by decide +kernel
theorem dX7_liveServicesOf_17 : decode cX7_liveServicesOf 17 = .ok (.aaload, 1) := by decide +kernel
theorem dX7_liveServicesOf_18 : decode cX7_liveServicesOf 18 = .ok (.getfield 106, 3) := by decide +kernel
theorem dX7_liveServicesOf_21 : decode cX7_liveServicesOf 21 = .ok (.aload_n 1, 1) := by decide +kernel
theorem dX7_liveServicesOf_22 : decode cX7_liveServicesOf 22 = .ok (.if_acmp .ne 18, 3) := by decide +kernel
theorem dX7_liveServicesOf_25 : decode cX7_liveServicesOf 25 = .ok (.aload_n 0, 1) := by decide +kernel
theorem dX7_liveServicesOf_26 : decode cX7_liveServicesOf 26 = .ok (.getfield 17, 3) := by decide +kernel
theorem dX7_liveServicesOf_29 : decode cX7_liveServicesOf 29 = .ok (.iload_n 3, 1) := by decide +kernel
theorem dX7_liveServicesOf_30 : decode cX7_liveServicesOf 30 = .ok (.aaload, 1) := by decide +kernel
theorem dX7_liveServicesOf_31 : decode cX7_liveServicesOf 31 = .ok (.getfield 59, 3) := by decide +kernel
theorem dX7_liveServicesOf_34 : decode cX7_liveServicesOf 34 = .ok (.ifCond .eq 6, 3) := by decide +kernel
theorem dX7_liveServicesOf_37 : decode cX7_liveServicesOf 37 = .ok (.iinc 2 1, 3) := by decide +kernel
theorem dX7_liveServicesOf_40 : decode cX7_liveServicesOf 40 = .ok (.iinc 3 1, 3) := by decide +kernel
theorem dX7_liveServicesOf_43 : decode cX7_liveServicesOf 43 = .ok (.goto (-39), 3) := by decide +kernel
theorem dX7_liveServicesOf_46 : decode cX7_liveServicesOf 46 = .ok (.iload_n 2, 1) := by decide +kernel
theorem dX7_liveServicesOf_47 : decode cX7_liveServicesOf 47 = .ok (.ireturn, 1) := by decide +kernel
theorem dX7_isNameTaken_0 : decode cX7_isNameTaken 0 = .ok (.iconst 0, 1) := by decide +kernel
theorem dX7_isNameTaken_1 : decode cX7_isNameTaken 1 = .ok (.istore_n 3, 1) := by decide +kernel
theorem dX7_isNameTaken_2 : decode cX7_isNameTaken 2 = .ok (.iload_n 3, 1) := by decide +kernel
theorem dX7_isNameTaken_3 : decode cX7_isNameTaken 3 = .ok (.aload_n 0, 1) := by decide +kernel
theorem dX7_isNameTaken_4 : decode cX7_isNameTaken 4 = .ok (.getfield 103, 3) := by decide +kernel
theorem dX7_isNameTaken_7 : decode cX7_isNameTaken 7 = .ok (.if_icmp .ge 45, 3) := by decide +kernel
theorem dX7_isNameTaken_10 : decode cX7_isNameTaken 10 = .ok (.aload_n 0, 1) := by decide +kernel
theorem dX7_isNameTaken_11 : decode cX7_isNameTaken 11 = .ok (.getfield 17, 3) := by decide +kernel
theorem dX7_isNameTaken_14 : decode cX7_isNameTaken 14 = .ok (.iload_n 3, 1) := by decide +kernel
theorem dX7_isNameTaken_15 : decode cX7_isNameTaken 15 = .ok (.aaload, 1) := by decide +kernel
theorem dX7_isNameTaken_16 : decode cX7_isNameTaken 16 = .ok (.astore 4, 2) := by decide +kernel
theorem dX7_isNameTaken_18 : decode cX7_isNameTaken 18 = .ok (.aload 4, 2) := by decide +kernel
theorem dX7_isNameTaken_20 : decode cX7_isNameTaken 20 = .ok (.getfield 106, 3) := by decide +kernel
theorem dX7_isNameTaken_23 : decode cX7_isNameTaken 23 = .ok (.aload_n 1, 1) := by decide +kernel
theorem dX7_isNameTaken_24 : decode cX7_isNameTaken 24 = .ok (.if_acmp .ne 22, 3) := by decide +kernel
theorem dX7_isNameTaken_27 : decode cX7_isNameTaken 27 = .ok (.aload 4, 2) := by decide +kernel
theorem dX7_isNameTaken_29 : decode cX7_isNameTaken 29 = .ok (.getfield 201, 3) := by decide +kernel
theorem dX7_isNameTaken_32 : decode cX7_isNameTaken 32 = .ok (.iload_n 2, 1) := by decide +kernel
theorem dX7_isNameTaken_33 : decode cX7_isNameTaken 33 = .ok (.if_icmp .ne 13, 3) := by decide +kernel
theorem dX7_isNameTaken_36 : decode cX7_isNameTaken 36 = .ok (.aload 4, 2) := by decide +kernel
theorem dX7_isNameTaken_38 : decode cX7_isNameTaken 38 = .ok (.getfield 59, 3) := by decide +kernel
theorem dX7_isNameTaken_41 : decode cX7_isNameTaken 41 = .ok (.ifCond .eq 5, 3) := by decide +kernel
theorem dX7_isNameTaken_44 : decode cX7_isNameTaken 44 = .ok (.iconst 1, 1) := by decide +kernel
theorem dX7_isNameTaken_45 : decode cX7_isNameTaken 45 = .ok (.ireturn, 1) := by decide +kernel
theorem dX7_isNameTaken_46 : decode cX7_isNameTaken 46 = .ok (.iinc 3 1, 3) := by decide +kernel
theorem dX7_isNameTaken_49 : decode cX7_isNameTaken 49 = .ok (.goto (-47), 3) := by decide +kernel
theorem dX7_isNameTaken_52 : decode cX7_isNameTaken 52 = .ok (.iconst 0, 1) := by decide +kernel
theorem dX7_isNameTaken_53 : decode cX7_isNameTaken 53 = .ok (.ireturn, 1) := by decide +kernel
theorem dX7_hasHadServices_0 : decode cX7_hasHadServices 0 = .ok (.iconst 0, 1) := by decide +kernel
theorem dX7_hasHadServices_1 : decode cX7_hasHadServices 1 = .ok (.istore_n 2, 1) := by decide +kernel
theorem dX7_hasHadServices_2 : decode cX7_hasHadServices 2 = .ok (.iload_n 2, 1) := by decide +kernel
theorem dX7_hasHadServices_3 : decode cX7_hasHadServices 3 = .ok (.aload_n 0, 1) := by decide +kernel
theorem dX7_hasHadServices_4 : decode cX7_hasHadServices 4 = .ok (.getfield 103, 3) := by decide +kernel
theorem dX7_hasHadServices_7 : decode cX7_hasHadServices 7 = .ok (.if_icmp .ge 24, 3) := by decide +kernel
theorem dX7_hasHadServices_10 : decode cX7_hasHadServices 10 = .ok (.aload_n 0, 1) := by decide +kernel
theorem dX7_hasHadServices_11 : decode cX7_hasHadServices 11 = .ok (.getfield 17, 3) := by decide +kernel
theorem dX7_hasHadServices_14 : decode cX7_hasHadServices 14 = .ok (.iload_n 2, 1) := by decide +kernel
theorem dX7_hasHadServices_15 : decode cX7_hasHadServices 15 = .ok (.aaload, 1) := by decide +kernel
theorem dX7_hasHadServices_16 : decode cX7_hasHadServices 16 = .ok (.getfield 106, 3) := by decide +kernel
theorem dX7_hasHadServices_19 : decode cX7_hasHadServices 19 = .ok (.aload_n 1, 1) := by decide +kernel
theorem dX7_hasHadServices_20 : decode cX7_hasHadServices 20 = .ok (.if_acmp .ne 5, 3) := by decide +kernel
theorem dX7_hasHadServices_23 : decode cX7_hasHadServices 23 = .ok (.iconst 1, 1) := by decide +kernel
theorem dX7_hasHadServices_24 : decode cX7_hasHadServices 24 = .ok (.ireturn, 1) := by decide +kernel
theorem dX7_hasHadServices_25 : decode cX7_hasHadServices 25 = .ok (.iinc 2 1, 3) := by decide +kernel
theorem dX7_hasHadServices_28 : decode cX7_hasHadServices 28 = .ok (.goto (-26), 3) := by decide +kernel
theorem dX7_hasHadServices_31 : decode cX7_hasHadServices 31 = .ok (.iconst 0, 1) := by decide +kernel
theorem dX7_hasHadServices_32 : decode cX7_hasHadServices 32 = .ok (.ireturn, 1) := by decide +kernel
theorem dX7_isProxyOfASleeper_0 : decode cX7_isProxyOfASleeper 0 = .ok (.iconst 0, 1) := by decide +kernel
theorem dX7_isProxyOfASleeper_1 : decode cX7_isProxyOfASleeper 1 = .ok (.istore_n 2, 1) := by decide +kernel
theorem dX7_isProxyOfASleeper_2 : decode cX7_isProxyOfASleeper 2 = .ok (.iload_n 2, 1) := by decide +kernel
theorem dX7_isProxyOfASleeper_3 : decode cX7_isProxyOfASleeper 3 = .ok (.aload_n 0, 1) := by decide +kernel
theorem dX7_isProxyOfASleeper_4 : decode cX7_isProxyOfASleeper 4 = .ok (.getfield 25, 3) := by decide +kernel
theorem dX7_isProxyOfASleeper_7 : decode cX7_isProxyOfASleeper 7 = .ok (.if_icmp .ge 37, 3) := by decide +kernel
theorem dX7_isProxyOfASleeper_10 : decode cX7_isProxyOfASleeper 10 = .ok (.aload_n 0, 1) := by decide +kernel
theorem dX7_isProxyOfASleeper_11 : decode cX7_isProxyOfASleeper 11 = .ok (.getfield 11, 3) := by decide +kernel
theorem dX7_isProxyOfASleeper_14 : decode cX7_isProxyOfASleeper 14 = .ok (.iload_n 2, 1) := by decide +kernel
theorem dX7_isProxyOfASleeper_15 : decode cX7_isProxyOfASleeper 15 = .ok (.aaload, 1) := by decide +kernel
theorem dX7_isProxyOfASleeper_16 : decode cX7_isProxyOfASleeper 16 = .ok (.getfield 95, 3) := by decide +kernel
theorem dX7_isProxyOfASleeper_19 : decode cX7_isProxyOfASleeper 19 = .ok (.iconst 1, 1) := by decide +kernel
theorem dX7_isProxyOfASleeper_20 : decode cX7_isProxyOfASleeper 20 = .ok (.if_icmp .ne 18, 3) := by decide +kernel
theorem dX7_isProxyOfASleeper_23 : decode cX7_isProxyOfASleeper 23 = .ok (.aload_n 0, 1) := by decide +kernel
theorem dX7_isProxyOfASleeper_24 : decode cX7_isProxyOfASleeper 24 = .ok (.getfield 11, 3) := by decide +kernel
theorem dX7_isProxyOfASleeper_27 : decode cX7_isProxyOfASleeper 27 = .ok (.iload_n 2, 1) := by decide +kernel
theorem dX7_isProxyOfASleeper_28 : decode cX7_isProxyOfASleeper 28 = .ok (.aaload, 1) := by decide +kernel
theorem dX7_isProxyOfASleeper_29 : decode cX7_isProxyOfASleeper 29 = .ok (.getfield 96, 3) := by decide +kernel
theorem dX7_isProxyOfASleeper_32 : decode cX7_isProxyOfASleeper 32 = .ok (.aload_n 1, 1) := by decide +kernel
theorem dX7_isProxyOfASleeper_33 : decode cX7_isProxyOfASleeper 33 = .ok (.if_acmp .ne 5, 3) := by decide +kernel
theorem dX7_isProxyOfASleeper_36 : decode cX7_isProxyOfASleeper 36 = .ok (.iconst 1, 1) := by decide +kernel
theorem dX7_isProxyOfASleeper_37 : decode cX7_isProxyOfASleeper 37 = .ok (.ireturn, 1) := by decide +kernel
theorem dX7_isProxyOfASleeper_38 : decode cX7_isProxyOfASleeper 38 = .ok (.iinc 2 1, 3) := by decide +kernel
theorem dX7_isProxyOfASleeper_41 : decode cX7_isProxyOfASleeper 41 = .ok (.goto (-39), 3) := by decide +kernel
theorem dX7_isProxyOfASleeper_44 : decode cX7_isProxyOfASleeper 44 = .ok (.iconst 0, 1) := by decide +kernel
theorem dX7_isProxyOfASleeper_45 : decode cX7_isProxyOfASleeper 45 = .ok (.ireturn, 1) := by decide +kernel
theorem dX7_hasProxyAwake_0 : decode cX7_hasProxyAwake 0 = .ok (.aload_n 1, 1) := by decide +kernel
theorem dX7_hasProxyAwake_1 : decode cX7_hasProxyAwake 1 = .ok (.getfield 95, 3) := by decide +kernel
theorem dX7_hasProxyAwake_4 : decode cX7_hasProxyAwake 4 = .ok (.iconst 1, 1) := by decide +kernel
theorem dX7_hasProxyAwake_5 : decode cX7_hasProxyAwake 5 = .ok (.if_icmp .ne 25, 3) := by decide +kernel
theorem dX7_hasProxyAwake_8 : decode cX7_hasProxyAwake 8 = .ok (.aload_n 1, 1) := by decide +kernel
theorem dX7_hasProxyAwake_9 : decode cX7_hasProxyAwake 9 = .ok (.getfield 96, 3) := by decide +kernel
theorem dX7_hasProxyAwake_12 : decode cX7_hasProxyAwake 12 = .ok (.ifnull 18, 3) := by decide +kernel
theorem dX7_hasProxyAwake_15 : decode cX7_hasProxyAwake 15 = .ok (.aload_n 1, 1) := by decide +kernel
theorem dX7_hasProxyAwake_16 : decode cX7_hasProxyAwake 16 = .ok (.getfield 96, 3) := by decide +kernel
theorem dX7_hasProxyAwake_19 : decode cX7_hasProxyAwake 19 = .ok (.getfield 95, 3) := by decide +kernel
theorem dX7_hasProxyAwake_22 : decode cX7_hasProxyAwake 22 = .ok (.iconst 2, 1) := by decide +kernel
theorem dX7_hasProxyAwake_23 : decode cX7_hasProxyAwake 23 = .ok (.if_icmp .ne 7, 3) := by decide +kernel
theorem dX7_hasProxyAwake_26 : decode cX7_hasProxyAwake 26 = .ok (.iconst 1, 1) := by decide +kernel
theorem dX7_hasProxyAwake_27 : decode cX7_hasProxyAwake 27 = .ok (.goto 4, 3) := by decide +kernel
theorem dX7_hasProxyAwake_30 : decode cX7_hasProxyAwake 30 = .ok (.iconst 0, 1) := by decide +kernel
theorem dX7_hasProxyAwake_31 : decode cX7_hasProxyAwake 31 = .ok (.ireturn, 1) := by decide +kernel
theorem dX7_isSpokenForOn_0 : decode cX7_isSpokenForOn 0 = .ok (.aload_n 1, 1) := by decide +kernel
theorem dX7_isSpokenForOn_1 : decode cX7_isSpokenForOn 1 = .ok (.getfield 59, 3) := by decide +kernel
theorem dX7_isSpokenForOn_4 : decode cX7_isSpokenForOn 4 = .ok (.iconst 2, 1) := by decide +kernel
theorem dX7_isSpokenForOn_5 : decode cX7_isSpokenForOn 5 = .ok (.if_icmp .ne 10, 3) := by decide +kernel
theorem dX7_isSpokenForOn_8 : decode cX7_isSpokenForOn 8 = .ok (.aload_n 1, 1) := by decide +kernel
theorem dX7_isSpokenForOn_9 : decode cX7_isSpokenForOn 9 = .ok (.getfield 265, 3) := by decide +kernel
theorem dX7_isSpokenForOn_12 : decode cX7_isSpokenForOn 12 = .ok (.ifCond .eq 5, 3) := by decide +kernel
theorem dX7_isSpokenForOn_15 : decode cX7_isSpokenForOn 15 = .ok (.iconst 0, 1) := by decide +kernel
theorem dX7_isSpokenForOn_16 : decode cX7_isSpokenForOn 16 = .ok (.ireturn, 1) := by decide +kernel
theorem dX7_isSpokenForOn_17 : decode cX7_isSpokenForOn 17 = .ok (.aload_n 1, 1) := by decide +kernel
theorem dX7_isSpokenForOn_18 : decode cX7_isSpokenForOn 18 = .ok (.getfield 106, 3) := by decide +kernel
theorem dX7_isSpokenForOn_21 : decode cX7_isSpokenForOn 21 = .ok (.getfield 88, 3) := by decide +kernel
theorem dX7_isSpokenForOn_24 : decode cX7_isSpokenForOn 24 = .ok (.iload_n 2, 1) := by decide +kernel
theorem dX7_isSpokenForOn_25 : decode cX7_isSpokenForOn 25 = .ok (.if_icmp .ne 29, 3) := by decide +kernel
theorem dX7_isSpokenForOn_28 : decode cX7_isSpokenForOn 28 = .ok (.aload_n 1, 1) := by decide +kernel
theorem dX7_isSpokenForOn_29 : decode cX7_isSpokenForOn 29 = .ok (.getfield 106, 3) := by decide +kernel
theorem dX7_isSpokenForOn_32 : decode cX7_isSpokenForOn 32 = .ok (.getfield 95, 3) := by decide +kernel
theorem dX7_isSpokenForOn_35 : decode cX7_isSpokenForOn 35 = .ok (.iconst 2, 1) := by decide +kernel
theorem dX7_isSpokenForOn_36 : decode cX7_isSpokenForOn 36 = .ok (.if_icmp .eq 14, 3) := by decide +kernel
theorem dX7_isSpokenForOn_39 : decode cX7_isSpokenForOn 39 = .ok (.aload_n 0, 1) := by decide +kernel
theorem dX7_isSpokenForOn_40 : decode cX7_isSpokenForOn 40 = .ok (.aload_n 1, 1) := by decide +kernel
theorem dX7_isSpokenForOn_41 : decode cX7_isSpokenForOn 41 = .ok (.getfield 106, 3) := by decide +kernel
theorem dX7_isSpokenForOn_44 : decode cX7_isSpokenForOn 44 = .ok (.invokevirtual 210, 3) := by decide +kernel
theorem dX7_isSpokenForOn_47 : decode cX7_isSpokenForOn 47 = .ok (.ifCond .eq 7, 3) := by decide +kernel
theorem dX7_isSpokenForOn_50 : decode cX7_isSpokenForOn 50 = .ok (.iconst 1, 1) := by decide +kernel
theorem dX7_isSpokenForOn_51 : decode cX7_isSpokenForOn 51 = .ok (.goto 4, 3) := by decide +kernel
theorem dX7_isSpokenForOn_54 : decode cX7_isSpokenForOn 54 = .ok (.iconst 0, 1) := by decide +kernel
theorem dX7_isSpokenForOn_55 : decode cX7_isSpokenForOn 55 = .ok (.ireturn, 1) := by decide +kernel
theorem dX7_isFound_0 : decode cX7_isFound 0 = .ok (.aload_n 1, 1) := by decide +kernel
theorem dX7_isFound_1 : decode cX7_isFound 1 = .ok (.iload_n 2, 1) := by decide +kernel
theorem dX7_isFound_2 : decode cX7_isFound 2 = .ok (.invokevirtual 191, 3) := by decide +kernel
theorem dX7_isFound_5 : decode cX7_isFound 5 = .ok (.ifCond .eq 34, 3) := by decide +kernel
theorem dX7_isFound_8 : decode cX7_isFound 8 = .ok (.aload_n 0, 1) := by decide +kernel
theorem dX7_isFound_9 : decode cX7_isFound 9 = .ok (.getfield 17, 3) := by decide +kernel
theorem dX7_isFound_12 : decode cX7_isFound 12 = .ok (.iload_n 2, 1) := by decide +kernel
theorem dX7_isFound_13 : decode cX7_isFound 13 = .ok (.aaload, 1) := by decide +kernel
theorem dX7_isFound_14 : decode cX7_isFound 14 = .ok (.getfield 268, 3) := by decide +kernel
theorem dX7_isFound_17 : decode cX7_isFound 17 = .ok (.iload_n 3, 1) := by decide +kernel
theorem dX7_isFound_18 : decode cX7_isFound 18 = .ok (.if_icmp .ne 21, 3) := by decide +kernel
theorem dX7_isFound_21 : decode cX7_isFound 21 = .ok (.aload_n 1, 1) := by decide +kernel
theorem dX7_isFound_22 : decode cX7_isFound 22 = .ok (.getfield 192, 3) := by decide +kernel
theorem dX7_isFound_25 : decode cX7_isFound 25 = .ok (.iload_n 2, 1) := by decide +kernel
theorem dX7_isFound_26 : decode cX7_isFound 26 = .ok (.iaload, 1) := by decide +kernel
theorem dX7_isFound_27 : decode cX7_isFound 27 = .ok (.iload 4, 2) := by decide +kernel
theorem dX7_isFound_29 : decode cX7_isFound 29 = .ok (.iand, 1) := by decide +kernel
theorem dX7_isFound_30 : decode cX7_isFound 30 = .ok (.iload 4, 2) := by decide +kernel
theorem dX7_isFound_32 : decode cX7_isFound 32 = .ok (.if_icmp .ne 7, 3) := by decide +kernel
theorem dX7_isFound_35 : decode cX7_isFound 35 = .ok (.iconst 1, 1) := by decide +kernel
theorem dX7_isFound_36 : decode cX7_isFound 36 = .ok (.goto 4, 3) := by decide +kernel
theorem dX7_isFound_39 : decode cX7_isFound 39 = .ok (.iconst 0, 1) := by decide +kernel
theorem dX7_isFound_40 : decode cX7_isFound 40 = .ok (.ireturn, 1) := by decide +kernel
theorem dX7_lotOf_0 : decode cX7_lotOf 0 = .ok (.iconst 5, 1) := by decide +kernel
theorem dX7_lotOf_1 : decode cX7_lotOf 1 = .ok (.aload_n 1, 1) := by decide +kernel
theorem dX7_lotOf_2 : decode cX7_lotOf 2 = .ok (.getfield 32, 3) := by decide +kernel
theorem dX7_lotOf_5 : decode cX7_lotOf 5 = .ok (.imul, 1) := by decide +kernel
theorem dX7_lotOf_6 : decode cX7_lotOf 6 = .ok (.iconst 3, 1) := by decide +kernel
theorem dX7_lotOf_7 : decode cX7_lotOf 7 = .ok (.aload_n 0, 1) := by decide +kernel
theorem dX7_lotOf_8 : decode cX7_lotOf 8 = .ok (.getfield 62, 3) := by decide +kernel
theorem dX7_lotOf_11 : decode cX7_lotOf 11 = .ok (.imul, 1) := by decide +kernel
theorem dX7_lotOf_12 : decode cX7_lotOf 12 = .ok (.iadd, 1) := by decide +kernel
theorem dX7_lotOf_13 : decode cX7_lotOf 13 = .ok (.iconst 4, 1) := by decide +kernel
theorem dX7_lotOf_14 : decode cX7_lotOf 14 = .ok (.irem, 1) := by decide +kernel
theorem dX7_lotOf_15 : decode cX7_lotOf 15 = .ok (.ireturn, 1) := by decide +kernel
theorem dX7_rouse_0 : decode cX7_rouse 0 = .ok (.aload_n 1, 1) := by decide +kernel
theorem dX7_rouse_1 : decode cX7_rouse 1 = .ok (.getfield 95, 3) := by decide +kernel
theorem dX7_rouse_4 : decode cX7_rouse 4 = .ok (.iconst 1, 1) := by decide +kernel
theorem dX7_rouse_5 : decode cX7_rouse 5 = .ok (.if_icmp .ne 18, 3) := by decide +kernel
theorem dX7_rouse_8 : decode cX7_rouse 8 = .ok (.aload_n 1, 1) := by decide +kernel
theorem dX7_rouse_9 : decode cX7_rouse 9 = .ok (.iconst 2, 1) := by decide +kernel
theorem dX7_rouse_10 : decode cX7_rouse 10 = .ok (.putfield 95, 3) := by decide +kernel
theorem dX7_rouse_13 : decode cX7_rouse 13 = .ok (.aload_n 0, 1) := by decide +kernel
theorem dX7_rouse_14 : decode cX7_rouse 14 = .ok (.dup, 1) := by decide +kernel
theorem dX7_rouse_15 : decode cX7_rouse 15 = .ok (.getfield 241, 3) := by decide +kernel
theorem dX7_rouse_18 : decode cX7_rouse 18 = .ok (.iconst 1, 1) := by decide +kernel
theorem dX7_rouse_19 : decode cX7_rouse 19 = .ok (.iadd, 1) := by decide +kernel
theorem dX7_rouse_20 : decode cX7_rouse 20 = .ok (.putfield 241, 3) := by decide +kernel
theorem dX7_rouse_23 : decode cX7_rouse 23 = .ok (.return_, 1) := by decide +kernel
theorem dX7_speaksFor_0 : decode cX7_speaksFor 0 = .ok (.aload_n 2, 1) := by decide +kernel
theorem dX7_speaksFor_1 : decode cX7_speaksFor 1 = .ok (.getfield 106, 3) := by decide +kernel
theorem dX7_speaksFor_4 : decode cX7_speaksFor 4 = .ok (.aload_n 1, 1) := by decide +kernel
theorem dX7_speaksFor_5 : decode cX7_speaksFor 5 = .ok (.if_acmp .ne 16, 3) := by decide +kernel
theorem dX7_speaksFor_8 : decode cX7_speaksFor 8 = .ok (.aload_n 2, 1) := by decide +kernel
theorem dX7_speaksFor_9 : decode cX7_speaksFor 9 = .ok (.getfield 59, 3) := by decide +kernel
theorem dX7_speaksFor_12 : decode cX7_speaksFor 12 = .ok (.ifCond .eq 7, 3) := by decide +kernel
theorem dX7_speaksFor_15 : decode cX7_speaksFor 15 = .ok (.iconst 1, 1) := by decide +kernel
theorem dX7_speaksFor_16 : decode cX7_speaksFor 16 = .ok (.goto 4, 3) := by decide +kernel
theorem dX7_speaksFor_19 : decode cX7_speaksFor 19 = .ok (.iconst 0, 1) := by decide +kernel
theorem dX7_speaksFor_20 : decode cX7_speaksFor 20 = .ok (.ireturn, 1) := by decide +kernel
theorem dX7_speaksFor_21 : decode cX7_speaksFor 21 = .ok (.aload_n 2, 1) := by decide +kernel
theorem dX7_speaksFor_22 : decode cX7_speaksFor 22 = .ok (.getfield 59, 3) := by decide +kernel
theorem dX7_speaksFor_25 : decode cX7_speaksFor 25 = .ok (.iconst 2, 1) := by decide +kernel
theorem dX7_speaksFor_26 : decode cX7_speaksFor 26 = .ok (.if_icmp .ne 29, 3) := by decide +kernel
theorem dX7_speaksFor_29 : decode cX7_speaksFor 29 = .ok (.aload_n 2, 1) := by decide +kernel
theorem dX7_speaksFor_30 : decode cX7_speaksFor 30 = .ok (.getfield 106, 3) := by decide +kernel
theorem dX7_speaksFor_33 : decode cX7_speaksFor 33 = .ok (.getfield 95, 3) := by decide +kernel
theorem dX7_speaksFor_36 : decode cX7_speaksFor 36 = .ok (.iconst 1, 1) := by decide +kernel
theorem dX7_speaksFor_37 : decode cX7_speaksFor 37 = .ok (.if_icmp .ne 18, 3) := by decide +kernel
theorem dX7_speaksFor_40 : decode cX7_speaksFor 40 = .ok (.aload_n 2, 1) := by decide +kernel
theorem dX7_speaksFor_41 : decode cX7_speaksFor 41 = .ok (.getfield 106, 3) := by decide +kernel
theorem dX7_speaksFor_44 : decode cX7_speaksFor 44 = .ok (.getfield 96, 3) := by decide +kernel
theorem dX7_speaksFor_47 : decode cX7_speaksFor 47 = .ok (.aload_n 1, 1) := by decide +kernel
theorem dX7_speaksFor_48 : decode cX7_speaksFor 48 = .ok (.if_acmp .ne 7, 3) := by decide +kernel
theorem dX7_speaksFor_51 : decode cX7_speaksFor 51 = .ok (.iconst 1, 1) := by decide +kernel
theorem dX7_speaksFor_52 : decode cX7_speaksFor 52 = .ok (.goto 4, 3) := by decide +kernel
theorem dX7_speaksFor_55 : decode cX7_speaksFor 55 = .ok (.iconst 0, 1) := by decide +kernel
theorem dX7_speaksFor_56 : decode cX7_speaksFor 56 = .ok (.ireturn, 1) := by decide +kernel
theorem dX7_isStronger_0 : decode cX7_isStronger 0 = .ok (.aload_n 1, 1) := by decide +kernel
theorem dX7_isStronger_1 : decode cX7_isStronger 1 = .ok (.getfield 106, 3) := by decide +kernel
theorem dX7_isStronger_4 : decode cX7_isStronger 4 = .ok (.aload_n 2, 1) := by decide +kernel
theorem dX7_isStronger_5 : decode cX7_isStronger 5 = .ok (.getfield 106, 3) := by decide +kernel
theorem dX7_isStronger_8 : decode cX7_isStronger 8 = .ok (.if_acmp .ne 20, 3) := by decide +kernel
theorem dX7_isStronger_11 : decode cX7_isStronger 11 = .ok (.aload_n 1, 1) := by decide +kernel
theorem dX7_isStronger_12 : decode cX7_isStronger 12 = .ok (.getfield 264, 3) := by decide +kernel
theorem dX7_isStronger_15 : decode cX7_isStronger 15 = .ok (.aload_n 2, 1) := by decide +kernel
theorem dX7_isStronger_16 : decode cX7_isStronger 16 = .ok (.getfield 264, 3) := by decide +kernel
theorem dX7_isStronger_19 : decode cX7_isStronger 19 = .ok (.if_icmp .ge 7, 3) := by decide +kernel
theorem dX7_isStronger_22 : decode cX7_isStronger 22 = .ok (.iconst 1, 1) := by decide +kernel
theorem dX7_isStronger_23 : decode cX7_isStronger 23 = .ok (.goto 4, 3) := by decide +kernel
theorem dX7_isStronger_26 : decode cX7_isStronger 26 = .ok (.iconst 0, 1) := by decide +kernel
theorem dX7_isStronger_27 : decode cX7_isStronger 27 = .ok (.ireturn, 1) := by decide +kernel
theorem dX7_isStronger_28 : decode cX7_isStronger 28 = .ok (.aload_n 1, 1) := by decide +kernel
theorem dX7_isStronger_29 : decode cX7_isStronger 29 = .ok (.getfield 106, 3) := by decide +kernel
theorem dX7_isStronger_32 : decode cX7_isStronger 32 = .ok (.getfield 271, 3) := by decide +kernel
theorem dX7_isStronger_35 : decode cX7_isStronger 35 = .ok (.aload_n 2, 1) := by decide +kernel
theorem dX7_isStronger_36 : decode cX7_isStronger 36 = .ok (.getfield 106, 3) := by decide +kernel
theorem dX7_isStronger_39 : decode cX7_isStronger 39 = .ok (.getfield 271, 3) := by decide +kernel
theorem dX7_isStronger_42 : decode cX7_isStronger 42 = .ok (.if_icmp .eq 26, 3) := by decide +kernel
theorem dX7_isStronger_45 : decode cX7_isStronger 45 = .ok (.aload_n 1, 1) := by decide +kernel
theorem dX7_isStronger_46 : decode cX7_isStronger 46 = .ok (.getfield 106, 3) := by decide +kernel
theorem dX7_isStronger_49 : decode cX7_isStronger 49 = .ok (.getfield 271, 3) := by decide +kernel
theorem dX7_isStronger_52 : decode cX7_isStronger 52 = .ok (.aload_n 2, 1) := by decide +kernel
theorem dX7_isStronger_53 : decode cX7_isStronger 53 = .ok (.getfield 106, 3) := by decide +kernel
theorem dX7_isStronger_56 : decode cX7_isStronger 56 = .ok (.getfield 271, 3) := by decide +kernel
theorem dX7_isStronger_59 : decode cX7_isStronger 59 = .ok (.if_icmp .le 7, 3) := by decide +kernel
theorem dX7_isStronger_62 : decode cX7_isStronger 62 = .ok (.iconst 1, 1) := by decide +kernel
theorem dX7_isStronger_63 : decode cX7_isStronger 63 = .ok (.goto 4, 3) := by decide +kernel
theorem dX7_isStronger_66 : decode cX7_isStronger 66 = .ok (.iconst 0, 1) := by decide +kernel
theorem dX7_isStronger_67 : decode cX7_isStronger 67 = .ok (.ireturn, 1) := by decide +kernel
theorem dX7_isStronger_68 : decode cX7_isStronger 68 = .ok (.aload_n 1, 1) := by decide +kernel
theorem dX7_isStronger_69 : decode cX7_isStronger 69 = .ok (.getfield 106, 3) := by decide +kernel
theorem dX7_isStronger_72 : decode cX7_isStronger 72 = .ok (.getfield 32, 3) := by decide +kernel
theorem dX7_isStronger_75 : decode cX7_isStronger 75 = .ok (.aload_n 2, 1) := by decide +kernel
theorem dX7_isStronger_76 : decode cX7_isStronger 76 = .ok (.getfield 106, 3) := by decide +kernel
theorem dX7_isStronger_79 : decode cX7_isStronger 79 = .ok (.getfield 32, 3) := by decide +kernel
theorem dX7_isStronger_82 : decode cX7_isStronger 82 = .ok (.if_icmp .ge 7, 3) := by decide +kernel
theorem dX7_isStronger_85 : decode cX7_isStronger 85 = .ok (.iconst 1, 1) := by decide +kernel
theorem dX7_isStronger_86 : decode cX7_isStronger 86 = .ok (.goto 4, 3) := by decide +kernel
theorem dX7_isStronger_89 : decode cX7_isStronger 89 = .ok (.iconst 0, 1) := by decide +kernel
theorem dX7_isStronger_90 : decode cX7_isStronger 90 = .ok (.ireturn, 1) := by decide +kernel
theorem dX7_holdClaimedNames_0 : decode cX7_holdClaimedNames 0 = .ok (.iconst 0, 1) := by decide +kernel
theorem dX7_holdClaimedNames_1 : decode cX7_holdClaimedNames 1 = .ok (.istore_n 1, 1) := by decide +kernel
theorem dX7_holdClaimedNames_2 : decode cX7_holdClaimedNames 2 = .ok (.iload_n 1, 1) := by decide +kernel
theorem dX7_holdClaimedNames_3 : decode cX7_holdClaimedNames 3 = .ok (.aload_n 0, 1) := by decide +kernel
theorem dX7_holdClaimedNames_4 : decode cX7_holdClaimedNames 4 = .ok (.getfield 103, 3) := by decide +kernel
theorem dX7_holdClaimedNames_7 : decode cX7_holdClaimedNames 7 = .ok (.if_icmp .ge 50, 3) := by decide +kernel
theorem dX7_holdClaimedNames_10 : decode cX7_holdClaimedNames 10 = .ok (.aload_n 0, 1) := by decide +kernel
theorem dX7_holdClaimedNames_11 : decode cX7_holdClaimedNames 11 = .ok (.getfield 17, 3) := by decide +kernel
theorem dX7_holdClaimedNames_14 : decode cX7_holdClaimedNames 14 = .ok (.iload_n 1, 1) := by decide +kernel
theorem dX7_holdClaimedNames_15 : decode cX7_holdClaimedNames 15 = .ok (.aaload, 1) := by decide +kernel
theorem dX7_holdClaimedNames_16 : decode cX7_holdClaimedNames 16 = .ok (.astore_n 2, 1) := by decide +kernel
theorem dX7_holdClaimedNames_17 : decode cX7_holdClaimedNames 17 = .ok (.aload_n 2, 1) := by decide +kernel
theorem dX7_holdClaimedNames_18 : decode cX7_holdClaimedNames 18 = .ok (.getfield 59, 3) := by decide +kernel
theorem dX7_holdClaimedNames_21 : decode cX7_holdClaimedNames 21 = .ok (.iconst 1, 1) := by decide +kernel
theorem dX7_holdClaimedNames_22 : decode cX7_holdClaimedNames 22 = .ok (.if_icmp .ne 29, 3) := by decide +kernel
theorem dX7_holdClaimedNames_25 : decode cX7_holdClaimedNames 25 = .ok (.aload_n 2, 1) := by decide +kernel
theorem dX7_holdClaimedNames_26 : decode cX7_holdClaimedNames 26 = .ok (.getfield 203, 3) := by decide +kernel
theorem dX7_holdClaimedNames_29 : decode cX7_holdClaimedNames 29 = .ok (.ifCond .ne 22, 3) := by decide +kernel
theorem dX7_holdClaimedNames_32 : decode cX7_holdClaimedNames 32 = .ok (.aload_n 2, 1) := by decide +kernel
theorem dX7_holdClaimedNames_33 : decode cX7_holdClaimedNames 33 = .ok (.getfield 106, 3) := by decide +kernel
theorem dX7_holdClaimedNames_36 : decode cX7_holdClaimedNames 36 = .ok (.getfield 95, 3) := by decide +kernel
theorem dX7_holdClaimedNames_39 : decode cX7_holdClaimedNames 39 = .ok (.iconst 2, 1) := by decide +kernel
theorem dX7_holdClaimedNames_40 : decode cX7_holdClaimedNames 40 = .ok (.if_icmp .ne 11, 3) := by decide +kernel
theorem dX7_holdClaimedNames_43 : decode cX7_holdClaimedNames 43 = .ok (.aload_n 2, 1) := by decide +kernel
theorem dX7_holdClaimedNames_44 : decode cX7_holdClaimedNames 44 = .ok (.aload_n 0, 1) := by decide +kernel
theorem dX7_holdClaimedNames_45 : decode cX7_holdClaimedNames 45 = .ok (.getfield 62, 3) := by decide +kernel
theorem dX7_holdClaimedNames_48 : decode cX7_holdClaimedNames 48 = .ok (.invokevirtual 260, 3) := by decide +kernel
theorem dX7_holdClaimedNames_51 : decode cX7_holdClaimedNames 51 = .ok (.iinc 1 1, 3) := by decide +kernel
theorem dX7_holdClaimedNames_54 : decode cX7_holdClaimedNames 54 = .ok (.goto (-52), 3) := by decide +kernel
theorem dX7_holdClaimedNames_57 : decode cX7_holdClaimedNames 57 = .ok (.return_, 1) := by decide +kernel
theorem dX7_writeLetters_0 : decode cX7_writeLetters 0 = .ok (.aload_n 0, 1) := by decide +kernel
theorem dX7_writeLetters_1 : decode cX7_writeLetters 1 = .ok (.iconst 0, 1) := by decide +kernel
theorem dX7_writeLetters_2 : decode cX7_writeLetters 2 = .ok (.putfield 244, 3) := by decide +kernel
theorem dX7_writeLetters_5 : decode cX7_writeLetters 5 = .ok (.iconst 0, 1) := by decide +kernel
theorem dX7_writeLetters_6 : decode cX7_writeLetters 6 = .ok (.istore_n 1, 1) := by decide +kernel
theorem dX7_writeLetters_7 : decode cX7_writeLetters 7 = .ok (.iload_n 1, 1) := by decide +kernel
theorem dX7_writeLetters_8 : decode cX7_writeLetters 8 = .ok (.aload_n 0, 1) := by decide +kernel
theorem dX7_writeLetters_9 : decode cX7_writeLetters 9 = .ok (.getfield 25, 3) := by decide +kernel
theorem dX7_writeLetters_12 : decode cX7_writeLetters 12 = .ok (.if_icmp .ge 121, 3) := by decide +kernel
theorem dX7_writeLetters_15 : decode cX7_writeLetters 15 = .ok (.aload_n 0, 1) := by decide +kernel
theorem dX7_writeLetters_16 : decode cX7_writeLetters 16 = .ok (.getfield 11, 3) := by decide +kernel
theorem dX7_writeLetters_19 : decode cX7_writeLetters 19 = .ok (.iload_n 1, 1) := by decide +kernel
theorem dX7_writeLetters_20 : decode cX7_writeLetters 20 = .ok (.aaload, 1) := by decide +kernel
theorem dX7_writeLetters_21 : decode cX7_writeLetters 21 = .ok (.astore_n 2, 1) := by decide +kernel
theorem dX7_writeLetters_22 : decode cX7_writeLetters 22 = .ok (.aload_n 2, 1) := by decide +kernel
theorem dX7_writeLetters_23 : decode cX7_writeLetters 23 = .ok (.invokevirtual 274, 3) := by decide +kernel
theorem dX7_writeLetters_26 : decode cX7_writeLetters 26 = .ok (.aload_n 2, 1) := by decide +kernel
theorem dX7_writeLetters_27 : decode cX7_writeLetters 27 = .ok (.getfield 95, 3) := by decide +kernel
theorem dX7_writeLetters_30 : decode cX7_writeLetters 30 = .ok (.iconst 3, 1) := by decide +kernel
theorem dX7_writeLetters_31 : decode cX7_writeLetters 31 = .ok (.if_icmp .ne 28, 3) := by decide +kernel
theorem dX7_writeLetters_34 : decode cX7_writeLetters 34 = .ok (.aload_n 0, 1) := by decide +kernel
theorem dX7_writeLetters_35 : decode cX7_writeLetters 35 = .ok (.aload_n 2, 1) := by decide +kernel
theorem dX7_writeLetters_36 : decode cX7_writeLetters 36 = .ok (.invokevirtual 277, 3) := by decide +kernel
theorem dX7_writeLetters_39 : decode cX7_writeLetters 39 = .ok (.aload_n 2, 1) := by decide +kernel
theorem dX7_writeLetters_40 : decode cX7_writeLetters 40 = .ok (.invokevirtual 112, 3) := by decide +kernel
theorem dX7_writeLetters_43 : decode cX7_writeLetters 43 = .ok (.aload_n 0, 1) := by decide +kernel
theorem dX7_writeLetters_44 : decode cX7_writeLetters 44 = .ok (.aload_n 2, 1) := by decide +kernel
theorem dX7_writeLetters_45 : decode cX7_writeLetters 45 = .ok (.aload_n 2, 1) := by decide +kernel
theorem dX7_writeLetters_46 : decode cX7_writeLetters 46 = .ok (.getfield 280, 3) := by decide +kernel
theorem dX7_writeLetters_49 : decode cX7_writeLetters 49 = .ok (.aload_n 2, 1) := by decide +kernel
theorem dX7_writeLetters_50 : decode cX7_writeLetters 50 = .ok (.getfield 88, 3) := by decide +kernel
theorem dX7_writeLetters_53 : decode cX7_writeLetters 53 = .ok (.invokevirtual 284, 3) := by decide +kernel
theorem dX7_writeLetters_56 : decode cX7_writeLetters 56 = .ok (.goto 71, 3) := by decide +kernel
theorem dX7_writeLetters_59 : decode cX7_writeLetters 59 = .ok (.aload_n 2, 1) := by decide +kernel
theorem dX7_writeLetters_60 : decode cX7_writeLetters 60 = .ok (.getfield 95, 3) := by decide +kernel
theorem dX7_writeLetters_63 : decode cX7_writeLetters 63 = .ok (.iconst 2, 1) := by decide +kernel
theorem dX7_writeLetters_64 : decode cX7_writeLetters 64 = .ok (.if_icmp .ne 22, 3) := by decide +kernel
theorem dX7_writeLetters_67 : decode cX7_writeLetters 67 = .ok (.aload_n 2, 1) := by decide +kernel
theorem dX7_writeLetters_68 : decode cX7_writeLetters 68 = .ok (.getfield 155, 3) := by decide +kernel
theorem dX7_writeLetters_71 : decode cX7_writeLetters 71 = .ok (.ifnull 15, 3) := by decide +kernel
theorem dX7_writeLetters_74 : decode cX7_writeLetters 74 = .ok (.aload_n 0, 1) := by decide +kernel
theorem dX7_writeLetters_75 : decode cX7_writeLetters 75 = .ok (.aload_n 2, 1) := by decide +kernel
theorem dX7_writeLetters_76 : decode cX7_writeLetters 76 = .ok (.aload_n 2, 1) := by decide +kernel
theorem dX7_writeLetters_77 : decode cX7_writeLetters 77 = .ok (.getfield 155, 3) := by decide +kernel
theorem dX7_writeLetters_80 : decode cX7_writeLetters 80 = .ok (.invokevirtual 288, 3) := by decide +kernel
theorem dX7_writeLetters_83 : decode cX7_writeLetters 83 = .ok (.goto 44, 3) := by decide +kernel
theorem dX7_writeLetters_86 : decode cX7_writeLetters 86 = .ok (.aload_n 2, 1) := by decide +kernel
theorem dX7_writeLetters_87 : decode cX7_writeLetters 87 = .ok (.getfield 95, 3) := by decide +kernel
theorem dX7_writeLetters_90 : decode cX7_writeLetters 90 = .ok (.iconst 2, 1) := by decide +kernel
theorem dX7_writeLetters_91 : decode cX7_writeLetters 91 = .ok (.if_icmp .ne 36, 3) := by decide +kernel
theorem dX7_writeLetters_94 : decode cX7_writeLetters 94 = .ok (.aload_n 0, 1) := by decide +kernel
theorem dX7_writeLetters_95 : decode cX7_writeLetters 95 = .ok (.aload_n 2, 1) := by decide +kernel
theorem dX7_writeLetters_96 : decode cX7_writeLetters 96 = .ok (.invokevirtual 292, 3) := by decide +kernel
theorem dX7_writeLetters_99 : decode cX7_writeLetters 99 = .ok (.aload_n 0, 1) := by decide +kernel
theorem dX7_writeLetters_100 : decode cX7_writeLetters 100 = .ok (.aload_n 2, 1) := by decide +kernel
theorem dX7_writeLetters_101 : decode cX7_writeLetters 101 = .ok (.invokevirtual 295, 3) := by decide +kernel
theorem dX7_writeLetters_104 : decode cX7_writeLetters 104 = .ok (.aload_n 0, 1) := by decide +kernel
theorem dX7_writeLetters_105 : decode cX7_writeLetters 105 = .ok (.aload_n 2, 1) := by decide +kernel
theorem dX7_writeLetters_106 : decode cX7_writeLetters 106 = .ok (.invokevirtual 277, 3) := by decide +kernel
theorem dX7_writeLetters_109 : decode cX7_writeLetters 109 = .ok (.aload_n 0, 1) := by decide +kernel
theorem dX7_writeLetters_110 : decode cX7_writeLetters 110 = .ok (.aload_n 2, 1) := by decide +kernel
theorem dX7_writeLetters_111 : decode cX7_writeLetters 111 = .ok (.invokevirtual 298, 3) := by decide +kernel
theorem dX7_writeLetters_114 : decode cX7_writeLetters 114 = .ok (.aload_n 0, 1) := by decide +kernel
theorem dX7_writeLetters_115 : decode cX7_writeLetters 115 = .ok (.aload_n 2, 1) := by decide +kernel
theorem dX7_writeLetters_116 : decode cX7_writeLetters 116 = .ok (.aload_n 2, 1) := by decide +kernel
theorem dX7_writeLetters_117 : decode cX7_writeLetters 117 = .ok (.getfield 280, 3) := by decide +kernel
theorem dX7_writeLetters_120 : decode cX7_writeLetters 120 = .ok (.aload_n 2, 1) := by decide +kernel
theorem dX7_writeLetters_121 : decode cX7_writeLetters 121 = .ok (.getfield 88, 3) := by decide +kernel
theorem dX7_writeLetters_124 : decode cX7_writeLetters 124 = .ok (.invokevirtual 284, 3) := by decide +kernel
theorem dX7_writeLetters_127 : decode cX7_writeLetters 127 = .ok (.iinc 1 1, 3) := by decide +kernel
theorem dX7_writeLetters_130 : decode cX7_writeLetters 130 = .ok (.goto (-123), 3) := by decide +kernel
theorem dX7_writeLetters_133 : decode cX7_writeLetters 133 = .ok (.return_, 1) := by decide +kernel
theorem dX7_writeAsks_0 : decode cX7_writeAsks 0 = .ok (.aload_n 1, 1) := by decide +kernel
theorem dX7_writeAsks_1 : decode cX7_writeAsks 1 = .ok (.getfield 71, 3) := by decide +kernel
theorem dX7_writeAsks_4 : decode cX7_writeAsks 4 = .ok (.invokevirtual 123, 3) := by decide +kernel
theorem dX7_writeAsks_7 : decode cX7_writeAsks 7 = .ok (.ifCond .eq 4, 3) := by decide +kernel
theorem dX7_writeAsks_10 : decode cX7_writeAsks 10 = .ok (.return_, 1) := by decide +kernel
theorem dX7_writeAsks_11 : decode cX7_writeAsks 11 = .ok (.iconst 0, 1) := by decide +kernel
theorem dX7_writeAsks_12 : decode cX7_writeAsks 12 = .ok (.istore_n 2, 1) := by decide +kernel
theorem dX7_writeAsks_13 : decode cX7_writeAsks 13 = .ok (.iload_n 2, 1) := by decide +kernel
theorem dX7_writeAsks_14 : decode cX7_writeAsks 14 = .ok (.bipush 16, 2) := by decide +kernel
theorem dX7_writeAsks_16 : decode cX7_writeAsks 16 = .ok (.if_icmp .ge 56, 3) := by decide +kernel
theorem dX7_writeAsks_19 : decode cX7_writeAsks 19 = .ok (.aload_n 1, 1) := by decide +kernel
theorem dX7_writeAsks_20 : decode cX7_writeAsks 20 = .ok (.getfield 71, 3) := by decide +kernel
theorem dX7_writeAsks_23 : decode cX7_writeAsks 23 = .ok (.iload_n 2, 1) := by decide +kernel
theorem dX7_writeAsks_24 : decode cX7_writeAsks 24 = .ok (.aload_n 0, 1) := by decide +kernel
theorem dX7_writeAsks_25 : decode cX7_writeAsks 25 = .ok (.getfield 62, 3) := by decide +kernel
theorem dX7_writeAsks_28 : decode cX7_writeAsks 28 = .ok (.invokevirtual 301, 3) := by decide +kernel
theorem dX7_writeAsks_31 : decode cX7_writeAsks 31 = .ok (.ifCond .eq 35, 3) := by decide +kernel
theorem dX7_writeAsks_34 : decode cX7_writeAsks 34 = .ok (.aload_n 1, 1) := by decide +kernel
theorem dX7_writeAsks_35 : decode cX7_writeAsks 35 = .ok (.getfield 280, 3) := by decide +kernel
theorem dX7_writeAsks_38 : decode cX7_writeAsks 38 = .ok (.iload_n 2, 1) := by decide +kernel
theorem dX7_writeAsks_39 : decode cX7_writeAsks 39 = .ok (.aload_n 1, 1) := by decide +kernel
theorem dX7_writeAsks_40 : decode cX7_writeAsks 40 = .ok (.getfield 71, 3) := by decide +kernel
theorem dX7_writeAsks_43 : decode cX7_writeAsks 43 = .ok (.getfield 305, 3) := by decide +kernel
theorem dX7_writeAsks_46 : decode cX7_writeAsks 46 = .ok (.iload_n 2, 1) := by decide +kernel
theorem dX7_writeAsks_47 : decode cX7_writeAsks 47 = .ok (.iaload, 1) := by decide +kernel
theorem dX7_writeAsks_48 : decode cX7_writeAsks 48 = .ok (.aload_n 0, 1) := by decide +kernel
theorem dX7_writeAsks_49 : decode cX7_writeAsks 49 = .ok (.aload_n 1, 1) := by decide +kernel
theorem dX7_writeAsks_50 : decode cX7_writeAsks 50 = .ok (.iload_n 2, 1) := by decide +kernel
theorem dX7_writeAsks_51 : decode cX7_writeAsks 51 = .ok (.invokevirtual 306, 3) := by decide +kernel
theorem dX7_writeAsks_54 : decode cX7_writeAsks 54 = .ok (.iconst 0, 1) := by decide +kernel
theorem dX7_writeAsks_55 : decode cX7_writeAsks 55 = .ok (.invokevirtual 310, 3) := by decide +kernel
theorem dX7_writeAsks_58 : decode cX7_writeAsks 58 = .ok (.aload_n 1, 1) := by decide +kernel
theorem dX7_writeAsks_59 : decode cX7_writeAsks 59 = .ok (.getfield 71, 3) := by decide +kernel
theorem dX7_writeAsks_62 : decode cX7_writeAsks 62 = .ok (.iload_n 2, 1) := by decide +kernel
theorem dX7_writeAsks_63 : decode cX7_writeAsks 63 = .ok (.invokevirtual 316, 3) := by decide +kernel
theorem dX7_writeAsks_66 : decode cX7_writeAsks 66 = .ok (.iinc 2 1, 3) := by decide +kernel
theorem dX7_writeAsks_69 : decode cX7_writeAsks 69 = .ok (.goto (-56), 3) := by decide +kernel
theorem dX7_writeAsks_72 : decode cX7_writeAsks 72 = .ok (.return_, 1) := by decide +kernel
theorem dX7_writeClaims_0 : decode cX7_writeClaims 0 = .ok (.iconst 0, 1) := by decide +kernel
theorem dX7_writeClaims_1 : decode cX7_writeClaims 1 = .ok (.istore_n 2, 1) := by decide +kernel
theorem dX7_writeClaims_2 : decode cX7_writeClaims 2 = .ok (.iload_n 2, 1) := by decide +kernel
theorem dX7_writeClaims_3 : decode cX7_writeClaims 3 = .ok (.aload_n 0, 1) := by decide +kernel
theorem dX7_writeClaims_4 : decode cX7_writeClaims 4 = .ok (.getfield 103, 3) := by decide +kernel
theorem dX7_writeClaims_7 : decode cX7_writeClaims 7 = .ok (.if_icmp .ge 62, 3) := by decide +kernel
theorem dX7_writeClaims_10 : decode cX7_writeClaims 10 = .ok (.aload_n 0, 1) := by decide +kernel
theorem dX7_writeClaims_11 : decode cX7_writeClaims 11 = .ok (.getfield 17, 3) := by decide +kernel
theorem dX7_writeClaims_14 : decode cX7_writeClaims 14 = .ok (.iload_n 2, 1) := by decide +kernel
theorem dX7_writeClaims_15 : decode cX7_writeClaims 15 = .ok (.aaload, 1) := by decide +kernel
theorem dX7_writeClaims_16 : decode cX7_writeClaims 16 = .ok (.astore_n 3, 1) := by decide +kernel
theorem dX7_writeClaims_17 : decode cX7_writeClaims 17 = .ok (.aload_n 3, 1) := by decide +kernel
theorem dX7_writeClaims_18 : decode cX7_writeClaims 18 = .ok (.getfield 106, 3) := by decide +kernel
theorem dX7_writeClaims_21 : decode cX7_writeClaims 21 = .ok (.aload_n 1, 1) := by decide +kernel
theorem dX7_writeClaims_22 : decode cX7_writeClaims 22 = .ok (.if_acmp .ne 41, 3) := by decide +kernel
theorem dX7_writeClaims_25 : decode cX7_writeClaims 25 = .ok (.aload_n 3, 1) := by decide +kernel
theorem dX7_writeClaims_26 : decode cX7_writeClaims 26 = .ok (.getfield 59, 3) := by decide +kernel
theorem dX7_writeClaims_29 : decode cX7_writeClaims 29 = .ok (.iconst 1, 1) := by decide +kernel
theorem dX7_writeClaims_30 : decode cX7_writeClaims 30 = .ok (.if_icmp .ne 33, 3) := by decide +kernel
theorem dX7_writeClaims_33 : decode cX7_writeClaims 33 = .ok (.aload_n 3, 1) := by decide +kernel
theorem dX7_writeClaims_34 : decode cX7_writeClaims 34 = .ok (.getfield 203, 3) := by decide +kernel
theorem dX7_writeClaims_37 : decode cX7_writeClaims 37 = .ok (.ifCond .le 26, 3) := by decide +kernel
theorem dX7_writeClaims_40 : decode cX7_writeClaims 40 = .ok (.aload_n 1, 1) := by decide +kernel
theorem dX7_writeClaims_41 : decode cX7_writeClaims 41 = .ok (.getfield 280, 3) := by decide +kernel
theorem dX7_writeClaims_44 : decode cX7_writeClaims 44 = .ok (.iload_n 2, 1) := by decide +kernel
theorem dX7_writeClaims_45 : decode cX7_writeClaims 45 = .ok (.aload_n 3, 1) := by decide +kernel
theorem dX7_writeClaims_46 : decode cX7_writeClaims 46 = .ok (.getfield 201, 3) := by decide +kernel
theorem dX7_writeClaims_49 : decode cX7_writeClaims 49 = .ok (.iconst 0, 1) := by decide +kernel
theorem dX7_writeClaims_50 : decode cX7_writeClaims 50 = .ok (.invokevirtual 319, 3) := by decide +kernel
theorem dX7_writeClaims_53 : decode cX7_writeClaims 53 = .ok (.aload_n 3, 1) := by decide +kernel
theorem dX7_writeClaims_54 : decode cX7_writeClaims 54 = .ok (.dup, 1) := by decide +kernel
theorem dX7_writeClaims_55 : decode cX7_writeClaims 55 = .ok (.getfield 203, 3) := by decide +kernel
theorem dX7_writeClaims_58 : decode cX7_writeClaims 58 = .ok (.iconst 1, 1) := by decide +kernel
theorem dX7_writeClaims_59 : decode cX7_writeClaims 59 = .ok (.isub, 1) := by decide +kernel
theorem dX7_writeClaims_60 : decode cX7_writeClaims 60 = .ok (.putfield 203, 3) := by decide +kernel
theorem dX7_writeClaims_63 : decode cX7_writeClaims 63 = .ok (.iinc 2 1, 3) := by decide +kernel
theorem dX7_writeClaims_66 : decode cX7_writeClaims 66 = .ok (.goto (-64), 3) := by decide +kernel
theorem dX7_writeClaims_69 : decode cX7_writeClaims 69 = .ok (.return_, 1) := by decide +kernel
theorem dX7_writeByes_0 : decode cX7_writeByes 0 = .ok (.iconst 0, 1) := by decide +kernel
theorem dX7_writeByes_1 : decode cX7_writeByes 1 = .ok (.istore_n 2, 1) := by decide +kernel
theorem dX7_writeByes_2 : decode cX7_writeByes 2 = .ok (.iload_n 2, 1) := by decide +kernel
theorem dX7_writeByes_3 : decode cX7_writeByes 3 = .ok (.aload_n 0, 1) := by decide +kernel
theorem dX7_writeByes_4 : decode cX7_writeByes 4 = .ok (.getfield 103, 3) := by decide +kernel
theorem dX7_writeByes_7 : decode cX7_writeByes 7 = .ok (.if_icmp .ge 45, 3) := by decide +kernel
theorem dX7_writeByes_10 : decode cX7_writeByes 10 = .ok (.aload_n 0, 1) := by decide +kernel
theorem dX7_writeByes_11 : decode cX7_writeByes 11 = .ok (.getfield 17, 3) := by decide +kernel
theorem dX7_writeByes_14 : decode cX7_writeByes 14 = .ok (.iload_n 2, 1) := by decide +kernel
theorem dX7_writeByes_15 : decode cX7_writeByes 15 = .ok (.aaload, 1) := by decide +kernel
theorem dX7_writeByes_16 : decode cX7_writeByes 16 = .ok (.astore_n 3, 1) := by decide +kernel
theorem dX7_writeByes_17 : decode cX7_writeByes 17 = .ok (.aload_n 3, 1) := by decide +kernel
theorem dX7_writeByes_18 : decode cX7_writeByes 18 = .ok (.getfield 106, 3) := by decide +kernel
theorem dX7_writeByes_21 : decode cX7_writeByes 21 = .ok (.aload_n 1, 1) := by decide +kernel
theorem dX7_writeByes_22 : decode cX7_writeByes 22 = .ok (.if_acmp .ne 24, 3) := by decide +kernel
theorem dX7_writeByes_25 : decode cX7_writeByes 25 = .ok (.aload_n 3, 1) := by decide +kernel
theorem dX7_writeByes_26 : decode cX7_writeByes 26 = .ok (.getfield 109, 3) := by decide +kernel
theorem dX7_writeByes_29 : decode cX7_writeByes 29 = .ok (.ifCond .eq 17, 3) := by decide +kernel
theorem dX7_writeByes_32 : decode cX7_writeByes 32 = .ok (.aload_n 1, 1) := by decide +kernel
theorem dX7_writeByes_33 : decode cX7_writeByes 33 = .ok (.getfield 280, 3) := by decide +kernel
theorem dX7_writeByes_36 : decode cX7_writeByes 36 = .ok (.iload_n 2, 1) := by decide +kernel
theorem dX7_writeByes_37 : decode cX7_writeByes 37 = .ok (.iconst 0, 1) := by decide +kernel
theorem dX7_writeByes_38 : decode cX7_writeByes 38 = .ok (.invokevirtual 322, 3) := by decide +kernel
theorem dX7_writeByes_41 : decode cX7_writeByes 41 = .ok (.aload_n 3, 1) := by decide +kernel
theorem dX7_writeByes_42 : decode cX7_writeByes 42 = .ok (.iconst 0, 1) := by decide +kernel
theorem dX7_writeByes_43 : decode cX7_writeByes 43 = .ok (.putfield 109, 3) := by decide +kernel
theorem dX7_writeByes_46 : decode cX7_writeByes 46 = .ok (.iinc 2 1, 3) := by decide +kernel
theorem dX7_writeByes_49 : decode cX7_writeByes 49 = .ok (.goto (-47), 3) := by decide +kernel
theorem dX7_writeByes_52 : decode cX7_writeByes 52 = .ok (.return_, 1) := by decide +kernel
theorem dX7_writeTellings_0 : decode cX7_writeTellings 0 = .ok (.iconst 0, 1) := by decide +kernel
theorem dX7_writeTellings_1 : decode cX7_writeTellings 1 = .ok (.istore_n 2, 1) := by decide +kernel
theorem dX7_writeTellings_2 : decode cX7_writeTellings 2 = .ok (.iload_n 2, 1) := by decide +kernel
theorem dX7_writeTellings_3 : decode cX7_writeTellings 3 = .ok (.aload_n 0, 1) := by decide +kernel
theorem dX7_writeTellings_4 : decode cX7_writeTellings 4 = .ok (.getfield 103, 3) := by decide +kernel
theorem dX7_writeTellings_7 : decode cX7_writeTellings 7 = .ok (.if_icmp .ge 90, 3) := by decide +kernel
theorem dX7_writeTellings_10 : decode cX7_writeTellings 10 = .ok (.aload_n 0, 1) := by decide +kernel
theorem dX7_writeTellings_11 : decode cX7_writeTellings 11 = .ok (.getfield 17, 3) := by decide +kernel
theorem dX7_writeTellings_14 : decode cX7_writeTellings 14 = .ok (.iload_n 2, 1) := by decide +kernel
theorem dX7_writeTellings_15 : decode cX7_writeTellings 15 = .ok (.aaload, 1) := by decide +kernel
theorem dX7_writeTellings_16 : decode cX7_writeTellings 16 = .ok (.astore_n 3, 1) := by decide +kernel
theorem dX7_writeTellings_17 : decode cX7_writeTellings 17 = .ok (.aload_n 3, 1) := by decide +kernel
theorem dX7_writeTellings_18 : decode cX7_writeTellings 18 = .ok (.getfield 59, 3) := by decide +kernel
theorem dX7_writeTellings_21 : decode cX7_writeTellings 21 = .ok (.iconst 2, 1) := by decide +kernel
theorem dX7_writeTellings_22 : decode cX7_writeTellings 22 = .ok (.if_icmp .ne 18, 3) := by decide +kernel
theorem dX7_writeTellings_25 : decode cX7_writeTellings 25 = .ok (.aload_n 3, 1) := by decide +kernel
theorem dX7_writeTellings_26 : decode cX7_writeTellings 26 = .ok (.getfield 65, 3) := by decide +kernel
theorem dX7_writeTellings_29 : decode cX7_writeTellings 29 = .ok (.aload_n 0, 1) := by decide +kernel
theorem dX7_writeTellings_30 : decode cX7_writeTellings 30 = .ok (.getfield 62, 3) := by decide +kernel
theorem dX7_writeTellings_33 : decode cX7_writeTellings 33 = .ok (.if_icmp .gt 7, 3) := by decide +kernel
theorem dX7_writeTellings_36 : decode cX7_writeTellings 36 = .ok (.iconst 1, 1) := by decide +kernel
theorem dX7_writeTellings_37 : decode cX7_writeTellings 37 = .ok (.goto 4, 3) := by decide +kernel
theorem dX7_writeTellings_40 : decode cX7_writeTellings 40 = .ok (.iconst 0, 1) := by decide +kernel
theorem dX7_writeTellings_41 : decode cX7_writeTellings 41 = .ok (.istore 4, 2) := by decide +kernel
theorem dX7_writeTellings_43 : decode cX7_writeTellings 43 = .ok (.aload_n 1, 1) := by decide +kernel
theorem dX7_writeTellings_44 : decode cX7_writeTellings 44 = .ok (.getfield 143, 3) := by decide +kernel
theorem dX7_writeTellings_47 : decode cX7_writeTellings 47 = .ok (.iload_n 2, 1) := by decide +kernel
theorem dX7_writeTellings_48 : decode cX7_writeTellings 48 = .ok (.aload_n 0, 1) := by decide +kernel
theorem dX7_writeTellings_49 : decode cX7_writeTellings 49 = .ok (.getfield 62, 3) := by decide +kernel
theorem dX7_writeTellings_52 : decode cX7_writeTellings 52 = .ok (.invokevirtual 325, 3) := by decide +kernel
theorem dX7_writeTellings_55 : decode cX7_writeTellings 55 = .ok (.ifCond .eq 24, 3) := by decide +kernel
theorem dX7_writeTellings_58 : decode cX7_writeTellings 58 = .ok (.aload_n 0, 1) := by decide +kernel
theorem dX7_writeTellings_59 : decode cX7_writeTellings 59 = .ok (.aload_n 1, 1) := by decide +kernel
theorem dX7_writeTellings_60 : decode cX7_writeTellings 60 = .ok (.aload_n 3, 1) := by decide +kernel
theorem dX7_writeTellings_61 : decode cX7_writeTellings 61 = .ok (.aload_n 1, 1) := by decide +kernel
theorem dX7_writeTellings_62 : decode cX7_writeTellings 62 = .ok (.getfield 91, 3) := by decide +kernel
theorem dX7_writeTellings_65 : decode cX7_writeTellings 65 = .ok (.invokevirtual 326, 3) := by decide +kernel
theorem dX7_writeTellings_68 : decode cX7_writeTellings 68 = .ok (.aload_n 1, 1) := by decide +kernel
theorem dX7_writeTellings_69 : decode cX7_writeTellings 69 = .ok (.getfield 143, 3) := by decide +kernel
theorem dX7_writeTellings_72 : decode cX7_writeTellings 72 = .ok (.iload_n 2, 1) := by decide +kernel
theorem dX7_writeTellings_73 : decode cX7_writeTellings 73 = .ok (.invokevirtual 330, 3) := by decide +kernel
theorem dX7_writeTellings_76 : decode cX7_writeTellings 76 = .ok (.goto 15, 3) := by decide +kernel
theorem dX7_writeTellings_79 : decode cX7_writeTellings 79 = .ok (.iload 4, 2) := by decide +kernel
theorem dX7_writeTellings_81 : decode cX7_writeTellings 81 = .ok (.ifCond .eq 10, 3) := by decide +kernel
theorem dX7_writeTellings_84 : decode cX7_writeTellings 84 = .ok (.aload_n 0, 1) := by decide +kernel
theorem dX7_writeTellings_85 : decode cX7_writeTellings 85 = .ok (.aload_n 1, 1) := by decide +kernel
theorem dX7_writeTellings_86 : decode cX7_writeTellings 86 = .ok (.aload_n 3, 1) := by decide +kernel
theorem dX7_writeTellings_87 : decode cX7_writeTellings 87 = .ok (.iconst 0, 1) := by decide +kernel
theorem dX7_writeTellings_88 : decode cX7_writeTellings 88 = .ok (.invokevirtual 326, 3) := by decide +kernel
theorem dX7_writeTellings_91 : decode cX7_writeTellings 91 = .ok (.iinc 2 1, 3) := by decide +kernel
theorem dX7_writeTellings_94 : decode cX7_writeTellings 94 = .ok (.goto (-92), 3) := by decide +kernel
theorem dX7_writeTellings_97 : decode cX7_writeTellings 97 = .ok (.return_, 1) := by decide +kernel
theorem dX7_writeTelling_0 : decode cX7_writeTelling 0 = .ok (.aload_n 2, 1) := by decide +kernel
theorem dX7_writeTelling_1 : decode cX7_writeTelling 1 = .ok (.getfield 264, 3) := by decide +kernel
theorem dX7_writeTelling_4 : decode cX7_writeTelling 4 = .ok (.istore 4, 2) := by decide +kernel
theorem dX7_writeTelling_6 : decode cX7_writeTelling 6 = .ok (.aload_n 0, 1) := by decide +kernel
theorem dX7_writeTelling_7 : decode cX7_writeTelling 7 = .ok (.aload_n 1, 1) := by decide +kernel
theorem dX7_writeTelling_8 : decode cX7_writeTelling 8 = .ok (.aload_n 2, 1) := by decide +kernel
theorem dX7_writeTelling_9 : decode cX7_writeTelling 9 = .ok (.invokevirtual 331, 3) := by decide +kernel
theorem dX7_writeTelling_12 : decode cX7_writeTelling 12 = .ok (.ifCond .eq 51, 3) := by decide +kernel
theorem dX7_writeTelling_15 : decode cX7_writeTelling 15 = .ok (.aload_n 2, 1) := by decide +kernel
theorem dX7_writeTelling_16 : decode cX7_writeTelling 16 = .ok (.getfield 59, 3) := by decide +kernel
theorem dX7_writeTelling_19 : decode cX7_writeTelling 19 = .ok (.iconst 2, 1) := by decide +kernel
theorem dX7_writeTelling_20 : decode cX7_writeTelling 20 = .ok (.if_icmp .ne 113, 3) := by decide +kernel
theorem dX7_writeTelling_23 : decode cX7_writeTelling 23 = .ok (.aload_n 1, 1) := by decide +kernel
theorem dX7_writeTelling_24 : decode cX7_writeTelling 24 = .ok (.getfield 280, 3) := by decide +kernel
theorem dX7_writeTelling_27 : decode cX7_writeTelling 27 = .ok (.iload 4, 2) := by decide +kernel
theorem dX7_writeTelling_29 : decode cX7_writeTelling 29 = .ok (.aload_n 2, 1) := by decide +kernel
theorem dX7_writeTelling_30 : decode cX7_writeTelling 30 = .ok (.getfield 201, 3) := by decide +kernel
theorem dX7_writeTelling_33 : decode cX7_writeTelling 33 = .ok (.aload_n 2, 1) := by decide +kernel
theorem dX7_writeTelling_34 : decode cX7_writeTelling 34 = .ok (.getfield 56, 3) := by decide +kernel
theorem dX7_writeTelling_37 : decode cX7_writeTelling 37 = .ok (.aload_n 2, 1) := by decide +kernel
theorem dX7_writeTelling_38 : decode cX7_writeTelling 38 = .ok (.getfield 335, 3) := by decide +kernel
theorem dX7_writeTelling_41 : decode cX7_writeTelling 41 = .ok (.iconst 0, 1) := by decide +kernel
theorem dX7_writeTelling_42 : decode cX7_writeTelling 42 = .ok (.invokevirtual 337, 3) := by decide +kernel
theorem dX7_writeTelling_45 : decode cX7_writeTelling 45 = .ok (.aload_n 2, 1) := by decide +kernel
theorem dX7_writeTelling_46 : decode cX7_writeTelling 46 = .ok (.aload_n 0, 1) := by decide +kernel
theorem dX7_writeTelling_47 : decode cX7_writeTelling 47 = .ok (.getfield 62, 3) := by decide +kernel
theorem dX7_writeTelling_50 : decode cX7_writeTelling 50 = .ok (.aload_n 2, 1) := by decide +kernel
theorem dX7_writeTelling_51 : decode cX7_writeTelling 51 = .ok (.getfield 335, 3) := by decide +kernel
theorem dX7_writeTelling_54 : decode cX7_writeTelling 54 = .ok (.iconst 2, 1) := by decide +kernel
theorem dX7_writeTelling_55 : decode cX7_writeTelling 55 = .ok (.idiv, 1) := by decide +kernel
theorem dX7_writeTelling_56 : decode cX7_writeTelling 56 = .ok (.iadd, 1) := by decide +kernel
theorem dX7_writeTelling_57 : decode cX7_writeTelling 57 = .ok (.putfield 65, 3) := by decide +kernel
theorem dX7_writeTelling_60 : decode cX7_writeTelling 60 = .ok (.goto 73, 3) := by decide +kernel
theorem dX7_writeTelling_63 : decode cX7_writeTelling 63 = .ok (.iload_n 3, 1) := by decide +kernel
theorem dX7_writeTelling_64 : decode cX7_writeTelling 64 = .ok (.ifCond .eq 69, 3) := by decide +kernel
theorem dX7_writeTelling_67 : decode cX7_writeTelling 67 = .ok (.aload_n 1, 1) := by decide +kernel
theorem dX7_writeTelling_68 : decode cX7_writeTelling 68 = .ok (.getfield 134, 3) := by decide +kernel
theorem dX7_writeTelling_71 : decode cX7_writeTelling 71 = .ok (.iload 4, 2) := by decide +kernel
theorem dX7_writeTelling_73 : decode cX7_writeTelling 73 = .ok (.invokevirtual 191, 3) := by decide +kernel
theorem dX7_writeTelling_76 : decode cX7_writeTelling 76 = .ok (.ifCond .eq 57, 3) := by decide +kernel
theorem dX7_writeTelling_79 : decode cX7_writeTelling 79 = .ok (.aload_n 1, 1) := by decide +kernel
theorem dX7_writeTelling_80 : decode cX7_writeTelling 80 = .ok (.getfield 134, 3) := by decide +kernel
theorem dX7_writeTelling_83 : decode cX7_writeTelling 83 = .ok (.iload 4, 2) := by decide +kernel
theorem dX7_writeTelling_85 : decode cX7_writeTelling 85 = .ok (.aload_n 0, 1) := by decide +kernel
theorem dX7_writeTelling_86 : decode cX7_writeTelling 86 = .ok (.getfield 62, 3) := by decide +kernel
theorem dX7_writeTelling_89 : decode cX7_writeTelling 89 = .ok (.invokevirtual 194, 3) := by decide +kernel
theorem dX7_writeTelling_92 : decode cX7_writeTelling 92 = .ok (.iconst 1, 1) := by decide +kernel
theorem dX7_writeTelling_93 : decode cX7_writeTelling 93 = .ok (.isub, 1) := by decide +kernel
theorem dX7_writeTelling_94 : decode cX7_writeTelling 94 = .ok (.istore 5, 2) := by decide +kernel
theorem dX7_writeTelling_96 : decode cX7_writeTelling 96 = .ok (.iload 5, 2) := by decide +kernel
theorem dX7_writeTelling_98 : decode cX7_writeTelling 98 = .ok (.ifCond .le 35, 3) := by decide +kernel
theorem dX7_writeTelling_101 : decode cX7_writeTelling 101 = .ok (.aload_n 1, 1) := by decide +kernel
theorem dX7_writeTelling_102 : decode cX7_writeTelling 102 = .ok (.getfield 280, 3) := by decide +kernel
theorem dX7_writeTelling_105 : decode cX7_writeTelling 105 = .ok (.iload 4, 2) := by decide +kernel
theorem dX7_writeTelling_107 : decode cX7_writeTelling 107 = .ok (.aload_n 1, 1) := by decide +kernel
theorem dX7_writeTelling_108 : decode cX7_writeTelling 108 = .ok (.getfield 134, 3) := by decide +kernel
theorem dX7_writeTelling_111 : decode cX7_writeTelling 111 = .ok (.getfield 184, 3) := by decide +kernel
theorem dX7_writeTelling_114 : decode cX7_writeTelling 114 = .ok (.iload 4, 2) := by decide +kernel
theorem dX7_writeTelling_116 : decode cX7_writeTelling 116 = .ok (.iaload, 1) := by decide +kernel
theorem dX7_writeTelling_117 : decode cX7_writeTelling 117 = .ok (.aload_n 1, 1) := by decide +kernel
theorem dX7_writeTelling_118 : decode cX7_writeTelling 118 = .ok (.getfield 134, 3) := by decide +kernel
theorem dX7_writeTelling_121 : decode cX7_writeTelling 121 = .ok (.getfield 192, 3) := by decide +kernel
theorem dX7_writeTelling_124 : decode cX7_writeTelling 124 = .ok (.iload 4, 2) := by decide +kernel
theorem dX7_writeTelling_126 : decode cX7_writeTelling 126 = .ok (.iaload, 1) := by decide +kernel
theorem dX7_writeTelling_127 : decode cX7_writeTelling 127 = .ok (.iload 5, 2) := by decide +kernel
theorem dX7_writeTelling_129 : decode cX7_writeTelling 129 = .ok (.iconst 0, 1) := by decide +kernel
theorem dX7_writeTelling_130 : decode cX7_writeTelling 130 = .ok (.invokevirtual 337, 3) := by decide +kernel
theorem dX7_writeTelling_133 : decode cX7_writeTelling 133 = .ok (.return_, 1) := by decide +kernel
theorem dX7_writeCarried_0 : decode cX7_writeCarried 0 = .ok (.aload_n 1, 1) := by decide +kernel
theorem dX7_writeCarried_1 : decode cX7_writeCarried 1 = .ok (.getfield 88, 3) := by decide +kernel
theorem dX7_writeCarried_4 : decode cX7_writeCarried 4 = .ok (.aload_n 2, 1) := by decide +kernel
theorem dX7_writeCarried_5 : decode cX7_writeCarried 5 = .ok (.getfield 209, 3) := by decide +kernel
theorem dX7_writeCarried_8 : decode cX7_writeCarried 8 = .ok (.if_icmp .ne 4, 3) := by decide +kernel
theorem dX7_writeCarried_11 : decode cX7_writeCarried 11 = .ok (.return_, 1) := by decide +kernel
theorem dX7_writeCarried_12 : decode cX7_writeCarried 12 = .ok (.aload_n 1, 1) := by decide +kernel
theorem dX7_writeCarried_13 : decode cX7_writeCarried 13 = .ok (.getfield 280, 3) := by decide +kernel
theorem dX7_writeCarried_16 : decode cX7_writeCarried 16 = .ok (.astore_n 3, 1) := by decide +kernel
theorem dX7_writeCarried_17 : decode cX7_writeCarried 17 = .ok (.aload_n 1, 1) := by decide +kernel
theorem dX7_writeCarried_18 : decode cX7_writeCarried 18 = .ok (.aload_n 2, 1) := by decide +kernel
theorem dX7_writeCarried_19 : decode cX7_writeCarried 19 = .ok (.getfield 340, 3) := by decide +kernel
theorem dX7_writeCarried_22 : decode cX7_writeCarried 22 = .ok (.putfield 280, 3) := by decide +kernel
theorem dX7_writeCarried_25 : decode cX7_writeCarried 25 = .ok (.aload_n 2, 1) := by decide +kernel
theorem dX7_writeCarried_26 : decode cX7_writeCarried 26 = .ok (.aload_n 3, 1) := by decide +kernel
theorem dX7_writeCarried_27 : decode cX7_writeCarried 27 = .ok (.putfield 340, 3) := by decide +kernel
theorem dX7_writeCarried_30 : decode cX7_writeCarried 30 = .ok (.aload_n 2, 1) := by decide +kernel
theorem dX7_writeCarried_31 : decode cX7_writeCarried 31 = .ok (.getfield 343, 3) := by decide +kernel
theorem dX7_writeCarried_34 : decode cX7_writeCarried 34 = .ok (.astore_n 3, 1) := by decide +kernel
theorem dX7_writeCarried_35 : decode cX7_writeCarried 35 = .ok (.aload_n 2, 1) := by decide +kernel
theorem dX7_writeCarried_36 : decode cX7_writeCarried 36 = .ok (.aload_n 2, 1) := by decide +kernel
theorem dX7_writeCarried_37 : decode cX7_writeCarried 37 = .ok (.getfield 344, 3) := by decide +kernel
theorem dX7_writeCarried_40 : decode cX7_writeCarried 40 = .ok (.putfield 343, 3) := by decide +kernel
theorem dX7_writeCarried_43 : decode cX7_writeCarried 43 = .ok (.aload_n 2, 1) := by decide +kernel
theorem dX7_writeCarried_44 : decode cX7_writeCarried 44 = .ok (.aload_n 3, 1) := by decide +kernel
theorem dX7_writeCarried_45 : decode cX7_writeCarried 45 = .ok (.putfield 344, 3) := by decide +kernel
theorem dX7_writeCarried_48 : decode cX7_writeCarried 48 = .ok (.aload_n 0, 1) := by decide +kernel
theorem dX7_writeCarried_49 : decode cX7_writeCarried 49 = .ok (.aload_n 1, 1) := by decide +kernel
theorem dX7_writeCarried_50 : decode cX7_writeCarried 50 = .ok (.aload_n 1, 1) := by decide +kernel
theorem dX7_writeCarried_51 : decode cX7_writeCarried 51 = .ok (.getfield 280, 3) := by decide +kernel
theorem dX7_writeCarried_54 : decode cX7_writeCarried 54 = .ok (.aload_n 1, 1) := by decide +kernel
theorem dX7_writeCarried_55 : decode cX7_writeCarried 55 = .ok (.getfield 88, 3) := by decide +kernel
theorem dX7_writeCarried_58 : decode cX7_writeCarried 58 = .ok (.invokevirtual 284, 3) := by decide +kernel
theorem dX7_writeCarried_61 : decode cX7_writeCarried 61 = .ok (.aload_n 0, 1) := by decide +kernel
theorem dX7_writeCarried_62 : decode cX7_writeCarried 62 = .ok (.aload_n 1, 1) := by decide +kernel
theorem dX7_writeCarried_63 : decode cX7_writeCarried 63 = .ok (.aload_n 2, 1) := by decide +kernel
theorem dX7_writeCarried_64 : decode cX7_writeCarried 64 = .ok (.getfield 343, 3) := by decide +kernel
theorem dX7_writeCarried_67 : decode cX7_writeCarried 67 = .ok (.aload_n 2, 1) := by decide +kernel
theorem dX7_writeCarried_68 : decode cX7_writeCarried 68 = .ok (.getfield 209, 3) := by decide +kernel
theorem dX7_writeCarried_71 : decode cX7_writeCarried 71 = .ok (.invokevirtual 284, 3) := by decide +kernel
theorem dX7_writeCarried_74 : decode cX7_writeCarried 74 = .ok (.return_, 1) := by decide +kernel
theorem dX7_post_0 : decode cX7_post 0 = .ok (.aload_n 2, 1) := by decide +kernel
theorem dX7_post_1 : decode cX7_post 1 = .ok (.invokevirtual 347, 3) := by decide +kernel
theorem dX7_post_4 : decode cX7_post 4 = .ok (.ifCond .eq 4, 3) := by decide +kernel
theorem dX7_post_7 : decode cX7_post 7 = .ok (.return_, 1) := by decide +kernel
theorem dX7_post_8 : decode cX7_post 8 = .ok (.aload_n 2, 1) := by decide +kernel
theorem dX7_post_9 : decode cX7_post 9 = .ok (.iload_n 3, 1) := by decide +kernel
theorem dX7_post_10 : decode cX7_post 10 = .ok (.putfield 348, 3) := by decide +kernel
theorem dX7_post_13 : decode cX7_post 13 = .ok (.aload_n 1, 1) := by decide +kernel
theorem dX7_post_14 : decode cX7_post 14 = .ok (.dup, 1) := by decide +kernel
theorem dX7_post_15 : decode cX7_post 15 = .ok (.getfield 213, 3) := by decide +kernel
theorem dX7_post_18 : decode cX7_post 18 = .ok (.iconst 1, 1) := by decide +kernel
theorem dX7_post_19 : decode cX7_post 19 = .ok (.iadd, 1) := by decide +kernel
theorem dX7_post_20 : decode cX7_post 20 = .ok (.putfield 213, 3) := by decide +kernel
theorem dX7_post_23 : decode cX7_post 23 = .ok (.aload_n 0, 1) := by decide +kernel
theorem dX7_post_24 : decode cX7_post 24 = .ok (.dup, 1) := by decide +kernel
theorem dX7_post_25 : decode cX7_post 25 = .ok (.getfield 226, 3) := by decide +kernel
theorem dX7_post_28 : decode cX7_post 28 = .ok (.iconst 1, 1) := by decide +kernel
theorem dX7_post_29 : decode cX7_post 29 = .ok (.iadd, 1) := by decide +kernel
theorem dX7_post_30 : decode cX7_post 30 = .ok (.putfield 226, 3) := by decide +kernel
theorem dX7_post_33 : decode cX7_post 33 = .ok (.aload_n 0, 1) := by decide +kernel
theorem dX7_post_34 : decode cX7_post 34 = .ok (.dup, 1) := by decide +kernel
theorem dX7_post_35 : decode cX7_post 35 = .ok (.getfield 244, 3) := by decide +kernel
theorem dX7_post_38 : decode cX7_post 38 = .ok (.iconst 1, 1) := by decide +kernel
theorem dX7_post_39 : decode cX7_post 39 = .ok (.iadd, 1) := by decide +kernel
theorem dX7_post_40 : decode cX7_post 40 = .ok (.putfield 244, 3) := by decide +kernel
theorem dX7_post_43 : decode cX7_post 43 = .ok (.return_, 1) := by decide +kernel
theorem dX7_hearLetters_0 : decode cX7_hearLetters 0 = .ok (.iconst 0, 1) := by decide +kernel
theorem dX7_hearLetters_1 : decode cX7_hearLetters 1 = .ok (.istore_n 1, 1) := by decide +kernel
theorem dX7_hearLetters_2 : decode cX7_hearLetters 2 = .ok (.iload_n 1, 1) := by decide +kernel
theorem dX7_hearLetters_3 : decode cX7_hearLetters 3 = .ok (.aload_n 0, 1) := by decide +kernel
theorem dX7_hearLetters_4 : decode cX7_hearLetters 4 = .ok (.getfield 25, 3) := by decide +kernel
theorem dX7_hearLetters_7 : decode cX7_hearLetters 7 = .ok (.if_icmp .ge 44, 3) := by decide +kernel
theorem dX7_hearLetters_10 : decode cX7_hearLetters 10 = .ok (.aload_n 0, 1) := by decide +kernel
theorem dX7_hearLetters_11 : decode cX7_hearLetters 11 = .ok (.getfield 11, 3) := by decide +kernel
theorem dX7_hearLetters_14 : decode cX7_hearLetters 14 = .ok (.iload_n 1, 1) := by decide +kernel
theorem dX7_hearLetters_15 : decode cX7_hearLetters 15 = .ok (.aaload, 1) := by decide +kernel
theorem dX7_hearLetters_16 : decode cX7_hearLetters 16 = .ok (.astore_n 2, 1) := by decide +kernel
theorem dX7_hearLetters_17 : decode cX7_hearLetters 17 = .ok (.aload_n 0, 1) := by decide +kernel
theorem dX7_hearLetters_18 : decode cX7_hearLetters 18 = .ok (.aload_n 2, 1) := by decide +kernel
theorem dX7_hearLetters_19 : decode cX7_hearLetters 19 = .ok (.aload_n 2, 1) := by decide +kernel
theorem dX7_hearLetters_20 : decode cX7_hearLetters 20 = .ok (.getfield 280, 3) := by decide +kernel
theorem dX7_hearLetters_23 : decode cX7_hearLetters 23 = .ok (.invokevirtual 349, 3) := by decide +kernel
theorem dX7_hearLetters_26 : decode cX7_hearLetters 26 = .ok (.aload_n 2, 1) := by decide +kernel
theorem dX7_hearLetters_27 : decode cX7_hearLetters 27 = .ok (.getfield 155, 3) := by decide +kernel
theorem dX7_hearLetters_30 : decode cX7_hearLetters 30 = .ok (.ifnull 15, 3) := by decide +kernel
theorem dX7_hearLetters_33 : decode cX7_hearLetters 33 = .ok (.aload_n 0, 1) := by decide +kernel
theorem dX7_hearLetters_34 : decode cX7_hearLetters 34 = .ok (.aload_n 2, 1) := by decide +kernel
theorem dX7_hearLetters_35 : decode cX7_hearLetters 35 = .ok (.aload_n 2, 1) := by decide +kernel
theorem dX7_hearLetters_36 : decode cX7_hearLetters 36 = .ok (.getfield 155, 3) := by decide +kernel
theorem dX7_hearLetters_39 : decode cX7_hearLetters 39 = .ok (.getfield 343, 3) := by decide +kernel
theorem dX7_hearLetters_42 : decode cX7_hearLetters 42 = .ok (.invokevirtual 349, 3) := by decide +kernel
theorem dX7_hearLetters_45 : decode cX7_hearLetters 45 = .ok (.iinc 1 1, 3) := by decide +kernel
theorem dX7_hearLetters_48 : decode cX7_hearLetters 48 = .ok (.goto (-46), 3) := by decide +kernel
theorem dX7_hearLetters_51 : decode cX7_hearLetters 51 = .ok (.return_, 1) := by decide +kernel
theorem dX7_sendOut_0 : decode cX7_sendOut 0 = .ok (.aload_n 2, 1) := by decide +kernel
theorem dX7_sendOut_1 : decode cX7_sendOut 1 = .ok (.invokevirtual 347, 3) := by decide +kernel
theorem dX7_sendOut_4 : decode cX7_sendOut 4 = .ok (.ifCond .eq 4, 3) := by decide +kernel
theorem dX7_sendOut_7 : decode cX7_sendOut 7 = .ok (.return_, 1) := by decide +kernel
theorem dX7_sendOut_8 : decode cX7_sendOut 8 = .ok (.aload_n 1, 1) := by decide +kernel
theorem dX7_sendOut_9 : decode cX7_sendOut 9 = .ok (.getfield 159, 3) := by decide +kernel
theorem dX7_sendOut_12 : decode cX7_sendOut 12 = .ok (.ifCond .le 24, 3) := by decide +kernel
theorem dX7_sendOut_15 : decode cX7_sendOut 15 = .ok (.aload_n 1, 1) := by decide +kernel
theorem dX7_sendOut_16 : decode cX7_sendOut 16 = .ok (.dup, 1) := by decide +kernel
theorem dX7_sendOut_17 : decode cX7_sendOut 17 = .ok (.getfield 159, 3) := by decide +kernel
theorem dX7_sendOut_20 : decode cX7_sendOut 20 = .ok (.iconst 1, 1) := by decide +kernel
theorem dX7_sendOut_21 : decode cX7_sendOut 21 = .ok (.isub, 1) := by decide +kernel
theorem dX7_sendOut_22 : decode cX7_sendOut 22 = .ok (.putfield 159, 3) := by decide +kernel
theorem dX7_sendOut_25 : decode cX7_sendOut 25 = .ok (.aload_n 0, 1) := by decide +kernel
theorem dX7_sendOut_26 : decode cX7_sendOut 26 = .ok (.dup, 1) := by decide +kernel
theorem dX7_sendOut_27 : decode cX7_sendOut 27 = .ok (.getfield 229, 3) := by decide +kernel
theorem dX7_sendOut_30 : decode cX7_sendOut 30 = .ok (.iconst 1, 1) := by decide +kernel
theorem dX7_sendOut_31 : decode cX7_sendOut 31 = .ok (.iadd, 1) := by decide +kernel
theorem dX7_sendOut_32 : decode cX7_sendOut 32 = .ok (.putfield 229, 3) := by decide +kernel
theorem dX7_sendOut_35 : decode cX7_sendOut 35 = .ok (.return_, 1) := by decide +kernel
theorem dX7_sendOut_36 : decode cX7_sendOut 36 = .ok (.iconst 0, 1) := by decide +kernel
theorem dX7_sendOut_37 : decode cX7_sendOut 37 = .ok (.istore_n 3, 1) := by decide +kernel
theorem dX7_sendOut_38 : decode cX7_sendOut 38 = .ok (.iload_n 3, 1) := by decide +kernel
theorem dX7_sendOut_39 : decode cX7_sendOut 39 = .ok (.aload_n 0, 1) := by decide +kernel
theorem dX7_sendOut_40 : decode cX7_sendOut 40 = .ok (.getfield 25, 3) := by decide +kernel
theorem dX7_sendOut_43 : decode cX7_sendOut 43 = .ok (.if_icmp .ge 97, 3) := by decide +kernel
theorem dX7_sendOut_46 : decode cX7_sendOut 46 = .ok (.aload_n 0, 1) := by decide +kernel
theorem dX7_sendOut_47 : decode cX7_sendOut 47 = .ok (.getfield 11, 3) := by decide +kernel
theorem dX7_sendOut_50 : decode cX7_sendOut 50 = .ok (.iload_n 3, 1) := by decide +kernel
theorem dX7_sendOut_51 : decode cX7_sendOut 51 = .ok (.aaload, 1) := by decide +kernel
theorem dX7_sendOut_52 : decode cX7_sendOut 52 = .ok (.astore 4, 2) := by decide +kernel
theorem dX7_sendOut_54 : decode cX7_sendOut 54 = .ok (.aload 4, 2) := by decide +kernel
theorem dX7_sendOut_56 : decode cX7_sendOut 56 = .ok (.aload_n 1, 1) := by decide +kernel
theorem dX7_sendOut_57 : decode cX7_sendOut 57 = .ok (.if_acmp .eq 77, 3) := by decide +kernel
theorem dX7_sendOut_60 : decode cX7_sendOut 60 = .ok (.aload 4, 2) := by decide +kernel
theorem dX7_sendOut_62 : decode cX7_sendOut 62 = .ok (.getfield 95, 3) := by decide +kernel
theorem dX7_sendOut_65 : decode cX7_sendOut 65 = .ok (.iconst 2, 1) := by decide +kernel
theorem dX7_sendOut_66 : decode cX7_sendOut 66 = .ok (.if_icmp .ne 68, 3) := by decide +kernel
theorem dX7_sendOut_69 : decode cX7_sendOut 69 = .ok (.aload 4, 2) := by decide +kernel
theorem dX7_sendOut_71 : decode cX7_sendOut 71 = .ok (.aload_n 2, 1) := by decide +kernel
theorem dX7_sendOut_72 : decode cX7_sendOut 72 = .ok (.getfield 348, 3) := by decide +kernel
theorem dX7_sendOut_75 : decode cX7_sendOut 75 = .ok (.invokevirtual 353, 3) := by decide +kernel
theorem dX7_sendOut_78 : decode cX7_sendOut 78 = .ok (.ifCond .eq 56, 3) := by decide +kernel
theorem dX7_sendOut_81 : decode cX7_sendOut 81 = .ok (.aload 4, 2) := by decide +kernel
theorem dX7_sendOut_83 : decode cX7_sendOut 83 = .ok (.getfield 162, 3) := by decide +kernel
theorem dX7_sendOut_86 : decode cX7_sendOut 86 = .ok (.ifCond .le 17, 3) := by decide +kernel
theorem dX7_sendOut_89 : decode cX7_sendOut 89 = .ok (.aload 4, 2) := by decide +kernel
theorem dX7_sendOut_91 : decode cX7_sendOut 91 = .ok (.dup, 1) := by decide +kernel
theorem dX7_sendOut_92 : decode cX7_sendOut 92 = .ok (.getfield 162, 3) := by decide +kernel
theorem dX7_sendOut_95 : decode cX7_sendOut 95 = .ok (.iconst 1, 1) := by decide +kernel
theorem dX7_sendOut_96 : decode cX7_sendOut 96 = .ok (.isub, 1) := by decide +kernel
theorem dX7_sendOut_97 : decode cX7_sendOut 97 = .ok (.putfield 162, 3) := by decide +kernel
theorem dX7_sendOut_100 : decode cX7_sendOut 100 = .ok (.goto 34, 3) := by decide +kernel
theorem dX7_sendOut_103 : decode cX7_sendOut 103 = .ok (.aload 4, 2) := by decide +kernel
theorem dX7_sendOut_105 : decode cX7_sendOut 105 = .ok (.getfield 155, 3) := by decide +kernel
theorem dX7_sendOut_108 : decode cX7_sendOut 108 = .ok (.ifnull 18, 3) := by decide +kernel
theorem dX7_sendOut_111 : decode cX7_sendOut 111 = .ok (.aload_n 0, 1) := by decide +kernel
theorem dX7_sendOut_112 : decode cX7_sendOut 112 = .ok (.aload 4, 2) := by decide +kernel
theorem dX7_sendOut_114 : decode cX7_sendOut 114 = .ok (.aload 4, 2) := by decide +kernel
theorem dX7_sendOut_116 : decode cX7_sendOut 116 = .ok (.getfield 155, 3) := by decide +kernel
theorem dX7_sendOut_119 : decode cX7_sendOut 119 = .ok (.aload_n 2, 1) := by decide +kernel
theorem dX7_sendOut_120 : decode cX7_sendOut 120 = .ok (.invokevirtual 356, 3) := by decide +kernel
theorem dX7_sendOut_123 : decode cX7_sendOut 123 = .ok (.goto 11, 3) := by decide +kernel
theorem dX7_sendOut_126 : decode cX7_sendOut 126 = .ok (.aload_n 0, 1) := by decide +kernel
theorem dX7_sendOut_127 : decode cX7_sendOut 127 = .ok (.aload 4, 2) := by decide +kernel
theorem dX7_sendOut_129 : decode cX7_sendOut 129 = .ok (.aload_n 1, 1) := by decide +kernel
theorem dX7_sendOut_130 : decode cX7_sendOut 130 = .ok (.aload_n 2, 1) := by decide +kernel
theorem dX7_sendOut_131 : decode cX7_sendOut 131 = .ok (.invokevirtual 360, 3) := by decide +kernel
theorem dX7_sendOut_134 : decode cX7_sendOut 134 = .ok (.iinc 3 1, 3) := by decide +kernel
theorem dX7_sendOut_137 : decode cX7_sendOut 137 = .ok (.goto (-99), 3) := by decide +kernel
theorem dX7_sendOut_140 : decode cX7_sendOut 140 = .ok (.return_, 1) := by decide +kernel
theorem dX7_takeUp_0 : decode cX7_takeUp 0 = .ok (.aload_n 3, 1) := by decide +kernel
theorem dX7_takeUp_1 : decode cX7_takeUp 1 = .ok (.getfield 348, 3) := by decide +kernel
theorem dX7_takeUp_4 : decode cX7_takeUp 4 = .ok (.aload_n 1, 1) := by decide +kernel
theorem dX7_takeUp_5 : decode cX7_takeUp 5 = .ok (.getfield 88, 3) := by decide +kernel
theorem dX7_takeUp_8 : decode cX7_takeUp 8 = .ok (.if_icmp .ne 7, 3) := by decide +kernel
theorem dX7_takeUp_11 : decode cX7_takeUp 11 = .ok (.iconst 1, 1) := by decide +kernel
theorem dX7_takeUp_12 : decode cX7_takeUp 12 = .ok (.goto 4, 3) := by decide +kernel
theorem dX7_takeUp_15 : decode cX7_takeUp 15 = .ok (.iconst 0, 1) := by decide +kernel
theorem dX7_takeUp_16 : decode cX7_takeUp 16 = .ok (.istore 4, 2) := by decide +kernel
theorem dX7_takeUp_18 : decode cX7_takeUp 18 = .ok (.iload 4, 2) := by decide +kernel
theorem dX7_takeUp_20 : decode cX7_takeUp 20 = .ok (.ifCond .eq 10, 3) := by decide +kernel
theorem dX7_takeUp_23 : decode cX7_takeUp 23 = .ok (.aload_n 2, 1) := by decide +kernel
theorem dX7_takeUp_24 : decode cX7_takeUp 24 = .ok (.getfield 344, 3) := by decide +kernel
theorem dX7_takeUp_27 : decode cX7_takeUp 27 = .ok (.goto 7, 3) := by decide +kernel
theorem dX7_takeUp_30 : decode cX7_takeUp 30 = .ok (.aload_n 2, 1) := by decide +kernel
theorem dX7_takeUp_31 : decode cX7_takeUp 31 = .ok (.getfield 340, 3) := by decide +kernel
theorem dX7_takeUp_34 : decode cX7_takeUp 34 = .ok (.astore 5, 2) := by decide +kernel
theorem dX7_takeUp_36 : decode cX7_takeUp 36 = .ok (.iload 4, 2) := by decide +kernel
theorem dX7_takeUp_38 : decode cX7_takeUp 38 = .ok (.ifCond .eq 10, 3) := by decide +kernel
theorem dX7_takeUp_41 : decode cX7_takeUp 41 = .ok (.aload_n 2, 1) := by decide +kernel
theorem dX7_takeUp_42 : decode cX7_takeUp 42 = .ok (.getfield 209, 3) := by decide +kernel
theorem dX7_takeUp_45 : decode cX7_takeUp 45 = .ok (.goto 7, 3) := by decide +kernel
theorem dX7_takeUp_48 : decode cX7_takeUp 48 = .ok (.aload_n 1, 1) := by decide +kernel
theorem dX7_takeUp_49 : decode cX7_takeUp 49 = .ok (.getfield 88, 3) := by decide +kernel
theorem dX7_takeUp_52 : decode cX7_takeUp 52 = .ok (.istore 6, 2) := by decide +kernel
theorem dX7_takeUp_54 : decode cX7_takeUp 54 = .ok (.aload 5, 2) := by decide +kernel
theorem dX7_takeUp_56 : decode cX7_takeUp 56 = .ok (.invokevirtual 364, 3) := by decide +kernel
theorem dX7_takeUp_59 : decode cX7_takeUp 59 = .ok (.istore 7, 2) := by decide +kernel
theorem dX7_takeUp_61 : decode cX7_takeUp 61 = .ok (.aload_n 3, 1) := by decide +kernel
theorem dX7_takeUp_62 : decode cX7_takeUp 62 = .ok (.getfield 365, 3) := by decide +kernel
theorem dX7_takeUp_65 : decode cX7_takeUp 65 = .ok (.aload_n 3, 1) := by decide +kernel
theorem dX7_takeUp_66 : decode cX7_takeUp 66 = .ok (.getfield 366, 3) := by decide +kernel
theorem dX7_takeUp_69 : decode cX7_takeUp 69 = .ok (.ior, 1) := by decide +kernel
theorem dX7_takeUp_70 : decode cX7_takeUp 70 = .ok (.aload_n 3, 1) := by decide +kernel
theorem dX7_takeUp_71 : decode cX7_takeUp 71 = .ok (.getfield 369, 3) := by decide +kernel
theorem dX7_takeUp_74 : decode cX7_takeUp 74 = .ok (.ior, 1) := by decide +kernel
theorem dX7_takeUp_75 : decode cX7_takeUp 75 = .ok (.istore 8, 2) := by decide +kernel
theorem dX7_takeUp_77 : decode cX7_takeUp 77 = .ok (.iconst 0, 1) := by decide +kernel
theorem dX7_takeUp_78 : decode cX7_takeUp 78 = .ok (.istore 9, 2) := by decide +kernel
theorem dX7_takeUp_80 : decode cX7_takeUp 80 = .ok (.iload 9, 2) := by decide +kernel
theorem dX7_takeUp_82 : decode cX7_takeUp 82 = .ok (.bipush 16, 2) := by decide +kernel
theorem dX7_takeUp_84 : decode cX7_takeUp 84 = .ok (.if_icmp .ge 35, 3) := by decide +kernel
theorem dX7_takeUp_87 : decode cX7_takeUp 87 = .ok (.aload_n 3, 1) := by decide +kernel
theorem dX7_takeUp_88 : decode cX7_takeUp 88 = .ok (.getfield 372, 3) := by decide +kernel
theorem dX7_takeUp_91 : decode cX7_takeUp 91 = .ok (.ifCond .eq 28, 3) := by decide +kernel
theorem dX7_takeUp_94 : decode cX7_takeUp 94 = .ok (.aload_n 2, 1) := by decide +kernel
theorem dX7_takeUp_95 : decode cX7_takeUp 95 = .ok (.iload 9, 2) := by decide +kernel
theorem dX7_takeUp_97 : decode cX7_takeUp 97 = .ok (.invokevirtual 374, 3) := by decide +kernel
theorem dX7_takeUp_100 : decode cX7_takeUp 100 = .ok (.ifCond .eq 13, 3) := by decide +kernel
theorem dX7_takeUp_103 : decode cX7_takeUp 103 = .ok (.aload 5, 2) := by decide +kernel
theorem dX7_takeUp_105 : decode cX7_takeUp 105 = .ok (.aload_n 3, 1) := by decide +kernel
theorem dX7_takeUp_106 : decode cX7_takeUp 106 = .ok (.iload 9, 2) := by decide +kernel
theorem dX7_takeUp_108 : decode cX7_takeUp 108 = .ok (.iload 6, 2) := by decide +kernel
theorem dX7_takeUp_110 : decode cX7_takeUp 110 = .ok (.invokevirtual 377, 3) := by decide +kernel
theorem dX7_takeUp_113 : decode cX7_takeUp 113 = .ok (.iinc 9 1, 3) := by decide +kernel
theorem dX7_takeUp_116 : decode cX7_takeUp 116 = .ok (.goto (-36), 3) := by decide +kernel
theorem dX7_takeUp_119 : decode cX7_takeUp 119 = .ok (.iconst 0, 1) := by decide +kernel
theorem dX7_takeUp_120 : decode cX7_takeUp 120 = .ok (.istore 9, 2) := by decide +kernel
theorem dX7_takeUp_122 : decode cX7_takeUp 122 = .ok (.iload 9, 2) := by decide +kernel
theorem dX7_takeUp_124 : decode cX7_takeUp 124 = .ok (.aload_n 0, 1) := by decide +kernel
theorem dX7_takeUp_125 : decode cX7_takeUp 125 = .ok (.getfield 103, 3) := by decide +kernel
theorem dX7_takeUp_128 : decode cX7_takeUp 128 = .ok (.if_icmp .ge 66, 3) := by decide +kernel
theorem dX7_takeUp_131 : decode cX7_takeUp 131 = .ok (.iload 8, 2) := by decide +kernel
theorem dX7_takeUp_133 : decode cX7_takeUp 133 = .ok (.iload 9, 2) := by decide +kernel
theorem dX7_takeUp_135 : decode cX7_takeUp 135 = .ok (.invokestatic 381, 3) := by decide +kernel
theorem dX7_takeUp_138 : decode cX7_takeUp 138 = .ok (.ifCond .eq 50, 3) := by decide +kernel
theorem dX7_takeUp_141 : decode cX7_takeUp 141 = .ok (.aload_n 2, 1) := by decide +kernel
theorem dX7_takeUp_142 : decode cX7_takeUp 142 = .ok (.aload_n 0, 1) := by decide +kernel
theorem dX7_takeUp_143 : decode cX7_takeUp 143 = .ok (.getfield 17, 3) := by decide +kernel
theorem dX7_takeUp_146 : decode cX7_takeUp 146 = .ok (.iload 9, 2) := by decide +kernel
theorem dX7_takeUp_148 : decode cX7_takeUp 148 = .ok (.aaload, 1) := by decide +kernel
theorem dX7_takeUp_149 : decode cX7_takeUp 149 = .ok (.getfield 268, 3) := by decide +kernel
theorem dX7_takeUp_152 : decode cX7_takeUp 152 = .ok (.invokevirtual 374, 3) := by decide +kernel
theorem dX7_takeUp_155 : decode cX7_takeUp 155 = .ok (.ifCond .eq 33, 3) := by decide +kernel
theorem dX7_takeUp_158 : decode cX7_takeUp 158 = .ok (.aload 5, 2) := by decide +kernel
theorem dX7_takeUp_160 : decode cX7_takeUp 160 = .ok (.aload_n 3, 1) := by decide +kernel
theorem dX7_takeUp_161 : decode cX7_takeUp 161 = .ok (.iload 9, 2) := by decide +kernel
theorem dX7_takeUp_163 : decode cX7_takeUp 163 = .ok (.iload 6, 2) := by decide +kernel
theorem dX7_takeUp_165 : decode cX7_takeUp 165 = .ok (.invokevirtual 384, 3) := by decide +kernel
theorem dX7_takeUp_168 : decode cX7_takeUp 168 = .ok (.aload 5, 2) := by decide +kernel
theorem dX7_takeUp_170 : decode cX7_takeUp 170 = .ok (.aload_n 3, 1) := by decide +kernel
theorem dX7_takeUp_171 : decode cX7_takeUp 171 = .ok (.iload 9, 2) := by decide +kernel
theorem dX7_takeUp_173 : decode cX7_takeUp 173 = .ok (.iload 6, 2) := by decide +kernel
theorem dX7_takeUp_175 : decode cX7_takeUp 175 = .ok (.invokevirtual 387, 3) := by decide +kernel
theorem dX7_takeUp_178 : decode cX7_takeUp 178 = .ok (.aload 5, 2) := by decide +kernel
theorem dX7_takeUp_180 : decode cX7_takeUp 180 = .ok (.aload_n 3, 1) := by decide +kernel
theorem dX7_takeUp_181 : decode cX7_takeUp 181 = .ok (.iload 9, 2) := by decide +kernel
theorem dX7_takeUp_183 : decode cX7_takeUp 183 = .ok (.iload 6, 2) := by decide +kernel
theorem dX7_takeUp_185 : decode cX7_takeUp 185 = .ok (.invokevirtual 390, 3) := by decide +kernel
theorem dX7_takeUp_188 : decode cX7_takeUp 188 = .ok (.iinc 9 1, 3) := by decide +kernel
theorem dX7_takeUp_191 : decode cX7_takeUp 191 = .ok (.goto (-69), 3) := by decide +kernel
theorem dX7_takeUp_194 : decode cX7_takeUp 194 = .ok (.aload_n 0, 1) := by decide +kernel
theorem dX7_takeUp_195 : decode cX7_takeUp 195 = .ok (.dup, 1) := by decide +kernel
theorem dX7_takeUp_196 : decode cX7_takeUp 196 = .ok (.getfield 247, 3) := by decide +kernel
theorem dX7_takeUp_199 : decode cX7_takeUp 199 = .ok (.aload 5, 2) := by decide +kernel
theorem dX7_takeUp_201 : decode cX7_takeUp 201 = .ok (.invokevirtual 364, 3) := by decide +kernel
theorem dX7_takeUp_204 : decode cX7_takeUp 204 = .ok (.iload 7, 2) := by decide +kernel
theorem dX7_takeUp_206 : decode cX7_takeUp 206 = .ok (.isub, 1) := by decide +kernel
theorem dX7_takeUp_207 : decode cX7_takeUp 207 = .ok (.iadd, 1) := by decide +kernel
theorem dX7_takeUp_208 : decode cX7_takeUp 208 = .ok (.putfield 247, 3) := by decide +kernel
theorem dX7_takeUp_211 : decode cX7_takeUp 211 = .ok (.return_, 1) := by decide +kernel
theorem dX7_hearLetter_0 : decode cX7_hearLetter 0 = .ok (.aload_n 3, 1) := by decide +kernel
theorem dX7_hearLetter_1 : decode cX7_hearLetter 1 = .ok (.getfield 372, 3) := by decide +kernel
theorem dX7_hearLetter_4 : decode cX7_hearLetter 4 = .ok (.ifCond .eq 37, 3) := by decide +kernel
theorem dX7_hearLetter_7 : decode cX7_hearLetter 7 = .ok (.iconst 0, 1) := by decide +kernel
theorem dX7_hearLetter_8 : decode cX7_hearLetter 8 = .ok (.istore 4, 2) := by decide +kernel
theorem dX7_hearLetter_10 : decode cX7_hearLetter 10 = .ok (.iload 4, 2) := by decide +kernel
theorem dX7_hearLetter_12 : decode cX7_hearLetter 12 = .ok (.bipush 16, 2) := by decide +kernel
theorem dX7_hearLetter_14 : decode cX7_hearLetter 14 = .ok (.if_icmp .ge 27, 3) := by decide +kernel
theorem dX7_hearLetter_17 : decode cX7_hearLetter 17 = .ok (.aload_n 3, 1) := by decide +kernel
theorem dX7_hearLetter_18 : decode cX7_hearLetter 18 = .ok (.iload 4, 2) := by decide +kernel
theorem dX7_hearLetter_20 : decode cX7_hearLetter 20 = .ok (.invokevirtual 393, 3) := by decide +kernel
theorem dX7_hearLetter_23 : decode cX7_hearLetter 23 = .ok (.ifCond .eq 12, 3) := by decide +kernel
theorem dX7_hearLetter_26 : decode cX7_hearLetter 26 = .ok (.aload_n 0, 1) := by decide +kernel
theorem dX7_hearLetter_27 : decode cX7_hearLetter 27 = .ok (.aload_n 1, 1) := by decide +kernel
theorem dX7_hearLetter_28 : decode cX7_hearLetter 28 = .ok (.aload_n 2, 1) := by decide +kernel
theorem dX7_hearLetter_29 : decode cX7_hearLetter 29 = .ok (.aload_n 3, 1) := by decide +kernel
theorem dX7_hearLetter_30 : decode cX7_hearLetter 30 = .ok (.iload 4, 2) := by decide +kernel
theorem dX7_hearLetter_32 : decode cX7_hearLetter 32 = .ok (.invokevirtual 396, 3) := by decide +kernel
theorem dX7_hearLetter_35 : decode cX7_hearLetter 35 = .ok (.iinc 4 1, 3) := by decide +kernel
theorem dX7_hearLetter_38 : decode cX7_hearLetter 38 = .ok (.goto (-28), 3) := by decide +kernel
theorem dX7_hearLetter_41 : decode cX7_hearLetter 41 = .ok (.aload_n 3, 1) := by decide +kernel
theorem dX7_hearLetter_42 : decode cX7_hearLetter 42 = .ok (.getfield 365, 3) := by decide +kernel
theorem dX7_hearLetter_45 : decode cX7_hearLetter 45 = .ok (.ifCond .eq 50, 3) := by decide +kernel
theorem dX7_hearLetter_48 : decode cX7_hearLetter 48 = .ok (.iconst 0, 1) := by decide +kernel
theorem dX7_hearLetter_49 : decode cX7_hearLetter 49 = .ok (.istore 4, 2) := by decide +kernel
theorem dX7_hearLetter_51 : decode cX7_hearLetter 51 = .ok (.iload 4, 2) := by decide +kernel
theorem dX7_hearLetter_53 : decode cX7_hearLetter 53 = .ok (.aload_n 0, 1) := by decide +kernel
theorem dX7_hearLetter_54 : decode cX7_hearLetter 54 = .ok (.getfield 103, 3) := by decide +kernel
theorem dX7_hearLetter_57 : decode cX7_hearLetter 57 = .ok (.if_icmp .ge 38, 3) := by decide +kernel
theorem dX7_hearLetter_60 : decode cX7_hearLetter 60 = .ok (.aload_n 3, 1) := by decide +kernel
theorem dX7_hearLetter_61 : decode cX7_hearLetter 61 = .ok (.iload 4, 2) := by decide +kernel
theorem dX7_hearLetter_63 : decode cX7_hearLetter 63 = .ok (.invokevirtual 400, 3) := by decide +kernel
theorem dX7_hearLetter_66 : decode cX7_hearLetter 66 = .ok (.ifCond .eq 23, 3) := by decide +kernel
theorem dX7_hearLetter_69 : decode cX7_hearLetter 69 = .ok (.aload_n 0, 1) := by decide +kernel
theorem dX7_hearLetter_70 : decode cX7_hearLetter 70 = .ok (.aload_n 1, 1) := by decide +kernel
theorem dX7_hearLetter_71 : decode cX7_hearLetter 71 = .ok (.aload_n 0, 1) := by decide +kernel
theorem dX7_hearLetter_72 : decode cX7_hearLetter 72 = .ok (.getfield 17, 3) := by decide +kernel
theorem dX7_hearLetter_75 : decode cX7_hearLetter 75 = .ok (.iload 4, 2) := by decide +kernel
theorem dX7_hearLetter_77 : decode cX7_hearLetter 77 = .ok (.aaload, 1) := by decide +kernel
theorem dX7_hearLetter_78 : decode cX7_hearLetter 78 = .ok (.aload_n 3, 1) := by decide +kernel
theorem dX7_hearLetter_79 : decode cX7_hearLetter 79 = .ok (.getfield 403, 3) := by decide +kernel
theorem dX7_hearLetter_82 : decode cX7_hearLetter 82 = .ok (.iload 4, 2) := by decide +kernel
theorem dX7_hearLetter_84 : decode cX7_hearLetter 84 = .ok (.iaload, 1) := by decide +kernel
theorem dX7_hearLetter_85 : decode cX7_hearLetter 85 = .ok (.iconst 0, 1) := by decide +kernel
theorem dX7_hearLetter_86 : decode cX7_hearLetter 86 = .ok (.invokevirtual 406, 3) := by decide +kernel
theorem dX7_hearLetter_89 : decode cX7_hearLetter 89 = .ok (.iinc 4 1, 3) := by decide +kernel
theorem dX7_hearLetter_92 : decode cX7_hearLetter 92 = .ok (.goto (-41), 3) := by decide +kernel
theorem dX7_hearLetter_95 : decode cX7_hearLetter 95 = .ok (.aload_n 1, 1) := by decide +kernel
theorem dX7_hearLetter_96 : decode cX7_hearLetter 96 = .ok (.getfield 134, 3) := by decide +kernel
theorem dX7_hearLetter_99 : decode cX7_hearLetter 99 = .ok (.aload_n 3, 1) := by decide +kernel
theorem dX7_hearLetter_100 : decode cX7_hearLetter 100 = .ok (.getfield 366, 3) := by decide +kernel
theorem dX7_hearLetter_103 : decode cX7_hearLetter 103 = .ok (.invokevirtual 410, 3) := by decide +kernel
theorem dX7_hearLetter_106 : decode cX7_hearLetter 106 = .ok (.aload_n 3, 1) := by decide +kernel
theorem dX7_hearLetter_107 : decode cX7_hearLetter 107 = .ok (.getfield 369, 3) := by decide +kernel
theorem dX7_hearLetter_110 : decode cX7_hearLetter 110 = .ok (.ifCond .eq 43, 3) := by decide +kernel
theorem dX7_hearLetter_113 : decode cX7_hearLetter 113 = .ok (.iconst 0, 1) := by decide +kernel
theorem dX7_hearLetter_114 : decode cX7_hearLetter 114 = .ok (.istore 4, 2) := by decide +kernel
theorem dX7_hearLetter_116 : decode cX7_hearLetter 116 = .ok (.iload 4, 2) := by decide +kernel
theorem dX7_hearLetter_118 : decode cX7_hearLetter 118 = .ok (.aload_n 0, 1) := by decide +kernel
theorem dX7_hearLetter_119 : decode cX7_hearLetter 119 = .ok (.getfield 103, 3) := by decide +kernel
theorem dX7_hearLetter_122 : decode cX7_hearLetter 122 = .ok (.if_icmp .ge 31, 3) := by decide +kernel
theorem dX7_hearLetter_125 : decode cX7_hearLetter 125 = .ok (.aload_n 3, 1) := by decide +kernel
theorem dX7_hearLetter_126 : decode cX7_hearLetter 126 = .ok (.iload 4, 2) := by decide +kernel
theorem dX7_hearLetter_128 : decode cX7_hearLetter 128 = .ok (.invokevirtual 413, 3) := by decide +kernel
theorem dX7_hearLetter_131 : decode cX7_hearLetter 131 = .ok (.ifCond .eq 16, 3) := by decide +kernel
theorem dX7_hearLetter_134 : decode cX7_hearLetter 134 = .ok (.aload_n 0, 1) := by decide +kernel
theorem dX7_hearLetter_135 : decode cX7_hearLetter 135 = .ok (.aload_n 1, 1) := by decide +kernel
theorem dX7_hearLetter_136 : decode cX7_hearLetter 136 = .ok (.aload_n 0, 1) := by decide +kernel
theorem dX7_hearLetter_137 : decode cX7_hearLetter 137 = .ok (.getfield 17, 3) := by decide +kernel
theorem dX7_hearLetter_140 : decode cX7_hearLetter 140 = .ok (.iload 4, 2) := by decide +kernel
theorem dX7_hearLetter_142 : decode cX7_hearLetter 142 = .ok (.aaload, 1) := by decide +kernel
theorem dX7_hearLetter_143 : decode cX7_hearLetter 143 = .ok (.aload_n 3, 1) := by decide +kernel
theorem dX7_hearLetter_144 : decode cX7_hearLetter 144 = .ok (.invokevirtual 416, 3) := by decide +kernel
theorem dX7_hearLetter_147 : decode cX7_hearLetter 147 = .ok (.iinc 4 1, 3) := by decide +kernel
theorem dX7_hearLetter_150 : decode cX7_hearLetter 150 = .ok (.goto (-34), 3) := by decide +kernel
theorem dX7_hearLetter_153 : decode cX7_hearLetter 153 = .ok (.return_, 1) := by decide +kernel
theorem dX7_hearAsk_0 : decode cX7_hearAsk 0 = .ok (.aload_n 3, 1) := by decide +kernel
theorem dX7_hearAsk_1 : decode cX7_hearAsk 1 = .ok (.getfield 420, 3) := by decide +kernel
theorem dX7_hearAsk_4 : decode cX7_hearAsk 4 = .ok (.iload 4, 2) := by decide +kernel
theorem dX7_hearAsk_6 : decode cX7_hearAsk 6 = .ok (.iaload, 1) := by decide +kernel
theorem dX7_hearAsk_7 : decode cX7_hearAsk 7 = .ok (.istore 5, 2) := by decide +kernel
theorem dX7_hearAsk_9 : decode cX7_hearAsk 9 = .ok (.aload_n 3, 1) := by decide +kernel
theorem dX7_hearAsk_10 : decode cX7_hearAsk 10 = .ok (.getfield 423, 3) := by decide +kernel
theorem dX7_hearAsk_13 : decode cX7_hearAsk 13 = .ok (.iload 4, 2) := by decide +kernel
theorem dX7_hearAsk_15 : decode cX7_hearAsk 15 = .ok (.iaload, 1) := by decide +kernel
theorem dX7_hearAsk_16 : decode cX7_hearAsk 16 = .ok (.istore 6, 2) := by decide +kernel
theorem dX7_hearAsk_18 : decode cX7_hearAsk 18 = .ok (.aload_n 1, 1) := by decide +kernel
theorem dX7_hearAsk_19 : decode cX7_hearAsk 19 = .ok (.getfield 71, 3) := by decide +kernel
theorem dX7_hearAsk_22 : decode cX7_hearAsk 22 = .ok (.astore 7, 2) := by decide +kernel
theorem dX7_hearAsk_24 : decode cX7_hearAsk 24 = .ok (.aload 7, 2) := by decide +kernel
theorem dX7_hearAsk_26 : decode cX7_hearAsk 26 = .ok (.iload 4, 2) := by decide +kernel
theorem dX7_hearAsk_28 : decode cX7_hearAsk 28 = .ok (.invokevirtual 75, 3) := by decide +kernel
theorem dX7_hearAsk_31 : decode cX7_hearAsk 31 = .ok (.ifCond .eq 38, 3) := by decide +kernel
theorem dX7_hearAsk_34 : decode cX7_hearAsk 34 = .ok (.aload 7, 2) := by decide +kernel
theorem dX7_hearAsk_36 : decode cX7_hearAsk 36 = .ok (.getfield 305, 3) := by decide +kernel
theorem dX7_hearAsk_39 : decode cX7_hearAsk 39 = .ok (.iload 4, 2) := by decide +kernel
theorem dX7_hearAsk_41 : decode cX7_hearAsk 41 = .ok (.iaload, 1) := by decide +kernel
theorem dX7_hearAsk_42 : decode cX7_hearAsk 42 = .ok (.iload 5, 2) := by decide +kernel
theorem dX7_hearAsk_44 : decode cX7_hearAsk 44 = .ok (.if_icmp .ne 25, 3) := by decide +kernel
theorem dX7_hearAsk_47 : decode cX7_hearAsk 47 = .ok (.iload 6, 2) := by decide +kernel
theorem dX7_hearAsk_49 : decode cX7_hearAsk 49 = .ok (.aload_n 0, 1) := by decide +kernel
theorem dX7_hearAsk_50 : decode cX7_hearAsk 50 = .ok (.aload_n 1, 1) := by decide +kernel
theorem dX7_hearAsk_51 : decode cX7_hearAsk 51 = .ok (.iload 4, 2) := by decide +kernel
theorem dX7_hearAsk_53 : decode cX7_hearAsk 53 = .ok (.invokevirtual 306, 3) := by decide +kernel
theorem dX7_hearAsk_56 : decode cX7_hearAsk 56 = .ok (.iconst (-1), 1) := by decide +kernel
theorem dX7_hearAsk_57 : decode cX7_hearAsk 57 = .ok (.ixor, 1) := by decide +kernel
theorem dX7_hearAsk_58 : decode cX7_hearAsk 58 = .ok (.iand, 1) := by decide +kernel
theorem dX7_hearAsk_59 : decode cX7_hearAsk 59 = .ok (.ifCond .ne 10, 3) := by decide +kernel
theorem dX7_hearAsk_62 : decode cX7_hearAsk 62 = .ok (.aload 7, 2) := by decide +kernel
theorem dX7_hearAsk_64 : decode cX7_hearAsk 64 = .ok (.iload 4, 2) := by decide +kernel
theorem dX7_hearAsk_66 : decode cX7_hearAsk 66 = .ok (.invokevirtual 316, 3) := by decide +kernel
theorem dX7_hearAsk_69 : decode cX7_hearAsk 69 = .ok (.aload_n 0, 1) := by decide +kernel
theorem dX7_hearAsk_70 : decode cX7_hearAsk 70 = .ok (.aload_n 3, 1) := by decide +kernel
theorem dX7_hearAsk_71 : decode cX7_hearAsk 71 = .ok (.getfield 348, 3) := by decide +kernel
theorem dX7_hearAsk_74 : decode cX7_hearAsk 74 = .ok (.aload_n 2, 1) := by decide +kernel
theorem dX7_hearAsk_75 : decode cX7_hearAsk 75 = .ok (.invokevirtual 426, 3) := by decide +kernel
theorem dX7_hearAsk_78 : decode cX7_hearAsk 78 = .ok (.astore 8, 2) := by decide +kernel
theorem dX7_hearAsk_80 : decode cX7_hearAsk 80 = .ok (.aload 8, 2) := by decide +kernel
theorem dX7_hearAsk_82 : decode cX7_hearAsk 82 = .ok (.ifnull 10, 3) := by decide +kernel
theorem dX7_hearAsk_85 : decode cX7_hearAsk 85 = .ok (.aload 8, 2) := by decide +kernel
theorem dX7_hearAsk_87 : decode cX7_hearAsk 87 = .ok (.aload_n 1, 1) := by decide +kernel
theorem dX7_hearAsk_88 : decode cX7_hearAsk 88 = .ok (.if_acmp .eq 4, 3) := by decide +kernel
theorem dX7_hearAsk_91 : decode cX7_hearAsk 91 = .ok (.return_, 1) := by decide +kernel
theorem dX7_hearAsk_92 : decode cX7_hearAsk 92 = .ok (.aload_n 0, 1) := by decide +kernel
theorem dX7_hearAsk_93 : decode cX7_hearAsk 93 = .ok (.getfield 62, 3) := by decide +kernel
theorem dX7_hearAsk_96 : decode cX7_hearAsk 96 = .ok (.iconst 1, 1) := by decide +kernel
theorem dX7_hearAsk_97 : decode cX7_hearAsk 97 = .ok (.iadd, 1) := by decide +kernel
theorem dX7_hearAsk_98 : decode cX7_hearAsk 98 = .ok (.aload_n 0, 1) := by decide +kernel
theorem dX7_hearAsk_99 : decode cX7_hearAsk 99 = .ok (.aload_n 1, 1) := by decide +kernel
theorem dX7_hearAsk_100 : decode cX7_hearAsk 100 = .ok (.invokevirtual 80, 3) := by decide +kernel
theorem dX7_hearAsk_103 : decode cX7_hearAsk 103 = .ok (.iadd, 1) := by decide +kernel
theorem dX7_hearAsk_104 : decode cX7_hearAsk 104 = .ok (.istore 9, 2) := by decide +kernel
theorem dX7_hearAsk_106 : decode cX7_hearAsk 106 = .ok (.iconst 0, 1) := by decide +kernel
theorem dX7_hearAsk_107 : decode cX7_hearAsk 107 = .ok (.istore 10, 2) := by decide +kernel
theorem dX7_hearAsk_109 : decode cX7_hearAsk 109 = .ok (.iload 10, 2) := by decide +kernel
theorem dX7_hearAsk_111 : decode cX7_hearAsk 111 = .ok (.aload_n 0, 1) := by decide +kernel
theorem dX7_hearAsk_112 : decode cX7_hearAsk 112 = .ok (.getfield 103, 3) := by decide +kernel
theorem dX7_hearAsk_115 : decode cX7_hearAsk 115 = .ok (.if_icmp .ge 57, 3) := by decide +kernel
theorem dX7_hearAsk_118 : decode cX7_hearAsk 118 = .ok (.aload_n 0, 1) := by decide +kernel
theorem dX7_hearAsk_119 : decode cX7_hearAsk 119 = .ok (.getfield 17, 3) := by decide +kernel
theorem dX7_hearAsk_122 : decode cX7_hearAsk 122 = .ok (.iload 10, 2) := by decide +kernel
theorem dX7_hearAsk_124 : decode cX7_hearAsk 124 = .ok (.aaload, 1) := by decide +kernel
theorem dX7_hearAsk_125 : decode cX7_hearAsk 125 = .ok (.getfield 268, 3) := by decide +kernel
theorem dX7_hearAsk_128 : decode cX7_hearAsk 128 = .ok (.iload 4, 2) := by decide +kernel
theorem dX7_hearAsk_130 : decode cX7_hearAsk 130 = .ok (.if_icmp .ne 36, 3) := by decide +kernel
theorem dX7_hearAsk_133 : decode cX7_hearAsk 133 = .ok (.iload 6, 2) := by decide +kernel
theorem dX7_hearAsk_135 : decode cX7_hearAsk 135 = .ok (.iload 10, 2) := by decide +kernel
theorem dX7_hearAsk_137 : decode cX7_hearAsk 137 = .ok (.invokestatic 381, 3) := by decide +kernel
theorem dX7_hearAsk_140 : decode cX7_hearAsk 140 = .ok (.ifCond .ne 26, 3) := by decide +kernel
theorem dX7_hearAsk_143 : decode cX7_hearAsk 143 = .ok (.aload_n 0, 1) := by decide +kernel
theorem dX7_hearAsk_144 : decode cX7_hearAsk 144 = .ok (.aload_n 1, 1) := by decide +kernel
theorem dX7_hearAsk_145 : decode cX7_hearAsk 145 = .ok (.iload 10, 2) := by decide +kernel
theorem dX7_hearAsk_147 : decode cX7_hearAsk 147 = .ok (.iload 5, 2) := by decide +kernel
theorem dX7_hearAsk_149 : decode cX7_hearAsk 149 = .ok (.invokevirtual 430, 3) := by decide +kernel
theorem dX7_hearAsk_152 : decode cX7_hearAsk 152 = .ok (.ifCond .eq 14, 3) := by decide +kernel
theorem dX7_hearAsk_155 : decode cX7_hearAsk 155 = .ok (.aload_n 1, 1) := by decide +kernel
theorem dX7_hearAsk_156 : decode cX7_hearAsk 156 = .ok (.getfield 143, 3) := by decide +kernel
theorem dX7_hearAsk_159 : decode cX7_hearAsk 159 = .ok (.iload 10, 2) := by decide +kernel
theorem dX7_hearAsk_161 : decode cX7_hearAsk 161 = .ok (.iload 9, 2) := by decide +kernel
theorem dX7_hearAsk_163 : decode cX7_hearAsk 163 = .ok (.invokevirtual 434, 3) := by decide +kernel
theorem dX7_hearAsk_166 : decode cX7_hearAsk 166 = .ok (.iinc 10 1, 3) := by decide +kernel
theorem dX7_hearAsk_169 : decode cX7_hearAsk 169 = .ok (.goto (-60), 3) := by decide +kernel
theorem dX7_hearAsk_172 : decode cX7_hearAsk 172 = .ok (.return_, 1) := by decide +kernel
theorem dX7_canAnswer_0 : decode cX7_canAnswer 0 = .ok (.aload_n 0, 1) := by decide +kernel
theorem dX7_canAnswer_1 : decode cX7_canAnswer 1 = .ok (.getfield 17, 3) := by decide +kernel
theorem dX7_canAnswer_4 : decode cX7_canAnswer 4 = .ok (.iload_n 2, 1) := by decide +kernel
theorem dX7_canAnswer_5 : decode cX7_canAnswer 5 = .ok (.aaload, 1) := by decide +kernel
theorem dX7_canAnswer_6 : decode cX7_canAnswer 6 = .ok (.astore 4, 2) := by decide +kernel
theorem dX7_canAnswer_8 : decode cX7_canAnswer 8 = .ok (.aload_n 0, 1) := by decide +kernel
theorem dX7_canAnswer_9 : decode cX7_canAnswer 9 = .ok (.aload_n 1, 1) := by decide +kernel
theorem dX7_canAnswer_10 : decode cX7_canAnswer 10 = .ok (.aload 4, 2) := by decide +kernel
theorem dX7_canAnswer_12 : decode cX7_canAnswer 12 = .ok (.invokevirtual 331, 3) := by decide +kernel
theorem dX7_canAnswer_15 : decode cX7_canAnswer 15 = .ok (.ifCond .eq 29, 3) := by decide +kernel
theorem dX7_canAnswer_18 : decode cX7_canAnswer 18 = .ok (.aload 4, 2) := by decide +kernel
theorem dX7_canAnswer_20 : decode cX7_canAnswer 20 = .ok (.getfield 59, 3) := by decide +kernel
theorem dX7_canAnswer_23 : decode cX7_canAnswer 23 = .ok (.iconst 2, 1) := by decide +kernel
theorem dX7_canAnswer_24 : decode cX7_canAnswer 24 = .ok (.if_icmp .ne 18, 3) := by decide +kernel
theorem dX7_canAnswer_27 : decode cX7_canAnswer 27 = .ok (.aload 4, 2) := by decide +kernel
theorem dX7_canAnswer_29 : decode cX7_canAnswer 29 = .ok (.getfield 56, 3) := by decide +kernel
theorem dX7_canAnswer_32 : decode cX7_canAnswer 32 = .ok (.iload_n 3, 1) := by decide +kernel
theorem dX7_canAnswer_33 : decode cX7_canAnswer 33 = .ok (.iand, 1) := by decide +kernel
theorem dX7_canAnswer_34 : decode cX7_canAnswer 34 = .ok (.iload_n 3, 1) := by decide +kernel
theorem dX7_canAnswer_35 : decode cX7_canAnswer 35 = .ok (.if_icmp .ne 7, 3) := by decide +kernel
theorem dX7_canAnswer_38 : decode cX7_canAnswer 38 = .ok (.iconst 1, 1) := by decide +kernel
theorem dX7_canAnswer_39 : decode cX7_canAnswer 39 = .ok (.goto 4, 3) := by decide +kernel
theorem dX7_canAnswer_42 : decode cX7_canAnswer 42 = .ok (.iconst 0, 1) := by decide +kernel
theorem dX7_canAnswer_43 : decode cX7_canAnswer 43 = .ok (.ireturn, 1) := by decide +kernel
theorem dX7_canAnswer_44 : decode cX7_canAnswer 44 = .ok (.aload_n 1, 1) := by decide +kernel
theorem dX7_canAnswer_45 : decode cX7_canAnswer 45 = .ok (.getfield 91, 3) := by decide +kernel
theorem dX7_canAnswer_48 : decode cX7_canAnswer 48 = .ok (.ifCond .eq 33, 3) := by decide +kernel
theorem dX7_canAnswer_51 : decode cX7_canAnswer 51 = .ok (.aload_n 1, 1) := by decide +kernel
theorem dX7_canAnswer_52 : decode cX7_canAnswer 52 = .ok (.getfield 134, 3) := by decide +kernel
theorem dX7_canAnswer_55 : decode cX7_canAnswer 55 = .ok (.iload_n 2, 1) := by decide +kernel
theorem dX7_canAnswer_56 : decode cX7_canAnswer 56 = .ok (.invokevirtual 191, 3) := by decide +kernel
theorem dX7_canAnswer_59 : decode cX7_canAnswer 59 = .ok (.ifCond .eq 22, 3) := by decide +kernel
theorem dX7_canAnswer_62 : decode cX7_canAnswer 62 = .ok (.aload_n 1, 1) := by decide +kernel
theorem dX7_canAnswer_63 : decode cX7_canAnswer 63 = .ok (.getfield 134, 3) := by decide +kernel
theorem dX7_canAnswer_66 : decode cX7_canAnswer 66 = .ok (.getfield 192, 3) := by decide +kernel
theorem dX7_canAnswer_69 : decode cX7_canAnswer 69 = .ok (.iload_n 2, 1) := by decide +kernel
theorem dX7_canAnswer_70 : decode cX7_canAnswer 70 = .ok (.iaload, 1) := by decide +kernel
theorem dX7_canAnswer_71 : decode cX7_canAnswer 71 = .ok (.iload_n 3, 1) := by decide +kernel
theorem dX7_canAnswer_72 : decode cX7_canAnswer 72 = .ok (.iand, 1) := by decide +kernel
theorem dX7_canAnswer_73 : decode cX7_canAnswer 73 = .ok (.iload_n 3, 1) := by decide +kernel
theorem dX7_canAnswer_74 : decode cX7_canAnswer 74 = .ok (.if_icmp .ne 7, 3) := by decide +kernel
theorem dX7_canAnswer_77 : decode cX7_canAnswer 77 = .ok (.iconst 1, 1) := by decide +kernel
theorem dX7_canAnswer_78 : decode cX7_canAnswer 78 = .ok (.goto 4, 3) := by decide +kernel
theorem dX7_canAnswer_81 : decode cX7_canAnswer 81 = .ok (.iconst 0, 1) := by decide +kernel
theorem dX7_canAnswer_82 : decode cX7_canAnswer 82 = .ok (.ireturn, 1) := by decide +kernel
theorem dX7_leastKeeperOn_0 : decode cX7_leastKeeperOn 0 = .ok (.iconst 0, 1) := by decide +kernel
theorem dX7_leastKeeperOn_1 : decode cX7_leastKeeperOn 1 = .ok (.istore_n 3, 1) := by decide +kernel
theorem dX7_leastKeeperOn_2 : decode cX7_leastKeeperOn 2 = .ok (.iload_n 3, 1) := by decide +kernel
theorem dX7_leastKeeperOn_3 : decode cX7_leastKeeperOn 3 = .ok (.aload_n 0, 1) := by decide +kernel
theorem dX7_leastKeeperOn_4 : decode cX7_leastKeeperOn 4 = .ok (.getfield 25, 3) := by decide +kernel
theorem dX7_leastKeeperOn_7 : decode cX7_leastKeeperOn 7 = .ok (.if_icmp .ge 52, 3) := by decide +kernel
theorem dX7_leastKeeperOn_10 : decode cX7_leastKeeperOn 10 = .ok (.aload_n 0, 1) := by decide +kernel
theorem dX7_leastKeeperOn_11 : decode cX7_leastKeeperOn 11 = .ok (.getfield 11, 3) := by decide +kernel
theorem dX7_leastKeeperOn_14 : decode cX7_leastKeeperOn 14 = .ok (.iload_n 3, 1) := by decide +kernel
theorem dX7_leastKeeperOn_15 : decode cX7_leastKeeperOn 15 = .ok (.aaload, 1) := by decide +kernel
theorem dX7_leastKeeperOn_16 : decode cX7_leastKeeperOn 16 = .ok (.astore 4, 2) := by decide +kernel
theorem dX7_leastKeeperOn_18 : decode cX7_leastKeeperOn 18 = .ok (.aload 4, 2) := by decide +kernel
theorem dX7_leastKeeperOn_20 : decode cX7_leastKeeperOn 20 = .ok (.getfield 91, 3) := by decide +kernel
theorem dX7_leastKeeperOn_23 : decode cX7_leastKeeperOn 23 = .ok (.ifCond .eq 30, 3) := by decide +kernel
theorem dX7_leastKeeperOn_26 : decode cX7_leastKeeperOn 26 = .ok (.aload 4, 2) := by decide +kernel
theorem dX7_leastKeeperOn_28 : decode cX7_leastKeeperOn 28 = .ok (.aload_n 2, 1) := by decide +kernel
theorem dX7_leastKeeperOn_29 : decode cX7_leastKeeperOn 29 = .ok (.if_acmp .eq 24, 3) := by decide +kernel
theorem dX7_leastKeeperOn_32 : decode cX7_leastKeeperOn 32 = .ok (.aload 4, 2) := by decide +kernel
theorem dX7_leastKeeperOn_34 : decode cX7_leastKeeperOn 34 = .ok (.getfield 95, 3) := by decide +kernel
theorem dX7_leastKeeperOn_37 : decode cX7_leastKeeperOn 37 = .ok (.iconst 2, 1) := by decide +kernel
theorem dX7_leastKeeperOn_38 : decode cX7_leastKeeperOn 38 = .ok (.if_icmp .ne 15, 3) := by decide +kernel
theorem dX7_leastKeeperOn_41 : decode cX7_leastKeeperOn 41 = .ok (.aload 4, 2) := by decide +kernel
theorem dX7_leastKeeperOn_43 : decode cX7_leastKeeperOn 43 = .ok (.getfield 88, 3) := by decide +kernel
theorem dX7_leastKeeperOn_46 : decode cX7_leastKeeperOn 46 = .ok (.iload_n 1, 1) := by decide +kernel
theorem dX7_leastKeeperOn_47 : decode cX7_leastKeeperOn 47 = .ok (.if_icmp .ne 6, 3) := by decide +kernel
theorem dX7_leastKeeperOn_50 : decode cX7_leastKeeperOn 50 = .ok (.aload 4, 2) := by decide +kernel
theorem dX7_leastKeeperOn_52 : decode cX7_leastKeeperOn 52 = .ok (.areturn, 1) := by decide +kernel
theorem dX7_leastKeeperOn_53 : decode cX7_leastKeeperOn 53 = .ok (.iinc 3 1, 3) := by decide +kernel
theorem dX7_leastKeeperOn_56 : decode cX7_leastKeeperOn 56 = .ok (.goto (-54), 3) := by decide +kernel
theorem dX7_leastKeeperOn_59 : decode cX7_leastKeeperOn 59 = .ok (.aconst_null, 1) := by decide +kernel
theorem dX7_leastKeeperOn_60 : decode cX7_leastKeeperOn 60 = .ok (.areturn, 1) := by decide +kernel
theorem dX7_knownTo_0 : decode cX7_knownTo 0 = .ok (.iconst 0, 1) := by decide +kernel
theorem dX7_knownTo_1 : decode cX7_knownTo 1 = .ok (.istore_n 3, 1) := by decide +kernel
theorem dX7_knownTo_2 : decode cX7_knownTo 2 = .ok (.iconst 0, 1) := by decide +kernel
theorem dX7_knownTo_3 : decode cX7_knownTo 3 = .ok (.istore 4, 2) := by decide +kernel
theorem dX7_knownTo_5 : decode cX7_knownTo 5 = .ok (.iload 4, 2) := by decide +kernel
theorem dX7_knownTo_7 : decode cX7_knownTo 7 = .ok (.aload_n 0, 1) := by decide +kernel
theorem dX7_knownTo_8 : decode cX7_knownTo 8 = .ok (.getfield 103, 3) := by decide +kernel
theorem dX7_knownTo_11 : decode cX7_knownTo 11 = .ok (.if_icmp .ge 46, 3) := by decide +kernel
theorem dX7_knownTo_14 : decode cX7_knownTo 14 = .ok (.aload_n 0, 1) := by decide +kernel
theorem dX7_knownTo_15 : decode cX7_knownTo 15 = .ok (.getfield 17, 3) := by decide +kernel
theorem dX7_knownTo_18 : decode cX7_knownTo 18 = .ok (.iload 4, 2) := by decide +kernel
theorem dX7_knownTo_20 : decode cX7_knownTo 20 = .ok (.aaload, 1) := by decide +kernel
theorem dX7_knownTo_21 : decode cX7_knownTo 21 = .ok (.getfield 268, 3) := by decide +kernel
theorem dX7_knownTo_24 : decode cX7_knownTo 24 = .ok (.iload_n 2, 1) := by decide +kernel
theorem dX7_knownTo_25 : decode cX7_knownTo 25 = .ok (.if_icmp .ne 26, 3) := by decide +kernel
theorem dX7_knownTo_28 : decode cX7_knownTo 28 = .ok (.aload_n 1, 1) := by decide +kernel
theorem dX7_knownTo_29 : decode cX7_knownTo 29 = .ok (.getfield 134, 3) := by decide +kernel
theorem dX7_knownTo_32 : decode cX7_knownTo 32 = .ok (.iload 4, 2) := by decide +kernel
theorem dX7_knownTo_34 : decode cX7_knownTo 34 = .ok (.aload_n 0, 1) := by decide +kernel
theorem dX7_knownTo_35 : decode cX7_knownTo 35 = .ok (.getfield 62, 3) := by decide +kernel
theorem dX7_knownTo_38 : decode cX7_knownTo 38 = .ok (.invokevirtual 437, 3) := by decide +kernel
theorem dX7_knownTo_41 : decode cX7_knownTo 41 = .ok (.ifCond .eq 10, 3) := by decide +kernel
theorem dX7_knownTo_44 : decode cX7_knownTo 44 = .ok (.iload_n 3, 1) := by decide +kernel
theorem dX7_knownTo_45 : decode cX7_knownTo 45 = .ok (.iconst 1, 1) := by decide +kernel
theorem dX7_knownTo_46 : decode cX7_knownTo 46 = .ok (.iload 4, 2) := by decide +kernel
theorem dX7_knownTo_48 : decode cX7_knownTo 48 = .ok (.ishl, 1) := by decide +kernel
theorem dX7_knownTo_49 : decode cX7_knownTo 49 = .ok (.ior, 1) := by decide +kernel
theorem dX7_knownTo_50 : decode cX7_knownTo 50 = .ok (.istore_n 3, 1) := by decide +kernel
theorem dX7_knownTo_51 : decode cX7_knownTo 51 = .ok (.iinc 4 1, 3) := by decide +kernel
theorem dX7_knownTo_54 : decode cX7_knownTo 54 = .ok (.goto (-49), 3) := by decide +kernel
theorem dX7_knownTo_57 : decode cX7_knownTo 57 = .ok (.iload_n 3, 1) := by decide +kernel
theorem dX7_knownTo_58 : decode cX7_knownTo 58 = .ok (.ireturn, 1) := by decide +kernel
theorem dX7_hearTelling_0 : decode cX7_hearTelling 0 = .ok (.aload_n 2, 1) := by decide +kernel
theorem dX7_hearTelling_1 : decode cX7_hearTelling 1 = .ok (.getfield 264, 3) := by decide +kernel
theorem dX7_hearTelling_4 : decode cX7_hearTelling 4 = .ok (.istore 4, 2) := by decide +kernel
theorem dX7_hearTelling_6 : decode cX7_hearTelling 6 = .ok (.aload_n 3, 1) := by decide +kernel
theorem dX7_hearTelling_7 : decode cX7_hearTelling 7 = .ok (.getfield 440, 3) := by decide +kernel
theorem dX7_hearTelling_10 : decode cX7_hearTelling 10 = .ok (.iload 4, 2) := by decide +kernel
theorem dX7_hearTelling_12 : decode cX7_hearTelling 12 = .ok (.iaload, 1) := by decide +kernel
theorem dX7_hearTelling_13 : decode cX7_hearTelling 13 = .ok (.istore 5, 2) := by decide +kernel
theorem dX7_hearTelling_15 : decode cX7_hearTelling 15 = .ok (.aload_n 3, 1) := by decide +kernel
theorem dX7_hearTelling_16 : decode cX7_hearTelling 16 = .ok (.getfield 443, 3) := by decide +kernel
theorem dX7_hearTelling_19 : decode cX7_hearTelling 19 = .ok (.iload 4, 2) := by decide +kernel
theorem dX7_hearTelling_21 : decode cX7_hearTelling 21 = .ok (.iaload, 1) := by decide +kernel
theorem dX7_hearTelling_22 : decode cX7_hearTelling 22 = .ok (.istore 6, 2) := by decide +kernel
theorem dX7_hearTelling_24 : decode cX7_hearTelling 24 = .ok (.aload_n 2, 1) := by decide +kernel
theorem dX7_hearTelling_25 : decode cX7_hearTelling 25 = .ok (.getfield 106, 3) := by decide +kernel
theorem dX7_hearTelling_28 : decode cX7_hearTelling 28 = .ok (.iload 5, 2) := by decide +kernel
theorem dX7_hearTelling_30 : decode cX7_hearTelling 30 = .ok (.invokevirtual 39, 3) := by decide +kernel
theorem dX7_hearTelling_33 : decode cX7_hearTelling 33 = .ok (.ifCond .ne 14, 3) := by decide +kernel
theorem dX7_hearTelling_36 : decode cX7_hearTelling 36 = .ok (.aload_n 0, 1) := by decide +kernel
theorem dX7_hearTelling_37 : decode cX7_hearTelling 37 = .ok (.dup, 1) := by decide +kernel
theorem dX7_hearTelling_38 : decode cX7_hearTelling 38 = .ok (.getfield 235, 3) := by decide +kernel
theorem dX7_hearTelling_41 : decode cX7_hearTelling 41 = .ok (.iconst 1, 1) := by decide +kernel
theorem dX7_hearTelling_42 : decode cX7_hearTelling 42 = .ok (.iadd, 1) := by decide +kernel
theorem dX7_hearTelling_43 : decode cX7_hearTelling 43 = .ok (.putfield 235, 3) := by decide +kernel
theorem dX7_hearTelling_46 : decode cX7_hearTelling 46 = .ok (.return_, 1) := by decide +kernel
theorem dX7_hearTelling_47 : decode cX7_hearTelling 47 = .ok (.aload_n 0, 1) := by decide +kernel
theorem dX7_hearTelling_48 : decode cX7_hearTelling 48 = .ok (.aload_n 1, 1) := by decide +kernel
theorem dX7_hearTelling_49 : decode cX7_hearTelling 49 = .ok (.aload_n 2, 1) := by decide +kernel
theorem dX7_hearTelling_50 : decode cX7_hearTelling 50 = .ok (.iload 5, 2) := by decide +kernel
theorem dX7_hearTelling_52 : decode cX7_hearTelling 52 = .ok (.iconst 1, 1) := by decide +kernel
theorem dX7_hearTelling_53 : decode cX7_hearTelling 53 = .ok (.invokevirtual 406, 3) := by decide +kernel
theorem dX7_hearTelling_56 : decode cX7_hearTelling 56 = .ok (.iconst 2, 1) := by decide +kernel
theorem dX7_hearTelling_57 : decode cX7_hearTelling 57 = .ok (.iload 6, 2) := by decide +kernel
theorem dX7_hearTelling_59 : decode cX7_hearTelling 59 = .ok (.imul, 1) := by decide +kernel
theorem dX7_hearTelling_60 : decode cX7_hearTelling 60 = .ok (.aload_n 2, 1) := by decide +kernel
theorem dX7_hearTelling_61 : decode cX7_hearTelling 61 = .ok (.getfield 335, 3) := by decide +kernel
theorem dX7_hearTelling_64 : decode cX7_hearTelling 64 = .ok (.if_icmp .lt 12, 3) := by decide +kernel
theorem dX7_hearTelling_67 : decode cX7_hearTelling 67 = .ok (.aload_n 1, 1) := by decide +kernel
theorem dX7_hearTelling_68 : decode cX7_hearTelling 68 = .ok (.getfield 143, 3) := by decide +kernel
theorem dX7_hearTelling_71 : decode cX7_hearTelling 71 = .ok (.iload 4, 2) := by decide +kernel
theorem dX7_hearTelling_73 : decode cX7_hearTelling 73 = .ok (.invokevirtual 330, 3) := by decide +kernel
theorem dX7_hearTelling_76 : decode cX7_hearTelling 76 = .ok (.aload_n 2, 1) := by decide +kernel
theorem dX7_hearTelling_77 : decode cX7_hearTelling 77 = .ok (.getfield 106, 3) := by decide +kernel
theorem dX7_hearTelling_80 : decode cX7_hearTelling 80 = .ok (.aload_n 1, 1) := by decide +kernel
theorem dX7_hearTelling_81 : decode cX7_hearTelling 81 = .ok (.if_acmp .ne 4, 3) := by decide +kernel
theorem dX7_hearTelling_84 : decode cX7_hearTelling 84 = .ok (.return_, 1) := by decide +kernel
theorem dX7_hearTelling_85 : decode cX7_hearTelling 85 = .ok (.aload_n 0, 1) := by decide +kernel
theorem dX7_hearTelling_86 : decode cX7_hearTelling 86 = .ok (.aload_n 1, 1) := by decide +kernel
theorem dX7_hearTelling_87 : decode cX7_hearTelling 87 = .ok (.getfield 134, 3) := by decide +kernel
theorem dX7_hearTelling_90 : decode cX7_hearTelling 90 = .ok (.aload_n 2, 1) := by decide +kernel
theorem dX7_hearTelling_91 : decode cX7_hearTelling 91 = .ok (.iload 5, 2) := by decide +kernel
theorem dX7_hearTelling_93 : decode cX7_hearTelling 93 = .ok (.invokevirtual 446, 3) := by decide +kernel
theorem dX7_hearTelling_96 : decode cX7_hearTelling 96 = .ok (.astore 7, 2) := by decide +kernel
theorem dX7_hearTelling_98 : decode cX7_hearTelling 98 = .ok (.aload 7, 2) := by decide +kernel
theorem dX7_hearTelling_100 : decode cX7_hearTelling 100 = .ok (.ifnull 24, 3) := by decide +kernel
theorem dX7_hearTelling_103 : decode cX7_hearTelling 103 = .ok (.aload_n 0, 1) := by decide +kernel
theorem dX7_hearTelling_104 : decode cX7_hearTelling 104 = .ok (.aload 7, 2) := by decide +kernel
theorem dX7_hearTelling_106 : decode cX7_hearTelling 106 = .ok (.aload_n 2, 1) := by decide +kernel
theorem dX7_hearTelling_107 : decode cX7_hearTelling 107 = .ok (.invokevirtual 450, 3) := by decide +kernel
theorem dX7_hearTelling_110 : decode cX7_hearTelling 110 = .ok (.ifCond .eq 14, 3) := by decide +kernel
theorem dX7_hearTelling_113 : decode cX7_hearTelling 113 = .ok (.aload_n 0, 1) := by decide +kernel
theorem dX7_hearTelling_114 : decode cX7_hearTelling 114 = .ok (.dup, 1) := by decide +kernel
theorem dX7_hearTelling_115 : decode cX7_hearTelling 115 = .ok (.getfield 238, 3) := by decide +kernel
theorem dX7_hearTelling_118 : decode cX7_hearTelling 118 = .ok (.iconst 1, 1) := by decide +kernel
theorem dX7_hearTelling_119 : decode cX7_hearTelling 119 = .ok (.iadd, 1) := by decide +kernel
theorem dX7_hearTelling_120 : decode cX7_hearTelling 120 = .ok (.putfield 238, 3) := by decide +kernel
theorem dX7_hearTelling_123 : decode cX7_hearTelling 123 = .ok (.return_, 1) := by decide +kernel
theorem dX7_hearTelling_124 : decode cX7_hearTelling 124 = .ok (.aload 7, 2) := by decide +kernel
theorem dX7_hearTelling_126 : decode cX7_hearTelling 126 = .ok (.ifnull 15, 3) := by decide +kernel
theorem dX7_hearTelling_129 : decode cX7_hearTelling 129 = .ok (.aload_n 1, 1) := by decide +kernel
theorem dX7_hearTelling_130 : decode cX7_hearTelling 130 = .ok (.getfield 134, 3) := by decide +kernel
theorem dX7_hearTelling_133 : decode cX7_hearTelling 133 = .ok (.aload 7, 2) := by decide +kernel
theorem dX7_hearTelling_135 : decode cX7_hearTelling 135 = .ok (.getfield 264, 3) := by decide +kernel
theorem dX7_hearTelling_138 : decode cX7_hearTelling 138 = .ok (.invokevirtual 454, 3) := by decide +kernel
theorem dX7_hearTelling_141 : decode cX7_hearTelling 141 = .ok (.aload_n 1, 1) := by decide +kernel
theorem dX7_hearTelling_142 : decode cX7_hearTelling 142 = .ok (.getfield 134, 3) := by decide +kernel
theorem dX7_hearTelling_145 : decode cX7_hearTelling 145 = .ok (.iload 4, 2) := by decide +kernel
theorem dX7_hearTelling_147 : decode cX7_hearTelling 147 = .ok (.iload 5, 2) := by decide +kernel
theorem dX7_hearTelling_149 : decode cX7_hearTelling 149 = .ok (.aload_n 3, 1) := by decide +kernel
theorem dX7_hearTelling_150 : decode cX7_hearTelling 150 = .ok (.getfield 455, 3) := by decide +kernel
theorem dX7_hearTelling_153 : decode cX7_hearTelling 153 = .ok (.iload 4, 2) := by decide +kernel
theorem dX7_hearTelling_155 : decode cX7_hearTelling 155 = .ok (.iaload, 1) := by decide +kernel
theorem dX7_hearTelling_156 : decode cX7_hearTelling 156 = .ok (.iload 6, 2) := by decide +kernel
theorem dX7_hearTelling_158 : decode cX7_hearTelling 158 = .ok (.aload_n 0, 1) := by decide +kernel
theorem dX7_hearTelling_159 : decode cX7_hearTelling 159 = .ok (.getfield 62, 3) := by decide +kernel
theorem dX7_hearTelling_162 : decode cX7_hearTelling 162 = .ok (.iconst 1, 1) := by decide +kernel
theorem dX7_hearTelling_163 : decode cX7_hearTelling 163 = .ok (.iadd, 1) := by decide +kernel
theorem dX7_hearTelling_164 : decode cX7_hearTelling 164 = .ok (.iload 6, 2) := by decide +kernel
theorem dX7_hearTelling_166 : decode cX7_hearTelling 166 = .ok (.iadd, 1) := by decide +kernel
theorem dX7_hearTelling_167 : decode cX7_hearTelling 167 = .ok (.invokevirtual 458, 3) := by decide +kernel
theorem dX7_hearTelling_170 : decode cX7_hearTelling 170 = .ok (.return_, 1) := by decide +kernel
theorem dX7_otherRecorded_0 : decode cX7_otherRecorded 0 = .ok (.iconst 0, 1) := by decide +kernel
theorem dX7_otherRecorded_1 : decode cX7_otherRecorded 1 = .ok (.istore 4, 2) := by decide +kernel
theorem dX7_otherRecorded_3 : decode cX7_otherRecorded 3 = .ok (.iload 4, 2) := by decide +kernel
theorem dX7_otherRecorded_5 : decode cX7_otherRecorded 5 = .ok (.aload_n 0, 1) := by decide +kernel
theorem dX7_otherRecorded_6 : decode cX7_otherRecorded 6 = .ok (.getfield 103, 3) := by decide +kernel
theorem dX7_otherRecorded_9 : decode cX7_otherRecorded 9 = .ok (.if_icmp .ge 46, 3) := by decide +kernel
theorem dX7_otherRecorded_12 : decode cX7_otherRecorded 12 = .ok (.aload_n 1, 1) := by decide +kernel
theorem dX7_otherRecorded_13 : decode cX7_otherRecorded 13 = .ok (.getfield 184, 3) := by decide +kernel
theorem dX7_otherRecorded_16 : decode cX7_otherRecorded 16 = .ok (.iload 4, 2) := by decide +kernel
theorem dX7_otherRecorded_18 : decode cX7_otherRecorded 18 = .ok (.iaload, 1) := by decide +kernel
theorem dX7_otherRecorded_19 : decode cX7_otherRecorded 19 = .ok (.iload_n 3, 1) := by decide +kernel
theorem dX7_otherRecorded_20 : decode cX7_otherRecorded 20 = .ok (.if_icmp .ne 29, 3) := by decide +kernel
theorem dX7_otherRecorded_23 : decode cX7_otherRecorded 23 = .ok (.iload 4, 2) := by decide +kernel
theorem dX7_otherRecorded_25 : decode cX7_otherRecorded 25 = .ok (.aload_n 2, 1) := by decide +kernel
theorem dX7_otherRecorded_26 : decode cX7_otherRecorded 26 = .ok (.getfield 264, 3) := by decide +kernel
theorem dX7_otherRecorded_29 : decode cX7_otherRecorded 29 = .ok (.if_icmp .eq 20, 3) := by decide +kernel
theorem dX7_otherRecorded_32 : decode cX7_otherRecorded 32 = .ok (.aload_n 1, 1) := by decide +kernel
theorem dX7_otherRecorded_33 : decode cX7_otherRecorded 33 = .ok (.iload 4, 2) := by decide +kernel
theorem dX7_otherRecorded_35 : decode cX7_otherRecorded 35 = .ok (.invokevirtual 191, 3) := by decide +kernel
theorem dX7_otherRecorded_38 : decode cX7_otherRecorded 38 = .ok (.ifCond .eq 11, 3) := by decide +kernel
theorem dX7_otherRecorded_41 : decode cX7_otherRecorded 41 = .ok (.aload_n 0, 1) := by decide +kernel
theorem dX7_otherRecorded_42 : decode cX7_otherRecorded 42 = .ok (.getfield 17, 3) := by decide +kernel
theorem dX7_otherRecorded_45 : decode cX7_otherRecorded 45 = .ok (.iload 4, 2) := by decide +kernel
theorem dX7_otherRecorded_47 : decode cX7_otherRecorded 47 = .ok (.aaload, 1) := by decide +kernel
theorem dX7_otherRecorded_48 : decode cX7_otherRecorded 48 = .ok (.areturn, 1) := by decide +kernel
theorem dX7_otherRecorded_49 : decode cX7_otherRecorded 49 = .ok (.iinc 4 1, 3) := by decide +kernel
theorem dX7_otherRecorded_52 : decode cX7_otherRecorded 52 = .ok (.goto (-49), 3) := by decide +kernel
theorem dX7_otherRecorded_55 : decode cX7_otherRecorded 55 = .ok (.aconst_null, 1) := by decide +kernel
theorem dX7_otherRecorded_56 : decode cX7_otherRecorded 56 = .ok (.areturn, 1) := by decide +kernel
theorem dX7_contend_0 : decode cX7_contend 0 = .ok (.iconst 0, 1) := by decide +kernel
theorem dX7_contend_1 : decode cX7_contend 1 = .ok (.istore 5, 2) := by decide +kernel
theorem dX7_contend_3 : decode cX7_contend 3 = .ok (.iload 5, 2) := by decide +kernel
theorem dX7_contend_5 : decode cX7_contend 5 = .ok (.aload_n 0, 1) := by decide +kernel
theorem dX7_contend_6 : decode cX7_contend 6 = .ok (.getfield 103, 3) := by decide +kernel
theorem dX7_contend_9 : decode cX7_contend 9 = .ok (.if_icmp .ge 152, 3) := by decide +kernel
theorem dX7_contend_12 : decode cX7_contend 12 = .ok (.aload_n 0, 1) := by decide +kernel
theorem dX7_contend_13 : decode cX7_contend 13 = .ok (.getfield 17, 3) := by decide +kernel
theorem dX7_contend_16 : decode cX7_contend 16 = .ok (.iload 5, 2) := by decide +kernel
theorem dX7_contend_18 : decode cX7_contend 18 = .ok (.aaload, 1) := by decide +kernel
theorem dX7_contend_19 : decode cX7_contend 19 = .ok (.astore 6, 2) := by decide +kernel
theorem dX7_contend_21 : decode cX7_contend 21 = .ok (.aload 6, 2) := by decide +kernel
theorem dX7_contend_23 : decode cX7_contend 23 = .ok (.getfield 201, 3) := by decide +kernel
theorem dX7_contend_26 : decode cX7_contend 26 = .ok (.iload_n 3, 1) := by decide +kernel
theorem dX7_contend_27 : decode cX7_contend 27 = .ok (.if_icmp .ne 21, 3) := by decide +kernel
theorem dX7_contend_30 : decode cX7_contend 30 = .ok (.aload 6, 2) := by decide +kernel
theorem dX7_contend_32 : decode cX7_contend 32 = .ok (.aload_n 2, 1) := by decide +kernel
theorem dX7_contend_33 : decode cX7_contend 33 = .ok (.if_acmp .eq 15, 3) := by decide +kernel
theorem dX7_contend_36 : decode cX7_contend 36 = .ok (.aload 6, 2) := by decide +kernel
theorem dX7_contend_38 : decode cX7_contend 38 = .ok (.getfield 265, 3) := by decide +kernel
theorem dX7_contend_41 : decode cX7_contend 41 = .ok (.ifCond .ne 7, 3) := by decide +kernel
theorem dX7_contend_44 : decode cX7_contend 44 = .ok (.iconst 1, 1) := by decide +kernel
theorem dX7_contend_45 : decode cX7_contend 45 = .ok (.goto 4, 3) := by decide +kernel
theorem dX7_contend_48 : decode cX7_contend 48 = .ok (.iconst 0, 1) := by decide +kernel
theorem dX7_contend_49 : decode cX7_contend 49 = .ok (.istore 7, 2) := by decide +kernel
theorem dX7_contend_51 : decode cX7_contend 51 = .ok (.iload 7, 2) := by decide +kernel
theorem dX7_contend_53 : decode cX7_contend 53 = .ok (.ifCond .eq 102, 3) := by decide +kernel
theorem dX7_contend_56 : decode cX7_contend 56 = .ok (.aload_n 0, 1) := by decide +kernel
theorem dX7_contend_57 : decode cX7_contend 57 = .ok (.aload_n 1, 1) := by decide +kernel
theorem dX7_contend_58 : decode cX7_contend 58 = .ok (.aload 6, 2) := by decide +kernel
theorem dX7_contend_60 : decode cX7_contend 60 = .ok (.invokevirtual 331, 3) := by decide +kernel
theorem dX7_contend_63 : decode cX7_contend 63 = .ok (.ifCond .eq 92, 3) := by decide +kernel
theorem dX7_contend_66 : decode cX7_contend 66 = .ok (.aload_n 0, 1) := by decide +kernel
theorem dX7_contend_67 : decode cX7_contend 67 = .ok (.aload_n 2, 1) := by decide +kernel
theorem dX7_contend_68 : decode cX7_contend 68 = .ok (.aload 6, 2) := by decide +kernel
theorem dX7_contend_70 : decode cX7_contend 70 = .ok (.invokevirtual 450, 3) := by decide +kernel
theorem dX7_contend_73 : decode cX7_contend 73 = .ok (.istore 8, 2) := by decide +kernel
theorem dX7_contend_75 : decode cX7_contend 75 = .ok (.aload 6, 2) := by decide +kernel
theorem dX7_contend_77 : decode cX7_contend 77 = .ok (.getfield 59, 3) := by decide +kernel
theorem dX7_contend_80 : decode cX7_contend 80 = .ok (.iconst 1, 1) := by decide +kernel
theorem dX7_contend_81 : decode cX7_contend 81 = .ok (.if_icmp .ne 22, 3) := by decide +kernel
theorem dX7_contend_84 : decode cX7_contend 84 = .ok (.iload 4, 2) := by decide +kernel
theorem dX7_contend_86 : decode cX7_contend 86 = .ok (.ifCond .ne 8, 3) := by decide +kernel
theorem dX7_contend_89 : decode cX7_contend 89 = .ok (.iload 8, 2) := by decide +kernel
theorem dX7_contend_91 : decode cX7_contend 91 = .ok (.ifCond .eq 12, 3) := by decide +kernel
theorem dX7_contend_94 : decode cX7_contend 94 = .ok (.aload_n 0, 1) := by decide +kernel
theorem dX7_contend_95 : decode cX7_contend 95 = .ok (.aload 6, 2) := by decide +kernel
theorem dX7_contend_97 : decode cX7_contend 97 = .ok (.invokevirtual 460, 3) := by decide +kernel
theorem dX7_contend_100 : decode cX7_contend 100 = .ok (.goto 55, 3) := by decide +kernel
theorem dX7_contend_103 : decode cX7_contend 103 = .ok (.aload 6, 2) := by decide +kernel
theorem dX7_contend_105 : decode cX7_contend 105 = .ok (.getfield 59, 3) := by decide +kernel
theorem dX7_contend_108 : decode cX7_contend 108 = .ok (.iconst 2, 1) := by decide +kernel
theorem dX7_contend_109 : decode cX7_contend 109 = .ok (.if_icmp .ne 22, 3) := by decide +kernel
theorem dX7_contend_112 : decode cX7_contend 112 = .ok (.iload 4, 2) := by decide +kernel
theorem dX7_contend_114 : decode cX7_contend 114 = .ok (.ifCond .eq 17, 3) := by decide +kernel
theorem dX7_contend_117 : decode cX7_contend 117 = .ok (.iload 8, 2) := by decide +kernel
theorem dX7_contend_119 : decode cX7_contend 119 = .ok (.ifCond .eq 12, 3) := by decide +kernel
theorem dX7_contend_122 : decode cX7_contend 122 = .ok (.aload_n 0, 1) := by decide +kernel
theorem dX7_contend_123 : decode cX7_contend 123 = .ok (.aload 6, 2) := by decide +kernel
theorem dX7_contend_125 : decode cX7_contend 125 = .ok (.invokevirtual 460, 3) := by decide +kernel
theorem dX7_contend_128 : decode cX7_contend 128 = .ok (.goto 27, 3) := by decide +kernel
theorem dX7_contend_131 : decode cX7_contend 131 = .ok (.aload 6, 2) := by decide +kernel
theorem dX7_contend_133 : decode cX7_contend 133 = .ok (.getfield 59, 3) := by decide +kernel
theorem dX7_contend_136 : decode cX7_contend 136 = .ok (.iconst 2, 1) := by decide +kernel
theorem dX7_contend_137 : decode cX7_contend 137 = .ok (.if_icmp .ne 18, 3) := by decide +kernel
theorem dX7_contend_140 : decode cX7_contend 140 = .ok (.aload_n 1, 1) := by decide +kernel
theorem dX7_contend_141 : decode cX7_contend 141 = .ok (.getfield 143, 3) := by decide +kernel
theorem dX7_contend_144 : decode cX7_contend 144 = .ok (.iload 5, 2) := by decide +kernel
theorem dX7_contend_146 : decode cX7_contend 146 = .ok (.aload_n 0, 1) := by decide +kernel
theorem dX7_contend_147 : decode cX7_contend 147 = .ok (.getfield 62, 3) := by decide +kernel
theorem dX7_contend_150 : decode cX7_contend 150 = .ok (.iconst 1, 1) := by decide +kernel
theorem dX7_contend_151 : decode cX7_contend 151 = .ok (.iadd, 1) := by decide +kernel
theorem dX7_contend_152 : decode cX7_contend 152 = .ok (.invokevirtual 434, 3) := by decide +kernel
theorem dX7_contend_155 : decode cX7_contend 155 = .ok (.iinc 5 1, 3) := by decide +kernel
theorem dX7_contend_158 : decode cX7_contend 158 = .ok (.goto (-155), 3) := by decide +kernel
theorem dX7_contend_161 : decode cX7_contend 161 = .ok (.return_, 1) := by decide +kernel
theorem dX7_giveWay_0 : decode cX7_giveWay 0 = .ok (.aload_n 1, 1) := by decide +kernel
theorem dX7_giveWay_1 : decode cX7_giveWay 1 = .ok (.getfield 106, 3) := by decide +kernel
theorem dX7_giveWay_4 : decode cX7_giveWay 4 = .ok (.astore_n 2, 1) := by decide +kernel
theorem dX7_giveWay_5 : decode cX7_giveWay 5 = .ok (.aload_n 1, 1) := by decide +kernel
theorem dX7_giveWay_6 : decode cX7_giveWay 6 = .ok (.getfield 201, 3) := by decide +kernel
theorem dX7_giveWay_9 : decode cX7_giveWay 9 = .ok (.istore_n 3, 1) := by decide +kernel
theorem dX7_giveWay_10 : decode cX7_giveWay 10 = .ok (.aload_n 1, 1) := by decide +kernel
theorem dX7_giveWay_11 : decode cX7_giveWay 11 = .ok (.getfield 201, 3) := by decide +kernel
theorem dX7_giveWay_14 : decode cX7_giveWay 14 = .ok (.istore 4, 2) := by decide +kernel
theorem dX7_giveWay_16 : decode cX7_giveWay 16 = .ok (.aload_n 2, 1) := by decide +kernel
theorem dX7_giveWay_17 : decode cX7_giveWay 17 = .ok (.getfield 464, 3) := by decide +kernel
theorem dX7_giveWay_20 : decode cX7_giveWay 20 = .ok (.istore 5, 2) := by decide +kernel
theorem dX7_giveWay_22 : decode cX7_giveWay 22 = .ok (.iload 5, 2) := by decide +kernel
theorem dX7_giveWay_24 : decode cX7_giveWay 24 = .ok (.aload_n 2, 1) := by decide +kernel
theorem dX7_giveWay_25 : decode cX7_giveWay 25 = .ok (.getfield 467, 3) := by decide +kernel
theorem dX7_giveWay_28 : decode cX7_giveWay 28 = .ok (.if_icmp .ge 52, 3) := by decide +kernel
theorem dX7_giveWay_31 : decode cX7_giveWay 31 = .ok (.iload_n 3, 1) := by decide +kernel
theorem dX7_giveWay_32 : decode cX7_giveWay 32 = .ok (.aload_n 1, 1) := by decide +kernel
theorem dX7_giveWay_33 : decode cX7_giveWay 33 = .ok (.getfield 201, 3) := by decide +kernel
theorem dX7_giveWay_36 : decode cX7_giveWay 36 = .ok (.if_icmp .ne 44, 3) := by decide +kernel
theorem dX7_giveWay_39 : decode cX7_giveWay 39 = .ok (.iload 4, 2) := by decide +kernel
theorem dX7_giveWay_41 : decode cX7_giveWay 41 = .ok (.aload_n 2, 1) := by decide +kernel
theorem dX7_giveWay_42 : decode cX7_giveWay 42 = .ok (.getfield 467, 3) := by decide +kernel
theorem dX7_giveWay_45 : decode cX7_giveWay 45 = .ok (.if_icmp .ne 10, 3) := by decide +kernel
theorem dX7_giveWay_48 : decode cX7_giveWay 48 = .ok (.aload_n 2, 1) := by decide +kernel
theorem dX7_giveWay_49 : decode cX7_giveWay 49 = .ok (.getfield 464, 3) := by decide +kernel
theorem dX7_giveWay_52 : decode cX7_giveWay 52 = .ok (.goto 7, 3) := by decide +kernel
theorem dX7_giveWay_55 : decode cX7_giveWay 55 = .ok (.iload 4, 2) := by decide +kernel
theorem dX7_giveWay_57 : decode cX7_giveWay 57 = .ok (.iconst 1, 1) := by decide +kernel
theorem dX7_giveWay_58 : decode cX7_giveWay 58 = .ok (.iadd, 1) := by decide +kernel
theorem dX7_giveWay_59 : decode cX7_giveWay 59 = .ok (.istore 4, 2) := by decide +kernel
theorem dX7_giveWay_61 : decode cX7_giveWay 61 = .ok (.aload_n 0, 1) := by decide +kernel
theorem dX7_giveWay_62 : decode cX7_giveWay 62 = .ok (.aload_n 2, 1) := by decide +kernel
theorem dX7_giveWay_63 : decode cX7_giveWay 63 = .ok (.iload 4, 2) := by decide +kernel
theorem dX7_giveWay_65 : decode cX7_giveWay 65 = .ok (.invokevirtual 253, 3) := by decide +kernel
theorem dX7_giveWay_68 : decode cX7_giveWay 68 = .ok (.ifCond .ne 6, 3) := by decide +kernel
theorem dX7_giveWay_71 : decode cX7_giveWay 71 = .ok (.iload 4, 2) := by decide +kernel
theorem dX7_giveWay_73 : decode cX7_giveWay 73 = .ok (.istore_n 3, 1) := by decide +kernel
theorem dX7_giveWay_74 : decode cX7_giveWay 74 = .ok (.iinc 5 1, 3) := by decide +kernel
theorem dX7_giveWay_77 : decode cX7_giveWay 77 = .ok (.goto (-55), 3) := by decide +kernel
theorem dX7_giveWay_80 : decode cX7_giveWay 80 = .ok (.aload_n 1, 1) := by decide +kernel
theorem dX7_giveWay_81 : decode cX7_giveWay 81 = .ok (.iload_n 3, 1) := by decide +kernel
theorem dX7_giveWay_82 : decode cX7_giveWay 82 = .ok (.invokevirtual 470, 3) := by decide +kernel
theorem dX7_giveWay_85 : decode cX7_giveWay 85 = .ok (.aload_n 0, 1) := by decide +kernel
theorem dX7_giveWay_86 : decode cX7_giveWay 86 = .ok (.dup, 1) := by decide +kernel
theorem dX7_giveWay_87 : decode cX7_giveWay 87 = .ok (.getfield 232, 3) := by decide +kernel
theorem dX7_giveWay_90 : decode cX7_giveWay 90 = .ok (.iconst 1, 1) := by decide +kernel
theorem dX7_giveWay_91 : decode cX7_giveWay 91 = .ok (.iadd, 1) := by decide +kernel
theorem dX7_giveWay_92 : decode cX7_giveWay 92 = .ok (.putfield 232, 3) := by decide +kernel
theorem dX7_giveWay_95 : decode cX7_giveWay 95 = .ok (.aload_n 0, 1) := by decide +kernel
theorem dX7_giveWay_96 : decode cX7_giveWay 96 = .ok (.aload_n 2, 1) := by decide +kernel
theorem dX7_giveWay_97 : decode cX7_giveWay 97 = .ok (.invokevirtual 118, 3) := by decide +kernel
theorem dX7_giveWay_100 : decode cX7_giveWay 100 = .ok (.return_, 1) := by decide +kernel
theorem dX7_forgetWhatEnds_0 : decode cX7_forgetWhatEnds 0 = .ok (.iconst 0, 1) := by decide +kernel
theorem dX7_forgetWhatEnds_1 : decode cX7_forgetWhatEnds 1 = .ok (.istore_n 1, 1) := by decide +kernel
theorem dX7_forgetWhatEnds_2 : decode cX7_forgetWhatEnds 2 = .ok (.iload_n 1, 1) := by decide +kernel
theorem dX7_forgetWhatEnds_3 : decode cX7_forgetWhatEnds 3 = .ok (.aload_n 0, 1) := by decide +kernel
theorem dX7_forgetWhatEnds_4 : decode cX7_forgetWhatEnds 4 = .ok (.getfield 25, 3) := by decide +kernel
theorem dX7_forgetWhatEnds_7 : decode cX7_forgetWhatEnds 7 = .ok (.if_icmp .ge 27, 3) := by decide +kernel
theorem dX7_forgetWhatEnds_10 : decode cX7_forgetWhatEnds 10 = .ok (.aload_n 0, 1) := by decide +kernel
theorem dX7_forgetWhatEnds_11 : decode cX7_forgetWhatEnds 11 = .ok (.getfield 11, 3) := by decide +kernel
theorem dX7_forgetWhatEnds_14 : decode cX7_forgetWhatEnds 14 = .ok (.iload_n 1, 1) := by decide +kernel
theorem dX7_forgetWhatEnds_15 : decode cX7_forgetWhatEnds 15 = .ok (.aaload, 1) := by decide +kernel
theorem dX7_forgetWhatEnds_16 : decode cX7_forgetWhatEnds 16 = .ok (.getfield 134, 3) := by decide +kernel
theorem dX7_forgetWhatEnds_19 : decode cX7_forgetWhatEnds 19 = .ok (.aload_n 0, 1) := by decide +kernel
theorem dX7_forgetWhatEnds_20 : decode cX7_forgetWhatEnds 20 = .ok (.getfield 62, 3) := by decide +kernel
theorem dX7_forgetWhatEnds_23 : decode cX7_forgetWhatEnds 23 = .ok (.iconst 1, 1) := by decide +kernel
theorem dX7_forgetWhatEnds_24 : decode cX7_forgetWhatEnds 24 = .ok (.iadd, 1) := by decide +kernel
theorem dX7_forgetWhatEnds_25 : decode cX7_forgetWhatEnds 25 = .ok (.invokevirtual 473, 3) := by decide +kernel
theorem dX7_forgetWhatEnds_28 : decode cX7_forgetWhatEnds 28 = .ok (.iinc 1 1, 3) := by decide +kernel
theorem dX7_forgetWhatEnds_31 : decode cX7_forgetWhatEnds 31 = .ok (.goto (-29), 3) := by decide +kernel
theorem dX7_forgetWhatEnds_34 : decode cX7_forgetWhatEnds 34 = .ok (.return_, 1) := by decide +kernel
theorem dX7_isIn_0 : decode cX7_isIn 0 = .ok (.iload_n 0, 1) := by decide +kernel
theorem dX7_isIn_1 : decode cX7_isIn 1 = .ok (.iload_n 1, 1) := by decide +kernel
theorem dX7_isIn_2 : decode cX7_isIn 2 = .ok (.iushr, 1) := by decide +kernel
theorem dX7_isIn_3 : decode cX7_isIn 3 = .ok (.iconst 1, 1) := by decide +kernel
theorem dX7_isIn_4 : decode cX7_isIn 4 = .ok (.iand, 1) := by decide +kernel
theorem dX7_isIn_5 : decode cX7_isIn 5 = .ok (.ifCond .eq 7, 3) := by decide +kernel
theorem dX7_isIn_8 : decode cX7_isIn 8 = .ok (.iconst 1, 1) := by decide +kernel
theorem dX7_isIn_9 : decode cX7_isIn 9 = .ok (.goto 4, 3) := by decide +kernel
theorem dX7_isIn_12 : decode cX7_isIn 12 = .ok (.iconst 0, 1) := by decide +kernel
theorem dX7_isIn_13 : decode cX7_isIn 13 = .ok (.ireturn, 1) := by decide +kernel
theorem dJ6_bitCount_0f7a4_0 : decode cJ6_bitCount_0f7a4 0 = .ok (.iload_n 0, 1) := by decide +kernel
theorem dJ6_bitCount_0f7a4_1 : decode cJ6_bitCount_0f7a4 1 = .ok (.iload_n 0, 1) := by decide +kernel
theorem dJ6_bitCount_0f7a4_2 : decode cJ6_bitCount_0f7a4 2 = .ok (.iconst 1, 1) := by decide +kernel
theorem dJ6_bitCount_0f7a4_3 : decode cJ6_bitCount_0f7a4 3 = .ok (.iushr, 1) := by decide +kernel
theorem dJ6_bitCount_0f7a4_4 : decode cJ6_bitCount_0f7a4 4 = .ok (.ldc_w 265, 3) := by decide +kernel
theorem dJ6_bitCount_0f7a4_7 : decode cJ6_bitCount_0f7a4 7 = .ok (.iand, 1) := by decide +kernel
theorem dJ6_bitCount_0f7a4_8 : decode cJ6_bitCount_0f7a4 8 = .ok (.isub, 1) := by decide +kernel
theorem dJ6_bitCount_0f7a4_9 : decode cJ6_bitCount_0f7a4 9 = .ok (.istore_n 0, 1) := by decide +kernel
theorem dJ6_bitCount_0f7a4_10 : decode cJ6_bitCount_0f7a4 10 = .ok (.iload_n 0, 1) := by decide +kernel
theorem dJ6_bitCount_0f7a4_11 : decode cJ6_bitCount_0f7a4 11 = .ok (.ldc_w 266, 3) := by decide +kernel
theorem dJ6_bitCount_0f7a4_14 : decode cJ6_bitCount_0f7a4 14 = .ok (.iand, 1) := by decide +kernel
theorem dJ6_bitCount_0f7a4_15 : decode cJ6_bitCount_0f7a4 15 = .ok (.iload_n 0, 1) := by decide +kernel
theorem dJ6_bitCount_0f7a4_16 : decode cJ6_bitCount_0f7a4 16 = .ok (.iconst 2, 1) := by decide +kernel
theorem dJ6_bitCount_0f7a4_17 : decode cJ6_bitCount_0f7a4 17 = .ok (.iushr, 1) := by decide +kernel
theorem dJ6_bitCount_0f7a4_18 : decode cJ6_bitCount_0f7a4 18 = .ok (.ldc_w 266, 3) := by decide +kernel
theorem dJ6_bitCount_0f7a4_21 : decode cJ6_bitCount_0f7a4 21 = .ok (.iand, 1) := by decide +kernel
theorem dJ6_bitCount_0f7a4_22 : decode cJ6_bitCount_0f7a4 22 = .ok (.iadd, 1) := by decide +kernel
theorem dJ6_bitCount_0f7a4_23 : decode cJ6_bitCount_0f7a4 23 = .ok (.istore_n 0, 1) := by decide +kernel
theorem dJ6_bitCount_0f7a4_24 : decode cJ6_bitCount_0f7a4 24 = .ok (.iload_n 0, 1) := by decide +kernel
theorem dJ6_bitCount_0f7a4_25 : decode cJ6_bitCount_0f7a4 25 = .ok (.iload_n 0, 1) := by decide +kernel
theorem dJ6_bitCount_0f7a4_26 : decode cJ6_bitCount_0f7a4 26 = .ok (.iconst 4, 1) := by decide +kernel
theorem dJ6_bitCount_0f7a4_27 : decode cJ6_bitCount_0f7a4 27 = .ok (.iushr, 1) := by decide +kernel
theorem dJ6_bitCount_0f7a4_28 : decode cJ6_bitCount_0f7a4 28 = .ok (.iadd, 1) := by decide +kernel
theorem dJ6_bitCount_0f7a4_29 : decode cJ6_bitCount_0f7a4 29 = .ok (.ldc_w 267, 3) := by decide +kernel
theorem dJ6_bitCount_0f7a4_32 : decode cJ6_bitCount_0f7a4 32 = .ok (.iand, 1) := by decide +kernel
theorem dJ6_bitCount_0f7a4_33 : decode cJ6_bitCount_0f7a4 33 = .ok (.istore_n 0, 1) := by decide +kernel
theorem dJ6_bitCount_0f7a4_34 : decode cJ6_bitCount_0f7a4 34 = .ok (.iload_n 0, 1) := by decide +kernel
theorem dJ6_bitCount_0f7a4_35 : decode cJ6_bitCount_0f7a4 35 = .ok (.iload_n 0, 1) := by decide +kernel
theorem dJ6_bitCount_0f7a4_36 : decode cJ6_bitCount_0f7a4 36 = .ok (.bipush 8, 2) := by decide +kernel
theorem dJ6_bitCount_0f7a4_38 : decode cJ6_bitCount_0f7a4 38 = .ok (.iushr, 1) := by decide +kernel
theorem dJ6_bitCount_0f7a4_39 : decode cJ6_bitCount_0f7a4 39 = .ok (.iadd, 1) := by decide +kernel
theorem dJ6_bitCount_0f7a4_40 : decode cJ6_bitCount_0f7a4 40 = .ok (.istore_n 0, 1) := by decide +kernel
theorem dJ6_bitCount_0f7a4_41 : decode cJ6_bitCount_0f7a4 41 = .ok (.iload_n 0, 1) := by decide +kernel
theorem dJ6_bitCount_0f7a4_42 : decode cJ6_bitCount_0f7a4 42 = .ok (.iload_n 0, 1) := by decide +kernel
theorem dJ6_bitCount_0f7a4_43 : decode cJ6_bitCount_0f7a4 43 = .ok (.bipush 16, 2) := by decide +kernel
theorem dJ6_bitCount_0f7a4_45 : decode cJ6_bitCount_0f7a4 45 = .ok (.iushr, 1) := by decide +kernel
theorem dJ6_bitCount_0f7a4_46 : decode cJ6_bitCount_0f7a4 46 = .ok (.iadd, 1) := by decide +kernel
theorem dJ6_bitCount_0f7a4_47 : decode cJ6_bitCount_0f7a4 47 = .ok (.istore_n 0, 1) := by decide +kernel
theorem dJ6_bitCount_0f7a4_48 : decode cJ6_bitCount_0f7a4 48 = .ok (.iload_n 0, 1) := by decide +kernel
theorem dJ6_bitCount_0f7a4_49 : decode cJ6_bitCount_0f7a4 49 = .ok (.bipush 63, 2) := by decide +kernel
theorem dJ6_bitCount_0f7a4_51 : decode cJ6_bitCount_0f7a4 51 = .ok (.iand, 1) := by decide +kernel
theorem dJ6_bitCount_0f7a4_52 : decode cJ6_bitCount_0f7a4 52 = .ok (.ireturn, 1) := by decide +kernel
