theorem dX0_init_0 : decode cX0_init 0 = .ok (.aload_n 0, 1) := by decide +kernel
theorem dX0_init_1 : decode cX0_init 1 = .ok (.invokespecial 1, 3) := by decide +kernel
theorem dX0_init_4 : decode cX0_init 4 = .ok (.aload_n 0, 1) := by decide +kernel
theorem dX0_init_5 : decode cX0_init 5 = .ok (.sipush 512, 3) := by decide +kernel
theorem dX0_init_8 : decode cX0_init 8 = .ok (.newarray .boolean, 2) := by decide +kernel
theorem dX0_init_10 : decode cX0_init 10 = .ok (.putfield 9, 3) := by decide +kernel
theorem dX0_init_13 : decode cX0_init 13 = .ok (.aload_n 0, 1) := by decide +kernel
theorem dX0_init_14 : decode cX0_init 14 = .ok (.sipush 512, 3) := by decide +kernel
theorem dX0_init_17 : decode cX0_init 17 = .ok (.newarray .int, 2) := by decide +kernel
theorem dX0_init_19 : decode cX0_init 19 = .ok (.putfield 13, 3) := by decide +kernel
theorem dX0_init_22 : decode cX0_init 22 = .ok (.aload_n 0, 1) := by decide +kernel
theorem dX0_init_23 : decode cX0_init 23 = .ok (.sipush 512, 3) := by decide +kernel
theorem dX0_init_26 : decode cX0_init 26 = .ok (.newarray .int, 2) := by decide +kernel
theorem dX0_init_28 : decode cX0_init 28 = .ok (.putfield 17, 3) := by decide +kernel
theorem dX0_init_31 : decode cX0_init 31 = .ok (.aload_n 0, 1) := by decide +kernel
theorem dX0_init_32 : decode cX0_init 32 = .ok (.sipush 512, 3) := by decide +kernel
theorem dX0_init_35 : decode cX0_init 35 = .ok (.newarray .int, 2) := by decide +kernel
theorem dX0_init_37 : decode cX0_init 37 = .ok (.putfield 20, 3) := by decide +kernel
theorem dX0_init_40 : decode cX0_init 40 = .ok (.aload_n 0, 1) := by decide +kernel
theorem dX0_init_41 : decode cX0_init 41 = .ok (.iconst 0, 1) := by decide +kernel
theorem dX0_init_42 : decode cX0_init 42 = .ok (.putfield 23, 3) := by decide +kernel
theorem dX0_init_45 : decode cX0_init 45 = .ok (.aload_n 0, 1) := by decide +kernel
theorem dX0_init_46 : decode cX0_init 46 = .ok (.iconst 0, 1) := by decide +kernel
theorem dX0_init_47 : decode cX0_init 47 = .ok (.putfield 27, 3) := by decide +kernel
theorem dX0_init_50 : decode cX0_init 50 = .ok (.aload_n 0, 1) := by decide +kernel
theorem dX0_init_51 : decode cX0_init 51 = .ok (.iconst 0, 1) := by decide +kernel
theorem dX0_init_52 : decode cX0_init 52 = .ok (.putfield 30, 3) := by decide +kernel
theorem dX0_init_55 : decode cX0_init 55 = .ok (.aload_n 0, 1) := by decide +kernel
theorem dX0_init_56 : decode cX0_init 56 = .ok (.iconst (-1), 1) := by decide +kernel
theorem dX0_init_57 : decode cX0_init 57 = .ok (.putfield 33, 3) := by decide +kernel
theorem dX0_init_60 : decode cX0_init 60 = .ok (.return_, 1) := by decide +kernel
theorem dX0_set_0 : decode cX0_set 0 = .ok (.iload_n 1, 1) := by decide +kernel
theorem dX0_set_1 : decode cX0_set 1 = .ok (.invokestatic 36, 3) := by decide +kernel
theorem dX0_set_4 : decode cX0_set 4 = .ok (.ifCond .ne 13, 3) := by decide +kernel
theorem dX0_set_7 : decode cX0_set 7 = .ok (.new 40, 3) := by decide +kernel
theorem dX0_set_10 : decode cX0_set 10 = .ok (.dup, 1) := by decide +kernel
theorem dX0_set_11 : decode cX0_set 11 = .ok (.ldc 42, 2) := by decide +kernel
theorem dX0_set_13 : decode cX0_set 13 = .ok (.invokespecial 44, 3) := by decide +kernel
theorem dX0_set_16 : decode cX0_set 16 = .ok (.athrow, 1) := by decide +kernel
theorem dX0_set_17 : decode cX0_set 17 = .ok (.aload_n 0, 1) := by decide +kernel
theorem dX0_set_18 : decode cX0_set 18 = .ok (.invokevirtual 47, 3) := by decide +kernel
theorem dX0_set_21 : decode cX0_set 21 = .ok (.istore_n 3, 1) := by decide +kernel
theorem dX0_set_22 : decode cX0_set 22 = .ok (.iload_n 3, 1) := by decide +kernel
theorem dX0_set_23 : decode cX0_set 23 = .ok (.iconst (-1), 1) := by decide +kernel
theorem dX0_set_24 : decode cX0_set 24 = .ok (.if_icmp .ne 13, 3) := by decide +kernel
theorem dX0_set_27 : decode cX0_set 27 = .ok (.new 51, 3) := by decide +kernel
theorem dX0_set_30 : decode cX0_set 30 = .ok (.dup, 1) := by decide +kernel
theorem dX0_set_31 : decode cX0_set 31 = .ok (.ldc 53, 2) := by decide +kernel
theorem dX0_set_33 : decode cX0_set 33 = .ok (.invokespecial 55, 3) := by decide +kernel
theorem dX0_set_36 : decode cX0_set 36 = .ok (.athrow, 1) := by decide +kernel
theorem dX0_set_37 : decode cX0_set 37 = .ok (.aload_n 0, 1) := by decide +kernel
theorem dX0_set_38 : decode cX0_set 38 = .ok (.iload_n 1, 1) := by decide +kernel
theorem dX0_set_39 : decode cX0_set 39 = .ok (.invokevirtual 56, 3) := by decide +kernel
theorem dX0_set_42 : decode cX0_set 42 = .ok (.ifCond .eq 13, 3) := by decide +kernel
theorem dX0_set_45 : decode cX0_set 45 = .ok (.new 51, 3) := by decide +kernel
theorem dX0_set_48 : decode cX0_set 48 = .ok (.dup, 1) := by decide +kernel
theorem dX0_set_49 : decode cX0_set 49 = .ok (.ldc 59, 2) := by decide +kernel
theorem dX0_set_51 : decode cX0_set 51 = .ok (.invokespecial 55, 3) := by decide +kernel
theorem dX0_set_54 : decode cX0_set 54 = .ok (.athrow, 1) := by decide +kernel
theorem dX0_set_55 : decode cX0_set 55 = .ok (.aload_n 0, 1) := by decide +kernel
theorem dX0_set_56 : decode cX0_set 56 = .ok (.getfield 9, 3) := by decide +kernel
theorem dX0_set_59 : decode cX0_set 59 = .ok (.iload_n 3, 1) := by decide +kernel
theorem dX0_set_60 : decode cX0_set 60 = .ok (.iconst 1, 1) := by decide +kernel
theorem dX0_set_61 : decode cX0_set 61 = .ok (.bastore, 1) := by decide +kernel
theorem dX0_set_62 : decode cX0_set 62 = .ok (.aload_n 0, 1) := by decide +kernel
theorem dX0_set_63 : decode cX0_set 63 = .ok (.getfield 17, 3) := by decide +kernel
theorem dX0_set_66 : decode cX0_set 66 = .ok (.iload_n 3, 1) := by decide +kernel
theorem dX0_set_67 : decode cX0_set 67 = .ok (.iload_n 2, 1) := by decide +kernel
theorem dX0_set_68 : decode cX0_set 68 = .ok (.iastore, 1) := by decide +kernel
theorem dX0_set_69 : decode cX0_set 69 = .ok (.aload_n 0, 1) := by decide +kernel
theorem dX0_set_70 : decode cX0_set 70 = .ok (.iload_n 3, 1) := by decide +kernel
theorem dX0_set_71 : decode cX0_set 71 = .ok (.iload_n 1, 1) := by decide +kernel
theorem dX0_set_72 : decode cX0_set 72 = .ok (.invokevirtual 61, 3) := by decide +kernel
theorem dX0_set_75 : decode cX0_set 75 = .ok (.iload_n 3, 1) := by decide +kernel
theorem dX0_set_76 : decode cX0_set 76 = .ok (.ireturn, 1) := by decide +kernel
theorem dX0_shift_0 : decode cX0_shift 0 = .ok (.aload_n 0, 1) := by decide +kernel
theorem dX0_shift_1 : decode cX0_shift 1 = .ok (.iload_n 1, 1) := by decide +kernel
theorem dX0_shift_2 : decode cX0_shift 2 = .ok (.invokevirtual 65, 3) := by decide +kernel
theorem dX0_shift_5 : decode cX0_shift 5 = .ok (.ifCond .ne 13, 3) := by decide +kernel
theorem dX0_shift_8 : decode cX0_shift 8 = .ok (.new 40, 3) := by decide +kernel
theorem dX0_shift_11 : decode cX0_shift 11 = .ok (.dup, 1) := by decide +kernel
theorem dX0_shift_12 : decode cX0_shift 12 = .ok (.ldc 68, 2) := by decide +kernel
theorem dX0_shift_14 : decode cX0_shift 14 = .ok (.invokespecial 44, 3) := by decide +kernel
theorem dX0_shift_17 : decode cX0_shift 17 = .ok (.athrow, 1) := by decide +kernel
theorem dX0_shift_18 : decode cX0_shift 18 = .ok (.iload_n 2, 1) := by decide +kernel
theorem dX0_shift_19 : decode cX0_shift 19 = .ok (.invokestatic 36, 3) := by decide +kernel
theorem dX0_shift_22 : decode cX0_shift 22 = .ok (.ifCond .ne 13, 3) := by decide +kernel
theorem dX0_shift_25 : decode cX0_shift 25 = .ok (.new 40, 3) := by decide +kernel
theorem dX0_shift_28 : decode cX0_shift 28 = .ok (.dup, 1) := by decide +kernel
theorem dX0_shift_29 : decode cX0_shift 29 = .ok (.ldc 42, 2) := by decide +kernel
theorem dX0_shift_31 : decode cX0_shift 31 = .ok (.invokespecial 44, 3) := by decide +kernel
theorem dX0_shift_34 : decode cX0_shift 34 = .ok (.athrow, 1) := by decide +kernel
theorem dX0_shift_35 : decode cX0_shift 35 = .ok (.aload_n 0, 1) := by decide +kernel
theorem dX0_shift_36 : decode cX0_shift 36 = .ok (.iload_n 2, 1) := by decide +kernel
theorem dX0_shift_37 : decode cX0_shift 37 = .ok (.invokevirtual 56, 3) := by decide +kernel
theorem dX0_shift_40 : decode cX0_shift 40 = .ok (.ifCond .eq 13, 3) := by decide +kernel
theorem dX0_shift_43 : decode cX0_shift 43 = .ok (.new 51, 3) := by decide +kernel
theorem dX0_shift_46 : decode cX0_shift 46 = .ok (.dup, 1) := by decide +kernel
theorem dX0_shift_47 : decode cX0_shift 47 = .ok (.ldc 59, 2) := by decide +kernel
theorem dX0_shift_49 : decode cX0_shift 49 = .ok (.invokespecial 55, 3) := by decide +kernel
theorem dX0_shift_52 : decode cX0_shift 52 = .ok (.athrow, 1) := by decide +kernel
theorem dX0_shift_53 : decode cX0_shift 53 = .ok (.aload_n 0, 1) := by decide +kernel
theorem dX0_shift_54 : decode cX0_shift 54 = .ok (.getfield 13, 3) := by decide +kernel
theorem dX0_shift_57 : decode cX0_shift 57 = .ok (.iload_n 1, 1) := by decide +kernel
theorem dX0_shift_58 : decode cX0_shift 58 = .ok (.iaload, 1) := by decide +kernel
theorem dX0_shift_59 : decode cX0_shift 59 = .ok (.aload_n 0, 1) := by decide +kernel
theorem dX0_shift_60 : decode cX0_shift 60 = .ok (.getfield 23, 3) := by decide +kernel
theorem dX0_shift_63 : decode cX0_shift 63 = .ok (.isub, 1) := by decide +kernel
theorem dX0_shift_64 : decode cX0_shift 64 = .ok (.istore_n 3, 1) := by decide +kernel
theorem dX0_shift_65 : decode cX0_shift 65 = .ok (.aload_n 0, 1) := by decide +kernel
theorem dX0_shift_66 : decode cX0_shift 66 = .ok (.iload_n 1, 1) := by decide +kernel
theorem dX0_shift_67 : decode cX0_shift 67 = .ok (.iload_n 2, 1) := by decide +kernel
theorem dX0_shift_68 : decode cX0_shift 68 = .ok (.invokevirtual 61, 3) := by decide +kernel
theorem dX0_shift_71 : decode cX0_shift 71 = .ok (.iload_n 3, 1) := by decide +kernel
theorem dX0_shift_72 : decode cX0_shift 72 = .ok (.ireturn, 1) := by decide +kernel
theorem dX0_stop_0 : decode cX0_stop 0 = .ok (.aload_n 0, 1) := by decide +kernel
theorem dX0_stop_1 : decode cX0_stop 1 = .ok (.iload_n 1, 1) := by decide +kernel
theorem dX0_stop_2 : decode cX0_stop 2 = .ok (.invokevirtual 65, 3) := by decide +kernel
theorem dX0_stop_5 : decode cX0_stop 5 = .ok (.ifCond .ne 13, 3) := by decide +kernel
theorem dX0_stop_8 : decode cX0_stop 8 = .ok (.new 40, 3) := by decide +kernel
theorem dX0_stop_11 : decode cX0_stop 11 = .ok (.dup, 1) := by decide +kernel
theorem dX0_stop_12 : decode cX0_stop 12 = .ok (.ldc 68, 2) := by decide +kernel
theorem dX0_stop_14 : decode cX0_stop 14 = .ok (.invokespecial 44, 3) := by decide +kernel
theorem dX0_stop_17 : decode cX0_stop 17 = .ok (.athrow, 1) := by decide +kernel
theorem dX0_stop_18 : decode cX0_stop 18 = .ok (.aload_n 0, 1) := by decide +kernel
theorem dX0_stop_19 : decode cX0_stop 19 = .ok (.getfield 9, 3) := by decide +kernel
theorem dX0_stop_22 : decode cX0_stop 22 = .ok (.iload_n 1, 1) := by decide +kernel
theorem dX0_stop_23 : decode cX0_stop 23 = .ok (.iconst 0, 1) := by decide +kernel
theorem dX0_stop_24 : decode cX0_stop 24 = .ok (.bastore, 1) := by decide +kernel
theorem dX0_stop_25 : decode cX0_stop 25 = .ok (.aload_n 0, 1) := by decide +kernel
theorem dX0_stop_26 : decode cX0_stop 26 = .ok (.getfield 17, 3) := by decide +kernel
theorem dX0_stop_29 : decode cX0_stop 29 = .ok (.iload_n 1, 1) := by decide +kernel
theorem dX0_stop_30 : decode cX0_stop 30 = .ok (.iaload, 1) := by decide +kernel
theorem dX0_stop_31 : decode cX0_stop 31 = .ok (.ireturn, 1) := by decide +kernel
theorem dX0_stopAll_0 : decode cX0_stopAll 0 = .ok (.iconst 0, 1) := by decide +kernel
theorem dX0_stopAll_1 : decode cX0_stopAll 1 = .ok (.istore_n 2, 1) := by decide +kernel
theorem dX0_stopAll_2 : decode cX0_stopAll 2 = .ok (.iconst 0, 1) := by decide +kernel
theorem dX0_stopAll_3 : decode cX0_stopAll 3 = .ok (.istore_n 3, 1) := by decide +kernel
theorem dX0_stopAll_4 : decode cX0_stopAll 4 = .ok (.iload_n 3, 1) := by decide +kernel
theorem dX0_stopAll_5 : decode cX0_stopAll 5 = .ok (.sipush 512, 3) := by decide +kernel
theorem dX0_stopAll_8 : decode cX0_stopAll 8 = .ok (.if_icmp .ge 38, 3) := by decide +kernel
theorem dX0_stopAll_11 : decode cX0_stopAll 11 = .ok (.aload_n 0, 1) := by decide +kernel
theorem dX0_stopAll_12 : decode cX0_stopAll 12 = .ok (.getfield 9, 3) := by decide +kernel
theorem dX0_stopAll_15 : decode cX0_stopAll 15 = .ok (.iload_n 3, 1) := by decide +kernel
theorem dX0_stopAll_16 : decode cX0_stopAll 16 = .ok (.baload, 1) := by decide +kernel
theorem dX0_stopAll_17 : decode cX0_stopAll 17 = .ok (.ifCond .eq 23, 3) := by decide +kernel
theorem dX0_stopAll_20 : decode cX0_stopAll 20 = .ok (.aload_n 0, 1) := by decide +kernel
theorem dX0_stopAll_21 : decode cX0_stopAll 21 = .ok (.getfield 17, 3) := by decide +kernel
theorem dX0_stopAll_24 : decode cX0_stopAll 24 = .ok (.iload_n 3, 1) := by decide +kernel
theorem dX0_stopAll_25 : decode cX0_stopAll 25 = .ok (.iaload, 1) := by decide +kernel
theorem dX0_stopAll_26 : decode cX0_stopAll 26 = .ok (.iload_n 1, 1) := by decide +kernel
theorem dX0_stopAll_27 : decode cX0_stopAll 27 = .ok (.if_icmp .ne 13, 3) := by decide +kernel
theorem dX0_stopAll_30 : decode cX0_stopAll 30 = .ok (.aload_n 0, 1) := by decide +kernel
theorem dX0_stopAll_31 : decode cX0_stopAll 31 = .ok (.getfield 9, 3) := by decide +kernel
theorem dX0_stopAll_34 : decode cX0_stopAll 34 = .ok (.iload_n 3, 1) := by decide +kernel
theorem dX0_stopAll_35 : decode cX0_stopAll 35 = .ok (.iconst 0, 1) := by decide +kernel
theorem dX0_stopAll_36 : decode cX0_stopAll 36 = .ok (.bastore, 1) := by decide +kernel
theorem dX0_stopAll_37 : decode cX0_stopAll 37 = .ok (.iinc 2 1, 3) := by decide +kernel
theorem dX0_stopAll_40 : decode cX0_stopAll 40 = .ok (.iinc 3 1, 3) := by decide +kernel
theorem dX0_stopAll_43 : decode cX0_stopAll 43 = .ok (.goto (-39), 3) := by decide +kernel
theorem dX0_stopAll_46 : decode cX0_stopAll 46 = .ok (.iload_n 2, 1) := by decide +kernel
theorem dX0_stopAll_47 : decode cX0_stopAll 47 = .ok (.ireturn, 1) := by decide +kernel
theorem dX0_pass_0 : decode cX0_pass 0 = .ok (.iload_n 1, 1) := by decide +kernel
theorem dX0_pass_1 : decode cX0_pass 1 = .ok (.ifCond .lt 9, 3) := by decide +kernel
theorem dX0_pass_4 : decode cX0_pass 4 = .ok (.iload_n 1, 1) := by decide +kernel
theorem dX0_pass_5 : decode cX0_pass 5 = .ok (.ldc 70, 2) := by decide +kernel
theorem dX0_pass_7 : decode cX0_pass 7 = .ok (.if_icmp .le 13, 3) := by decide +kernel
theorem dX0_pass_10 : decode cX0_pass 10 = .ok (.new 40, 3) := by decide +kernel
theorem dX0_pass_13 : decode cX0_pass 13 = .ok (.dup, 1) := by decide +kernel
theorem dX0_pass_14 : decode cX0_pass 14 = .ok (.ldc 71, 2) := by decide +kernel
theorem dX0_pass_16 : decode cX0_pass 16 = .ok (.invokespecial 44, 3) := by decide +kernel
theorem dX0_pass_19 : decode cX0_pass 19 = .ok (.athrow, 1) := by decide +kernel
theorem dX0_pass_20 : decode cX0_pass 20 = .ok (.aload_n 0, 1) := by decide +kernel
theorem dX0_pass_21 : decode cX0_pass 21 = .ok (.iload_n 1, 1) := by decide +kernel
theorem dX0_pass_22 : decode cX0_pass 22 = .ok (.invokevirtual 56, 3) := by decide +kernel
theorem dX0_pass_25 : decode cX0_pass 25 = .ok (.ifCond .eq 13, 3) := by decide +kernel
theorem dX0_pass_28 : decode cX0_pass 28 = .ok (.new 51, 3) := by decide +kernel
theorem dX0_pass_31 : decode cX0_pass 31 = .ok (.dup, 1) := by decide +kernel
theorem dX0_pass_32 : decode cX0_pass 32 = .ok (.ldc 73, 2) := by decide +kernel
theorem dX0_pass_34 : decode cX0_pass 34 = .ok (.invokespecial 55, 3) := by decide +kernel
theorem dX0_pass_37 : decode cX0_pass 37 = .ok (.athrow, 1) := by decide +kernel
theorem dX0_pass_38 : decode cX0_pass 38 = .ok (.aload_n 0, 1) := by decide +kernel
theorem dX0_pass_39 : decode cX0_pass 39 = .ok (.dup, 1) := by decide +kernel
theorem dX0_pass_40 : decode cX0_pass 40 = .ok (.getfield 23, 3) := by decide +kernel
theorem dX0_pass_43 : decode cX0_pass 43 = .ok (.iload_n 1, 1) := by decide +kernel
theorem dX0_pass_44 : decode cX0_pass 44 = .ok (.iadd, 1) := by decide +kernel
theorem dX0_pass_45 : decode cX0_pass 45 = .ok (.putfield 23, 3) := by decide +kernel
theorem dX0_pass_48 : decode cX0_pass 48 = .ok (.aload_n 0, 1) := by decide +kernel
theorem dX0_pass_49 : decode cX0_pass 49 = .ok (.getfield 23, 3) := by decide +kernel
theorem dX0_pass_52 : decode cX0_pass 52 = .ok (.ireturn, 1) := by decide +kernel
theorem dX0_ring_0 : decode cX0_ring 0 = .ok (.aload_n 0, 1) := by decide +kernel
theorem dX0_ring_1 : decode cX0_ring 1 = .ok (.invokevirtual 75, 3) := by decide +kernel
theorem dX0_ring_4 : decode cX0_ring 4 = .ok (.istore_n 1, 1) := by decide +kernel
theorem dX0_ring_5 : decode cX0_ring 5 = .ok (.iload_n 1, 1) := by decide +kernel
theorem dX0_ring_6 : decode cX0_ring 6 = .ok (.iconst (-1), 1) := by decide +kernel
theorem dX0_ring_7 : decode cX0_ring 7 = .ok (.if_icmp .eq 11, 3) := by decide +kernel
theorem dX0_ring_10 : decode cX0_ring 10 = .ok (.aload_n 0, 1) := by decide +kernel
theorem dX0_ring_11 : decode cX0_ring 11 = .ok (.iload_n 1, 1) := by decide +kernel
theorem dX0_ring_12 : decode cX0_ring 12 = .ok (.invokevirtual 78, 3) := by decide +kernel
theorem dX0_ring_15 : decode cX0_ring 15 = .ok (.ifCond .ne 5, 3) := by decide +kernel
theorem dX0_ring_18 : decode cX0_ring 18 = .ok (.iconst (-1), 1) := by decide +kernel
theorem dX0_ring_19 : decode cX0_ring 19 = .ok (.ireturn, 1) := by decide +kernel
theorem dX0_ring_20 : decode cX0_ring 20 = .ok (.aload_n 0, 1) := by decide +kernel
theorem dX0_ring_21 : decode cX0_ring 21 = .ok (.getfield 9, 3) := by decide +kernel
theorem dX0_ring_24 : decode cX0_ring 24 = .ok (.iload_n 1, 1) := by decide +kernel
theorem dX0_ring_25 : decode cX0_ring 25 = .ok (.iconst 0, 1) := by decide +kernel
theorem dX0_ring_26 : decode cX0_ring 26 = .ok (.bastore, 1) := by decide +kernel
theorem dX0_ring_27 : decode cX0_ring 27 = .ok (.aload_n 0, 1) := by decide +kernel
theorem dX0_ring_28 : decode cX0_ring 28 = .ok (.aload_n 0, 1) := by decide +kernel
theorem dX0_ring_29 : decode cX0_ring 29 = .ok (.getfield 17, 3) := by decide +kernel
theorem dX0_ring_32 : decode cX0_ring 32 = .ok (.iload_n 1, 1) := by decide +kernel
theorem dX0_ring_33 : decode cX0_ring 33 = .ok (.iaload, 1) := by decide +kernel
theorem dX0_ring_34 : decode cX0_ring 34 = .ok (.putfield 30, 3) := by decide +kernel
theorem dX0_ring_37 : decode cX0_ring 37 = .ok (.aload_n 0, 1) := by decide +kernel
theorem dX0_ring_38 : decode cX0_ring 38 = .ok (.aload_n 0, 1) := by decide +kernel
theorem dX0_ring_39 : decode cX0_ring 39 = .ok (.getfield 13, 3) := by decide +kernel
theorem dX0_ring_42 : decode cX0_ring 42 = .ok (.iload_n 1, 1) := by decide +kernel
theorem dX0_ring_43 : decode cX0_ring 43 = .ok (.iaload, 1) := by decide +kernel
theorem dX0_ring_44 : decode cX0_ring 44 = .ok (.putfield 33, 3) := by decide +kernel
theorem dX0_ring_47 : decode cX0_ring 47 = .ok (.iload_n 1, 1) := by decide +kernel
theorem dX0_ring_48 : decode cX0_ring 48 = .ok (.ireturn, 1) := by decide +kernel
theorem dX0_told_0 : decode cX0_told 0 = .ok (.aload_n 0, 1) := by decide +kernel
theorem dX0_told_1 : decode cX0_told 1 = .ok (.getfield 30, 3) := by decide +kernel
theorem dX0_told_4 : decode cX0_told 4 = .ok (.ireturn, 1) := by decide +kernel
theorem dX0_wasDue_0 : decode cX0_wasDue 0 = .ok (.aload_n 0, 1) := by decide +kernel
theorem dX0_wasDue_1 : decode cX0_wasDue 1 = .ok (.getfield 33, 3) := by decide +kernel
theorem dX0_wasDue_4 : decode cX0_wasDue 4 = .ok (.ireturn, 1) := by decide +kernel
theorem dX0_next_0 : decode cX0_next 0 = .ok (.aload_n 0, 1) := by decide +kernel
theorem dX0_next_1 : decode cX0_next 1 = .ok (.invokevirtual 75, 3) := by decide +kernel
theorem dX0_next_4 : decode cX0_next 4 = .ok (.istore_n 1, 1) := by decide +kernel
theorem dX0_next_5 : decode cX0_next 5 = .ok (.iload_n 1, 1) := by decide +kernel
theorem dX0_next_6 : decode cX0_next 6 = .ok (.iconst (-1), 1) := by decide +kernel
theorem dX0_next_7 : decode cX0_next 7 = .ok (.if_icmp .ne 7, 3) := by decide +kernel
theorem dX0_next_10 : decode cX0_next 10 = .ok (.iconst (-1), 1) := by decide +kernel
theorem dX0_next_11 : decode cX0_next 11 = .ok (.goto 9, 3) := by decide +kernel
theorem dX0_next_14 : decode cX0_next 14 = .ok (.aload_n 0, 1) := by decide +kernel
theorem dX0_next_15 : decode cX0_next 15 = .ok (.getfield 13, 3) := by decide +kernel
theorem dX0_next_18 : decode cX0_next 18 = .ok (.iload_n 1, 1) := by decide +kernel
theorem dX0_next_19 : decode cX0_next 19 = .ok (.iaload, 1) := by decide +kernel
theorem dX0_next_20 : decode cX0_next 20 = .ok (.ireturn, 1) := by decide +kernel
theorem dX0_about_0 : decode cX0_about 0 = .ok (.aload_n 0, 1) := by decide +kernel
theorem dX0_about_1 : decode cX0_about 1 = .ok (.iload_n 1, 1) := by decide +kernel
theorem dX0_about_2 : decode cX0_about 2 = .ok (.invokevirtual 65, 3) := by decide +kernel
theorem dX0_about_5 : decode cX0_about 5 = .ok (.ifCond .ne 13, 3) := by decide +kernel
theorem dX0_about_8 : decode cX0_about 8 = .ok (.new 40, 3) := by decide +kernel
theorem dX0_about_11 : decode cX0_about 11 = .ok (.dup, 1) := by decide +kernel
theorem dX0_about_12 : decode cX0_about 12 = .ok (.ldc 68, 2) := by decide +kernel
theorem dX0_about_14 : decode cX0_about 14 = .ok (.invokespecial 44, 3) := by decide +kernel
theorem dX0_about_17 : decode cX0_about 17 = .ok (.athrow, 1) := by decide +kernel
theorem dX0_about_18 : decode cX0_about 18 = .ok (.iload_n 2, 1) := by decide +kernel
theorem dX0_about_19 : decode cX0_about 19 = .ok (.ifCond .eq 18, 3) := by decide +kernel
theorem dX0_about_22 : decode cX0_about 22 = .ok (.iload_n 2, 1) := by decide +kernel
theorem dX0_about_23 : decode cX0_about 23 = .ok (.iconst 1, 1) := by decide +kernel
theorem dX0_about_24 : decode cX0_about 24 = .ok (.if_icmp .eq 13, 3) := by decide +kernel
theorem dX0_about_27 : decode cX0_about 27 = .ok (.new 40, 3) := by decide +kernel
theorem dX0_about_30 : decode cX0_about 30 = .ok (.dup, 1) := by decide +kernel
theorem dX0_about_31 : decode cX0_about 31 = .ok (.ldc 81, 2) := by decide +kernel
theorem dX0_about_33 : decode cX0_about 33 = .ok (.invokespecial 44, 3) := by decide +kernel
theorem dX0_about_36 : decode cX0_about 36 = .ok (.athrow, 1) := by decide +kernel
theorem dX0_about_37 : decode cX0_about 37 = .ok (.iload_n 2, 1) := by decide +kernel
theorem dX0_about_38 : decode cX0_about 38 = .ok (.ifCond .ne 12, 3) := by decide +kernel
theorem dX0_about_41 : decode cX0_about 41 = .ok (.aload_n 0, 1) := by decide +kernel
theorem dX0_about_42 : decode cX0_about 42 = .ok (.getfield 13, 3) := by decide +kernel
theorem dX0_about_45 : decode cX0_about 45 = .ok (.iload_n 1, 1) := by decide +kernel
theorem dX0_about_46 : decode cX0_about 46 = .ok (.iaload, 1) := by decide +kernel
theorem dX0_about_47 : decode cX0_about 47 = .ok (.goto 9, 3) := by decide +kernel
theorem dX0_about_50 : decode cX0_about 50 = .ok (.aload_n 0, 1) := by decide +kernel
theorem dX0_about_51 : decode cX0_about 51 = .ok (.getfield 17, 3) := by decide +kernel
theorem dX0_about_54 : decode cX0_about 54 = .ok (.iload_n 1, 1) := by decide +kernel
theorem dX0_about_55 : decode cX0_about 55 = .ok (.iaload, 1) := by decide +kernel
theorem dX0_about_56 : decode cX0_about 56 = .ok (.ireturn, 1) := by decide +kernel
theorem dX0_count_0 : decode cX0_count 0 = .ok (.iconst 0, 1) := by decide +kernel
theorem dX0_count_1 : decode cX0_count 1 = .ok (.istore_n 2, 1) := by decide +kernel
theorem dX0_count_2 : decode cX0_count 2 = .ok (.iconst 0, 1) := by decide +kernel
theorem dX0_count_3 : decode cX0_count 3 = .ok (.istore_n 3, 1) := by decide +kernel
theorem dX0_count_4 : decode cX0_count 4 = .ok (.iload_n 3, 1) := by decide +kernel
theorem dX0_count_5 : decode cX0_count 5 = .ok (.sipush 512, 3) := by decide +kernel
theorem dX0_count_8 : decode cX0_count 8 = .ok (.if_icmp .ge 33, 3) := by decide +kernel
theorem dX0_count_11 : decode cX0_count 11 = .ok (.aload_n 0, 1) := by decide +kernel
theorem dX0_count_12 : decode cX0_count 12 = .ok (.getfield 9, 3) := by decide +kernel
theorem dX0_count_15 : decode cX0_count 15 = .ok (.iload_n 3, 1) := by decide +kernel
theorem dX0_count_16 : decode cX0_count 16 = .ok (.baload, 1) := by decide +kernel
theorem dX0_count_17 : decode cX0_count 17 = .ok (.ifCond .eq 18, 3) := by decide +kernel
theorem dX0_count_20 : decode cX0_count 20 = .ok (.iload_n 1, 1) := by decide +kernel
theorem dX0_count_21 : decode cX0_count 21 = .ok (.ifCond .eq 11, 3) := by decide +kernel
theorem dX0_count_24 : decode cX0_count 24 = .ok (.aload_n 0, 1) := by decide +kernel
theorem dX0_count_25 : decode cX0_count 25 = .ok (.iload_n 3, 1) := by decide +kernel
theorem dX0_count_26 : decode cX0_count 26 = .ok (.invokevirtual 78, 3) := by decide +kernel
theorem dX0_count_29 : decode cX0_count 29 = .ok (.ifCond .eq 6, 3) := by decide +kernel
theorem dX0_count_32 : decode cX0_count 32 = .ok (.iinc 2 1, 3) := by decide +kernel
theorem dX0_count_35 : decode cX0_count 35 = .ok (.iinc 3 1, 3) := by decide +kernel
theorem dX0_count_38 : decode cX0_count 38 = .ok (.goto (-34), 3) := by decide +kernel
theorem dX0_count_41 : decode cX0_count 41 = .ok (.iload_n 2, 1) := by decide +kernel
theorem dX0_count_42 : decode cX0_count 42 = .ok (.ireturn, 1) := by decide +kernel
theorem dX0_time_0 : decode cX0_time 0 = .ok (.aload_n 0, 1) := by decide +kernel
theorem dX0_time_1 : decode cX0_time 1 = .ok (.getfield 23, 3) := by decide +kernel
theorem dX0_time_4 : decode cX0_time 4 = .ok (.ireturn, 1) := by decide +kernel
theorem dX0_exists_0 : decode cX0_exists 0 = .ok (.iload_n 1, 1) := by decide +kernel
theorem dX0_exists_1 : decode cX0_exists 1 = .ok (.ifCond .lt 23, 3) := by decide +kernel
theorem dX0_exists_4 : decode cX0_exists 4 = .ok (.iload_n 1, 1) := by decide +kernel
theorem dX0_exists_5 : decode cX0_exists 5 = .ok (.sipush 512, 3) := by decide +kernel
theorem dX0_exists_8 : decode cX0_exists 8 = .ok (.if_icmp .ge 16, 3) := by decide +kernel
theorem dX0_exists_11 : decode cX0_exists 11 = .ok (.aload_n 0, 1) := by decide +kernel
theorem dX0_exists_12 : decode cX0_exists 12 = .ok (.getfield 9, 3) := by decide +kernel
theorem dX0_exists_15 : decode cX0_exists 15 = .ok (.iload_n 1, 1) := by decide +kernel
theorem dX0_exists_16 : decode cX0_exists 16 = .ok (.baload, 1) := by decide +kernel
theorem dX0_exists_17 : decode cX0_exists 17 = .ok (.ifCond .eq 7, 3) := by decide +kernel
theorem dX0_exists_20 : decode cX0_exists 20 = .ok (.iconst 1, 1) := by decide +kernel
theorem dX0_exists_21 : decode cX0_exists 21 = .ok (.goto 4, 3) := by decide +kernel
theorem dX0_exists_24 : decode cX0_exists 24 = .ok (.iconst 0, 1) := by decide +kernel
theorem dX0_exists_25 : decode cX0_exists 25 = .ok (.ireturn, 1) := by decide +kernel
theorem dX0_isReady_0 : decode cX0_isReady 0 = .ok (.aload_n 0, 1) := by decide +kernel
theorem dX0_isReady_1 : decode cX0_isReady 1 = .ok (.getfield 13, 3) := by decide +kernel
theorem dX0_isReady_4 : decode cX0_isReady 4 = .ok (.iload_n 1, 1) := by decide +kernel
theorem dX0_isReady_5 : decode cX0_isReady 5 = .ok (.iaload, 1) := by decide +kernel
theorem dX0_isReady_6 : decode cX0_isReady 6 = .ok (.aload_n 0, 1) := by decide +kernel
theorem dX0_isReady_7 : decode cX0_isReady 7 = .ok (.getfield 23, 3) := by decide +kernel
theorem dX0_isReady_10 : decode cX0_isReady 10 = .ok (.if_icmp .gt 7, 3) := by decide +kernel
theorem dX0_isReady_13 : decode cX0_isReady 13 = .ok (.iconst 1, 1) := by decide +kernel
theorem dX0_isReady_14 : decode cX0_isReady 14 = .ok (.goto 4, 3) := by decide +kernel
theorem dX0_isReady_17 : decode cX0_isReady 17 = .ok (.iconst 0, 1) := by decide +kernel
theorem dX0_isReady_18 : decode cX0_isReady 18 = .ok (.ireturn, 1) := by decide +kernel
theorem dX0_canBeAhead_0 : decode cX0_canBeAhead 0 = .ok (.iload_n 0, 1) := by decide +kernel
theorem dX0_canBeAhead_1 : decode cX0_canBeAhead 1 = .ok (.ifCond .lt 13, 3) := by decide +kernel
theorem dX0_canBeAhead_4 : decode cX0_canBeAhead 4 = .ok (.iload_n 0, 1) := by decide +kernel
theorem dX0_canBeAhead_5 : decode cX0_canBeAhead 5 = .ok (.ldc 83, 2) := by decide +kernel
theorem dX0_canBeAhead_7 : decode cX0_canBeAhead 7 = .ok (.if_icmp .gt 7, 3) := by decide +kernel
theorem dX0_canBeAhead_10 : decode cX0_canBeAhead 10 = .ok (.iconst 1, 1) := by decide +kernel
theorem dX0_canBeAhead_11 : decode cX0_canBeAhead 11 = .ok (.goto 4, 3) := by decide +kernel
theorem dX0_canBeAhead_14 : decode cX0_canBeAhead 14 = .ok (.iconst 0, 1) := by decide +kernel
theorem dX0_canBeAhead_15 : decode cX0_canBeAhead 15 = .ok (.ireturn, 1) := by decide +kernel
theorem dX0_isBehindLastTime_0 : decode cX0_isBehindLastTime 0 = .ok (.iload_n 1, 1) := by decide +kernel
theorem dX0_isBehindLastTime_1 : decode cX0_isBehindLastTime 1 = .ok (.ldc 83, 2) := by decide +kernel
theorem dX0_isBehindLastTime_3 : decode cX0_isBehindLastTime 3 = .ok (.aload_n 0, 1) := by decide +kernel
theorem dX0_isBehindLastTime_4 : decode cX0_isBehindLastTime 4 = .ok (.getfield 23, 3) := by decide +kernel
theorem dX0_isBehindLastTime_7 : decode cX0_isBehindLastTime 7 = .ok (.isub, 1) := by decide +kernel
theorem dX0_isBehindLastTime_8 : decode cX0_isBehindLastTime 8 = .ok (.if_icmp .le 7, 3) := by decide +kernel
theorem dX0_isBehindLastTime_11 : decode cX0_isBehindLastTime 11 = .ok (.iconst 1, 1) := by decide +kernel
theorem dX0_isBehindLastTime_12 : decode cX0_isBehindLastTime 12 = .ok (.goto 4, 3) := by decide +kernel
theorem dX0_isBehindLastTime_15 : decode cX0_isBehindLastTime 15 = .ok (.iconst 0, 1) := by decide +kernel
theorem dX0_isBehindLastTime_16 : decode cX0_isBehindLastTime 16 = .ok (.ireturn, 1) := by decide +kernel
theorem dX0_putAhead_0 : decode cX0_putAhead 0 = .ok (.aload_n 0, 1) := by decide +kernel
theorem dX0_putAhead_1 : decode cX0_putAhead 1 = .ok (.getfield 13, 3) := by decide +kernel
theorem dX0_putAhead_4 : decode cX0_putAhead 4 = .ok (.iload_n 1, 1) := by decide +kernel
theorem dX0_putAhead_5 : decode cX0_putAhead 5 = .ok (.aload_n 0, 1) := by decide +kernel
theorem dX0_putAhead_6 : decode cX0_putAhead 6 = .ok (.getfield 23, 3) := by decide +kernel
theorem dX0_putAhead_9 : decode cX0_putAhead 9 = .ok (.iload_n 2, 1) := by decide +kernel
theorem dX0_putAhead_10 : decode cX0_putAhead 10 = .ok (.iadd, 1) := by decide +kernel
theorem dX0_putAhead_11 : decode cX0_putAhead 11 = .ok (.iastore, 1) := by decide +kernel
theorem dX0_putAhead_12 : decode cX0_putAhead 12 = .ok (.aload_n 0, 1) := by decide +kernel
theorem dX0_putAhead_13 : decode cX0_putAhead 13 = .ok (.dup, 1) := by decide +kernel
theorem dX0_putAhead_14 : decode cX0_putAhead 14 = .ok (.getfield 27, 3) := by decide +kernel
theorem dX0_putAhead_17 : decode cX0_putAhead 17 = .ok (.iconst 1, 1) := by decide +kernel
theorem dX0_putAhead_18 : decode cX0_putAhead 18 = .ok (.iadd, 1) := by decide +kernel
theorem dX0_putAhead_19 : decode cX0_putAhead 19 = .ok (.putfield 27, 3) := by decide +kernel
theorem dX0_putAhead_22 : decode cX0_putAhead 22 = .ok (.aload_n 0, 1) := by decide +kernel
theorem dX0_putAhead_23 : decode cX0_putAhead 23 = .ok (.getfield 20, 3) := by decide +kernel
theorem dX0_putAhead_26 : decode cX0_putAhead 26 = .ok (.iload_n 1, 1) := by decide +kernel
theorem dX0_putAhead_27 : decode cX0_putAhead 27 = .ok (.aload_n 0, 1) := by decide +kernel
theorem dX0_putAhead_28 : decode cX0_putAhead 28 = .ok (.getfield 27, 3) := by decide +kernel
theorem dX0_putAhead_31 : decode cX0_putAhead 31 = .ok (.iastore, 1) := by decide +kernel
theorem dX0_putAhead_32 : decode cX0_putAhead 32 = .ok (.return_, 1) := by decide +kernel
theorem dX0_leastFree_0 : decode cX0_leastFree 0 = .ok (.iconst 0, 1) := by decide +kernel
theorem dX0_leastFree_1 : decode cX0_leastFree 1 = .ok (.istore_n 1, 1) := by decide +kernel
theorem dX0_leastFree_2 : decode cX0_leastFree 2 = .ok (.iload_n 1, 1) := by decide +kernel
theorem dX0_leastFree_3 : decode cX0_leastFree 3 = .ok (.sipush 512, 3) := by decide +kernel
theorem dX0_leastFree_6 : decode cX0_leastFree 6 = .ok (.if_icmp .ge 20, 3) := by decide +kernel
theorem dX0_leastFree_9 : decode cX0_leastFree 9 = .ok (.aload_n 0, 1) := by decide +kernel
theorem dX0_leastFree_10 : decode cX0_leastFree 10 = .ok (.getfield 9, 3) := by decide +kernel
theorem dX0_leastFree_13 : decode cX0_leastFree 13 = .ok (.iload_n 1, 1) := by decide +kernel
theorem dX0_leastFree_14 : decode cX0_leastFree 14 = .ok (.baload, 1) := by decide +kernel
theorem dX0_leastFree_15 : decode cX0_leastFree 15 = .ok (.ifCond .ne 5, 3) := by decide +kernel
theorem dX0_leastFree_18 : decode cX0_leastFree 18 = .ok (.iload_n 1, 1) := by decide +kernel
theorem dX0_leastFree_19 : decode cX0_leastFree 19 = .ok (.ireturn, 1) := by decide +kernel
theorem dX0_leastFree_20 : decode cX0_leastFree 20 = .ok (.iinc 1 1, 3) := by decide +kernel
theorem dX0_leastFree_23 : decode cX0_leastFree 23 = .ok (.goto (-21), 3) := by decide +kernel
theorem dX0_leastFree_26 : decode cX0_leastFree 26 = .ok (.iconst (-1), 1) := by decide +kernel
theorem dX0_leastFree_27 : decode cX0_leastFree 27 = .ok (.ireturn, 1) := by decide +kernel
theorem dX0_first_0 : decode cX0_first 0 = .ok (.iconst (-1), 1) := by decide +kernel
theorem dX0_first_1 : decode cX0_first 1 = .ok (.istore_n 1, 1) := by decide +kernel
theorem dX0_first_2 : decode cX0_first 2 = .ok (.iconst 0, 1) := by decide +kernel
theorem dX0_first_3 : decode cX0_first 3 = .ok (.istore_n 2, 1) := by decide +kernel
theorem dX0_first_4 : decode cX0_first 4 = .ok (.iload_n 2, 1) := by decide +kernel
theorem dX0_first_5 : decode cX0_first 5 = .ok (.sipush 512, 3) := by decide +kernel
theorem dX0_first_8 : decode cX0_first 8 = .ok (.if_icmp .ge 34, 3) := by decide +kernel
theorem dX0_first_11 : decode cX0_first 11 = .ok (.aload_n 0, 1) := by decide +kernel
theorem dX0_first_12 : decode cX0_first 12 = .ok (.getfield 9, 3) := by decide +kernel
theorem dX0_first_15 : decode cX0_first 15 = .ok (.iload_n 2, 1) := by decide +kernel
theorem dX0_first_16 : decode cX0_first 16 = .ok (.baload, 1) := by decide +kernel
theorem dX0_first_17 : decode cX0_first 17 = .ok (.ifCond .eq 19, 3) := by decide +kernel
theorem dX0_first_20 : decode cX0_first 20 = .ok (.iload_n 1, 1) := by decide +kernel
theorem dX0_first_21 : decode cX0_first 21 = .ok (.iconst (-1), 1) := by decide +kernel
theorem dX0_first_22 : decode cX0_first 22 = .ok (.if_icmp .eq 12, 3) := by decide +kernel
theorem dX0_first_25 : decode cX0_first 25 = .ok (.aload_n 0, 1) := by decide +kernel
theorem dX0_first_26 : decode cX0_first 26 = .ok (.iload_n 2, 1) := by decide +kernel
theorem dX0_first_27 : decode cX0_first 27 = .ok (.iload_n 1, 1) := by decide +kernel
theorem dX0_first_28 : decode cX0_first 28 = .ok (.invokevirtual 84, 3) := by decide +kernel
theorem dX0_first_31 : decode cX0_first 31 = .ok (.ifCond .eq 5, 3) := by decide +kernel
theorem dX0_first_34 : decode cX0_first 34 = .ok (.iload_n 2, 1) := by decide +kernel
theorem dX0_first_35 : decode cX0_first 35 = .ok (.istore_n 1, 1) := by decide +kernel
theorem dX0_first_36 : decode cX0_first 36 = .ok (.iinc 2 1, 3) := by decide +kernel
theorem dX0_first_39 : decode cX0_first 39 = .ok (.goto (-35), 3) := by decide +kernel
theorem dX0_first_42 : decode cX0_first 42 = .ok (.iload_n 1, 1) := by decide +kernel
theorem dX0_first_43 : decode cX0_first 43 = .ok (.ireturn, 1) := by decide +kernel
theorem dX0_isBefore_0 : decode cX0_isBefore 0 = .ok (.aload_n 0, 1) := by decide +kernel
theorem dX0_isBefore_1 : decode cX0_isBefore 1 = .ok (.getfield 13, 3) := by decide +kernel
theorem dX0_isBefore_4 : decode cX0_isBefore 4 = .ok (.iload_n 1, 1) := by decide +kernel
theorem dX0_isBefore_5 : decode cX0_isBefore 5 = .ok (.iaload, 1) := by decide +kernel
theorem dX0_isBefore_6 : decode cX0_isBefore 6 = .ok (.aload_n 0, 1) := by decide +kernel
theorem dX0_isBefore_7 : decode cX0_isBefore 7 = .ok (.getfield 13, 3) := by decide +kernel
theorem dX0_isBefore_10 : decode cX0_isBefore 10 = .ok (.iload_n 2, 1) := by decide +kernel
theorem dX0_isBefore_11 : decode cX0_isBefore 11 = .ok (.iaload, 1) := by decide +kernel
theorem dX0_isBefore_12 : decode cX0_isBefore 12 = .ok (.if_icmp .eq 24, 3) := by decide +kernel
theorem dX0_isBefore_15 : decode cX0_isBefore 15 = .ok (.aload_n 0, 1) := by decide +kernel
theorem dX0_isBefore_16 : decode cX0_isBefore 16 = .ok (.getfield 13, 3) := by decide +kernel
theorem dX0_isBefore_19 : decode cX0_isBefore 19 = .ok (.iload_n 1, 1) := by decide +kernel
theorem dX0_isBefore_20 : decode cX0_isBefore 20 = .ok (.iaload, 1) := by decide +kernel
theorem dX0_isBefore_21 : decode cX0_isBefore 21 = .ok (.aload_n 0, 1) := by decide +kernel
theorem dX0_isBefore_22 : decode cX0_isBefore 22 = .ok (.getfield 13, 3) := by decide +kernel
theorem dX0_isBefore_25 : decode cX0_isBefore 25 = .ok (.iload_n 2, 1) := by decide +kernel
theorem dX0_isBefore_26 : decode cX0_isBefore 26 = .ok (.iaload, 1) := by decide +kernel
theorem dX0_isBefore_27 : decode cX0_isBefore 27 = .ok (.if_icmp .ge 7, 3) := by decide +kernel
theorem dX0_isBefore_30 : decode cX0_isBefore 30 = .ok (.iconst 1, 1) := by decide +kernel
theorem dX0_isBefore_31 : decode cX0_isBefore 31 = .ok (.goto 4, 3) := by decide +kernel
theorem dX0_isBefore_34 : decode cX0_isBefore 34 = .ok (.iconst 0, 1) := by decide +kernel
theorem dX0_isBefore_35 : decode cX0_isBefore 35 = .ok (.ireturn, 1) := by decide +kernel
theorem dX0_isBefore_36 : decode cX0_isBefore 36 = .ok (.aload_n 0, 1) := by decide +kernel
theorem dX0_isBefore_37 : decode cX0_isBefore 37 = .ok (.getfield 20, 3) := by decide +kernel
theorem dX0_isBefore_40 : decode cX0_isBefore 40 = .ok (.iload_n 1, 1) := by decide +kernel
theorem dX0_isBefore_41 : decode cX0_isBefore 41 = .ok (.iaload, 1) := by decide +kernel
theorem dX0_isBefore_42 : decode cX0_isBefore 42 = .ok (.aload_n 0, 1) := by decide +kernel
theorem dX0_isBefore_43 : decode cX0_isBefore 43 = .ok (.getfield 20, 3) := by decide +kernel
theorem dX0_isBefore_46 : decode cX0_isBefore 46 = .ok (.iload_n 2, 1) := by decide +kernel
theorem dX0_isBefore_47 : decode cX0_isBefore 47 = .ok (.iaload, 1) := by decide +kernel
theorem dX0_isBefore_48 : decode cX0_isBefore 48 = .ok (.if_icmp .ge 7, 3) := by decide +kernel
theorem dX0_isBefore_51 : decode cX0_isBefore 51 = .ok (.iconst 1, 1) := by decide +kernel
theorem dX0_isBefore_52 : decode cX0_isBefore 52 = .ok (.goto 4, 3) := by decide +kernel
theorem dX0_isBefore_55 : decode cX0_isBefore 55 = .ok (.iconst 0, 1) := by decide +kernel
theorem dX0_isBefore_56 : decode cX0_isBefore 56 = .ok (.ireturn, 1) := by decide +kernel
