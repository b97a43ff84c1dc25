theorem dX3_begin_0 : decode cX3_begin 0 = .ok (.aload_n 0, 1) := by decide +kernel
theorem dX3_begin_1 : decode cX3_begin 1 = .ok (.invokevirtual 67, 3) := by decide +kernel
theorem dX3_begin_4 : decode cX3_begin 4 = .ok (.aload_n 0, 1) := by decide +kernel
theorem dX3_begin_5 : decode cX3_begin 5 = .ok (.iconst 1, 1) := by decide +kernel
theorem dX3_begin_6 : decode cX3_begin 6 = .ok (.putfield 35, 3) := by decide +kernel
theorem dX3_begin_9 : decode cX3_begin 9 = .ok (.iconst 0, 1) := by decide +kernel
theorem dX3_begin_10 : decode cX3_begin 10 = .ok (.istore_n 1, 1) := by decide +kernel
theorem dX3_begin_11 : decode cX3_begin 11 = .ok (.iload_n 1, 1) := by decide +kernel
theorem dX3_begin_12 : decode cX3_begin 12 = .ok (.aload_n 0, 1) := by decide +kernel
theorem dX3_begin_13 : decode cX3_begin 13 = .ok (.getfield 18, 3) := by decide +kernel
theorem dX3_begin_16 : decode cX3_begin 16 = .ok (.invokevirtual 70, 3) := by decide +kernel
theorem dX3_begin_19 : decode cX3_begin 19 = .ok (.if_icmp .ge 34, 3) := by decide +kernel
theorem dX3_begin_22 : decode cX3_begin 22 = .ok (.aload_n 0, 1) := by decide +kernel
theorem dX3_begin_23 : decode cX3_begin 23 = .ok (.getfield 31, 3) := by decide +kernel
theorem dX3_begin_26 : decode cX3_begin 26 = .ok (.iload_n 1, 1) := by decide +kernel
theorem dX3_begin_27 : decode cX3_begin 27 = .ok (.iload_n 1, 1) := by decide +kernel
theorem dX3_begin_28 : decode cX3_begin 28 = .ok (.bipush 32, 2) := by decide +kernel
theorem dX3_begin_30 : decode cX3_begin 30 = .ok (.if_icmp .ne 13, 3) := by decide +kernel
theorem dX3_begin_33 : decode cX3_begin 33 = .ok (.aload_n 0, 1) := by decide +kernel
theorem dX3_begin_34 : decode cX3_begin 34 = .ok (.getfield 18, 3) := by decide +kernel
theorem dX3_begin_37 : decode cX3_begin 37 = .ok (.getfield 75, 3) := by decide +kernel
theorem dX3_begin_40 : decode cX3_begin 40 = .ok (.goto 4, 3) := by decide +kernel
theorem dX3_begin_43 : decode cX3_begin 43 = .ok (.iconst 0, 1) := by decide +kernel
theorem dX3_begin_44 : decode cX3_begin 44 = .ok (.invokevirtual 78, 3) := by decide +kernel
theorem dX3_begin_47 : decode cX3_begin 47 = .ok (.iinc 1 1, 3) := by decide +kernel
theorem dX3_begin_50 : decode cX3_begin 50 = .ok (.goto (-39), 3) := by decide +kernel
theorem dX3_begin_53 : decode cX3_begin 53 = .ok (.aload_n 0, 1) := by decide +kernel
theorem dX3_begin_54 : decode cX3_begin 54 = .ok (.getfield 18, 3) := by decide +kernel
theorem dX3_begin_57 : decode cX3_begin 57 = .ok (.aload_n 0, 1) := by decide +kernel
theorem dX3_begin_58 : decode cX3_begin 58 = .ok (.getfield 22, 3) := by decide +kernel
theorem dX3_begin_61 : decode cX3_begin 61 = .ok (.iconst 0, 1) := by decide +kernel
theorem dX3_begin_62 : decode cX3_begin 62 = .ok (.invokevirtual 82, 3) := by decide +kernel
theorem dX3_begin_65 : decode cX3_begin 65 = .ok (.aload_n 0, 1) := by decide +kernel
theorem dX3_begin_66 : decode cX3_begin 66 = .ok (.aload_n 0, 1) := by decide +kernel
theorem dX3_begin_67 : decode cX3_begin 67 = .ok (.getfield 31, 3) := by decide +kernel
theorem dX3_begin_70 : decode cX3_begin 70 = .ok (.invokevirtual 64, 3) := by decide +kernel
theorem dX3_begin_73 : decode cX3_begin 73 = .ok (.putfield 39, 3) := by decide +kernel
theorem dX3_begin_76 : decode cX3_begin 76 = .ok (.return_, 1) := by decide +kernel
theorem dX3_owned_0 : decode cX3_owned 0 = .ok (.aload_n 0, 1) := by decide +kernel
theorem dX3_owned_1 : decode cX3_owned 1 = .ok (.getfield 35, 3) := by decide +kernel
theorem dX3_owned_4 : decode cX3_owned 4 = .ok (.ifCond .ne 5, 3) := by decide +kernel
theorem dX3_owned_7 : decode cX3_owned 7 = .ok (.iconst 0, 1) := by decide +kernel
theorem dX3_owned_8 : decode cX3_owned 8 = .ok (.ireturn, 1) := by decide +kernel
theorem dX3_owned_9 : decode cX3_owned 9 = .ok (.iload_n 1, 1) := by decide +kernel
theorem dX3_owned_10 : decode cX3_owned 10 = .ok (.bipush 35, 2) := by decide +kernel
theorem dX3_owned_12 : decode cX3_owned 12 = .ok (.if_icmp .ne 10, 3) := by decide +kernel
theorem dX3_owned_15 : decode cX3_owned 15 = .ok (.aload_n 0, 1) := by decide +kernel
theorem dX3_owned_16 : decode cX3_owned 16 = .ok (.getfield 39, 3) := by decide +kernel
theorem dX3_owned_19 : decode cX3_owned 19 = .ok (.goto 11, 3) := by decide +kernel
theorem dX3_owned_22 : decode cX3_owned 22 = .ok (.aload_n 0, 1) := by decide +kernel
theorem dX3_owned_23 : decode cX3_owned 23 = .ok (.getfield 31, 3) := by decide +kernel
theorem dX3_owned_26 : decode cX3_owned 26 = .ok (.iload_n 1, 1) := by decide +kernel
theorem dX3_owned_27 : decode cX3_owned 27 = .ok (.invokevirtual 53, 3) := by decide +kernel
theorem dX3_owned_30 : decode cX3_owned 30 = .ok (.ireturn, 1) := by decide +kernel
theorem dX3_memoryByte_0 : decode cX3_memoryByte 0 = .ok (.aload_n 0, 1) := by decide +kernel
theorem dX3_memoryByte_1 : decode cX3_memoryByte 1 = .ok (.getfield 35, 3) := by decide +kernel
theorem dX3_memoryByte_4 : decode cX3_memoryByte 4 = .ok (.ifCond .eq 26, 3) := by decide +kernel
theorem dX3_memoryByte_7 : decode cX3_memoryByte 7 = .ok (.aload_n 0, 1) := by decide +kernel
theorem dX3_memoryByte_8 : decode cX3_memoryByte 8 = .ok (.getfield 31, 3) := by decide +kernel
theorem dX3_memoryByte_11 : decode cX3_memoryByte 11 = .ok (.iload_n 1, 1) := by decide +kernel
theorem dX3_memoryByte_12 : decode cX3_memoryByte 12 = .ok (.iconst 1, 1) := by decide +kernel
theorem dX3_memoryByte_13 : decode cX3_memoryByte 13 = .ok (.invokevirtual 86, 3) := by decide +kernel
theorem dX3_memoryByte_16 : decode cX3_memoryByte 16 = .ok (.ifCond .eq 14, 3) := by decide +kernel
theorem dX3_memoryByte_19 : decode cX3_memoryByte 19 = .ok (.aload_n 0, 1) := by decide +kernel
theorem dX3_memoryByte_20 : decode cX3_memoryByte 20 = .ok (.getfield 31, 3) := by decide +kernel
theorem dX3_memoryByte_23 : decode cX3_memoryByte 23 = .ok (.iload_n 1, 1) := by decide +kernel
theorem dX3_memoryByte_24 : decode cX3_memoryByte 24 = .ok (.invokevirtual 90, 3) := by decide +kernel
theorem dX3_memoryByte_27 : decode cX3_memoryByte 27 = .ok (.goto 4, 3) := by decide +kernel
theorem dX3_memoryByte_30 : decode cX3_memoryByte 30 = .ok (.iconst (-1), 1) := by decide +kernel
theorem dX3_memoryByte_31 : decode cX3_memoryByte 31 = .ok (.ireturn, 1) := by decide +kernel
theorem dX3_radio_0 : decode cX3_radio 0 = .ok (.aload_n 0, 1) := by decide +kernel
theorem dX3_radio_1 : decode cX3_radio 1 = .ok (.getfield 12, 3) := by decide +kernel
theorem dX3_radio_4 : decode cX3_radio 4 = .ok (.areturn, 1) := by decide +kernel
theorem dX4_init_0 : decode cX4_init 0 = .ok (.aload_n 0, 1) := by decide +kernel
theorem dX4_init_1 : decode cX4_init 1 = .ok (.invokespecial 3, 3) := by decide +kernel
theorem dX4_init_4 : decode cX4_init 4 = .ok (.aload_n 0, 1) := by decide +kernel
theorem dX4_init_5 : decode cX4_init 5 = .ok (.sipush 2048, 3) := by decide +kernel
theorem dX4_init_8 : decode cX4_init 8 = .ok (.newarray .int, 2) := by decide +kernel
theorem dX4_init_10 : decode cX4_init 10 = .ok (.putfield 9, 3) := by decide +kernel
theorem dX4_init_13 : decode cX4_init 13 = .ok (.aload_n 0, 1) := by decide +kernel
theorem dX4_init_14 : decode cX4_init 14 = .ok (.sipush 1000, 3) := by decide +kernel
theorem dX4_init_17 : decode cX4_init 17 = .ok (.newarray .int, 2) := by decide +kernel
theorem dX4_init_19 : decode cX4_init 19 = .ok (.putfield 15, 3) := by decide +kernel
theorem dX4_init_22 : decode cX4_init 22 = .ok (.return_, 1) := by decide +kernel
theorem dX4_allows_0 : decode cX4_allows 0 = .ok (.iload_n 0, 1) := by decide +kernel
theorem dX4_allows_1 : decode cX4_allows 1 = .ok (.iconst 4, 1) := by decide +kernel
theorem dX4_allows_2 : decode cX4_allows 2 = .ok (.if_icmp .lt 63, 3) := by decide +kernel
theorem dX4_allows_5 : decode cX4_allows 5 = .ok (.iload_n 0, 1) := by decide +kernel
theorem dX4_allows_6 : decode cX4_allows 6 = .ok (.sipush 4096, 3) := by decide +kernel
theorem dX4_allows_9 : decode cX4_allows 9 = .ok (.if_icmp .gt 56, 3) := by decide +kernel
theorem dX4_allows_12 : decode cX4_allows 12 = .ok (.iload_n 0, 1) := by decide +kernel
theorem dX4_allows_13 : decode cX4_allows 13 = .ok (.iconst 3, 1) := by decide +kernel
theorem dX4_allows_14 : decode cX4_allows 14 = .ok (.iand, 1) := by decide +kernel
theorem dX4_allows_15 : decode cX4_allows 15 = .ok (.ifCond .ne 50, 3) := by decide +kernel
theorem dX4_allows_18 : decode cX4_allows 18 = .ok (.iload_n 1, 1) := by decide +kernel
theorem dX4_allows_19 : decode cX4_allows 19 = .ok (.iconst 4, 1) := by decide +kernel
theorem dX4_allows_20 : decode cX4_allows 20 = .ok (.if_icmp .lt 45, 3) := by decide +kernel
theorem dX4_allows_23 : decode cX4_allows 23 = .ok (.iload_n 1, 1) := by decide +kernel
theorem dX4_allows_24 : decode cX4_allows 24 = .ok (.sipush 8192, 3) := by decide +kernel
theorem dX4_allows_27 : decode cX4_allows 27 = .ok (.if_icmp .gt 38, 3) := by decide +kernel
theorem dX4_allows_30 : decode cX4_allows 30 = .ok (.iload_n 1, 1) := by decide +kernel
theorem dX4_allows_31 : decode cX4_allows 31 = .ok (.iconst 3, 1) := by decide +kernel
theorem dX4_allows_32 : decode cX4_allows 32 = .ok (.iand, 1) := by decide +kernel
theorem dX4_allows_33 : decode cX4_allows 33 = .ok (.ifCond .ne 32, 3) := by decide +kernel
theorem dX4_allows_36 : decode cX4_allows 36 = .ok (.iload_n 2, 1) := by decide +kernel
theorem dX4_allows_37 : decode cX4_allows 37 = .ok (.bipush 8, 2) := by decide +kernel
theorem dX4_allows_39 : decode cX4_allows 39 = .ok (.if_icmp .lt 26, 3) := by decide +kernel
theorem dX4_allows_42 : decode cX4_allows 42 = .ok (.iload_n 2, 1) := by decide +kernel
theorem dX4_allows_43 : decode cX4_allows 43 = .ok (.sipush 1024, 3) := by decide +kernel
theorem dX4_allows_46 : decode cX4_allows 46 = .ok (.if_icmp .gt 19, 3) := by decide +kernel
theorem dX4_allows_49 : decode cX4_allows 49 = .ok (.iload_n 3, 1) := by decide +kernel
theorem dX4_allows_50 : decode cX4_allows 50 = .ok (.bipush 16, 2) := by decide +kernel
theorem dX4_allows_52 : decode cX4_allows 52 = .ok (.if_icmp .lt 13, 3) := by decide +kernel
theorem dX4_allows_55 : decode cX4_allows 55 = .ok (.iload_n 3, 1) := by decide +kernel
theorem dX4_allows_56 : decode cX4_allows 56 = .ok (.ldc 18, 2) := by decide +kernel
theorem dX4_allows_58 : decode cX4_allows 58 = .ok (.if_icmp .gt 7, 3) := by decide +kernel
theorem dX4_allows_61 : decode cX4_allows 61 = .ok (.iconst 1, 1) := by decide +kernel
theorem dX4_allows_62 : decode cX4_allows 62 = .ok (.goto 4, 3) := by decide +kernel
theorem dX4_allows_65 : decode cX4_allows 65 = .ok (.iconst 0, 1) := by decide +kernel
theorem dX4_allows_66 : decode cX4_allows 66 = .ok (.ireturn, 1) := by decide +kernel
theorem dX4_set_0 : decode cX4_set 0 = .ok (.aload_n 0, 1) := by decide +kernel
theorem dX4_set_1 : decode cX4_set 1 = .ok (.iconst 1, 1) := by decide +kernel
theorem dX4_set_2 : decode cX4_set 2 = .ok (.putfield 19, 3) := by decide +kernel
theorem dX4_set_5 : decode cX4_set 5 = .ok (.aload_n 0, 1) := by decide +kernel
theorem dX4_set_6 : decode cX4_set 6 = .ok (.iload_n 1, 1) := by decide +kernel
theorem dX4_set_7 : decode cX4_set 7 = .ok (.putfield 23, 3) := by decide +kernel
theorem dX4_set_10 : decode cX4_set 10 = .ok (.aload_n 0, 1) := by decide +kernel
theorem dX4_set_11 : decode cX4_set 11 = .ok (.iload_n 2, 1) := by decide +kernel
theorem dX4_set_12 : decode cX4_set 12 = .ok (.putfield 27, 3) := by decide +kernel
theorem dX4_set_15 : decode cX4_set 15 = .ok (.aload_n 0, 1) := by decide +kernel
theorem dX4_set_16 : decode cX4_set 16 = .ok (.iload_n 3, 1) := by decide +kernel
theorem dX4_set_17 : decode cX4_set 17 = .ok (.putfield 30, 3) := by decide +kernel
theorem dX4_set_20 : decode cX4_set 20 = .ok (.aload_n 0, 1) := by decide +kernel
theorem dX4_set_21 : decode cX4_set 21 = .ok (.iload 4, 2) := by decide +kernel
theorem dX4_set_23 : decode cX4_set 23 = .ok (.putfield 33, 3) := by decide +kernel
theorem dX4_set_26 : decode cX4_set 26 = .ok (.aload_n 0, 1) := by decide +kernel
theorem dX4_set_27 : decode cX4_set 27 = .ok (.iload 5, 2) := by decide +kernel
theorem dX4_set_29 : decode cX4_set 29 = .ok (.putfield 36, 3) := by decide +kernel
theorem dX4_set_32 : decode cX4_set 32 = .ok (.aload_n 0, 1) := by decide +kernel
theorem dX4_set_33 : decode cX4_set 33 = .ok (.iconst 0, 1) := by decide +kernel
theorem dX4_set_34 : decode cX4_set 34 = .ok (.putfield 39, 3) := by decide +kernel
theorem dX4_set_37 : decode cX4_set 37 = .ok (.return_, 1) := by decide +kernel
theorem dX4_fill_0 : decode cX4_fill 0 = .ok (.iconst 0, 1) := by decide +kernel
theorem dX4_fill_1 : decode cX4_fill 1 = .ok (.istore_n 3, 1) := by decide +kernel
theorem dX4_fill_2 : decode cX4_fill 2 = .ok (.iload_n 3, 1) := by decide +kernel
theorem dX4_fill_3 : decode cX4_fill 3 = .ok (.aload_n 0, 1) := by decide +kernel
theorem dX4_fill_4 : decode cX4_fill 4 = .ok (.getfield 9, 3) := by decide +kernel
theorem dX4_fill_7 : decode cX4_fill 7 = .ok (.arraylength, 1) := by decide +kernel
theorem dX4_fill_8 : decode cX4_fill 8 = .ok (.if_icmp .ge 16, 3) := by decide +kernel
theorem dX4_fill_11 : decode cX4_fill 11 = .ok (.aload_n 0, 1) := by decide +kernel
theorem dX4_fill_12 : decode cX4_fill 12 = .ok (.getfield 9, 3) := by decide +kernel
theorem dX4_fill_15 : decode cX4_fill 15 = .ok (.iload_n 3, 1) := by decide +kernel
theorem dX4_fill_16 : decode cX4_fill 16 = .ok (.iconst 0, 1) := by decide +kernel
theorem dX4_fill_17 : decode cX4_fill 17 = .ok (.iastore, 1) := by decide +kernel
theorem dX4_fill_18 : decode cX4_fill 18 = .ok (.iinc 3 1, 3) := by decide +kernel
theorem dX4_fill_21 : decode cX4_fill 21 = .ok (.goto (-19), 3) := by decide +kernel
theorem dX4_fill_24 : decode cX4_fill 24 = .ok (.iconst 0, 1) := by decide +kernel
theorem dX4_fill_25 : decode cX4_fill 25 = .ok (.istore_n 3, 1) := by decide +kernel
theorem dX4_fill_26 : decode cX4_fill 26 = .ok (.iload_n 3, 1) := by decide +kernel
theorem dX4_fill_27 : decode cX4_fill 27 = .ok (.iload_n 2, 1) := by decide +kernel
theorem dX4_fill_28 : decode cX4_fill 28 = .ok (.if_icmp .ge 43, 3) := by decide +kernel
theorem dX4_fill_31 : decode cX4_fill 31 = .ok (.iload_n 3, 1) := by decide +kernel
theorem dX4_fill_32 : decode cX4_fill 32 = .ok (.iconst 2, 1) := by decide +kernel
theorem dX4_fill_33 : decode cX4_fill 33 = .ok (.ishr, 1) := by decide +kernel
theorem dX4_fill_34 : decode cX4_fill 34 = .ok (.aload_n 0, 1) := by decide +kernel
theorem dX4_fill_35 : decode cX4_fill 35 = .ok (.getfield 9, 3) := by decide +kernel
theorem dX4_fill_38 : decode cX4_fill 38 = .ok (.arraylength, 1) := by decide +kernel
theorem dX4_fill_39 : decode cX4_fill 39 = .ok (.if_icmp .ge 32, 3) := by decide +kernel
theorem dX4_fill_42 : decode cX4_fill 42 = .ok (.aload_n 0, 1) := by decide +kernel
theorem dX4_fill_43 : decode cX4_fill 43 = .ok (.getfield 9, 3) := by decide +kernel
theorem dX4_fill_46 : decode cX4_fill 46 = .ok (.iload_n 3, 1) := by decide +kernel
theorem dX4_fill_47 : decode cX4_fill 47 = .ok (.iconst 2, 1) := by decide +kernel
theorem dX4_fill_48 : decode cX4_fill 48 = .ok (.ishr, 1) := by decide +kernel
theorem dX4_fill_49 : decode cX4_fill 49 = .ok (.dup2, 1) := by decide +kernel
theorem dX4_fill_50 : decode cX4_fill 50 = .ok (.iaload, 1) := by decide +kernel
theorem dX4_fill_51 : decode cX4_fill 51 = .ok (.aload_n 1, 1) := by decide +kernel
theorem dX4_fill_52 : decode cX4_fill 52 = .ok (.iload_n 3, 1) := by decide +kernel
theorem dX4_fill_53 : decode cX4_fill 53 = .ok (.invokevirtual 42, 3) := by decide +kernel
theorem dX4_fill_56 : decode cX4_fill 56 = .ok (.bipush 8, 2) := by decide +kernel
theorem dX4_fill_58 : decode cX4_fill 58 = .ok (.iload_n 3, 1) := by decide +kernel
theorem dX4_fill_59 : decode cX4_fill 59 = .ok (.iconst 3, 1) := by decide +kernel
theorem dX4_fill_60 : decode cX4_fill 60 = .ok (.iand, 1) := by decide +kernel
theorem dX4_fill_61 : decode cX4_fill 61 = .ok (.imul, 1) := by decide +kernel
theorem dX4_fill_62 : decode cX4_fill 62 = .ok (.ishl, 1) := by decide +kernel
theorem dX4_fill_63 : decode cX4_fill 63 = .ok (.ior, 1) := by decide +kernel
theorem dX4_fill_64 : decode cX4_fill 64 = .ok (.iastore, 1) := by decide +kernel
theorem dX4_fill_65 : decode cX4_fill 65 = .ok (.iinc 3 1, 3) := by decide +kernel
theorem dX4_fill_68 : decode cX4_fill 68 = .ok (.goto (-42), 3) := by decide +kernel
theorem dX4_fill_71 : decode cX4_fill 71 = .ok (.return_, 1) := by decide +kernel
theorem dX4_copyImage_0 : decode cX4_copyImage 0 = .ok (.iconst 0, 1) := by decide +kernel
theorem dX4_copyImage_1 : decode cX4_copyImage 1 = .ok (.istore_n 3, 1) := by decide +kernel
theorem dX4_copyImage_2 : decode cX4_copyImage 2 = .ok (.iload_n 3, 1) := by decide +kernel
theorem dX4_copyImage_3 : decode cX4_copyImage 3 = .ok (.aload_n 0, 1) := by decide +kernel
theorem dX4_copyImage_4 : decode cX4_copyImage 4 = .ok (.getfield 9, 3) := by decide +kernel
theorem dX4_copyImage_7 : decode cX4_copyImage 7 = .ok (.arraylength, 1) := by decide +kernel
theorem dX4_copyImage_8 : decode cX4_copyImage 8 = .ok (.if_icmp .ge 46, 3) := by decide +kernel
theorem dX4_copyImage_11 : decode cX4_copyImage 11 = .ok (.iload_n 3, 1) := by decide +kernel
theorem dX4_copyImage_12 : decode cX4_copyImage 12 = .ok (.aload_n 0, 1) := by decide +kernel
theorem dX4_copyImage_13 : decode cX4_copyImage 13 = .ok (.getfield 27, 3) := by decide +kernel
theorem dX4_copyImage_16 : decode cX4_copyImage 16 = .ok (.iconst 4, 1) := by decide +kernel
theorem dX4_copyImage_17 : decode cX4_copyImage 17 = .ok (.idiv, 1) := by decide +kernel
theorem dX4_copyImage_18 : decode cX4_copyImage 18 = .ok (.if_icmp .ge 36, 3) := by decide +kernel
theorem dX4_copyImage_21 : decode cX4_copyImage 21 = .ok (.iload_n 2, 1) := by decide +kernel
theorem dX4_copyImage_22 : decode cX4_copyImage 22 = .ok (.iload_n 3, 1) := by decide +kernel
theorem dX4_copyImage_23 : decode cX4_copyImage 23 = .ok (.iadd, 1) := by decide +kernel
theorem dX4_copyImage_24 : decode cX4_copyImage 24 = .ok (.istore 4, 2) := by decide +kernel
theorem dX4_copyImage_26 : decode cX4_copyImage 26 = .ok (.iload 4, 2) := by decide +kernel
theorem dX4_copyImage_28 : decode cX4_copyImage 28 = .ok (.ifCond .lt 20, 3) := by decide +kernel
theorem dX4_copyImage_31 : decode cX4_copyImage 31 = .ok (.iload 4, 2) := by decide +kernel
theorem dX4_copyImage_33 : decode cX4_copyImage 33 = .ok (.aload_n 1, 1) := by decide +kernel
theorem dX4_copyImage_34 : decode cX4_copyImage 34 = .ok (.arraylength, 1) := by decide +kernel
theorem dX4_copyImage_35 : decode cX4_copyImage 35 = .ok (.if_icmp .ge 13, 3) := by decide +kernel
theorem dX4_copyImage_38 : decode cX4_copyImage 38 = .ok (.aload_n 1, 1) := by decide +kernel
theorem dX4_copyImage_39 : decode cX4_copyImage 39 = .ok (.iload 4, 2) := by decide +kernel
theorem dX4_copyImage_41 : decode cX4_copyImage 41 = .ok (.aload_n 0, 1) := by decide +kernel
theorem dX4_copyImage_42 : decode cX4_copyImage 42 = .ok (.getfield 9, 3) := by decide +kernel
theorem dX4_copyImage_45 : decode cX4_copyImage 45 = .ok (.iload_n 3, 1) := by decide +kernel
theorem dX4_copyImage_46 : decode cX4_copyImage 46 = .ok (.iaload, 1) := by decide +kernel
theorem dX4_copyImage_47 : decode cX4_copyImage 47 = .ok (.iastore, 1) := by decide +kernel
theorem dX4_copyImage_48 : decode cX4_copyImage 48 = .ok (.iinc 3 1, 3) := by decide +kernel
theorem dX4_copyImage_51 : decode cX4_copyImage 51 = .ok (.goto (-49), 3) := by decide +kernel
theorem dX4_copyImage_54 : decode cX4_copyImage 54 = .ok (.return_, 1) := by decide +kernel
theorem dX4_addSample_0 : decode cX4_addSample 0 = .ok (.aload_n 0, 1) := by decide +kernel
theorem dX4_addSample_1 : decode cX4_addSample 1 = .ok (.getfield 19, 3) := by decide +kernel
theorem dX4_addSample_4 : decode cX4_addSample 4 = .ok (.ifCond .eq 22, 3) := by decide +kernel
theorem dX4_addSample_7 : decode cX4_addSample 7 = .ok (.aload_n 0, 1) := by decide +kernel
theorem dX4_addSample_8 : decode cX4_addSample 8 = .ok (.getfield 39, 3) := by decide +kernel
theorem dX4_addSample_11 : decode cX4_addSample 11 = .ok (.ifCond .lt 15, 3) := by decide +kernel
theorem dX4_addSample_14 : decode cX4_addSample 14 = .ok (.aload_n 0, 1) := by decide +kernel
theorem dX4_addSample_15 : decode cX4_addSample 15 = .ok (.getfield 39, 3) := by decide +kernel
theorem dX4_addSample_18 : decode cX4_addSample 18 = .ok (.aload_n 0, 1) := by decide +kernel
theorem dX4_addSample_19 : decode cX4_addSample 19 = .ok (.getfield 15, 3) := by decide +kernel
theorem dX4_addSample_22 : decode cX4_addSample 22 = .ok (.arraylength, 1) := by decide +kernel
theorem dX4_addSample_23 : decode cX4_addSample 23 = .ok (.if_icmp .lt 5, 3) := by decide +kernel
theorem dX4_addSample_26 : decode cX4_addSample 26 = .ok (.iconst (-1), 1) := by decide +kernel
theorem dX4_addSample_27 : decode cX4_addSample 27 = .ok (.ireturn, 1) := by decide +kernel
theorem dX4_addSample_28 : decode cX4_addSample 28 = .ok (.aload_n 0, 1) := by decide +kernel
theorem dX4_addSample_29 : decode cX4_addSample 29 = .ok (.getfield 15, 3) := by decide +kernel
theorem dX4_addSample_32 : decode cX4_addSample 32 = .ok (.aload_n 0, 1) := by decide +kernel
theorem dX4_addSample_33 : decode cX4_addSample 33 = .ok (.getfield 39, 3) := by decide +kernel
theorem dX4_addSample_36 : decode cX4_addSample 36 = .ok (.iload_n 1, 1) := by decide +kernel
theorem dX4_addSample_37 : decode cX4_addSample 37 = .ok (.iastore, 1) := by decide +kernel
theorem dX4_addSample_38 : decode cX4_addSample 38 = .ok (.aload_n 0, 1) := by decide +kernel
theorem dX4_addSample_39 : decode cX4_addSample 39 = .ok (.dup, 1) := by decide +kernel
theorem dX4_addSample_40 : decode cX4_addSample 40 = .ok (.getfield 39, 3) := by decide +kernel
theorem dX4_addSample_43 : decode cX4_addSample 43 = .ok (.iconst 1, 1) := by decide +kernel
theorem dX4_addSample_44 : decode cX4_addSample 44 = .ok (.iadd, 1) := by decide +kernel
theorem dX4_addSample_45 : decode cX4_addSample 45 = .ok (.putfield 39, 3) := by decide +kernel
theorem dX4_addSample_48 : decode cX4_addSample 48 = .ok (.aload_n 0, 1) := by decide +kernel
theorem dX4_addSample_49 : decode cX4_addSample 49 = .ok (.getfield 39, 3) := by decide +kernel
theorem dX4_addSample_52 : decode cX4_addSample 52 = .ok (.ireturn, 1) := by decide +kernel
theorem dX4_sampleAt_0 : decode cX4_sampleAt 0 = .ok (.iload_n 1, 1) := by decide +kernel
theorem dX4_sampleAt_1 : decode cX4_sampleAt 1 = .ok (.ifCond .lt 20, 3) := by decide +kernel
theorem dX4_sampleAt_4 : decode cX4_sampleAt 4 = .ok (.iload_n 1, 1) := by decide +kernel
theorem dX4_sampleAt_5 : decode cX4_sampleAt 5 = .ok (.aload_n 0, 1) := by decide +kernel
theorem dX4_sampleAt_6 : decode cX4_sampleAt 6 = .ok (.getfield 39, 3) := by decide +kernel
theorem dX4_sampleAt_9 : decode cX4_sampleAt 9 = .ok (.if_icmp .ge 12, 3) := by decide +kernel
theorem dX4_sampleAt_12 : decode cX4_sampleAt 12 = .ok (.iload_n 1, 1) := by decide +kernel
theorem dX4_sampleAt_13 : decode cX4_sampleAt 13 = .ok (.aload_n 0, 1) := by decide +kernel
theorem dX4_sampleAt_14 : decode cX4_sampleAt 14 = .ok (.getfield 15, 3) := by decide +kernel
theorem dX4_sampleAt_17 : decode cX4_sampleAt 17 = .ok (.arraylength, 1) := by decide +kernel
theorem dX4_sampleAt_18 : decode cX4_sampleAt 18 = .ok (.if_icmp .lt 7, 3) := by decide +kernel
theorem dX4_sampleAt_21 : decode cX4_sampleAt 21 = .ok (.iconst 0, 1) := by decide +kernel
theorem dX4_sampleAt_22 : decode cX4_sampleAt 22 = .ok (.goto 9, 3) := by decide +kernel
theorem dX4_sampleAt_25 : decode cX4_sampleAt 25 = .ok (.aload_n 0, 1) := by decide +kernel
theorem dX4_sampleAt_26 : decode cX4_sampleAt 26 = .ok (.getfield 15, 3) := by decide +kernel
theorem dX4_sampleAt_29 : decode cX4_sampleAt 29 = .ok (.iload_n 1, 1) := by decide +kernel
theorem dX4_sampleAt_30 : decode cX4_sampleAt 30 = .ok (.iaload, 1) := by decide +kernel
theorem dX4_sampleAt_31 : decode cX4_sampleAt 31 = .ok (.ireturn, 1) := by decide +kernel
theorem dX4_bufferWords_0 : decode cX4_bufferWords 0 = .ok (.bipush 36, 2) := by decide +kernel
theorem dX4_bufferWords_2 : decode cX4_bufferWords 2 = .ok (.aload_n 0, 1) := by decide +kernel
theorem dX4_bufferWords_3 : decode cX4_bufferWords 3 = .ok (.getfield 23, 3) := by decide +kernel
theorem dX4_bufferWords_6 : decode cX4_bufferWords 6 = .ok (.iconst 4, 1) := by decide +kernel
theorem dX4_bufferWords_7 : decode cX4_bufferWords 7 = .ok (.idiv, 1) := by decide +kernel
theorem dX4_bufferWords_8 : decode cX4_bufferWords 8 = .ok (.iadd, 1) := by decide +kernel
theorem dX4_bufferWords_9 : decode cX4_bufferWords 9 = .ok (.ireturn, 1) := by decide +kernel
theorem dX5_init_0 : decode cX5_init 0 = .ok (.aload_n 0, 1) := by decide +kernel
theorem dX5_init_1 : decode cX5_init 1 = .ok (.invokespecial 3, 3) := by decide +kernel
theorem dX5_init_4 : decode cX5_init 4 = .ok (.aload_n 0, 1) := by decide +kernel
theorem dX5_init_5 : decode cX5_init 5 = .ok (.sipush 400, 3) := by decide +kernel
theorem dX5_init_8 : decode cX5_init 8 = .ok (.newarray .int, 2) := by decide +kernel
theorem dX5_init_10 : decode cX5_init 10 = .ok (.putfield 9, 3) := by decide +kernel
theorem dX5_init_13 : decode cX5_init 13 = .ok (.aload_n 0, 1) := by decide +kernel
theorem dX5_init_14 : decode cX5_init 14 = .ok (.sipush 400, 3) := by decide +kernel
theorem dX5_init_17 : decode cX5_init 17 = .ok (.newarray .int, 2) := by decide +kernel
theorem dX5_init_19 : decode cX5_init 19 = .ok (.putfield 15, 3) := by decide +kernel
theorem dX5_init_22 : decode cX5_init 22 = .ok (.aload_n 0, 1) := by decide +kernel
theorem dX5_init_23 : decode cX5_init 23 = .ok (.sipush 400, 3) := by decide +kernel
theorem dX5_init_26 : decode cX5_init 26 = .ok (.newarray .int, 2) := by decide +kernel
theorem dX5_init_28 : decode cX5_init 28 = .ok (.putfield 18, 3) := by decide +kernel
theorem dX5_init_31 : decode cX5_init 31 = .ok (.aload_n 0, 1) := by decide +kernel
theorem dX5_init_32 : decode cX5_init 32 = .ok (.new 21, 3) := by decide +kernel
theorem dX5_init_35 : decode cX5_init 35 = .ok (.dup, 1) := by decide +kernel
theorem dX5_init_36 : decode cX5_init 36 = .ok (.sipush 25600, 3) := by decide +kernel
theorem dX5_init_39 : decode cX5_init 39 = .ok (.invokespecial 23, 3) := by decide +kernel
theorem dX5_init_42 : decode cX5_init 42 = .ok (.putfield 26, 3) := by decide +kernel
theorem dX5_init_45 : decode cX5_init 45 = .ok (.return_, 1) := by decide +kernel
theorem dX5_clear_0 : decode cX5_clear 0 = .ok (.aload_n 0, 1) := by decide +kernel
theorem dX5_clear_1 : decode cX5_clear 1 = .ok (.iconst 0, 1) := by decide +kernel
theorem dX5_clear_2 : decode cX5_clear 2 = .ok (.putfield 30, 3) := by decide +kernel
theorem dX5_clear_5 : decode cX5_clear 5 = .ok (.aload_n 0, 1) := by decide +kernel
theorem dX5_clear_6 : decode cX5_clear 6 = .ok (.iconst 0, 1) := by decide +kernel
theorem dX5_clear_7 : decode cX5_clear 7 = .ok (.putfield 34, 3) := by decide +kernel
theorem dX5_clear_10 : decode cX5_clear 10 = .ok (.return_, 1) := by decide +kernel
theorem dX5_send_0 : decode cX5_send 0 = .ok (.aload_n 0, 1) := by decide +kernel
theorem dX5_send_1 : decode cX5_send 1 = .ok (.getfield 30, 3) := by decide +kernel
theorem dX5_send_4 : decode cX5_send 4 = .ok (.istore 4, 2) := by decide +kernel
theorem dX5_send_6 : decode cX5_send 6 = .ok (.aload_n 0, 1) := by decide +kernel
theorem dX5_send_7 : decode cX5_send 7 = .ok (.dup, 1) := by decide +kernel
theorem dX5_send_8 : decode cX5_send 8 = .ok (.getfield 30, 3) := by decide +kernel
theorem dX5_send_11 : decode cX5_send 11 = .ok (.iconst 1, 1) := by decide +kernel
theorem dX5_send_12 : decode cX5_send 12 = .ok (.iadd, 1) := by decide +kernel
theorem dX5_send_13 : decode cX5_send 13 = .ok (.putfield 30, 3) := by decide +kernel
theorem dX5_send_16 : decode cX5_send 16 = .ok (.aload_n 0, 1) := by decide +kernel
theorem dX5_send_17 : decode cX5_send 17 = .ok (.iload_n 2, 1) := by decide +kernel
theorem dX5_send_18 : decode cX5_send 18 = .ok (.putfield 34, 3) := by decide +kernel
theorem dX5_send_21 : decode cX5_send 21 = .ok (.iload 4, 2) := by decide +kernel
theorem dX5_send_23 : decode cX5_send 23 = .ok (.ifCond .lt 11, 3) := by decide +kernel
theorem dX5_send_26 : decode cX5_send 26 = .ok (.iload 4, 2) := by decide +kernel
theorem dX5_send_28 : decode cX5_send 28 = .ok (.sipush 400, 3) := by decide +kernel
theorem dX5_send_31 : decode cX5_send 31 = .ok (.if_icmp .lt 4, 3) := by decide +kernel
theorem dX5_send_34 : decode cX5_send 34 = .ok (.return_, 1) := by decide +kernel
theorem dX5_send_35 : decode cX5_send 35 = .ok (.aload_n 0, 1) := by decide +kernel
theorem dX5_send_36 : decode cX5_send 36 = .ok (.getfield 9, 3) := by decide +kernel
theorem dX5_send_39 : decode cX5_send 39 = .ok (.iload 4, 2) := by decide +kernel
theorem dX5_send_41 : decode cX5_send 41 = .ok (.iload_n 2, 1) := by decide +kernel
theorem dX5_send_42 : decode cX5_send 42 = .ok (.iastore, 1) := by decide +kernel
theorem dX5_send_43 : decode cX5_send 43 = .ok (.aload_n 0, 1) := by decide +kernel
theorem dX5_send_44 : decode cX5_send 44 = .ok (.getfield 18, 3) := by decide +kernel
theorem dX5_send_47 : decode cX5_send 47 = .ok (.iload 4, 2) := by decide +kernel
theorem dX5_send_49 : decode cX5_send 49 = .ok (.iload_n 3, 1) := by decide +kernel
theorem dX5_send_50 : decode cX5_send 50 = .ok (.iastore, 1) := by decide +kernel
theorem dX5_send_51 : decode cX5_send 51 = .ok (.aload_n 0, 1) := by decide +kernel
theorem dX5_send_52 : decode cX5_send 52 = .ok (.getfield 15, 3) := by decide +kernel
theorem dX5_send_55 : decode cX5_send 55 = .ok (.iload 4, 2) := by decide +kernel
theorem dX5_send_57 : decode cX5_send 57 = .ok (.aload_n 1, 1) := by decide +kernel
theorem dX5_send_58 : decode cX5_send 58 = .ok (.invokevirtual 37, 3) := by decide +kernel
theorem dX5_send_61 : decode cX5_send 61 = .ok (.iastore, 1) := by decide +kernel
theorem dX5_send_62 : decode cX5_send 62 = .ok (.iconst 0, 1) := by decide +kernel
theorem dX5_send_63 : decode cX5_send 63 = .ok (.istore 5, 2) := by decide +kernel
theorem dX5_send_65 : decode cX5_send 65 = .ok (.iload 5, 2) := by decide +kernel
theorem dX5_send_67 : decode cX5_send 67 = .ok (.aload_n 1, 1) := by decide +kernel
theorem dX5_send_68 : decode cX5_send 68 = .ok (.invokevirtual 37, 3) := by decide +kernel
theorem dX5_send_71 : decode cX5_send 71 = .ok (.if_icmp .ge 42, 3) := by decide +kernel
theorem dX5_send_74 : decode cX5_send 74 = .ok (.iload 5, 2) := by decide +kernel
theorem dX5_send_76 : decode cX5_send 76 = .ok (.bipush 64, 2) := by decide +kernel
theorem dX5_send_78 : decode cX5_send 78 = .ok (.if_icmp .ge 35, 3) := by decide +kernel
theorem dX5_send_81 : decode cX5_send 81 = .ok (.aload_n 0, 1) := by decide +kernel
theorem dX5_send_82 : decode cX5_send 82 = .ok (.getfield 26, 3) := by decide +kernel
theorem dX5_send_85 : decode cX5_send 85 = .ok (.iload 4, 2) := by decide +kernel
theorem dX5_send_87 : decode cX5_send 87 = .ok (.bipush 64, 2) := by decide +kernel
theorem dX5_send_89 : decode cX5_send 89 = .ok (.imul, 1) := by decide +kernel
theorem dX5_send_90 : decode cX5_send 90 = .ok (.iload 5, 2) := by decide +kernel
theorem dX5_send_92 : decode cX5_send 92 = .ok (.iadd, 1) := by decide +kernel
theorem dX5_send_93 : decode cX5_send 93 = .ok (.aload_n 1, 1) := by decide +kernel
theorem dX5_send_94 : decode cX5_send 94 = .ok (.aload_n 1, 1) := by decide +kernel
theorem dX5_send_95 : decode cX5_send 95 = .ok (.invokevirtual 43, 3) := by decide +kernel
theorem dX5_send_98 : decode cX5_send 98 = .ok (.iload 5, 2) := by decide +kernel
theorem dX5_send_100 : decode cX5_send 100 = .ok (.iadd, 1) := by decide +kernel
theorem dX5_send_101 : decode cX5_send 101 = .ok (.invokevirtual 46, 3) := by decide +kernel
theorem dX5_send_104 : decode cX5_send 104 = .ok (.invokevirtual 50, 3) := by decide +kernel
theorem dX5_send_107 : decode cX5_send 107 = .ok (.iinc 5 1, 3) := by decide +kernel
theorem dX5_send_110 : decode cX5_send 110 = .ok (.goto (-45), 3) := by decide +kernel
theorem dX5_send_113 : decode cX5_send 113 = .ok (.return_, 1) := by decide +kernel
theorem dX5_keeps_0 : decode cX5_keeps 0 = .ok (.iload_n 1, 1) := by decide +kernel
theorem dX5_keeps_1 : decode cX5_keeps 1 = .ok (.ifCond .lt 22, 3) := by decide +kernel
theorem dX5_keeps_4 : decode cX5_keeps 4 = .ok (.iload_n 1, 1) := by decide +kernel
theorem dX5_keeps_5 : decode cX5_keeps 5 = .ok (.aload_n 0, 1) := by decide +kernel
theorem dX5_keeps_6 : decode cX5_keeps 6 = .ok (.getfield 30, 3) := by decide +kernel
theorem dX5_keeps_9 : decode cX5_keeps 9 = .ok (.if_icmp .ge 14, 3) := by decide +kernel
theorem dX5_keeps_12 : decode cX5_keeps 12 = .ok (.iload_n 1, 1) := by decide +kernel
theorem dX5_keeps_13 : decode cX5_keeps 13 = .ok (.sipush 400, 3) := by decide +kernel
theorem dX5_keeps_16 : decode cX5_keeps 16 = .ok (.if_icmp .ge 7, 3) := by decide +kernel
theorem dX5_keeps_19 : decode cX5_keeps 19 = .ok (.iconst 1, 1) := by decide +kernel
theorem dX5_keeps_20 : decode cX5_keeps 20 = .ok (.goto 4, 3) := by decide +kernel
theorem dX5_keeps_23 : decode cX5_keeps 23 = .ok (.iconst 0, 1) := by decide +kernel
theorem dX5_keeps_24 : decode cX5_keeps 24 = .ok (.ireturn, 1) := by decide +kernel
theorem dX5_total_0 : decode cX5_total 0 = .ok (.aload_n 0, 1) := by decide +kernel
theorem dX5_total_1 : decode cX5_total 1 = .ok (.getfield 30, 3) := by decide +kernel
theorem dX5_total_4 : decode cX5_total 4 = .ok (.ireturn, 1) := by decide +kernel
theorem dX5_newest_0 : decode cX5_newest 0 = .ok (.aload_n 0, 1) := by decide +kernel
theorem dX5_newest_1 : decode cX5_newest 1 = .ok (.getfield 34, 3) := by decide +kernel
theorem dX5_newest_4 : decode cX5_newest 4 = .ok (.ireturn, 1) := by decide +kernel
theorem dX5_number_0 : decode cX5_number 0 = .ok (.aload_n 0, 1) := by decide +kernel
theorem dX5_number_1 : decode cX5_number 1 = .ok (.iload_n 1, 1) := by decide +kernel
theorem dX5_number_2 : decode cX5_number 2 = .ok (.invokevirtual 54, 3) := by decide +kernel
theorem dX5_number_5 : decode cX5_number 5 = .ok (.ifCond .eq 12, 3) := by decide +kernel
theorem dX5_number_8 : decode cX5_number 8 = .ok (.aload_n 0, 1) := by decide +kernel
theorem dX5_number_9 : decode cX5_number 9 = .ok (.getfield 9, 3) := by decide +kernel
theorem dX5_number_12 : decode cX5_number 12 = .ok (.iload_n 1, 1) := by decide +kernel
theorem dX5_number_13 : decode cX5_number 13 = .ok (.iaload, 1) := by decide +kernel
theorem dX5_number_14 : decode cX5_number 14 = .ok (.goto 4, 3) := by decide +kernel
theorem dX5_number_17 : decode cX5_number 17 = .ok (.iconst (-1), 1) := by decide +kernel
theorem dX5_number_18 : decode cX5_number 18 = .ok (.ireturn, 1) := by decide +kernel
theorem dX5_length_0 : decode cX5_length 0 = .ok (.aload_n 0, 1) := by decide +kernel
theorem dX5_length_1 : decode cX5_length 1 = .ok (.iload_n 1, 1) := by decide +kernel
theorem dX5_length_2 : decode cX5_length 2 = .ok (.invokevirtual 54, 3) := by decide +kernel
theorem dX5_length_5 : decode cX5_length 5 = .ok (.ifCond .eq 12, 3) := by decide +kernel
theorem dX5_length_8 : decode cX5_length 8 = .ok (.aload_n 0, 1) := by decide +kernel
theorem dX5_length_9 : decode cX5_length 9 = .ok (.getfield 15, 3) := by decide +kernel
theorem dX5_length_12 : decode cX5_length 12 = .ok (.iload_n 1, 1) := by decide +kernel
theorem dX5_length_13 : decode cX5_length 13 = .ok (.iaload, 1) := by decide +kernel
theorem dX5_length_14 : decode cX5_length 14 = .ok (.goto 4, 3) := by decide +kernel
theorem dX5_length_17 : decode cX5_length 17 = .ok (.iconst (-1), 1) := by decide +kernel
theorem dX5_length_18 : decode cX5_length 18 = .ok (.ireturn, 1) := by decide +kernel
theorem dX5_cutsBefore_0 : decode cX5_cutsBefore 0 = .ok (.aload_n 0, 1) := by decide +kernel
theorem dX5_cutsBefore_1 : decode cX5_cutsBefore 1 = .ok (.iload_n 1, 1) := by decide +kernel
theorem dX5_cutsBefore_2 : decode cX5_cutsBefore 2 = .ok (.invokevirtual 54, 3) := by decide +kernel
theorem dX5_cutsBefore_5 : decode cX5_cutsBefore 5 = .ok (.ifCond .eq 12, 3) := by decide +kernel
theorem dX5_cutsBefore_8 : decode cX5_cutsBefore 8 = .ok (.aload_n 0, 1) := by decide +kernel
theorem dX5_cutsBefore_9 : decode cX5_cutsBefore 9 = .ok (.getfield 18, 3) := by decide +kernel
theorem dX5_cutsBefore_12 : decode cX5_cutsBefore 12 = .ok (.iload_n 1, 1) := by decide +kernel
theorem dX5_cutsBefore_13 : decode cX5_cutsBefore 13 = .ok (.iaload, 1) := by decide +kernel
theorem dX5_cutsBefore_14 : decode cX5_cutsBefore 14 = .ok (.goto 4, 3) := by decide +kernel
theorem dX5_cutsBefore_17 : decode cX5_cutsBefore 17 = .ok (.iconst (-1), 1) := by decide +kernel
theorem dX5_cutsBefore_18 : decode cX5_cutsBefore 18 = .ok (.ireturn, 1) := by decide +kernel
theorem dX5_byteOf_0 : decode cX5_byteOf 0 = .ok (.iload_n 2, 1) := by decide +kernel
theorem dX5_byteOf_1 : decode cX5_byteOf 1 = .ok (.ifCond .lt 28, 3) := by decide +kernel
theorem dX5_byteOf_4 : decode cX5_byteOf 4 = .ok (.iload_n 2, 1) := by decide +kernel
theorem dX5_byteOf_5 : decode cX5_byteOf 5 = .ok (.aload_n 0, 1) := by decide +kernel
theorem dX5_byteOf_6 : decode cX5_byteOf 6 = .ok (.iload_n 1, 1) := by decide +kernel
theorem dX5_byteOf_7 : decode cX5_byteOf 7 = .ok (.invokevirtual 58, 3) := by decide +kernel
theorem dX5_byteOf_10 : decode cX5_byteOf 10 = .ok (.if_icmp .ge 19, 3) := by decide +kernel
theorem dX5_byteOf_13 : decode cX5_byteOf 13 = .ok (.aload_n 0, 1) := by decide +kernel
theorem dX5_byteOf_14 : decode cX5_byteOf 14 = .ok (.getfield 26, 3) := by decide +kernel
theorem dX5_byteOf_17 : decode cX5_byteOf 17 = .ok (.iload_n 1, 1) := by decide +kernel
theorem dX5_byteOf_18 : decode cX5_byteOf 18 = .ok (.bipush 64, 2) := by decide +kernel
theorem dX5_byteOf_20 : decode cX5_byteOf 20 = .ok (.imul, 1) := by decide +kernel
theorem dX5_byteOf_21 : decode cX5_byteOf 21 = .ok (.iload_n 2, 1) := by decide +kernel
theorem dX5_byteOf_22 : decode cX5_byteOf 22 = .ok (.iadd, 1) := by decide +kernel
theorem dX5_byteOf_23 : decode cX5_byteOf 23 = .ok (.invokevirtual 61, 3) := by decide +kernel
theorem dX5_byteOf_26 : decode cX5_byteOf 26 = .ok (.goto 4, 3) := by decide +kernel
theorem dX5_byteOf_29 : decode cX5_byteOf 29 = .ok (.iconst (-1), 1) := by decide +kernel
theorem dX5_byteOf_30 : decode cX5_byteOf 30 = .ok (.ireturn, 1) := by decide +kernel
theorem dX6_init_0 : decode cX6_init 0 = .ok (.aload_n 0, 1) := by decide +kernel
theorem dX6_init_1 : decode cX6_init 1 = .ok (.invokespecial 3, 3) := by decide +kernel
theorem dX6_init_4 : decode cX6_init 4 = .ok (.aload_n 0, 1) := by decide +kernel
theorem dX6_init_5 : decode cX6_init 5 = .ok (.new 9, 3) := by decide +kernel
theorem dX6_init_8 : decode cX6_init 8 = .ok (.dup, 1) := by decide +kernel
theorem dX6_init_9 : decode cX6_init 9 = .ok (.sipush 8200, 3) := by decide +kernel
theorem dX6_init_12 : decode cX6_init 12 = .ok (.invokespecial 11, 3) := by decide +kernel
theorem dX6_init_15 : decode cX6_init 15 = .ok (.putfield 14, 3) := by decide +kernel
theorem dX6_init_18 : decode cX6_init 18 = .ok (.return_, 1) := by decide +kernel
theorem dX6_hasRoom_0 : decode cX6_hasRoom 0 = .ok (.aload_n 0, 1) := by decide +kernel
theorem dX6_hasRoom_1 : decode cX6_hasRoom 1 = .ok (.getfield 20, 3) := by decide +kernel
theorem dX6_hasRoom_4 : decode cX6_hasRoom 4 = .ok (.bipush 20, 2) := by decide +kernel
theorem dX6_hasRoom_6 : decode cX6_hasRoom 6 = .ok (.iadd, 1) := by decide +kernel
theorem dX6_hasRoom_7 : decode cX6_hasRoom 7 = .ok (.sipush 8200, 3) := by decide +kernel
theorem dX6_hasRoom_10 : decode cX6_hasRoom 10 = .ok (.if_icmp .gt 19, 3) := by decide +kernel
theorem dX6_hasRoom_13 : decode cX6_hasRoom 13 = .ok (.aload_n 0, 1) := by decide +kernel
theorem dX6_hasRoom_14 : decode cX6_hasRoom 14 = .ok (.getfield 24, 3) := by decide +kernel
theorem dX6_hasRoom_17 : decode cX6_hasRoom 17 = .ok (.bipush 20, 2) := by decide +kernel
theorem dX6_hasRoom_19 : decode cX6_hasRoom 19 = .ok (.iadd, 1) := by decide +kernel
theorem dX6_hasRoom_20 : decode cX6_hasRoom 20 = .ok (.ldc 27, 2) := by decide +kernel
theorem dX6_hasRoom_22 : decode cX6_hasRoom 22 = .ok (.if_icmp .gt 7, 3) := by decide +kernel
theorem dX6_hasRoom_25 : decode cX6_hasRoom 25 = .ok (.iconst 1, 1) := by decide +kernel
theorem dX6_hasRoom_26 : decode cX6_hasRoom 26 = .ok (.goto 4, 3) := by decide +kernel
theorem dX6_hasRoom_29 : decode cX6_hasRoom 29 = .ok (.iconst 0, 1) := by decide +kernel
theorem dX6_hasRoom_30 : decode cX6_hasRoom 30 = .ok (.ireturn, 1) := by decide +kernel
theorem dX6_size_0 : decode cX6_size 0 = .ok (.aload_n 0, 1) := by decide +kernel
theorem dX6_size_1 : decode cX6_size 1 = .ok (.getfield 20, 3) := by decide +kernel
theorem dX6_size_4 : decode cX6_size 4 = .ok (.ireturn, 1) := by decide +kernel
theorem dX6_add_0 : decode cX6_add 0 = .ok (.bipush 24, 2) := by decide +kernel
theorem dX6_add_2 : decode cX6_add 2 = .ok (.istore_n 2, 1) := by decide +kernel
theorem dX6_add_3 : decode cX6_add 3 = .ok (.iload_n 2, 1) := by decide +kernel
theorem dX6_add_4 : decode cX6_add 4 = .ok (.ifCond .lt 33, 3) := by decide +kernel
theorem dX6_add_7 : decode cX6_add 7 = .ok (.aload_n 0, 1) := by decide +kernel
theorem dX6_add_8 : decode cX6_add 8 = .ok (.getfield 14, 3) := by decide +kernel
theorem dX6_add_11 : decode cX6_add 11 = .ok (.aload_n 0, 1) := by decide +kernel
theorem dX6_add_12 : decode cX6_add 12 = .ok (.getfield 20, 3) := by decide +kernel
theorem dX6_add_15 : decode cX6_add 15 = .ok (.iload_n 1, 1) := by decide +kernel
theorem dX6_add_16 : decode cX6_add 16 = .ok (.iload_n 2, 1) := by decide +kernel
theorem dX6_add_17 : decode cX6_add 17 = .ok (.iushr, 1) := by decide +kernel
theorem dX6_add_18 : decode cX6_add 18 = .ok (.invokevirtual 28, 3) := by decide +kernel
theorem dX6_add_21 : decode cX6_add 21 = .ok (.aload_n 0, 1) := by decide +kernel
theorem dX6_add_22 : decode cX6_add 22 = .ok (.dup, 1) := by decide +kernel
theorem dX6_add_23 : decode cX6_add 23 = .ok (.getfield 20, 3) := by decide +kernel
theorem dX6_add_26 : decode cX6_add 26 = .ok (.iconst 1, 1) := by decide +kernel
theorem dX6_add_27 : decode cX6_add 27 = .ok (.iadd, 1) := by decide +kernel
theorem dX6_add_28 : decode cX6_add 28 = .ok (.putfield 20, 3) := by decide +kernel
theorem dX6_add_31 : decode cX6_add 31 = .ok (.iinc 2 (-8), 3) := by decide +kernel
theorem dX6_add_34 : decode cX6_add 34 = .ok (.goto (-31), 3) := by decide +kernel
theorem dX6_add_37 : decode cX6_add 37 = .ok (.aload_n 0, 1) := by decide +kernel
theorem dX6_add_38 : decode cX6_add 38 = .ok (.dup, 1) := by decide +kernel
theorem dX6_add_39 : decode cX6_add 39 = .ok (.getfield 24, 3) := by decide +kernel
theorem dX6_add_42 : decode cX6_add 42 = .ok (.iconst 4, 1) := by decide +kernel
theorem dX6_add_43 : decode cX6_add 43 = .ok (.iadd, 1) := by decide +kernel
theorem dX6_add_44 : decode cX6_add 44 = .ok (.putfield 24, 3) := by decide +kernel
theorem dX6_add_47 : decode cX6_add 47 = .ok (.return_, 1) := by decide +kernel
theorem dX6_shorten_0 : decode cX6_shorten 0 = .ok (.iload_n 1, 1) := by decide +kernel
theorem dX6_shorten_1 : decode cX6_shorten 1 = .ok (.ifCond .lt 11, 3) := by decide +kernel
theorem dX6_shorten_4 : decode cX6_shorten 4 = .ok (.iload_n 1, 1) := by decide +kernel
theorem dX6_shorten_5 : decode cX6_shorten 5 = .ok (.aload_n 0, 1) := by decide +kernel
theorem dX6_shorten_6 : decode cX6_shorten 6 = .ok (.getfield 20, 3) := by decide +kernel
theorem dX6_shorten_9 : decode cX6_shorten 9 = .ok (.if_icmp .le 5, 3) := by decide +kernel
theorem dX6_shorten_12 : decode cX6_shorten 12 = .ok (.iconst 0, 1) := by decide +kernel
theorem dX6_shorten_13 : decode cX6_shorten 13 = .ok (.ireturn, 1) := by decide +kernel
theorem dX6_shorten_14 : decode cX6_shorten 14 = .ok (.aload_n 0, 1) := by decide +kernel
theorem dX6_shorten_15 : decode cX6_shorten 15 = .ok (.iload_n 1, 1) := by decide +kernel
theorem dX6_shorten_16 : decode cX6_shorten 16 = .ok (.putfield 20, 3) := by decide +kernel
theorem dX6_shorten_19 : decode cX6_shorten 19 = .ok (.iconst 1, 1) := by decide +kernel
theorem dX6_shorten_20 : decode cX6_shorten 20 = .ok (.ireturn, 1) := by decide +kernel
theorem dX6_get_0 : decode cX6_get 0 = .ok (.aload_n 0, 1) := by decide +kernel
theorem dX6_get_1 : decode cX6_get 1 = .ok (.getfield 14, 3) := by decide +kernel
theorem dX6_get_4 : decode cX6_get 4 = .ok (.iload_n 1, 1) := by decide +kernel
theorem dX6_get_5 : decode cX6_get 5 = .ok (.invokevirtual 32, 3) := by decide +kernel
theorem dX6_get_8 : decode cX6_get 8 = .ok (.ireturn, 1) := by decide +kernel
theorem dX7_init_0 : decode cX7_init 0 = .ok (.aload_n 0, 1) := by decide +kernel
theorem dX7_init_1 : decode cX7_init 1 = .ok (.invokespecial 1, 3) := by decide +kernel
theorem dX7_init_4 : decode cX7_init 4 = .ok (.new 7, 3) := by decide +kernel
theorem dX7_init_7 : decode cX7_init 7 = .ok (.dup, 1) := by decide +kernel
theorem dX7_init_8 : decode cX7_init 8 = .ok (.invokespecial 9, 3) := by decide +kernel
theorem dX7_init_11 : decode cX7_init 11 = .ok (.astore_n 1, 1) := by decide +kernel
theorem dX7_init_12 : decode cX7_init 12 = .ok (.aload_n 0, 1) := by decide +kernel
theorem dX7_init_13 : decode cX7_init 13 = .ok (.new 10, 3) := by decide +kernel
theorem dX7_init_16 : decode cX7_init 16 = .ok (.dup, 1) := by decide +kernel
theorem dX7_init_17 : decode cX7_init 17 = .ok (.invokespecial 12, 3) := by decide +kernel
theorem dX7_init_20 : decode cX7_init 20 = .ok (.putfield 13, 3) := by decide +kernel
theorem dX7_init_23 : decode cX7_init 23 = .ok (.aload_n 0, 1) := by decide +kernel
theorem dX7_init_24 : decode cX7_init 24 = .ok (.aload_n 1, 1) := by decide +kernel
theorem dX7_init_25 : decode cX7_init 25 = .ok (.putfield 19, 3) := by decide +kernel
theorem dX7_init_28 : decode cX7_init 28 = .ok (.aload_n 0, 1) := by decide +kernel
theorem dX7_init_29 : decode cX7_init 29 = .ok (.new 23, 3) := by decide +kernel
theorem dX7_init_32 : decode cX7_init 32 = .ok (.dup, 1) := by decide +kernel
theorem dX7_init_33 : decode cX7_init 33 = .ok (.aload_n 1, 1) := by decide +kernel
theorem dX7_init_34 : decode cX7_init 34 = .ok (.invokespecial 25, 3) := by decide +kernel
theorem dX7_init_37 : decode cX7_init 37 = .ok (.putfield 28, 3) := by decide +kernel
theorem dX7_init_40 : decode cX7_init 40 = .ok (.aload_n 0, 1) := by decide +kernel
theorem dX7_init_41 : decode cX7_init 41 = .ok (.new 32, 3) := by decide +kernel
theorem dX7_init_44 : decode cX7_init 44 = .ok (.dup, 1) := by decide +kernel
theorem dX7_init_45 : decode cX7_init 45 = .ok (.aload_n 1, 1) := by decide +kernel
theorem dX7_init_46 : decode cX7_init 46 = .ok (.invokespecial 34, 3) := by decide +kernel
theorem dX7_init_49 : decode cX7_init 49 = .ok (.putfield 35, 3) := by decide +kernel
theorem dX7_init_52 : decode cX7_init 52 = .ok (.return_, 1) := by decide +kernel
theorem dX7_feed_0 : decode cX7_feed 0 = .ok (.aload_n 0, 1) := by decide +kernel
theorem dX7_feed_1 : decode cX7_feed 1 = .ok (.getfield 13, 3) := by decide +kernel
theorem dX7_feed_4 : decode cX7_feed 4 = .ok (.invokevirtual 39, 3) := by decide +kernel
theorem dX7_feed_7 : decode cX7_feed 7 = .ok (.ifCond .ne 5, 3) := by decide +kernel
theorem dX7_feed_10 : decode cX7_feed 10 = .ok (.iconst (-1), 1) := by decide +kernel
theorem dX7_feed_11 : decode cX7_feed 11 = .ok (.ireturn, 1) := by decide +kernel
theorem dX7_feed_12 : decode cX7_feed 12 = .ok (.aload_n 0, 1) := by decide +kernel
theorem dX7_feed_13 : decode cX7_feed 13 = .ok (.getfield 13, 3) := by decide +kernel
theorem dX7_feed_16 : decode cX7_feed 16 = .ok (.iload_n 1, 1) := by decide +kernel
theorem dX7_feed_17 : decode cX7_feed 17 = .ok (.invokevirtual 43, 3) := by decide +kernel
theorem dX7_feed_20 : decode cX7_feed 20 = .ok (.aload_n 0, 1) := by decide +kernel
theorem dX7_feed_21 : decode cX7_feed 21 = .ok (.getfield 13, 3) := by decide +kernel
theorem dX7_feed_24 : decode cX7_feed 24 = .ok (.iload_n 2, 1) := by decide +kernel
theorem dX7_feed_25 : decode cX7_feed 25 = .ok (.invokevirtual 43, 3) := by decide +kernel
theorem dX7_feed_28 : decode cX7_feed 28 = .ok (.aload_n 0, 1) := by decide +kernel
theorem dX7_feed_29 : decode cX7_feed 29 = .ok (.getfield 13, 3) := by decide +kernel
theorem dX7_feed_32 : decode cX7_feed 32 = .ok (.iload_n 3, 1) := by decide +kernel
theorem dX7_feed_33 : decode cX7_feed 33 = .ok (.invokevirtual 43, 3) := by decide +kernel
theorem dX7_feed_36 : decode cX7_feed 36 = .ok (.aload_n 0, 1) := by decide +kernel
theorem dX7_feed_37 : decode cX7_feed 37 = .ok (.getfield 13, 3) := by decide +kernel
theorem dX7_feed_40 : decode cX7_feed 40 = .ok (.iload 4, 2) := by decide +kernel
theorem dX7_feed_42 : decode cX7_feed 42 = .ok (.invokevirtual 43, 3) := by decide +kernel
theorem dX7_feed_45 : decode cX7_feed 45 = .ok (.aload_n 0, 1) := by decide +kernel
theorem dX7_feed_46 : decode cX7_feed 46 = .ok (.getfield 13, 3) := by decide +kernel
theorem dX7_feed_49 : decode cX7_feed 49 = .ok (.iload 5, 2) := by decide +kernel
theorem dX7_feed_51 : decode cX7_feed 51 = .ok (.invokevirtual 43, 3) := by decide +kernel
theorem dX7_feed_54 : decode cX7_feed 54 = .ok (.aload_n 0, 1) := by decide +kernel
theorem dX7_feed_55 : decode cX7_feed 55 = .ok (.getfield 13, 3) := by decide +kernel
theorem dX7_feed_58 : decode cX7_feed 58 = .ok (.invokevirtual 47, 3) := by decide +kernel
theorem dX7_feed_61 : decode cX7_feed 61 = .ok (.ireturn, 1) := by decide +kernel
theorem dX7_end_0 : decode cX7_end 0 = .ok (.aload_n 0, 1) := by decide +kernel
theorem dX7_end_1 : decode cX7_end 1 = .ok (.getfield 13, 3) := by decide +kernel
theorem dX7_end_4 : decode cX7_end 4 = .ok (.iload_n 1, 1) := by decide +kernel
theorem dX7_end_5 : decode cX7_end 5 = .ok (.invokevirtual 51, 3) := by decide +kernel
theorem dX7_end_8 : decode cX7_end 8 = .ok (.ireturn, 1) := by decide +kernel
theorem dX7_install_0 : decode cX7_install 0 = .ok (.aload_n 0, 1) := by decide +kernel
theorem dX7_install_1 : decode cX7_install 1 = .ok (.getfield 13, 3) := by decide +kernel
theorem dX7_install_4 : decode cX7_install 4 = .ok (.invokevirtual 47, 3) := by decide +kernel
theorem dX7_install_7 : decode cX7_install 7 = .ok (.istore 6, 2) := by decide +kernel
theorem dX7_install_9 : decode cX7_install 9 = .ok (.aload_n 0, 1) := by decide +kernel
theorem dX7_install_10 : decode cX7_install 10 = .ok (.getfield 13, 3) := by decide +kernel
theorem dX7_install_13 : decode cX7_install 13 = .ok (.iconst 0, 1) := by decide +kernel
theorem dX7_install_14 : decode cX7_install 14 = .ok (.invokevirtual 51, 3) := by decide +kernel
theorem dX7_install_17 : decode cX7_install 17 = .ok (.pop, 1) := by decide +kernel
theorem dX7_install_18 : decode cX7_install 18 = .ok (.iload_n 1, 1) := by decide +kernel
theorem dX7_install_19 : decode cX7_install 19 = .ok (.iload_n 2, 1) := by decide +kernel
theorem dX7_install_20 : decode cX7_install 20 = .ok (.iload_n 3, 1) := by decide +kernel
theorem dX7_install_21 : decode cX7_install 21 = .ok (.iload 4, 2) := by decide +kernel
theorem dX7_install_23 : decode cX7_install 23 = .ok (.invokestatic 55, 3) := by decide +kernel
theorem dX7_install_26 : decode cX7_install 26 = .ok (.ifCond .ne 5, 3) := by decide +kernel
theorem dX7_install_29 : decode cX7_install 29 = .ok (.iconst (-1), 1) := by decide +kernel
theorem dX7_install_30 : decode cX7_install 30 = .ok (.ireturn, 1) := by decide +kernel
theorem dX7_install_31 : decode cX7_install 31 = .ok (.iload 6, 2) := by decide +kernel
theorem dX7_install_33 : decode cX7_install 33 = .ok (.iload_n 2, 1) := by decide +kernel
theorem dX7_install_34 : decode cX7_install 34 = .ok (.if_icmp .le 6, 3) := by decide +kernel
theorem dX7_install_37 : decode cX7_install 37 = .ok (.bipush (-2), 2) := by decide +kernel
theorem dX7_install_39 : decode cX7_install 39 = .ok (.ireturn, 1) := by decide +kernel
theorem dX7_install_40 : decode cX7_install 40 = .ok (.aload_n 0, 1) := by decide +kernel
theorem dX7_install_41 : decode cX7_install 41 = .ok (.getfield 19, 3) := by decide +kernel
theorem dX7_install_44 : decode cX7_install 44 = .ok (.iload_n 1, 1) := by decide +kernel
theorem dX7_install_45 : decode cX7_install 45 = .ok (.iload_n 2, 1) := by decide +kernel
theorem dX7_install_46 : decode cX7_install 46 = .ok (.iload_n 3, 1) := by decide +kernel
theorem dX7_install_47 : decode cX7_install 47 = .ok (.iload 4, 2) := by decide +kernel
theorem dX7_install_49 : decode cX7_install 49 = .ok (.iload 5, 2) := by decide +kernel
theorem dX7_install_51 : decode cX7_install 51 = .ok (.invokevirtual 59, 3) := by decide +kernel
theorem dX7_install_54 : decode cX7_install 54 = .ok (.aload_n 0, 1) := by decide +kernel
theorem dX7_install_55 : decode cX7_install 55 = .ok (.getfield 19, 3) := by decide +kernel
theorem dX7_install_58 : decode cX7_install 58 = .ok (.aload_n 0, 1) := by decide +kernel
theorem dX7_install_59 : decode cX7_install 59 = .ok (.getfield 13, 3) := by decide +kernel
theorem dX7_install_62 : decode cX7_install 62 = .ok (.iload 6, 2) := by decide +kernel
theorem dX7_install_64 : decode cX7_install 64 = .ok (.invokevirtual 63, 3) := by decide +kernel
theorem dX7_install_67 : decode cX7_install 67 = .ok (.aload_n 0, 1) := by decide +kernel
theorem dX7_install_68 : decode cX7_install 68 = .ok (.getfield 28, 3) := by decide +kernel
theorem dX7_install_71 : decode cX7_install 71 = .ok (.invokevirtual 67, 3) := by decide +kernel
theorem dX7_install_74 : decode cX7_install 74 = .ok (.aload_n 0, 1) := by decide +kernel
theorem dX7_install_75 : decode cX7_install 75 = .ok (.getfield 35, 3) := by decide +kernel
theorem dX7_install_78 : decode cX7_install 78 = .ok (.invokevirtual 70, 3) := by decide +kernel
theorem dX7_install_81 : decode cX7_install 81 = .ok (.iconst 0, 1) := by decide +kernel
theorem dX7_install_82 : decode cX7_install 82 = .ok (.ireturn, 1) := by decide +kernel
theorem dX7_sample_0 : decode cX7_sample 0 = .ok (.aload_n 0, 1) := by decide +kernel
theorem dX7_sample_1 : decode cX7_sample 1 = .ok (.getfield 28, 3) := by decide +kernel
theorem dX7_sample_4 : decode cX7_sample 4 = .ok (.invokevirtual 73, 3) := by decide +kernel
theorem dX7_sample_7 : decode cX7_sample 7 = .ok (.ifCond .eq 7, 3) := by decide +kernel
theorem dX7_sample_10 : decode cX7_sample 10 = .ok (.iconst (-1), 1) := by decide +kernel
theorem dX7_sample_11 : decode cX7_sample 11 = .ok (.goto 11, 3) := by decide +kernel
theorem dX7_sample_14 : decode cX7_sample 14 = .ok (.aload_n 0, 1) := by decide +kernel
theorem dX7_sample_15 : decode cX7_sample 15 = .ok (.getfield 19, 3) := by decide +kernel
theorem dX7_sample_18 : decode cX7_sample 18 = .ok (.iload_n 1, 1) := by decide +kernel
theorem dX7_sample_19 : decode cX7_sample 19 = .ok (.invokevirtual 76, 3) := by decide +kernel
theorem dX7_sample_22 : decode cX7_sample 22 = .ok (.ireturn, 1) := by decide +kernel
theorem dX7_on_0 : decode cX7_on 0 = .ok (.aload_n 0, 1) := by decide +kernel
theorem dX7_on_1 : decode cX7_on 1 = .ok (.getfield 28, 3) := by decide +kernel
theorem dX7_on_4 : decode cX7_on 4 = .ok (.invokevirtual 80, 3) := by decide +kernel
theorem dX7_on_7 : decode cX7_on 7 = .ok (.ireturn, 1) := by decide +kernel
theorem dX7_cut_0 : decode cX7_cut 0 = .ok (.aload_n 0, 1) := by decide +kernel
theorem dX7_cut_1 : decode cX7_cut 1 = .ok (.getfield 28, 3) := by decide +kernel
theorem dX7_cut_4 : decode cX7_cut 4 = .ok (.invokevirtual 83, 3) := by decide +kernel
theorem dX7_cut_7 : decode cX7_cut 7 = .ok (.ireturn, 1) := by decide +kernel
theorem dX7_go_0 : decode cX7_go 0 = .ok (.iload_n 1, 1) := by decide +kernel
theorem dX7_go_1 : decode cX7_go 1 = .ok (.ifCond .lt 10, 3) := by decide +kernel
theorem dX7_go_4 : decode cX7_go 4 = .ok (.iload_n 1, 1) := by decide +kernel
theorem dX7_go_5 : decode cX7_go 5 = .ok (.sipush 20000, 3) := by decide +kernel
theorem dX7_go_8 : decode cX7_go 8 = .ok (.if_icmp .le 7, 3) := by decide +kernel
theorem dX7_go_11 : decode cX7_go 11 = .ok (.iconst (-1), 1) := by decide +kernel
theorem dX7_go_12 : decode cX7_go 12 = .ok (.goto 11, 3) := by decide +kernel
theorem dX7_go_15 : decode cX7_go 15 = .ok (.aload_n 0, 1) := by decide +kernel
theorem dX7_go_16 : decode cX7_go 16 = .ok (.getfield 28, 3) := by decide +kernel
theorem dX7_go_19 : decode cX7_go 19 = .ok (.iload_n 1, 1) := by decide +kernel
theorem dX7_go_20 : decode cX7_go 20 = .ok (.invokevirtual 86, 3) := by decide +kernel
theorem dX7_go_23 : decode cX7_go 23 = .ok (.ireturn, 1) := by decide +kernel
theorem dX7_state_0 : decode cX7_state 0 = .ok (.aload_n 0, 1) := by decide +kernel
theorem dX7_state_1 : decode cX7_state 1 = .ok (.getfield 28, 3) := by decide +kernel
theorem dX7_state_4 : decode cX7_state 4 = .ok (.invokevirtual 89, 3) := by decide +kernel
theorem dX7_state_7 : decode cX7_state 7 = .ok (.ireturn, 1) := by decide +kernel
theorem dX7_register_0 : decode cX7_register 0 = .ok (.aload_n 0, 1) := by decide +kernel
theorem dX7_register_1 : decode cX7_register 1 = .ok (.getfield 28, 3) := by decide +kernel
theorem dX7_register_4 : decode cX7_register 4 = .ok (.iload_n 1, 1) := by decide +kernel
theorem dX7_register_5 : decode cX7_register 5 = .ok (.invokevirtual 92, 3) := by decide +kernel
theorem dX7_register_8 : decode cX7_register 8 = .ok (.ireturn, 1) := by decide +kernel
theorem dX7_ram_0 : decode cX7_ram 0 = .ok (.aload_n 0, 1) := by decide +kernel
theorem dX7_ram_1 : decode cX7_ram 1 = .ok (.getfield 28, 3) := by decide +kernel
theorem dX7_ram_4 : decode cX7_ram 4 = .ok (.iload_n 1, 1) := by decide +kernel
theorem dX7_ram_5 : decode cX7_ram 5 = .ok (.invokevirtual 95, 3) := by decide +kernel
theorem dX7_ram_8 : decode cX7_ram 8 = .ok (.ireturn, 1) := by decide +kernel
theorem dX7_words_0 : decode cX7_words 0 = .ok (.aload_n 0, 1) := by decide +kernel
theorem dX7_words_1 : decode cX7_words 1 = .ok (.getfield 28, 3) := by decide +kernel
theorem dX7_words_4 : decode cX7_words 4 = .ok (.invokevirtual 98, 3) := by decide +kernel
theorem dX7_words_7 : decode cX7_words 7 = .ok (.ireturn, 1) := by decide +kernel
theorem dX7_word_0 : decode cX7_word 0 = .ok (.aload_n 0, 1) := by decide +kernel
theorem dX7_word_1 : decode cX7_word 1 = .ok (.getfield 28, 3) := by decide +kernel
theorem dX7_word_4 : decode cX7_word 4 = .ok (.iload_n 1, 1) := by decide +kernel
theorem dX7_word_5 : decode cX7_word 5 = .ok (.invokevirtual 99, 3) := by decide +kernel
theorem dX7_word_8 : decode cX7_word 8 = .ok (.ireturn, 1) := by decide +kernel
theorem dX7_frames_0 : decode cX7_frames 0 = .ok (.aload_n 0, 1) := by decide +kernel
theorem dX7_frames_1 : decode cX7_frames 1 = .ok (.getfield 28, 3) := by decide +kernel
theorem dX7_frames_4 : decode cX7_frames 4 = .ok (.invokevirtual 102, 3) := by decide +kernel
theorem dX7_frames_7 : decode cX7_frames 7 = .ok (.invokevirtual 106, 3) := by decide +kernel
theorem dX7_frames_10 : decode cX7_frames 10 = .ok (.ireturn, 1) := by decide +kernel
theorem dX7_frame_0 : decode cX7_frame 0 = .ok (.iload_n 2, 1) := by decide +kernel
theorem dX7_frame_1 : decode cX7_frame 1 = .ok (.tableswitch 63 0 2 #[27, 39, 51], 27) := by decide +kernel
theorem dX7_frame_28 : decode cX7_frame 28 = .ok (.aload_n 0, 1) := by decide +kernel
theorem dX7_frame_29 : decode cX7_frame 29 = .ok (.getfield 28, 3) := by decide +kernel
theorem dX7_frame_32 : decode cX7_frame 32 = .ok (.invokevirtual 102, 3) := by decide +kernel
theorem dX7_frame_35 : decode cX7_frame 35 = .ok (.iload_n 1, 1) := by decide +kernel
theorem dX7_frame_36 : decode cX7_frame 36 = .ok (.invokevirtual 111, 3) := by decide +kernel
theorem dX7_frame_39 : decode cX7_frame 39 = .ok (.ireturn, 1) := by decide +kernel
theorem dX7_frame_40 : decode cX7_frame 40 = .ok (.aload_n 0, 1) := by decide +kernel
theorem dX7_frame_41 : decode cX7_frame 41 = .ok (.getfield 28, 3) := by decide +kernel
theorem dX7_frame_44 : decode cX7_frame 44 = .ok (.invokevirtual 102, 3) := by decide +kernel
theorem dX7_frame_47 : decode cX7_frame 47 = .ok (.iload_n 1, 1) := by decide +kernel
theorem dX7_frame_48 : decode cX7_frame 48 = .ok (.invokevirtual 114, 3) := by decide +kernel
theorem dX7_frame_51 : decode cX7_frame 51 = .ok (.ireturn, 1) := by decide +kernel
theorem dX7_frame_52 : decode cX7_frame 52 = .ok (.aload_n 0, 1) := by decide +kernel
theorem dX7_frame_53 : decode cX7_frame 53 = .ok (.getfield 28, 3) := by decide +kernel
theorem dX7_frame_56 : decode cX7_frame 56 = .ok (.invokevirtual 102, 3) := by decide +kernel
theorem dX7_frame_59 : decode cX7_frame 59 = .ok (.iload_n 1, 1) := by decide +kernel
theorem dX7_frame_60 : decode cX7_frame 60 = .ok (.invokevirtual 117, 3) := by decide +kernel
theorem dX7_frame_63 : decode cX7_frame 63 = .ok (.ireturn, 1) := by decide +kernel
theorem dX7_frame_64 : decode cX7_frame 64 = .ok (.iconst (-1), 1) := by decide +kernel
theorem dX7_frame_65 : decode cX7_frame 65 = .ok (.ireturn, 1) := by decide +kernel
theorem dX7_heard_0 : decode cX7_heard 0 = .ok (.aload_n 0, 1) := by decide +kernel
theorem dX7_heard_1 : decode cX7_heard 1 = .ok (.getfield 28, 3) := by decide +kernel
theorem dX7_heard_4 : decode cX7_heard 4 = .ok (.invokevirtual 102, 3) := by decide +kernel
theorem dX7_heard_7 : decode cX7_heard 7 = .ok (.iload_n 1, 1) := by decide +kernel
theorem dX7_heard_8 : decode cX7_heard 8 = .ok (.iload_n 2, 1) := by decide +kernel
theorem dX7_heard_9 : decode cX7_heard 9 = .ok (.invokevirtual 120, 3) := by decide +kernel
theorem dX7_heard_12 : decode cX7_heard 12 = .ok (.ireturn, 1) := by decide +kernel
theorem dX7_count_0 : decode cX7_count 0 = .ok (.aload_n 0, 1) := by decide +kernel
theorem dX7_count_1 : decode cX7_count 1 = .ok (.getfield 28, 3) := by decide +kernel
theorem dX7_count_4 : decode cX7_count 4 = .ok (.iload_n 1, 1) := by decide +kernel
theorem dX7_count_5 : decode cX7_count 5 = .ok (.invokevirtual 124, 3) := by decide +kernel
theorem dX7_count_8 : decode cX7_count 8 = .ok (.ireturn, 1) := by decide +kernel
theorem dX7_plain_0 : decode cX7_plain 0 = .ok (.aload_n 0, 1) := by decide +kernel
theorem dX7_plain_1 : decode cX7_plain 1 = .ok (.getfield 19, 3) := by decide +kernel
theorem dX7_plain_4 : decode cX7_plain 4 = .ok (.getfield 127, 3) := by decide +kernel
theorem dX7_plain_7 : decode cX7_plain 7 = .ok (.ifCond .eq 14, 3) := by decide +kernel
theorem dX7_plain_10 : decode cX7_plain 10 = .ok (.iload_n 1, 1) := by decide +kernel
theorem dX7_plain_11 : decode cX7_plain 11 = .ok (.ifCond .lt 10, 3) := by decide +kernel
theorem dX7_plain_14 : decode cX7_plain 14 = .ok (.iload_n 1, 1) := by decide +kernel
theorem dX7_plain_15 : decode cX7_plain 15 = .ok (.sipush 20000, 3) := by decide +kernel
theorem dX7_plain_18 : decode cX7_plain 18 = .ok (.if_icmp .le 7, 3) := by decide +kernel
theorem dX7_plain_21 : decode cX7_plain 21 = .ok (.iconst (-1), 1) := by decide +kernel
theorem dX7_plain_22 : decode cX7_plain 22 = .ok (.goto 11, 3) := by decide +kernel
theorem dX7_plain_25 : decode cX7_plain 25 = .ok (.aload_n 0, 1) := by decide +kernel
theorem dX7_plain_26 : decode cX7_plain 26 = .ok (.getfield 35, 3) := by decide +kernel
theorem dX7_plain_29 : decode cX7_plain 29 = .ok (.iload_n 1, 1) := by decide +kernel
theorem dX7_plain_30 : decode cX7_plain 30 = .ok (.invokevirtual 131, 3) := by decide +kernel
theorem dX7_plain_33 : decode cX7_plain 33 = .ok (.ireturn, 1) := by decide +kernel
theorem dX7_plainly_0 : decode cX7_plainly 0 = .ok (.aload_n 0, 1) := by decide +kernel
theorem dX7_plainly_1 : decode cX7_plainly 1 = .ok (.getfield 35, 3) := by decide +kernel
theorem dX7_plainly_4 : decode cX7_plainly 4 = .ok (.iload_n 1, 1) := by decide +kernel
theorem dX7_plainly_5 : decode cX7_plainly 5 = .ok (.invokevirtual 134, 3) := by decide +kernel
theorem dX7_plainly_8 : decode cX7_plainly 8 = .ok (.ireturn, 1) := by decide +kernel
theorem dX7_plainByte_0 : decode cX7_plainByte 0 = .ok (.aload_n 0, 1) := by decide +kernel
theorem dX7_plainByte_1 : decode cX7_plainByte 1 = .ok (.getfield 35, 3) := by decide +kernel
theorem dX7_plainByte_4 : decode cX7_plainByte 4 = .ok (.iload_n 1, 1) := by decide +kernel
theorem dX7_plainByte_5 : decode cX7_plainByte 5 = .ok (.invokevirtual 135, 3) := by decide +kernel
theorem dX7_plainByte_8 : decode cX7_plainByte 8 = .ok (.ireturn, 1) := by decide +kernel
theorem dX7_plainFrame_0 : decode cX7_plainFrame 0 = .ok (.aload_n 0, 1) := by decide +kernel
theorem dX7_plainFrame_1 : decode cX7_plainFrame 1 = .ok (.getfield 35, 3) := by decide +kernel
theorem dX7_plainFrame_4 : decode cX7_plainFrame 4 = .ok (.invokevirtual 138, 3) := by decide +kernel
theorem dX7_plainFrame_7 : decode cX7_plainFrame 7 = .ok (.iload_n 1, 1) := by decide +kernel
theorem dX7_plainFrame_8 : decode cX7_plainFrame 8 = .ok (.invokevirtual 114, 3) := by decide +kernel
theorem dX7_plainFrame_11 : decode cX7_plainFrame 11 = .ok (.ireturn, 1) := by decide +kernel
theorem dX7_plainHeard_0 : decode cX7_plainHeard 0 = .ok (.aload_n 0, 1) := by decide +kernel
theorem dX7_plainHeard_1 : decode cX7_plainHeard 1 = .ok (.getfield 35, 3) := by decide +kernel
theorem dX7_plainHeard_4 : decode cX7_plainHeard 4 = .ok (.invokevirtual 138, 3) := by decide +kernel
theorem dX7_plainHeard_7 : decode cX7_plainHeard 7 = .ok (.iload_n 1, 1) := by decide +kernel
theorem dX7_plainHeard_8 : decode cX7_plainHeard 8 = .ok (.iload_n 2, 1) := by decide +kernel
theorem dX7_plainHeard_9 : decode cX7_plainHeard 9 = .ok (.invokevirtual 120, 3) := by decide +kernel
theorem dX7_plainHeard_12 : decode cX7_plainHeard 12 = .ok (.ireturn, 1) := by decide +kernel
theorem dX7_strays_0 : decode cX7_strays 0 = .ok (.aload_n 0, 1) := by decide +kernel
theorem dX7_strays_1 : decode cX7_strays 1 = .ok (.getfield 28, 3) := by decide +kernel
theorem dX7_strays_4 : decode cX7_strays 4 = .ok (.invokevirtual 139, 3) := by decide +kernel
theorem dX7_strays_7 : decode cX7_strays 7 = .ok (.ireturn, 1) := by decide +kernel
theorem dX8_init_0 : decode cX8_init 0 = .ok (.aload_n 0, 1) := by decide +kernel
theorem dX8_init_1 : decode cX8_init 1 = .ok (.invokespecial 3, 3) := by decide +kernel
theorem dX8_init_4 : decode cX8_init 4 = .ok (.aload_n 0, 1) := by decide +kernel
theorem dX8_init_5 : decode cX8_init 5 = .ok (.sipush 400, 3) := by decide +kernel
theorem dX8_init_8 : decode cX8_init 8 = .ok (.newarray .int, 2) := by decide +kernel
theorem dX8_init_10 : decode cX8_init 10 = .ok (.putfield 9, 3) := by decide +kernel
theorem dX8_init_13 : decode cX8_init 13 = .ok (.aload_n 0, 1) := by decide +kernel
theorem dX8_init_14 : decode cX8_init 14 = .ok (.sipush 400, 3) := by decide +kernel
theorem dX8_init_17 : decode cX8_init 17 = .ok (.newarray .int, 2) := by decide +kernel
theorem dX8_init_19 : decode cX8_init 19 = .ok (.putfield 15, 3) := by decide +kernel
theorem dX8_init_22 : decode cX8_init 22 = .ok (.aload_n 0, 1) := by decide +kernel
theorem dX8_init_23 : decode cX8_init 23 = .ok (.sipush 400, 3) := by decide +kernel
theorem dX8_init_26 : decode cX8_init 26 = .ok (.newarray .int, 2) := by decide +kernel
theorem dX8_init_28 : decode cX8_init 28 = .ok (.putfield 18, 3) := by decide +kernel
theorem dX8_init_31 : decode cX8_init 31 = .ok (.aload_n 0, 1) := by decide +kernel
theorem dX8_init_32 : decode cX8_init 32 = .ok (.sipush 25600, 3) := by decide +kernel
theorem dX8_init_35 : decode cX8_init 35 = .ok (.newarray .byte, 2) := by decide +kernel
theorem dX8_init_37 : decode cX8_init 37 = .ok (.putfield 21, 3) := by decide +kernel
theorem dX8_init_40 : decode cX8_init 40 = .ok (.return_, 1) := by decide +kernel
theorem dX8_has_0 : decode cX8_has 0 = .ok (.iload_n 1, 1) := by decide +kernel
theorem dX8_has_1 : decode cX8_has 1 = .ok (.ifCond .lt 22, 3) := by decide +kernel
theorem dX8_has_4 : decode cX8_has 4 = .ok (.iload_n 1, 1) := by decide +kernel
theorem dX8_has_5 : decode cX8_has 5 = .ok (.aload_n 0, 1) := by decide +kernel
theorem dX8_has_6 : decode cX8_has 6 = .ok (.getfield 25, 3) := by decide +kernel
theorem dX8_has_9 : decode cX8_has 9 = .ok (.if_icmp .ge 14, 3) := by decide +kernel
theorem dX8_has_12 : decode cX8_has 12 = .ok (.iload_n 1, 1) := by decide +kernel
theorem dX8_has_13 : decode cX8_has 13 = .ok (.sipush 400, 3) := by decide +kernel
theorem dX8_has_16 : decode cX8_has 16 = .ok (.if_icmp .ge 7, 3) := by decide +kernel
theorem dX8_has_19 : decode cX8_has 19 = .ok (.iconst 1, 1) := by decide +kernel
theorem dX8_has_20 : decode cX8_has 20 = .ok (.goto 4, 3) := by decide +kernel
theorem dX8_has_23 : decode cX8_has 23 = .ok (.iconst 0, 1) := by decide +kernel
theorem dX8_has_24 : decode cX8_has 24 = .ok (.ireturn, 1) := by decide +kernel
theorem dX8_at_0 : decode cX8_at 0 = .ok (.aload_n 0, 1) := by decide +kernel
theorem dX8_at_1 : decode cX8_at 1 = .ok (.iload_n 1, 1) := by decide +kernel
theorem dX8_at_2 : decode cX8_at 2 = .ok (.invokevirtual 29, 3) := by decide +kernel
theorem dX8_at_5 : decode cX8_at 5 = .ok (.ifCond .eq 35, 3) := by decide +kernel
theorem dX8_at_8 : decode cX8_at 8 = .ok (.iload_n 2, 1) := by decide +kernel
theorem dX8_at_9 : decode cX8_at 9 = .ok (.ifCond .lt 31, 3) := by decide +kernel
theorem dX8_at_12 : decode cX8_at 12 = .ok (.iload_n 2, 1) := by decide +kernel
theorem dX8_at_13 : decode cX8_at 13 = .ok (.aload_n 0, 1) := by decide +kernel
theorem dX8_at_14 : decode cX8_at 14 = .ok (.getfield 15, 3) := by decide +kernel
theorem dX8_at_17 : decode cX8_at 17 = .ok (.iload_n 1, 1) := by decide +kernel
theorem dX8_at_18 : decode cX8_at 18 = .ok (.iaload, 1) := by decide +kernel
theorem dX8_at_19 : decode cX8_at 19 = .ok (.if_icmp .ge 21, 3) := by decide +kernel
theorem dX8_at_22 : decode cX8_at 22 = .ok (.aload_n 0, 1) := by decide +kernel
theorem dX8_at_23 : decode cX8_at 23 = .ok (.getfield 21, 3) := by decide +kernel
theorem dX8_at_26 : decode cX8_at 26 = .ok (.bipush 64, 2) := by decide +kernel
theorem dX8_at_28 : decode cX8_at 28 = .ok (.iload_n 1, 1) := by decide +kernel
theorem dX8_at_29 : decode cX8_at 29 = .ok (.imul, 1) := by decide +kernel
theorem dX8_at_30 : decode cX8_at 30 = .ok (.iload_n 2, 1) := by decide +kernel
theorem dX8_at_31 : decode cX8_at 31 = .ok (.iadd, 1) := by decide +kernel
theorem dX8_at_32 : decode cX8_at 32 = .ok (.baload, 1) := by decide +kernel
theorem dX8_at_33 : decode cX8_at 33 = .ok (.sipush 255, 3) := by decide +kernel
theorem dX8_at_36 : decode cX8_at 36 = .ok (.iand, 1) := by decide +kernel
theorem dX8_at_37 : decode cX8_at 37 = .ok (.goto 4, 3) := by decide +kernel
theorem dX8_at_40 : decode cX8_at 40 = .ok (.iconst (-1), 1) := by decide +kernel
theorem dX8_at_41 : decode cX8_at 41 = .ok (.ireturn, 1) := by decide +kernel
theorem dX9_init_0 : decode cX9_init 0 = .ok (.aload_n 0, 1) := by decide +kernel
theorem dX9_init_1 : decode cX9_init 1 = .ok (.invokespecial 3, 3) := by decide +kernel
theorem dX9_init_4 : decode cX9_init 4 = .ok (.aload_n 0, 1) := by decide +kernel
theorem dX9_init_5 : decode cX9_init 5 = .ok (.bipush 32, 2) := by decide +kernel
theorem dX9_init_7 : decode cX9_init 7 = .ok (.newarray .int, 2) := by decide +kernel
theorem dX9_init_9 : decode cX9_init 9 = .ok (.putfield 9, 3) := by decide +kernel
theorem dX9_init_12 : decode cX9_init 12 = .ok (.aload_n 0, 1) := by decide +kernel
theorem dX9_init_13 : decode cX9_init 13 = .ok (.sipush 1024, 3) := by decide +kernel
theorem dX9_init_16 : decode cX9_init 16 = .ok (.newarray .int, 2) := by decide +kernel
theorem dX9_init_18 : decode cX9_init 18 = .ok (.putfield 15, 3) := by decide +kernel
theorem dX9_init_21 : decode cX9_init 21 = .ok (.aload_n 0, 1) := by decide +kernel
theorem dX9_init_22 : decode cX9_init 22 = .ok (.aload_n 1, 1) := by decide +kernel
theorem dX9_init_23 : decode cX9_init 23 = .ok (.putfield 18, 3) := by decide +kernel
theorem dX9_init_26 : decode cX9_init 26 = .ok (.return_, 1) := by decide +kernel
theorem dX9_begin_0 : decode cX9_begin 0 = .ok (.aload_n 0, 1) := by decide +kernel
theorem dX9_begin_1 : decode cX9_begin 1 = .ok (.iload_n 1, 1) := by decide +kernel
theorem dX9_begin_2 : decode cX9_begin 2 = .ok (.putfield 21, 3) := by decide +kernel
theorem dX9_begin_5 : decode cX9_begin 5 = .ok (.aload_n 0, 1) := by decide +kernel
theorem dX9_begin_6 : decode cX9_begin 6 = .ok (.iload_n 2, 1) := by decide +kernel
theorem dX9_begin_7 : decode cX9_begin 7 = .ok (.putfield 25, 3) := by decide +kernel
theorem dX9_begin_10 : decode cX9_begin 10 = .ok (.aload_n 0, 1) := by decide +kernel
theorem dX9_begin_11 : decode cX9_begin 11 = .ok (.iload_n 3, 1) := by decide +kernel
theorem dX9_begin_12 : decode cX9_begin 12 = .ok (.putfield 28, 3) := by decide +kernel
theorem dX9_begin_15 : decode cX9_begin 15 = .ok (.aload_n 0, 1) := by decide +kernel
theorem dX9_begin_16 : decode cX9_begin 16 = .ok (.iconst 0, 1) := by decide +kernel
theorem dX9_begin_17 : decode cX9_begin 17 = .ok (.putfield 31, 3) := by decide +kernel
theorem dX9_begin_20 : decode cX9_begin 20 = .ok (.aload_n 0, 1) := by decide +kernel
theorem dX9_begin_21 : decode cX9_begin 21 = .ok (.iconst 0, 1) := by decide +kernel
theorem dX9_begin_22 : decode cX9_begin 22 = .ok (.putfield 34, 3) := by decide +kernel
theorem dX9_begin_25 : decode cX9_begin 25 = .ok (.aload_n 0, 1) := by decide +kernel
theorem dX9_begin_26 : decode cX9_begin 26 = .ok (.iconst 0, 1) := by decide +kernel
theorem dX9_begin_27 : decode cX9_begin 27 = .ok (.putfield 37, 3) := by decide +kernel
theorem dX9_begin_30 : decode cX9_begin 30 = .ok (.iconst 0, 1) := by decide +kernel
theorem dX9_begin_31 : decode cX9_begin 31 = .ok (.istore 4, 2) := by decide +kernel
theorem dX9_begin_33 : decode cX9_begin 33 = .ok (.iload 4, 2) := by decide +kernel
theorem dX9_begin_35 : decode cX9_begin 35 = .ok (.bipush 32, 2) := by decide +kernel
theorem dX9_begin_37 : decode cX9_begin 37 = .ok (.if_icmp .ge 17, 3) := by decide +kernel
theorem dX9_begin_40 : decode cX9_begin 40 = .ok (.aload_n 0, 1) := by decide +kernel
theorem dX9_begin_41 : decode cX9_begin 41 = .ok (.getfield 9, 3) := by decide +kernel
theorem dX9_begin_44 : decode cX9_begin 44 = .ok (.iload 4, 2) := by decide +kernel
theorem dX9_begin_46 : decode cX9_begin 46 = .ok (.iconst 0, 1) := by decide +kernel
theorem dX9_begin_47 : decode cX9_begin 47 = .ok (.iastore, 1) := by decide +kernel
theorem dX9_begin_48 : decode cX9_begin 48 = .ok (.iinc 4 1, 3) := by decide +kernel
theorem dX9_begin_51 : decode cX9_begin 51 = .ok (.goto (-18), 3) := by decide +kernel
theorem dX9_begin_54 : decode cX9_begin 54 = .ok (.iconst 0, 1) := by decide +kernel
theorem dX9_begin_55 : decode cX9_begin 55 = .ok (.istore 4, 2) := by decide +kernel
theorem dX9_begin_57 : decode cX9_begin 57 = .ok (.iload 4, 2) := by decide +kernel
theorem dX9_begin_59 : decode cX9_begin 59 = .ok (.sipush 1024, 3) := by decide +kernel
theorem dX9_begin_62 : decode cX9_begin 62 = .ok (.if_icmp .ge 17, 3) := by decide +kernel
theorem dX9_begin_65 : decode cX9_begin 65 = .ok (.aload_n 0, 1) := by decide +kernel
theorem dX9_begin_66 : decode cX9_begin 66 = .ok (.getfield 15, 3) := by decide +kernel
theorem dX9_begin_69 : decode cX9_begin 69 = .ok (.iload 4, 2) := by decide +kernel
theorem dX9_begin_71 : decode cX9_begin 71 = .ok (.iconst 0, 1) := by decide +kernel
theorem dX9_begin_72 : decode cX9_begin 72 = .ok (.iastore, 1) := by decide +kernel
theorem dX9_begin_73 : decode cX9_begin 73 = .ok (.iinc 4 1, 3) := by decide +kernel
theorem dX9_begin_76 : decode cX9_begin 76 = .ok (.goto (-19), 3) := by decide +kernel
theorem dX9_begin_79 : decode cX9_begin 79 = .ok (.return_, 1) := by decide +kernel
theorem dX9_isIn_0 : decode cX9_isIn 0 = .ok (.iload_n 1, 1) := by decide +kernel
theorem dX9_isIn_1 : decode cX9_isIn 1 = .ok (.i2l, 1) := by decide +kernel
theorem dX9_isIn_2 : decode cX9_isIn 2 = .ok (.ldc2_w 40, 3) := by decide +kernel
theorem dX9_isIn_5 : decode cX9_isIn 5 = .ok (.land, 1) := by decide +kernel
theorem dX9_isIn_6 : decode cX9_isIn 6 = .ok (.lstore 4, 2) := by decide +kernel
theorem dX9_isIn_8 : decode cX9_isIn 8 = .ok (.lload 4, 2) := by decide +kernel
theorem dX9_isIn_10 : decode cX9_isIn 10 = .ok (.lload_n 2, 1) := by decide +kernel
theorem dX9_isIn_11 : decode cX9_isIn 11 = .ok (.ladd, 1) := by decide +kernel
theorem dX9_isIn_12 : decode cX9_isIn 12 = .ok (.aload_n 0, 1) := by decide +kernel
theorem dX9_isIn_13 : decode cX9_isIn 13 = .ok (.getfield 21, 3) := by decide +kernel
theorem dX9_isIn_16 : decode cX9_isIn 16 = .ok (.i2l, 1) := by decide +kernel
theorem dX9_isIn_17 : decode cX9_isIn 17 = .ok (.lcmp, 1) := by decide +kernel
theorem dX9_isIn_18 : decode cX9_isIn 18 = .ok (.ifCond .le 29, 3) := by decide +kernel
theorem dX9_isIn_21 : decode cX9_isIn 21 = .ok (.lload 4, 2) := by decide +kernel
theorem dX9_isIn_23 : decode cX9_isIn 23 = .ok (.ldc2_w 42, 3) := by decide +kernel
theorem dX9_isIn_26 : decode cX9_isIn 26 = .ok (.lcmp, 1) := by decide +kernel
theorem dX9_isIn_27 : decode cX9_isIn 27 = .ok (.ifCond .lt 24, 3) := by decide +kernel
theorem dX9_isIn_30 : decode cX9_isIn 30 = .ok (.lload 4, 2) := by decide +kernel
theorem dX9_isIn_32 : decode cX9_isIn 32 = .ok (.lload_n 2, 1) := by decide +kernel
theorem dX9_isIn_33 : decode cX9_isIn 33 = .ok (.ladd, 1) := by decide +kernel
theorem dX9_isIn_34 : decode cX9_isIn 34 = .ok (.ldc2_w 42, 3) := by decide +kernel
theorem dX9_isIn_37 : decode cX9_isIn 37 = .ok (.aload_n 0, 1) := by decide +kernel
theorem dX9_isIn_38 : decode cX9_isIn 38 = .ok (.getfield 25, 3) := by decide +kernel
theorem dX9_isIn_41 : decode cX9_isIn 41 = .ok (.i2l, 1) := by decide +kernel
theorem dX9_isIn_42 : decode cX9_isIn 42 = .ok (.ladd, 1) := by decide +kernel
theorem dX9_isIn_43 : decode cX9_isIn 43 = .ok (.lcmp, 1) := by decide +kernel
theorem dX9_isIn_44 : decode cX9_isIn 44 = .ok (.ifCond .gt 7, 3) := by decide +kernel
theorem dX9_isIn_47 : decode cX9_isIn 47 = .ok (.iconst 1, 1) := by decide +kernel
theorem dX9_isIn_48 : decode cX9_isIn 48 = .ok (.goto 4, 3) := by decide +kernel
theorem dX9_isIn_51 : decode cX9_isIn 51 = .ok (.iconst 0, 1) := by decide +kernel
theorem dX9_isIn_52 : decode cX9_isIn 52 = .ok (.ireturn, 1) := by decide +kernel
theorem dX9_isRam_0 : decode cX9_isRam 0 = .ok (.iload_n 1, 1) := by decide +kernel
theorem dX9_isRam_1 : decode cX9_isRam 1 = .ok (.i2l, 1) := by decide +kernel
theorem dX9_isRam_2 : decode cX9_isRam 2 = .ok (.ldc2_w 40, 3) := by decide +kernel
theorem dX9_isRam_5 : decode cX9_isRam 5 = .ok (.land, 1) := by decide +kernel
theorem dX9_isRam_6 : decode cX9_isRam 6 = .ok (.ldc2_w 42, 3) := by decide +kernel
theorem dX9_isRam_9 : decode cX9_isRam 9 = .ok (.lcmp, 1) := by decide +kernel
theorem dX9_isRam_10 : decode cX9_isRam 10 = .ok (.ifCond .ge 7, 3) := by decide +kernel
theorem dX9_isRam_13 : decode cX9_isRam 13 = .ok (.iconst 1, 1) := by decide +kernel
theorem dX9_isRam_14 : decode cX9_isRam 14 = .ok (.goto 4, 3) := by decide +kernel
theorem dX9_isRam_17 : decode cX9_isRam 17 = .ok (.iconst 0, 1) := by decide +kernel
theorem dX9_isRam_18 : decode cX9_isRam 18 = .ok (.ireturn, 1) := by decide +kernel
theorem dX9_wordAt_0 : decode cX9_wordAt 0 = .ok (.aload_n 0, 1) := by decide +kernel
theorem dX9_wordAt_1 : decode cX9_wordAt 1 = .ok (.iload_n 1, 1) := by decide +kernel
theorem dX9_wordAt_2 : decode cX9_wordAt 2 = .ok (.invokevirtual 44, 3) := by decide +kernel
theorem dX9_wordAt_5 : decode cX9_wordAt 5 = .ok (.ifCond .eq 14, 3) := by decide +kernel
theorem dX9_wordAt_8 : decode cX9_wordAt 8 = .ok (.aload_n 0, 1) := by decide +kernel
theorem dX9_wordAt_9 : decode cX9_wordAt 9 = .ok (.getfield 15, 3) := by decide +kernel
theorem dX9_wordAt_12 : decode cX9_wordAt 12 = .ok (.iload_n 1, 1) := by decide +kernel
theorem dX9_wordAt_13 : decode cX9_wordAt 13 = .ok (.iconst 2, 1) := by decide +kernel
theorem dX9_wordAt_14 : decode cX9_wordAt 14 = .ok (.iushr, 1) := by decide +kernel
theorem dX9_wordAt_15 : decode cX9_wordAt 15 = .ok (.iaload, 1) := by decide +kernel
theorem dX9_wordAt_16 : decode cX9_wordAt 16 = .ok (.goto 26, 3) := by decide +kernel
theorem dX9_wordAt_19 : decode cX9_wordAt 19 = .ok (.aload_n 0, 1) := by decide +kernel
theorem dX9_wordAt_20 : decode cX9_wordAt 20 = .ok (.getfield 48, 3) := by decide +kernel
theorem dX9_wordAt_23 : decode cX9_wordAt 23 = .ok (.aload_n 0, 1) := by decide +kernel
theorem dX9_wordAt_24 : decode cX9_wordAt 24 = .ok (.getfield 51, 3) := by decide +kernel
theorem dX9_wordAt_27 : decode cX9_wordAt 27 = .ok (.iload_n 1, 1) := by decide +kernel
theorem dX9_wordAt_28 : decode cX9_wordAt 28 = .ok (.i2l, 1) := by decide +kernel
theorem dX9_wordAt_29 : decode cX9_wordAt 29 = .ok (.ldc2_w 40, 3) := by decide +kernel
theorem dX9_wordAt_32 : decode cX9_wordAt 32 = .ok (.land, 1) := by decide +kernel
theorem dX9_wordAt_33 : decode cX9_wordAt 33 = .ok (.ldc2_w 42, 3) := by decide +kernel
theorem dX9_wordAt_36 : decode cX9_wordAt 36 = .ok (.lsub, 1) := by decide +kernel
theorem dX9_wordAt_37 : decode cX9_wordAt 37 = .ok (.iconst 2, 1) := by decide +kernel
theorem dX9_wordAt_38 : decode cX9_wordAt 38 = .ok (.lshr, 1) := by decide +kernel
theorem dX9_wordAt_39 : decode cX9_wordAt 39 = .ok (.l2i, 1) := by decide +kernel
theorem dX9_wordAt_40 : decode cX9_wordAt 40 = .ok (.iadd, 1) := by decide +kernel
theorem dX9_wordAt_41 : decode cX9_wordAt 41 = .ok (.iaload, 1) := by decide +kernel
theorem dX9_wordAt_42 : decode cX9_wordAt 42 = .ok (.ireturn, 1) := by decide +kernel
theorem dX9_byteAt_0 : decode cX9_byteAt 0 = .ok (.aload_n 0, 1) := by decide +kernel
theorem dX9_byteAt_1 : decode cX9_byteAt 1 = .ok (.iload_n 1, 1) := by decide +kernel
theorem dX9_byteAt_2 : decode cX9_byteAt 2 = .ok (.invokevirtual 54, 3) := by decide +kernel
theorem dX9_byteAt_5 : decode cX9_byteAt 5 = .ok (.bipush 8, 2) := by decide +kernel
theorem dX9_byteAt_7 : decode cX9_byteAt 7 = .ok (.iload_n 1, 1) := by decide +kernel
theorem dX9_byteAt_8 : decode cX9_byteAt 8 = .ok (.iconst 3, 1) := by decide +kernel
theorem dX9_byteAt_9 : decode cX9_byteAt 9 = .ok (.iand, 1) := by decide +kernel
theorem dX9_byteAt_10 : decode cX9_byteAt 10 = .ok (.imul, 1) := by decide +kernel
theorem dX9_byteAt_11 : decode cX9_byteAt 11 = .ok (.iushr, 1) := by decide +kernel
theorem dX9_byteAt_12 : decode cX9_byteAt 12 = .ok (.sipush 255, 3) := by decide +kernel
theorem dX9_byteAt_15 : decode cX9_byteAt 15 = .ok (.iand, 1) := by decide +kernel
theorem dX9_byteAt_16 : decode cX9_byteAt 16 = .ok (.ireturn, 1) := by decide +kernel
theorem dX9_bits_0 : decode cX9_bits 0 = .ok (.iload_n 0, 1) := by decide +kernel
theorem dX9_bits_1 : decode cX9_bits 1 = .ok (.iload_n 1, 1) := by decide +kernel
theorem dX9_bits_2 : decode cX9_bits 2 = .ok (.iushr, 1) := by decide +kernel
theorem dX9_bits_3 : decode cX9_bits 3 = .ok (.iconst 1, 1) := by decide +kernel
theorem dX9_bits_4 : decode cX9_bits 4 = .ok (.iload_n 2, 1) := by decide +kernel
theorem dX9_bits_5 : decode cX9_bits 5 = .ok (.ishl, 1) := by decide +kernel
theorem dX9_bits_6 : decode cX9_bits 6 = .ok (.iconst 1, 1) := by decide +kernel
theorem dX9_bits_7 : decode cX9_bits 7 = .ok (.isub, 1) := by decide +kernel
theorem dX9_bits_8 : decode cX9_bits 8 = .ok (.iand, 1) := by decide +kernel
theorem dX9_bits_9 : decode cX9_bits 9 = .ok (.ireturn, 1) := by decide +kernel
theorem dX9_look_0 : decode cX9_look 0 = .ok (.aload_n 0, 1) := by decide +kernel
theorem dX9_look_1 : decode cX9_look 1 = .ok (.iconst 0, 1) := by decide +kernel
theorem dX9_look_2 : decode cX9_look 2 = .ok (.putfield 58, 3) := by decide +kernel
theorem dX9_look_5 : decode cX9_look 5 = .ok (.aload_n 0, 1) := by decide +kernel
theorem dX9_look_6 : decode cX9_look 6 = .ok (.iconst 0, 1) := by decide +kernel
theorem dX9_look_7 : decode cX9_look 7 = .ok (.putfield 61, 3) := by decide +kernel
theorem dX9_look_10 : decode cX9_look 10 = .ok (.aload_n 0, 1) := by decide +kernel
theorem dX9_look_11 : decode cX9_look 11 = .ok (.iconst 0, 1) := by decide +kernel
theorem dX9_look_12 : decode cX9_look 12 = .ok (.putfield 65, 3) := by decide +kernel
theorem dX9_look_15 : decode cX9_look 15 = .ok (.aload_n 0, 1) := by decide +kernel
theorem dX9_look_16 : decode cX9_look 16 = .ok (.iconst 0, 1) := by decide +kernel
theorem dX9_look_17 : decode cX9_look 17 = .ok (.putfield 68, 3) := by decide +kernel
theorem dX9_look_20 : decode cX9_look 20 = .ok (.aload_n 0, 1) := by decide +kernel
theorem dX9_look_21 : decode cX9_look 21 = .ok (.getfield 28, 3) := by decide +kernel
theorem dX9_look_24 : decode cX9_look 24 = .ok (.iconst 3, 1) := by decide +kernel
theorem dX9_look_25 : decode cX9_look 25 = .ok (.iand, 1) := by decide +kernel
theorem dX9_look_26 : decode cX9_look 26 = .ok (.ifCond .eq 12, 3) := by decide +kernel
theorem dX9_look_29 : decode cX9_look 29 = .ok (.aload_n 0, 1) := by decide +kernel
theorem dX9_look_30 : decode cX9_look 30 = .ok (.bipush 12, 2) := by decide +kernel
theorem dX9_look_32 : decode cX9_look 32 = .ok (.putfield 68, 3) := by decide +kernel
theorem dX9_look_35 : decode cX9_look 35 = .ok (.goto 48, 3) := by decide +kernel
theorem dX9_look_38 : decode cX9_look 38 = .ok (.aload_n 0, 1) := by decide +kernel
theorem dX9_look_39 : decode cX9_look 39 = .ok (.aload_n 0, 1) := by decide +kernel
theorem dX9_look_40 : decode cX9_look 40 = .ok (.getfield 28, 3) := by decide +kernel
theorem dX9_look_43 : decode cX9_look 43 = .ok (.ldc2_w 71, 3) := by decide +kernel
theorem dX9_look_46 : decode cX9_look 46 = .ok (.invokevirtual 73, 3) := by decide +kernel
theorem dX9_look_49 : decode cX9_look 49 = .ok (.ifCond .ne 12, 3) := by decide +kernel
theorem dX9_look_52 : decode cX9_look 52 = .ok (.aload_n 0, 1) := by decide +kernel
theorem dX9_look_53 : decode cX9_look 53 = .ok (.bipush 13, 2) := by decide +kernel
theorem dX9_look_55 : decode cX9_look 55 = .ok (.putfield 68, 3) := by decide +kernel
theorem dX9_look_58 : decode cX9_look 58 = .ok (.goto 25, 3) := by decide +kernel
theorem dX9_look_61 : decode cX9_look 61 = .ok (.aload_n 0, 1) := by decide +kernel
theorem dX9_look_62 : decode cX9_look 62 = .ok (.aload_n 0, 1) := by decide +kernel
theorem dX9_look_63 : decode cX9_look 63 = .ok (.getfield 28, 3) := by decide +kernel
theorem dX9_look_66 : decode cX9_look 66 = .ok (.iconst 4, 1) := by decide +kernel
theorem dX9_look_67 : decode cX9_look 67 = .ok (.iadd, 1) := by decide +kernel
theorem dX9_look_68 : decode cX9_look 68 = .ok (.putfield 77, 3) := by decide +kernel
theorem dX9_look_71 : decode cX9_look 71 = .ok (.aload_n 0, 1) := by decide +kernel
theorem dX9_look_72 : decode cX9_look 72 = .ok (.aload_n 0, 1) := by decide +kernel
theorem dX9_look_73 : decode cX9_look 73 = .ok (.aload_n 0, 1) := by decide +kernel
theorem dX9_look_74 : decode cX9_look 74 = .ok (.getfield 28, 3) := by decide +kernel
theorem dX9_look_77 : decode cX9_look 77 = .ok (.invokevirtual 54, 3) := by decide +kernel
theorem dX9_look_80 : decode cX9_look 80 = .ok (.invokevirtual 80, 3) := by decide +kernel
theorem dX9_look_83 : decode cX9_look 83 = .ok (.return_, 1) := by decide +kernel
theorem dX9_decode_0 : decode cX9_decode 0 = .ok (.aload_n 0, 1) := by decide +kernel
theorem dX9_decode_1 : decode cX9_decode 1 = .ok (.getfield 9, 3) := by decide +kernel
theorem dX9_decode_4 : decode cX9_decode 4 = .ok (.iload_n 1, 1) := by decide +kernel
theorem dX9_decode_5 : decode cX9_decode 5 = .ok (.bipush 15, 2) := by decide +kernel
theorem dX9_decode_7 : decode cX9_decode 7 = .ok (.iconst 5, 1) := by decide +kernel
theorem dX9_decode_8 : decode cX9_decode 8 = .ok (.invokestatic 84, 3) := by decide +kernel
theorem dX9_decode_11 : decode cX9_decode 11 = .ok (.iaload, 1) := by decide +kernel
theorem dX9_decode_12 : decode cX9_decode 12 = .ok (.istore_n 2, 1) := by decide +kernel
theorem dX9_decode_13 : decode cX9_decode 13 = .ok (.aload_n 0, 1) := by decide +kernel
theorem dX9_decode_14 : decode cX9_decode 14 = .ok (.getfield 9, 3) := by decide +kernel
theorem dX9_decode_17 : decode cX9_decode 17 = .ok (.iload_n 1, 1) := by decide +kernel
theorem dX9_decode_18 : decode cX9_decode 18 = .ok (.bipush 20, 2) := by decide +kernel
theorem dX9_decode_20 : decode cX9_decode 20 = .ok (.iconst 5, 1) := by decide +kernel
theorem dX9_decode_21 : decode cX9_decode 21 = .ok (.invokestatic 84, 3) := by decide +kernel
theorem dX9_decode_24 : decode cX9_decode 24 = .ok (.iaload, 1) := by decide +kernel
theorem dX9_decode_25 : decode cX9_decode 25 = .ok (.istore_n 3, 1) := by decide +kernel
theorem dX9_decode_26 : decode cX9_decode 26 = .ok (.iload_n 1, 1) := by decide +kernel
theorem dX9_decode_27 : decode cX9_decode 27 = .ok (.bipush 12, 2) := by decide +kernel
theorem dX9_decode_29 : decode cX9_decode 29 = .ok (.iconst 3, 1) := by decide +kernel
theorem dX9_decode_30 : decode cX9_decode 30 = .ok (.invokestatic 84, 3) := by decide +kernel
theorem dX9_decode_33 : decode cX9_decode 33 = .ok (.istore 4, 2) := by decide +kernel
theorem dX9_decode_35 : decode cX9_decode 35 = .ok (.iload_n 1, 1) := by decide +kernel
theorem dX9_decode_36 : decode cX9_decode 36 = .ok (.bipush 25, 2) := by decide +kernel
theorem dX9_decode_38 : decode cX9_decode 38 = .ok (.bipush 7, 2) := by decide +kernel
theorem dX9_decode_40 : decode cX9_decode 40 = .ok (.invokestatic 84, 3) := by decide +kernel
theorem dX9_decode_43 : decode cX9_decode 43 = .ok (.istore 5, 2) := by decide +kernel
theorem dX9_decode_45 : decode cX9_decode 45 = .ok (.iload_n 1, 1) := by decide +kernel
theorem dX9_decode_46 : decode cX9_decode 46 = .ok (.bipush 20, 2) := by decide +kernel
theorem dX9_decode_48 : decode cX9_decode 48 = .ok (.ishr, 1) := by decide +kernel
theorem dX9_decode_49 : decode cX9_decode 49 = .ok (.istore 6, 2) := by decide +kernel
theorem dX9_decode_51 : decode cX9_decode 51 = .ok (.iload_n 1, 1) := by decide +kernel
theorem dX9_decode_52 : decode cX9_decode 52 = .ok (.bipush 127, 2) := by decide +kernel
theorem dX9_decode_54 : decode cX9_decode 54 = .ok (.iand, 1) := by decide +kernel
theorem dX9_decode_55 : decode cX9_decode 55 = .ok (.lookupswitch 482 #[(3, 238), (15, 446), (19, 278), (23, 109), (35, 251), (51, 358), (55, 97), (99, 226), (103, 191), (111, 126), (115, 460)], 97) := by decide +kernel
theorem dX9_decode_152 : decode cX9_decode 152 = .ok (.aload_n 0, 1) := by decide +kernel
theorem dX9_decode_153 : decode cX9_decode 153 = .ok (.iload_n 1, 1) := by decide +kernel
theorem dX9_decode_154 : decode cX9_decode 154 = .ok (.sipush (-4096), 3) := by decide +kernel
theorem dX9_decode_157 : decode cX9_decode 157 = .ok (.iand, 1) := by decide +kernel
theorem dX9_decode_158 : decode cX9_decode 158 = .ok (.invokevirtual 88, 3) := by decide +kernel
theorem dX9_decode_161 : decode cX9_decode 161 = .ok (.goto 382, 3) := by decide +kernel
theorem dX9_decode_164 : decode cX9_decode 164 = .ok (.aload_n 0, 1) := by decide +kernel
theorem dX9_decode_165 : decode cX9_decode 165 = .ok (.aload_n 0, 1) := by decide +kernel
theorem dX9_decode_166 : decode cX9_decode 166 = .ok (.getfield 28, 3) := by decide +kernel
theorem dX9_decode_169 : decode cX9_decode 169 = .ok (.iload_n 1, 1) := by decide +kernel
theorem dX9_decode_170 : decode cX9_decode 170 = .ok (.sipush (-4096), 3) := by decide +kernel
theorem dX9_decode_173 : decode cX9_decode 173 = .ok (.iand, 1) := by decide +kernel
theorem dX9_decode_174 : decode cX9_decode 174 = .ok (.iadd, 1) := by decide +kernel
theorem dX9_decode_175 : decode cX9_decode 175 = .ok (.invokevirtual 88, 3) := by decide +kernel
theorem dX9_decode_178 : decode cX9_decode 178 = .ok (.goto 365, 3) := by decide +kernel
theorem dX9_decode_181 : decode cX9_decode 181 = .ok (.aload_n 0, 1) := by decide +kernel
theorem dX9_decode_182 : decode cX9_decode 182 = .ok (.aload_n 0, 1) := by decide +kernel
theorem dX9_decode_183 : decode cX9_decode 183 = .ok (.getfield 28, 3) := by decide +kernel
theorem dX9_decode_186 : decode cX9_decode 186 = .ok (.iconst 4, 1) := by decide +kernel
theorem dX9_decode_187 : decode cX9_decode 187 = .ok (.iadd, 1) := by decide +kernel
theorem dX9_decode_188 : decode cX9_decode 188 = .ok (.invokevirtual 88, 3) := by decide +kernel
theorem dX9_decode_191 : decode cX9_decode 191 = .ok (.aload_n 0, 1) := by decide +kernel
theorem dX9_decode_192 : decode cX9_decode 192 = .ok (.aload_n 0, 1) := by decide +kernel
theorem dX9_decode_193 : decode cX9_decode 193 = .ok (.getfield 28, 3) := by decide +kernel
theorem dX9_decode_196 : decode cX9_decode 196 = .ok (.iload_n 1, 1) := by decide +kernel
theorem dX9_decode_197 : decode cX9_decode 197 = .ok (.bipush 31, 2) := by decide +kernel
theorem dX9_decode_199 : decode cX9_decode 199 = .ok (.ishr, 1) := by decide +kernel
theorem dX9_decode_200 : decode cX9_decode 200 = .ok (.ldc 91, 2) := by decide +kernel
theorem dX9_decode_202 : decode cX9_decode 202 = .ok (.imul, 1) := by decide +kernel
theorem dX9_decode_203 : decode cX9_decode 203 = .ok (.iload_n 1, 1) := by decide +kernel
theorem dX9_decode_204 : decode cX9_decode 204 = .ok (.bipush 12, 2) := by decide +kernel
theorem dX9_decode_206 : decode cX9_decode 206 = .ok (.bipush 8, 2) := by decide +kernel
theorem dX9_decode_208 : decode cX9_decode 208 = .ok (.invokestatic 84, 3) := by decide +kernel
theorem dX9_decode_211 : decode cX9_decode 211 = .ok (.sipush 4096, 3) := by decide +kernel
theorem dX9_decode_214 : decode cX9_decode 214 = .ok (.imul, 1) := by decide +kernel
theorem dX9_decode_215 : decode cX9_decode 215 = .ok (.iadd, 1) := by decide +kernel
theorem dX9_decode_216 : decode cX9_decode 216 = .ok (.iload_n 1, 1) := by decide +kernel
theorem dX9_decode_217 : decode cX9_decode 217 = .ok (.bipush 20, 2) := by decide +kernel
theorem dX9_decode_219 : decode cX9_decode 219 = .ok (.iconst 1, 1) := by decide +kernel
theorem dX9_decode_220 : decode cX9_decode 220 = .ok (.invokestatic 84, 3) := by decide +kernel
theorem dX9_decode_223 : decode cX9_decode 223 = .ok (.sipush 2048, 3) := by decide +kernel
theorem dX9_decode_226 : decode cX9_decode 226 = .ok (.imul, 1) := by decide +kernel
theorem dX9_decode_227 : decode cX9_decode 227 = .ok (.iadd, 1) := by decide +kernel
theorem dX9_decode_228 : decode cX9_decode 228 = .ok (.iload_n 1, 1) := by decide +kernel
theorem dX9_decode_229 : decode cX9_decode 229 = .ok (.bipush 21, 2) := by decide +kernel
theorem dX9_decode_231 : decode cX9_decode 231 = .ok (.bipush 10, 2) := by decide +kernel
theorem dX9_decode_233 : decode cX9_decode 233 = .ok (.invokestatic 84, 3) := by decide +kernel
theorem dX9_decode_236 : decode cX9_decode 236 = .ok (.iconst 2, 1) := by decide +kernel
theorem dX9_decode_237 : decode cX9_decode 237 = .ok (.imul, 1) := by decide +kernel
theorem dX9_decode_238 : decode cX9_decode 238 = .ok (.iadd, 1) := by decide +kernel
theorem dX9_decode_239 : decode cX9_decode 239 = .ok (.iadd, 1) := by decide +kernel
theorem dX9_decode_240 : decode cX9_decode 240 = .ok (.invokevirtual 92, 3) := by decide +kernel
theorem dX9_decode_243 : decode cX9_decode 243 = .ok (.goto 300, 3) := by decide +kernel
theorem dX9_decode_246 : decode cX9_decode 246 = .ok (.iload 4, 2) := by decide +kernel
theorem dX9_decode_248 : decode cX9_decode 248 = .ok (.ifCond .le 9, 3) := by decide +kernel
theorem dX9_decode_251 : decode cX9_decode 251 = .ok (.aload_n 0, 1) := by decide +kernel
theorem dX9_decode_252 : decode cX9_decode 252 = .ok (.bipush 11, 2) := by decide +kernel
theorem dX9_decode_254 : decode cX9_decode 254 = .ok (.putfield 68, 3) := by decide +kernel
theorem dX9_decode_257 : decode cX9_decode 257 = .ok (.aload_n 0, 1) := by decide +kernel
theorem dX9_decode_258 : decode cX9_decode 258 = .ok (.aload_n 0, 1) := by decide +kernel
theorem dX9_decode_259 : decode cX9_decode 259 = .ok (.getfield 28, 3) := by decide +kernel
theorem dX9_decode_262 : decode cX9_decode 262 = .ok (.iconst 4, 1) := by decide +kernel
theorem dX9_decode_263 : decode cX9_decode 263 = .ok (.iadd, 1) := by decide +kernel
theorem dX9_decode_264 : decode cX9_decode 264 = .ok (.invokevirtual 88, 3) := by decide +kernel
theorem dX9_decode_267 : decode cX9_decode 267 = .ok (.aload_n 0, 1) := by decide +kernel
theorem dX9_decode_268 : decode cX9_decode 268 = .ok (.iload_n 2, 1) := by decide +kernel
theorem dX9_decode_269 : decode cX9_decode 269 = .ok (.iload 6, 2) := by decide +kernel
theorem dX9_decode_271 : decode cX9_decode 271 = .ok (.iadd, 1) := by decide +kernel
theorem dX9_decode_272 : decode cX9_decode 272 = .ok (.bipush (-2), 2) := by decide +kernel
theorem dX9_decode_274 : decode cX9_decode 274 = .ok (.iand, 1) := by decide +kernel
theorem dX9_decode_275 : decode cX9_decode 275 = .ok (.invokevirtual 92, 3) := by decide +kernel
theorem dX9_decode_278 : decode cX9_decode 278 = .ok (.goto 265, 3) := by decide +kernel
theorem dX9_decode_281 : decode cX9_decode 281 = .ok (.aload_n 0, 1) := by decide +kernel
theorem dX9_decode_282 : decode cX9_decode 282 = .ok (.iload_n 1, 1) := by decide +kernel
theorem dX9_decode_283 : decode cX9_decode 283 = .ok (.iload_n 2, 1) := by decide +kernel
theorem dX9_decode_284 : decode cX9_decode 284 = .ok (.iload_n 3, 1) := by decide +kernel
theorem dX9_decode_285 : decode cX9_decode 285 = .ok (.iload 4, 2) := by decide +kernel
theorem dX9_decode_287 : decode cX9_decode 287 = .ok (.invokevirtual 95, 3) := by decide +kernel
theorem dX9_decode_290 : decode cX9_decode 290 = .ok (.goto 253, 3) := by decide +kernel
theorem dX9_decode_293 : decode cX9_decode 293 = .ok (.aload_n 0, 1) := by decide +kernel
theorem dX9_decode_294 : decode cX9_decode 294 = .ok (.iload_n 2, 1) := by decide +kernel
theorem dX9_decode_295 : decode cX9_decode 295 = .ok (.iload 6, 2) := by decide +kernel
theorem dX9_decode_297 : decode cX9_decode 297 = .ok (.iadd, 1) := by decide +kernel
theorem dX9_decode_298 : decode cX9_decode 298 = .ok (.iload 4, 2) := by decide +kernel
theorem dX9_decode_300 : decode cX9_decode 300 = .ok (.invokevirtual 99, 3) := by decide +kernel
theorem dX9_decode_303 : decode cX9_decode 303 = .ok (.goto 240, 3) := by decide +kernel
theorem dX9_decode_306 : decode cX9_decode 306 = .ok (.aload_n 0, 1) := by decide +kernel
theorem dX9_decode_307 : decode cX9_decode 307 = .ok (.iload_n 2, 1) := by decide +kernel
theorem dX9_decode_308 : decode cX9_decode 308 = .ok (.iload_n 1, 1) := by decide +kernel
theorem dX9_decode_309 : decode cX9_decode 309 = .ok (.bipush 25, 2) := by decide +kernel
theorem dX9_decode_311 : decode cX9_decode 311 = .ok (.ishr, 1) := by decide +kernel
theorem dX9_decode_312 : decode cX9_decode 312 = .ok (.bipush 32, 2) := by decide +kernel
theorem dX9_decode_314 : decode cX9_decode 314 = .ok (.imul, 1) := by decide +kernel
theorem dX9_decode_315 : decode cX9_decode 315 = .ok (.iload_n 1, 1) := by decide +kernel
theorem dX9_decode_316 : decode cX9_decode 316 = .ok (.bipush 7, 2) := by decide +kernel
theorem dX9_decode_318 : decode cX9_decode 318 = .ok (.iconst 5, 1) := by decide +kernel
theorem dX9_decode_319 : decode cX9_decode 319 = .ok (.invokestatic 84, 3) := by decide +kernel
theorem dX9_decode_322 : decode cX9_decode 322 = .ok (.iadd, 1) := by decide +kernel
theorem dX9_decode_323 : decode cX9_decode 323 = .ok (.iadd, 1) := by decide +kernel
theorem dX9_decode_324 : decode cX9_decode 324 = .ok (.iload_n 3, 1) := by decide +kernel
theorem dX9_decode_325 : decode cX9_decode 325 = .ok (.iload 4, 2) := by decide +kernel
theorem dX9_decode_327 : decode cX9_decode 327 = .ok (.invokevirtual 103, 3) := by decide +kernel
theorem dX9_decode_330 : decode cX9_decode 330 = .ok (.goto 213, 3) := by decide +kernel
theorem dX9_decode_333 : decode cX9_decode 333 = .ok (.iload 4, 2) := by decide +kernel
theorem dX9_decode_335 : decode cX9_decode 335 = .ok (.iconst 1, 1) := by decide +kernel
theorem dX9_decode_336 : decode cX9_decode 336 = .ok (.if_icmp .ne 8, 3) := by decide +kernel
theorem dX9_decode_339 : decode cX9_decode 339 = .ok (.iload 5, 2) := by decide +kernel
theorem dX9_decode_341 : decode cX9_decode 341 = .ok (.ifCond .gt 21, 3) := by decide +kernel
theorem dX9_decode_344 : decode cX9_decode 344 = .ok (.iload 4, 2) := by decide +kernel
theorem dX9_decode_346 : decode cX9_decode 346 = .ok (.iconst 5, 1) := by decide +kernel
theorem dX9_decode_347 : decode cX9_decode 347 = .ok (.if_icmp .ne 21, 3) := by decide +kernel
theorem dX9_decode_350 : decode cX9_decode 350 = .ok (.iload 5, 2) := by decide +kernel
theorem dX9_decode_352 : decode cX9_decode 352 = .ok (.ifCond .eq 16, 3) := by decide +kernel
theorem dX9_decode_355 : decode cX9_decode 355 = .ok (.iload 5, 2) := by decide +kernel
theorem dX9_decode_357 : decode cX9_decode 357 = .ok (.bipush 32, 2) := by decide +kernel
theorem dX9_decode_359 : decode cX9_decode 359 = .ok (.if_icmp .eq 9, 3) := by decide +kernel
theorem dX9_decode_362 : decode cX9_decode 362 = .ok (.aload_n 0, 1) := by decide +kernel
theorem dX9_decode_363 : decode cX9_decode 363 = .ok (.bipush 11, 2) := by decide +kernel
theorem dX9_decode_365 : decode cX9_decode 365 = .ok (.putfield 68, 3) := by decide +kernel
theorem dX9_decode_368 : decode cX9_decode 368 = .ok (.aload_n 0, 1) := by decide +kernel
theorem dX9_decode_369 : decode cX9_decode 369 = .ok (.iload 4, 2) := by decide +kernel
theorem dX9_decode_371 : decode cX9_decode 371 = .ok (.iconst 1, 1) := by decide +kernel
theorem dX9_decode_372 : decode cX9_decode 372 = .ok (.if_icmp .eq 9, 3) := by decide +kernel
theorem dX9_decode_375 : decode cX9_decode 375 = .ok (.iload 4, 2) := by decide +kernel
theorem dX9_decode_377 : decode cX9_decode 377 = .ok (.iconst 5, 1) := by decide +kernel
theorem dX9_decode_378 : decode cX9_decode 378 = .ok (.if_icmp .ne 21, 3) := by decide +kernel
theorem dX9_decode_381 : decode cX9_decode 381 = .ok (.iload_n 2, 1) := by decide +kernel
theorem dX9_decode_382 : decode cX9_decode 382 = .ok (.iload_n 1, 1) := by decide +kernel
theorem dX9_decode_383 : decode cX9_decode 383 = .ok (.bipush 20, 2) := by decide +kernel
theorem dX9_decode_385 : decode cX9_decode 385 = .ok (.iconst 5, 1) := by decide +kernel
theorem dX9_decode_386 : decode cX9_decode 386 = .ok (.invokestatic 84, 3) := by decide +kernel
theorem dX9_decode_389 : decode cX9_decode 389 = .ok (.iload 4, 2) := by decide +kernel
theorem dX9_decode_391 : decode cX9_decode 391 = .ok (.iload 5, 2) := by decide +kernel
theorem dX9_decode_393 : decode cX9_decode 393 = .ok (.invokestatic 107, 3) := by decide +kernel
theorem dX9_decode_396 : decode cX9_decode 396 = .ok (.goto 11, 3) := by decide +kernel
theorem dX9_decode_399 : decode cX9_decode 399 = .ok (.iload_n 2, 1) := by decide +kernel
theorem dX9_decode_400 : decode cX9_decode 400 = .ok (.iload 6, 2) := by decide +kernel
theorem dX9_decode_402 : decode cX9_decode 402 = .ok (.iload 4, 2) := by decide +kernel
theorem dX9_decode_404 : decode cX9_decode 404 = .ok (.invokestatic 111, 3) := by decide +kernel
theorem dX9_decode_407 : decode cX9_decode 407 = .ok (.invokevirtual 88, 3) := by decide +kernel
theorem dX9_decode_410 : decode cX9_decode 410 = .ok (.goto 133, 3) := by decide +kernel
theorem dX9_decode_413 : decode cX9_decode 413 = .ok (.iload 5, 2) := by decide +kernel
theorem dX9_decode_415 : decode cX9_decode 415 = .ok (.ifCond .eq 27, 3) := by decide +kernel
theorem dX9_decode_418 : decode cX9_decode 418 = .ok (.iload 5, 2) := by decide +kernel
theorem dX9_decode_420 : decode cX9_decode 420 = .ok (.bipush 32, 2) := by decide +kernel
theorem dX9_decode_422 : decode cX9_decode 422 = .ok (.if_icmp .ne 14, 3) := by decide +kernel
theorem dX9_decode_425 : decode cX9_decode 425 = .ok (.iload 4, 2) := by decide +kernel
theorem dX9_decode_427 : decode cX9_decode 427 = .ok (.ifCond .eq 15, 3) := by decide +kernel
theorem dX9_decode_430 : decode cX9_decode 430 = .ok (.iload 4, 2) := by decide +kernel
theorem dX9_decode_432 : decode cX9_decode 432 = .ok (.iconst 5, 1) := by decide +kernel
theorem dX9_decode_433 : decode cX9_decode 433 = .ok (.if_icmp .eq 9, 3) := by decide +kernel
theorem dX9_decode_436 : decode cX9_decode 436 = .ok (.aload_n 0, 1) := by decide +kernel
theorem dX9_decode_437 : decode cX9_decode 437 = .ok (.bipush 11, 2) := by decide +kernel
theorem dX9_decode_439 : decode cX9_decode 439 = .ok (.putfield 68, 3) := by decide +kernel
theorem dX9_decode_442 : decode cX9_decode 442 = .ok (.aload_n 0, 1) := by decide +kernel
theorem dX9_decode_443 : decode cX9_decode 443 = .ok (.iload 4, 2) := by decide +kernel
theorem dX9_decode_445 : decode cX9_decode 445 = .ok (.iconst 1, 1) := by decide +kernel
theorem dX9_decode_446 : decode cX9_decode 446 = .ok (.if_icmp .eq 9, 3) := by decide +kernel
theorem dX9_decode_449 : decode cX9_decode 449 = .ok (.iload 4, 2) := by decide +kernel
theorem dX9_decode_451 : decode cX9_decode 451 = .ok (.iconst 5, 1) := by decide +kernel
theorem dX9_decode_452 : decode cX9_decode 452 = .ok (.if_icmp .ne 18, 3) := by decide +kernel
theorem dX9_decode_455 : decode cX9_decode 455 = .ok (.iload_n 2, 1) := by decide +kernel
theorem dX9_decode_456 : decode cX9_decode 456 = .ok (.iload_n 3, 1) := by decide +kernel
theorem dX9_decode_457 : decode cX9_decode 457 = .ok (.bipush 31, 2) := by decide +kernel
theorem dX9_decode_459 : decode cX9_decode 459 = .ok (.iand, 1) := by decide +kernel
theorem dX9_decode_460 : decode cX9_decode 460 = .ok (.iload 4, 2) := by decide +kernel
theorem dX9_decode_462 : decode cX9_decode 462 = .ok (.iload 5, 2) := by decide +kernel
theorem dX9_decode_464 : decode cX9_decode 464 = .ok (.invokestatic 107, 3) := by decide +kernel
theorem dX9_decode_467 : decode cX9_decode 467 = .ok (.goto 28, 3) := by decide +kernel
theorem dX9_decode_470 : decode cX9_decode 470 = .ok (.iload 4, 2) := by decide +kernel
theorem dX9_decode_472 : decode cX9_decode 472 = .ok (.ifCond .ne 16, 3) := by decide +kernel
theorem dX9_decode_475 : decode cX9_decode 475 = .ok (.iload 5, 2) := by decide +kernel
theorem dX9_decode_477 : decode cX9_decode 477 = .ok (.bipush 32, 2) := by decide +kernel
theorem dX9_decode_479 : decode cX9_decode 479 = .ok (.if_icmp .ne 9, 3) := by decide +kernel
theorem dX9_decode_482 : decode cX9_decode 482 = .ok (.iload_n 2, 1) := by decide +kernel
theorem dX9_decode_483 : decode cX9_decode 483 = .ok (.iload_n 3, 1) := by decide +kernel
theorem dX9_decode_484 : decode cX9_decode 484 = .ok (.isub, 1) := by decide +kernel
theorem dX9_decode_485 : decode cX9_decode 485 = .ok (.goto 10, 3) := by decide +kernel
theorem dX9_decode_488 : decode cX9_decode 488 = .ok (.iload_n 2, 1) := by decide +kernel
theorem dX9_decode_489 : decode cX9_decode 489 = .ok (.iload_n 3, 1) := by decide +kernel
theorem dX9_decode_490 : decode cX9_decode 490 = .ok (.iload 4, 2) := by decide +kernel
theorem dX9_decode_492 : decode cX9_decode 492 = .ok (.invokestatic 111, 3) := by decide +kernel
theorem dX9_decode_495 : decode cX9_decode 495 = .ok (.invokevirtual 88, 3) := by decide +kernel
theorem dX9_decode_498 : decode cX9_decode 498 = .ok (.goto 45, 3) := by decide +kernel
theorem dX9_decode_501 : decode cX9_decode 501 = .ok (.iload 4, 2) := by decide +kernel
theorem dX9_decode_503 : decode cX9_decode 503 = .ok (.ifCond .le 40, 3) := by decide +kernel
theorem dX9_decode_506 : decode cX9_decode 506 = .ok (.aload_n 0, 1) := by decide +kernel
theorem dX9_decode_507 : decode cX9_decode 507 = .ok (.bipush 11, 2) := by decide +kernel
theorem dX9_decode_509 : decode cX9_decode 509 = .ok (.putfield 68, 3) := by decide +kernel
theorem dX9_decode_512 : decode cX9_decode 512 = .ok (.goto 31, 3) := by decide +kernel
theorem dX9_decode_515 : decode cX9_decode 515 = .ok (.iload_n 1, 1) := by decide +kernel
theorem dX9_decode_516 : decode cX9_decode 516 = .ok (.bipush 115, 2) := by decide +kernel
theorem dX9_decode_518 : decode cX9_decode 518 = .ok (.if_icmp .ne 10, 3) := by decide +kernel
theorem dX9_decode_521 : decode cX9_decode 521 = .ok (.aload_n 0, 1) := by decide +kernel
theorem dX9_decode_522 : decode cX9_decode 522 = .ok (.invokevirtual 114, 3) := by decide +kernel
theorem dX9_decode_525 : decode cX9_decode 525 = .ok (.goto 18, 3) := by decide +kernel
theorem dX9_decode_528 : decode cX9_decode 528 = .ok (.aload_n 0, 1) := by decide +kernel
theorem dX9_decode_529 : decode cX9_decode 529 = .ok (.bipush 11, 2) := by decide +kernel
theorem dX9_decode_531 : decode cX9_decode 531 = .ok (.putfield 68, 3) := by decide +kernel
theorem dX9_decode_534 : decode cX9_decode 534 = .ok (.goto 9, 3) := by decide +kernel
theorem dX9_decode_537 : decode cX9_decode 537 = .ok (.aload_n 0, 1) := by decide +kernel
theorem dX9_decode_538 : decode cX9_decode 538 = .ok (.bipush 11, 2) := by decide +kernel
theorem dX9_decode_540 : decode cX9_decode 540 = .ok (.putfield 68, 3) := by decide +kernel
theorem dX9_decode_543 : decode cX9_decode 543 = .ok (.return_, 1) := by decide +kernel
theorem dX9_gives_0 : decode cX9_gives 0 = .ok (.aload_n 0, 1) := by decide +kernel
theorem dX9_gives_1 : decode cX9_gives 1 = .ok (.iconst 1, 1) := by decide +kernel
theorem dX9_gives_2 : decode cX9_gives 2 = .ok (.putfield 61, 3) := by decide +kernel
theorem dX9_gives_5 : decode cX9_gives 5 = .ok (.aload_n 0, 1) := by decide +kernel
theorem dX9_gives_6 : decode cX9_gives 6 = .ok (.iload_n 1, 1) := by decide +kernel
theorem dX9_gives_7 : decode cX9_gives 7 = .ok (.putfield 117, 3) := by decide +kernel
theorem dX9_gives_10 : decode cX9_gives 10 = .ok (.return_, 1) := by decide +kernel
theorem dX9_goes_0 : decode cX9_goes 0 = .ok (.aload_n 0, 1) := by decide +kernel
theorem dX9_goes_1 : decode cX9_goes 1 = .ok (.iload_n 1, 1) := by decide +kernel
theorem dX9_goes_2 : decode cX9_goes 2 = .ok (.putfield 77, 3) := by decide +kernel
theorem dX9_goes_5 : decode cX9_goes 5 = .ok (.aload_n 0, 1) := by decide +kernel
theorem dX9_goes_6 : decode cX9_goes 6 = .ok (.getfield 68, 3) := by decide +kernel
theorem dX9_goes_9 : decode cX9_goes 9 = .ok (.ifCond .ne 15, 3) := by decide +kernel
theorem dX9_goes_12 : decode cX9_goes 12 = .ok (.iload_n 1, 1) := by decide +kernel
theorem dX9_goes_13 : decode cX9_goes 13 = .ok (.iconst 3, 1) := by decide +kernel
theorem dX9_goes_14 : decode cX9_goes 14 = .ok (.iand, 1) := by decide +kernel
theorem dX9_goes_15 : decode cX9_goes 15 = .ok (.ifCond .eq 9, 3) := by decide +kernel
theorem dX9_goes_18 : decode cX9_goes 18 = .ok (.aload_n 0, 1) := by decide +kernel
theorem dX9_goes_19 : decode cX9_goes 19 = .ok (.bipush 12, 2) := by decide +kernel
theorem dX9_goes_21 : decode cX9_goes 21 = .ok (.putfield 68, 3) := by decide +kernel
theorem dX9_goes_24 : decode cX9_goes 24 = .ok (.return_, 1) := by decide +kernel
theorem dX9_isBelow_0 : decode cX9_isBelow 0 = .ok (.iload_n 0, 1) := by decide +kernel
theorem dX9_isBelow_1 : decode cX9_isBelow 1 = .ok (.i2l, 1) := by decide +kernel
theorem dX9_isBelow_2 : decode cX9_isBelow 2 = .ok (.ldc2_w 40, 3) := by decide +kernel
theorem dX9_isBelow_5 : decode cX9_isBelow 5 = .ok (.land, 1) := by decide +kernel
theorem dX9_isBelow_6 : decode cX9_isBelow 6 = .ok (.iload_n 1, 1) := by decide +kernel
theorem dX9_isBelow_7 : decode cX9_isBelow 7 = .ok (.i2l, 1) := by decide +kernel
theorem dX9_isBelow_8 : decode cX9_isBelow 8 = .ok (.ldc2_w 40, 3) := by decide +kernel
theorem dX9_isBelow_11 : decode cX9_isBelow 11 = .ok (.land, 1) := by decide +kernel
theorem dX9_isBelow_12 : decode cX9_isBelow 12 = .ok (.lcmp, 1) := by decide +kernel
theorem dX9_isBelow_13 : decode cX9_isBelow 13 = .ok (.ifCond .ge 7, 3) := by decide +kernel
theorem dX9_isBelow_16 : decode cX9_isBelow 16 = .ok (.iconst 1, 1) := by decide +kernel
theorem dX9_isBelow_17 : decode cX9_isBelow 17 = .ok (.goto 4, 3) := by decide +kernel
theorem dX9_isBelow_20 : decode cX9_isBelow 20 = .ok (.iconst 0, 1) := by decide +kernel
theorem dX9_isBelow_21 : decode cX9_isBelow 21 = .ok (.ireturn, 1) := by decide +kernel
theorem dX9_shifted_0 : decode cX9_shifted 0 = .ok (.iload_n 2, 1) := by decide +kernel
theorem dX9_shifted_1 : decode cX9_shifted 1 = .ok (.iconst 1, 1) := by decide +kernel
theorem dX9_shifted_2 : decode cX9_shifted 2 = .ok (.if_icmp .ne 9, 3) := by decide +kernel
theorem dX9_shifted_5 : decode cX9_shifted 5 = .ok (.iload_n 0, 1) := by decide +kernel
theorem dX9_shifted_6 : decode cX9_shifted 6 = .ok (.iload_n 1, 1) := by decide +kernel
theorem dX9_shifted_7 : decode cX9_shifted 7 = .ok (.ishl, 1) := by decide +kernel
theorem dX9_shifted_8 : decode cX9_shifted 8 = .ok (.goto 16, 3) := by decide +kernel
theorem dX9_shifted_11 : decode cX9_shifted 11 = .ok (.iload_n 3, 1) := by decide +kernel
theorem dX9_shifted_12 : decode cX9_shifted 12 = .ok (.ifCond .ne 9, 3) := by decide +kernel
theorem dX9_shifted_15 : decode cX9_shifted 15 = .ok (.iload_n 0, 1) := by decide +kernel
theorem dX9_shifted_16 : decode cX9_shifted 16 = .ok (.iload_n 1, 1) := by decide +kernel
theorem dX9_shifted_17 : decode cX9_shifted 17 = .ok (.iushr, 1) := by decide +kernel
theorem dX9_shifted_18 : decode cX9_shifted 18 = .ok (.goto 6, 3) := by decide +kernel
theorem dX9_shifted_21 : decode cX9_shifted 21 = .ok (.iload_n 0, 1) := by decide +kernel
theorem dX9_shifted_22 : decode cX9_shifted 22 = .ok (.iload_n 1, 1) := by decide +kernel
theorem dX9_shifted_23 : decode cX9_shifted 23 = .ok (.ishr, 1) := by decide +kernel
theorem dX9_shifted_24 : decode cX9_shifted 24 = .ok (.ireturn, 1) := by decide +kernel
theorem dX9_worked_0 : decode cX9_worked 0 = .ok (.iload_n 2, 1) := by decide +kernel
theorem dX9_worked_1 : decode cX9_worked 1 = .ok (.tableswitch 80 0 6 #[43, 80, 47, 58, 72, 80, 76], 43) := by decide +kernel
theorem dX9_worked_44 : decode cX9_worked 44 = .ok (.iload_n 0, 1) := by decide +kernel
theorem dX9_worked_45 : decode cX9_worked 45 = .ok (.iload_n 1, 1) := by decide +kernel
theorem dX9_worked_46 : decode cX9_worked 46 = .ok (.iadd, 1) := by decide +kernel
theorem dX9_worked_47 : decode cX9_worked 47 = .ok (.ireturn, 1) := by decide +kernel
theorem dX9_worked_48 : decode cX9_worked 48 = .ok (.iload_n 0, 1) := by decide +kernel
theorem dX9_worked_49 : decode cX9_worked 49 = .ok (.iload_n 1, 1) := by decide +kernel
theorem dX9_worked_50 : decode cX9_worked 50 = .ok (.if_icmp .ge 7, 3) := by decide +kernel
theorem dX9_worked_53 : decode cX9_worked 53 = .ok (.iconst 1, 1) := by decide +kernel
theorem dX9_worked_54 : decode cX9_worked 54 = .ok (.goto 4, 3) := by decide +kernel
theorem dX9_worked_57 : decode cX9_worked 57 = .ok (.iconst 0, 1) := by decide +kernel
theorem dX9_worked_58 : decode cX9_worked 58 = .ok (.ireturn, 1) := by decide +kernel
theorem dX9_worked_59 : decode cX9_worked 59 = .ok (.iload_n 0, 1) := by decide +kernel
theorem dX9_worked_60 : decode cX9_worked 60 = .ok (.iload_n 1, 1) := by decide +kernel
theorem dX9_worked_61 : decode cX9_worked 61 = .ok (.invokestatic 120, 3) := by decide +kernel
theorem dX9_worked_64 : decode cX9_worked 64 = .ok (.ifCond .eq 7, 3) := by decide +kernel
theorem dX9_worked_67 : decode cX9_worked 67 = .ok (.iconst 1, 1) := by decide +kernel
theorem dX9_worked_68 : decode cX9_worked 68 = .ok (.goto 4, 3) := by decide +kernel
theorem dX9_worked_71 : decode cX9_worked 71 = .ok (.iconst 0, 1) := by decide +kernel
theorem dX9_worked_72 : decode cX9_worked 72 = .ok (.ireturn, 1) := by decide +kernel
theorem dX9_worked_73 : decode cX9_worked 73 = .ok (.iload_n 0, 1) := by decide +kernel
theorem dX9_worked_74 : decode cX9_worked 74 = .ok (.iload_n 1, 1) := by decide +kernel
theorem dX9_worked_75 : decode cX9_worked 75 = .ok (.ixor, 1) := by decide +kernel
theorem dX9_worked_76 : decode cX9_worked 76 = .ok (.ireturn, 1) := by decide +kernel
theorem dX9_worked_77 : decode cX9_worked 77 = .ok (.iload_n 0, 1) := by decide +kernel
theorem dX9_worked_78 : decode cX9_worked 78 = .ok (.iload_n 1, 1) := by decide +kernel
theorem dX9_worked_79 : decode cX9_worked 79 = .ok (.ior, 1) := by decide +kernel
theorem dX9_worked_80 : decode cX9_worked 80 = .ok (.ireturn, 1) := by decide +kernel
theorem dX9_worked_81 : decode cX9_worked 81 = .ok (.iload_n 0, 1) := by decide +kernel
theorem dX9_worked_82 : decode cX9_worked 82 = .ok (.iload_n 1, 1) := by decide +kernel
theorem dX9_worked_83 : decode cX9_worked 83 = .ok (.iand, 1) := by decide +kernel
theorem dX9_worked_84 : decode cX9_worked 84 = .ok (.ireturn, 1) := by decide +kernel
theorem dX9_branch_0 : decode cX9_branch 0 = .ok (.iload 4, 2) := by decide +kernel
theorem dX9_branch_2 : decode cX9_branch 2 = .ok (.iconst 2, 1) := by decide +kernel
theorem dX9_branch_3 : decode cX9_branch 3 = .ok (.if_icmp .eq 9, 3) := by decide +kernel
theorem dX9_branch_6 : decode cX9_branch 6 = .ok (.iload 4, 2) := by decide +kernel
theorem dX9_branch_8 : decode cX9_branch 8 = .ok (.iconst 3, 1) := by decide +kernel
theorem dX9_branch_9 : decode cX9_branch 9 = .ok (.if_icmp .ne 10, 3) := by decide +kernel
theorem dX9_branch_12 : decode cX9_branch 12 = .ok (.aload_n 0, 1) := by decide +kernel
theorem dX9_branch_13 : decode cX9_branch 13 = .ok (.bipush 11, 2) := by decide +kernel
theorem dX9_branch_15 : decode cX9_branch 15 = .ok (.putfield 68, 3) := by decide +kernel
theorem dX9_branch_18 : decode cX9_branch 18 = .ok (.return_, 1) := by decide +kernel
theorem dX9_branch_19 : decode cX9_branch 19 = .ok (.iload 4, 2) := by decide +kernel
theorem dX9_branch_21 : decode cX9_branch 21 = .ok (.iconst 2, 1) := by decide +kernel
theorem dX9_branch_22 : decode cX9_branch 22 = .ok (.if_icmp .ge 16, 3) := by decide +kernel
theorem dX9_branch_25 : decode cX9_branch 25 = .ok (.iload_n 2, 1) := by decide +kernel
theorem dX9_branch_26 : decode cX9_branch 26 = .ok (.iload_n 3, 1) := by decide +kernel
theorem dX9_branch_27 : decode cX9_branch 27 = .ok (.if_icmp .ne 7, 3) := by decide +kernel
theorem dX9_branch_30 : decode cX9_branch 30 = .ok (.iconst 1, 1) := by decide +kernel
theorem dX9_branch_31 : decode cX9_branch 31 = .ok (.goto 32, 3) := by decide +kernel
theorem dX9_branch_34 : decode cX9_branch 34 = .ok (.iconst 0, 1) := by decide +kernel
theorem dX9_branch_35 : decode cX9_branch 35 = .ok (.goto 28, 3) := by decide +kernel
theorem dX9_branch_38 : decode cX9_branch 38 = .ok (.iload 4, 2) := by decide +kernel
theorem dX9_branch_40 : decode cX9_branch 40 = .ok (.bipush 6, 2) := by decide +kernel
theorem dX9_branch_42 : decode cX9_branch 42 = .ok (.if_icmp .ge 16, 3) := by decide +kernel
theorem dX9_branch_45 : decode cX9_branch 45 = .ok (.iload_n 2, 1) := by decide +kernel
theorem dX9_branch_46 : decode cX9_branch 46 = .ok (.iload_n 3, 1) := by decide +kernel
theorem dX9_branch_47 : decode cX9_branch 47 = .ok (.if_icmp .ge 7, 3) := by decide +kernel
theorem dX9_branch_50 : decode cX9_branch 50 = .ok (.iconst 1, 1) := by decide +kernel
theorem dX9_branch_51 : decode cX9_branch 51 = .ok (.goto 12, 3) := by decide +kernel
theorem dX9_branch_54 : decode cX9_branch 54 = .ok (.iconst 0, 1) := by decide +kernel
theorem dX9_branch_55 : decode cX9_branch 55 = .ok (.goto 8, 3) := by decide +kernel
theorem dX9_branch_58 : decode cX9_branch 58 = .ok (.iload_n 2, 1) := by decide +kernel
theorem dX9_branch_59 : decode cX9_branch 59 = .ok (.iload_n 3, 1) := by decide +kernel
theorem dX9_branch_60 : decode cX9_branch 60 = .ok (.invokestatic 120, 3) := by decide +kernel
theorem dX9_branch_63 : decode cX9_branch 63 = .ok (.istore 5, 2) := by decide +kernel
theorem dX9_branch_65 : decode cX9_branch 65 = .ok (.iload 5, 2) := by decide +kernel
theorem dX9_branch_67 : decode cX9_branch 67 = .ok (.iload 4, 2) := by decide +kernel
theorem dX9_branch_69 : decode cX9_branch 69 = .ok (.iconst 2, 1) := by decide +kernel
theorem dX9_branch_70 : decode cX9_branch 70 = .ok (.irem, 1) := by decide +kernel
theorem dX9_branch_71 : decode cX9_branch 71 = .ok (.ifCond .ne 7, 3) := by decide +kernel
theorem dX9_branch_74 : decode cX9_branch 74 = .ok (.iconst 1, 1) := by decide +kernel
theorem dX9_branch_75 : decode cX9_branch 75 = .ok (.goto 4, 3) := by decide +kernel
theorem dX9_branch_78 : decode cX9_branch 78 = .ok (.iconst 0, 1) := by decide +kernel
theorem dX9_branch_79 : decode cX9_branch 79 = .ok (.if_icmp .ne 54, 3) := by decide +kernel
theorem dX9_branch_82 : decode cX9_branch 82 = .ok (.aload_n 0, 1) := by decide +kernel
theorem dX9_branch_83 : decode cX9_branch 83 = .ok (.aload_n 0, 1) := by decide +kernel
theorem dX9_branch_84 : decode cX9_branch 84 = .ok (.getfield 28, 3) := by decide +kernel
theorem dX9_branch_87 : decode cX9_branch 87 = .ok (.iload_n 1, 1) := by decide +kernel
theorem dX9_branch_88 : decode cX9_branch 88 = .ok (.bipush 31, 2) := by decide +kernel
theorem dX9_branch_90 : decode cX9_branch 90 = .ok (.ishr, 1) := by decide +kernel
theorem dX9_branch_91 : decode cX9_branch 91 = .ok (.sipush 4096, 3) := by decide +kernel
theorem dX9_branch_94 : decode cX9_branch 94 = .ok (.imul, 1) := by decide +kernel
theorem dX9_branch_95 : decode cX9_branch 95 = .ok (.iload_n 1, 1) := by decide +kernel
theorem dX9_branch_96 : decode cX9_branch 96 = .ok (.bipush 7, 2) := by decide +kernel
theorem dX9_branch_98 : decode cX9_branch 98 = .ok (.iconst 1, 1) := by decide +kernel
theorem dX9_branch_99 : decode cX9_branch 99 = .ok (.invokestatic 84, 3) := by decide +kernel
theorem dX9_branch_102 : decode cX9_branch 102 = .ok (.sipush 2048, 3) := by decide +kernel
theorem dX9_branch_105 : decode cX9_branch 105 = .ok (.imul, 1) := by decide +kernel
theorem dX9_branch_106 : decode cX9_branch 106 = .ok (.iadd, 1) := by decide +kernel
theorem dX9_branch_107 : decode cX9_branch 107 = .ok (.iload_n 1, 1) := by decide +kernel
theorem dX9_branch_108 : decode cX9_branch 108 = .ok (.bipush 25, 2) := by decide +kernel
theorem dX9_branch_110 : decode cX9_branch 110 = .ok (.bipush 6, 2) := by decide +kernel
theorem dX9_branch_112 : decode cX9_branch 112 = .ok (.invokestatic 84, 3) := by decide +kernel
theorem dX9_branch_115 : decode cX9_branch 115 = .ok (.bipush 32, 2) := by decide +kernel
theorem dX9_branch_117 : decode cX9_branch 117 = .ok (.imul, 1) := by decide +kernel
theorem dX9_branch_118 : decode cX9_branch 118 = .ok (.iadd, 1) := by decide +kernel
theorem dX9_branch_119 : decode cX9_branch 119 = .ok (.iload_n 1, 1) := by decide +kernel
theorem dX9_branch_120 : decode cX9_branch 120 = .ok (.bipush 8, 2) := by decide +kernel
theorem dX9_branch_122 : decode cX9_branch 122 = .ok (.iconst 4, 1) := by decide +kernel
theorem dX9_branch_123 : decode cX9_branch 123 = .ok (.invokestatic 84, 3) := by decide +kernel
theorem dX9_branch_126 : decode cX9_branch 126 = .ok (.iconst 2, 1) := by decide +kernel
theorem dX9_branch_127 : decode cX9_branch 127 = .ok (.imul, 1) := by decide +kernel
theorem dX9_branch_128 : decode cX9_branch 128 = .ok (.iadd, 1) := by decide +kernel
theorem dX9_branch_129 : decode cX9_branch 129 = .ok (.iadd, 1) := by decide +kernel
theorem dX9_branch_130 : decode cX9_branch 130 = .ok (.invokevirtual 92, 3) := by decide +kernel
theorem dX9_branch_133 : decode cX9_branch 133 = .ok (.return_, 1) := by decide +kernel
theorem dX9_reaches_0 : decode cX9_reaches 0 = .ok (.iload_n 1, 1) := by decide +kernel
theorem dX9_reaches_1 : decode cX9_reaches 1 = .ok (.iload_n 2, 1) := by decide +kernel
theorem dX9_reaches_2 : decode cX9_reaches 2 = .ok (.iconst 1, 1) := by decide +kernel
theorem dX9_reaches_3 : decode cX9_reaches 3 = .ok (.isub, 1) := by decide +kernel
theorem dX9_reaches_4 : decode cX9_reaches 4 = .ok (.iand, 1) := by decide +kernel
theorem dX9_reaches_5 : decode cX9_reaches 5 = .ok (.ifCond .eq 12, 3) := by decide +kernel
theorem dX9_reaches_8 : decode cX9_reaches 8 = .ok (.aload_n 0, 1) := by decide +kernel
theorem dX9_reaches_9 : decode cX9_reaches 9 = .ok (.bipush 12, 2) := by decide +kernel
theorem dX9_reaches_11 : decode cX9_reaches 11 = .ok (.putfield 68, 3) := by decide +kernel
theorem dX9_reaches_14 : decode cX9_reaches 14 = .ok (.goto 19, 3) := by decide +kernel
theorem dX9_reaches_17 : decode cX9_reaches 17 = .ok (.aload_n 0, 1) := by decide +kernel
theorem dX9_reaches_18 : decode cX9_reaches 18 = .ok (.iload_n 1, 1) := by decide +kernel
theorem dX9_reaches_19 : decode cX9_reaches 19 = .ok (.iload_n 2, 1) := by decide +kernel
theorem dX9_reaches_20 : decode cX9_reaches 20 = .ok (.i2l, 1) := by decide +kernel
theorem dX9_reaches_21 : decode cX9_reaches 21 = .ok (.invokevirtual 73, 3) := by decide +kernel
theorem dX9_reaches_24 : decode cX9_reaches 24 = .ok (.ifCond .ne 9, 3) := by decide +kernel
theorem dX9_reaches_27 : decode cX9_reaches 27 = .ok (.aload_n 0, 1) := by decide +kernel
theorem dX9_reaches_28 : decode cX9_reaches 28 = .ok (.bipush 13, 2) := by decide +kernel
theorem dX9_reaches_30 : decode cX9_reaches 30 = .ok (.putfield 68, 3) := by decide +kernel
theorem dX9_reaches_33 : decode cX9_reaches 33 = .ok (.aload_n 0, 1) := by decide +kernel
theorem dX9_reaches_34 : decode cX9_reaches 34 = .ok (.getfield 68, 3) := by decide +kernel
theorem dX9_reaches_37 : decode cX9_reaches 37 = .ok (.ifCond .ne 7, 3) := by decide +kernel
theorem dX9_reaches_40 : decode cX9_reaches 40 = .ok (.iconst 1, 1) := by decide +kernel
theorem dX9_reaches_41 : decode cX9_reaches 41 = .ok (.goto 4, 3) := by decide +kernel
theorem dX9_reaches_44 : decode cX9_reaches 44 = .ok (.iconst 0, 1) := by decide +kernel
theorem dX9_reaches_45 : decode cX9_reaches 45 = .ok (.ireturn, 1) := by decide +kernel
theorem dX9_loads_0 : decode cX9_loads 0 = .ok (.iload_n 2, 1) := by decide +kernel
theorem dX9_loads_1 : decode cX9_loads 1 = .ok (.iconst 3, 1) := by decide +kernel
theorem dX9_loads_2 : decode cX9_loads 2 = .ok (.if_icmp .eq 8, 3) := by decide +kernel
theorem dX9_loads_5 : decode cX9_loads 5 = .ok (.iload_n 2, 1) := by decide +kernel
theorem dX9_loads_6 : decode cX9_loads 6 = .ok (.iconst 5, 1) := by decide +kernel
theorem dX9_loads_7 : decode cX9_loads 7 = .ok (.if_icmp .le 10, 3) := by decide +kernel
theorem dX9_loads_10 : decode cX9_loads 10 = .ok (.aload_n 0, 1) := by decide +kernel
theorem dX9_loads_11 : decode cX9_loads 11 = .ok (.bipush 11, 2) := by decide +kernel
theorem dX9_loads_13 : decode cX9_loads 13 = .ok (.putfield 68, 3) := by decide +kernel
theorem dX9_loads_16 : decode cX9_loads 16 = .ok (.return_, 1) := by decide +kernel
theorem dX9_loads_17 : decode cX9_loads 17 = .ok (.aload_n 0, 1) := by decide +kernel
theorem dX9_loads_18 : decode cX9_loads 18 = .ok (.iload_n 1, 1) := by decide +kernel
theorem dX9_loads_19 : decode cX9_loads 19 = .ok (.iconst 1, 1) := by decide +kernel
theorem dX9_loads_20 : decode cX9_loads 20 = .ok (.iload_n 2, 1) := by decide +kernel
theorem dX9_loads_21 : decode cX9_loads 21 = .ok (.iconst 4, 1) := by decide +kernel
theorem dX9_loads_22 : decode cX9_loads 22 = .ok (.irem, 1) := by decide +kernel
theorem dX9_loads_23 : decode cX9_loads 23 = .ok (.ishl, 1) := by decide +kernel
theorem dX9_loads_24 : decode cX9_loads 24 = .ok (.invokevirtual 124, 3) := by decide +kernel
theorem dX9_loads_27 : decode cX9_loads 27 = .ok (.ifCond .ne 4, 3) := by decide +kernel
theorem dX9_loads_30 : decode cX9_loads 30 = .ok (.return_, 1) := by decide +kernel
theorem dX9_loads_31 : decode cX9_loads 31 = .ok (.aload_n 0, 1) := by decide +kernel
theorem dX9_loads_32 : decode cX9_loads 32 = .ok (.iload_n 1, 1) := by decide +kernel
theorem dX9_loads_33 : decode cX9_loads 33 = .ok (.invokevirtual 54, 3) := by decide +kernel
theorem dX9_loads_36 : decode cX9_loads 36 = .ok (.bipush 8, 2) := by decide +kernel
theorem dX9_loads_38 : decode cX9_loads 38 = .ok (.iload_n 1, 1) := by decide +kernel
theorem dX9_loads_39 : decode cX9_loads 39 = .ok (.iconst 3, 1) := by decide +kernel
theorem dX9_loads_40 : decode cX9_loads 40 = .ok (.iand, 1) := by decide +kernel
theorem dX9_loads_41 : decode cX9_loads 41 = .ok (.imul, 1) := by decide +kernel
theorem dX9_loads_42 : decode cX9_loads 42 = .ok (.iushr, 1) := by decide +kernel
theorem dX9_loads_43 : decode cX9_loads 43 = .ok (.istore_n 3, 1) := by decide +kernel
theorem dX9_loads_44 : decode cX9_loads 44 = .ok (.aload_n 0, 1) := by decide +kernel
theorem dX9_loads_45 : decode cX9_loads 45 = .ok (.iload_n 2, 1) := by decide +kernel
theorem dX9_loads_46 : decode cX9_loads 46 = .ok (.ifCond .ne 8, 3) := by decide +kernel
theorem dX9_loads_49 : decode cX9_loads 49 = .ok (.iload_n 3, 1) := by decide +kernel
theorem dX9_loads_50 : decode cX9_loads 50 = .ok (.i2b, 1) := by decide +kernel
theorem dX9_loads_51 : decode cX9_loads 51 = .ok (.goto 39, 3) := by decide +kernel
theorem dX9_loads_54 : decode cX9_loads 54 = .ok (.iload_n 2, 1) := by decide +kernel
theorem dX9_loads_55 : decode cX9_loads 55 = .ok (.iconst 1, 1) := by decide +kernel
theorem dX9_loads_56 : decode cX9_loads 56 = .ok (.if_icmp .ne 8, 3) := by decide +kernel
theorem dX9_loads_59 : decode cX9_loads 59 = .ok (.iload_n 3, 1) := by decide +kernel
theorem dX9_loads_60 : decode cX9_loads 60 = .ok (.i2s, 1) := by decide +kernel
theorem dX9_loads_61 : decode cX9_loads 61 = .ok (.goto 29, 3) := by decide +kernel
theorem dX9_loads_64 : decode cX9_loads 64 = .ok (.iload_n 2, 1) := by decide +kernel
theorem dX9_loads_65 : decode cX9_loads 65 = .ok (.iconst 2, 1) := by decide +kernel
theorem dX9_loads_66 : decode cX9_loads 66 = .ok (.if_icmp .ne 7, 3) := by decide +kernel
theorem dX9_loads_69 : decode cX9_loads 69 = .ok (.iload_n 3, 1) := by decide +kernel
theorem dX9_loads_70 : decode cX9_loads 70 = .ok (.goto 20, 3) := by decide +kernel
theorem dX9_loads_73 : decode cX9_loads 73 = .ok (.iload_n 2, 1) := by decide +kernel
theorem dX9_loads_74 : decode cX9_loads 74 = .ok (.iconst 4, 1) := by decide +kernel
theorem dX9_loads_75 : decode cX9_loads 75 = .ok (.if_icmp .ne 11, 3) := by decide +kernel
theorem dX9_loads_78 : decode cX9_loads 78 = .ok (.iload_n 3, 1) := by decide +kernel
theorem dX9_loads_79 : decode cX9_loads 79 = .ok (.sipush 255, 3) := by decide +kernel
theorem dX9_loads_82 : decode cX9_loads 82 = .ok (.iand, 1) := by decide +kernel
theorem dX9_loads_83 : decode cX9_loads 83 = .ok (.goto 7, 3) := by decide +kernel
theorem dX9_loads_86 : decode cX9_loads 86 = .ok (.iload_n 3, 1) := by decide +kernel
theorem dX9_loads_87 : decode cX9_loads 87 = .ok (.ldc 127, 2) := by decide +kernel
theorem dX9_loads_89 : decode cX9_loads 89 = .ok (.iand, 1) := by decide +kernel
theorem dX9_loads_90 : decode cX9_loads 90 = .ok (.invokevirtual 88, 3) := by decide +kernel
theorem dX9_loads_93 : decode cX9_loads 93 = .ok (.return_, 1) := by decide +kernel
theorem dX9_stores_0 : decode cX9_stores 0 = .ok (.iload_n 3, 1) := by decide +kernel
theorem dX9_stores_1 : decode cX9_stores 1 = .ok (.iconst 2, 1) := by decide +kernel
theorem dX9_stores_2 : decode cX9_stores 2 = .ok (.if_icmp .le 10, 3) := by decide +kernel
theorem dX9_stores_5 : decode cX9_stores 5 = .ok (.aload_n 0, 1) := by decide +kernel
theorem dX9_stores_6 : decode cX9_stores 6 = .ok (.bipush 11, 2) := by decide +kernel
theorem dX9_stores_8 : decode cX9_stores 8 = .ok (.putfield 68, 3) := by decide +kernel
theorem dX9_stores_11 : decode cX9_stores 11 = .ok (.return_, 1) := by decide +kernel
theorem dX9_stores_12 : decode cX9_stores 12 = .ok (.aload_n 0, 1) := by decide +kernel
theorem dX9_stores_13 : decode cX9_stores 13 = .ok (.iload_n 1, 1) := by decide +kernel
theorem dX9_stores_14 : decode cX9_stores 14 = .ok (.iconst 1, 1) := by decide +kernel
theorem dX9_stores_15 : decode cX9_stores 15 = .ok (.iload_n 3, 1) := by decide +kernel
theorem dX9_stores_16 : decode cX9_stores 16 = .ok (.ishl, 1) := by decide +kernel
theorem dX9_stores_17 : decode cX9_stores 17 = .ok (.invokevirtual 124, 3) := by decide +kernel
theorem dX9_stores_20 : decode cX9_stores 20 = .ok (.ifCond .ne 4, 3) := by decide +kernel
theorem dX9_stores_23 : decode cX9_stores 23 = .ok (.return_, 1) := by decide +kernel
theorem dX9_stores_24 : decode cX9_stores 24 = .ok (.iload_n 3, 1) := by decide +kernel
theorem dX9_stores_25 : decode cX9_stores 25 = .ok (.ifCond .ne 9, 3) := by decide +kernel
theorem dX9_stores_28 : decode cX9_stores 28 = .ok (.sipush 255, 3) := by decide +kernel
theorem dX9_stores_31 : decode cX9_stores 31 = .ok (.goto 14, 3) := by decide +kernel
theorem dX9_stores_34 : decode cX9_stores 34 = .ok (.iload_n 3, 1) := by decide +kernel
theorem dX9_stores_35 : decode cX9_stores 35 = .ok (.iconst 1, 1) := by decide +kernel
theorem dX9_stores_36 : decode cX9_stores 36 = .ok (.if_icmp .ne 8, 3) := by decide +kernel
theorem dX9_stores_39 : decode cX9_stores 39 = .ok (.ldc 127, 2) := by decide +kernel
theorem dX9_stores_41 : decode cX9_stores 41 = .ok (.goto 4, 3) := by decide +kernel
theorem dX9_stores_44 : decode cX9_stores 44 = .ok (.iconst (-1), 1) := by decide +kernel
theorem dX9_stores_45 : decode cX9_stores 45 = .ok (.istore 4, 2) := by decide +kernel
theorem dX9_stores_47 : decode cX9_stores 47 = .ok (.bipush 8, 2) := by decide +kernel
theorem dX9_stores_49 : decode cX9_stores 49 = .ok (.iload_n 1, 1) := by decide +kernel
theorem dX9_stores_50 : decode cX9_stores 50 = .ok (.iconst 3, 1) := by decide +kernel
theorem dX9_stores_51 : decode cX9_stores 51 = .ok (.iand, 1) := by decide +kernel
theorem dX9_stores_52 : decode cX9_stores 52 = .ok (.imul, 1) := by decide +kernel
theorem dX9_stores_53 : decode cX9_stores 53 = .ok (.istore 5, 2) := by decide +kernel
theorem dX9_stores_55 : decode cX9_stores 55 = .ok (.aload_n 0, 1) := by decide +kernel
theorem dX9_stores_56 : decode cX9_stores 56 = .ok (.aload_n 0, 1) := by decide +kernel
theorem dX9_stores_57 : decode cX9_stores 57 = .ok (.iload_n 1, 1) := by decide +kernel
theorem dX9_stores_58 : decode cX9_stores 58 = .ok (.invokevirtual 54, 3) := by decide +kernel
theorem dX9_stores_61 : decode cX9_stores 61 = .ok (.iload 4, 2) := by decide +kernel
theorem dX9_stores_63 : decode cX9_stores 63 = .ok (.iload 5, 2) := by decide +kernel
theorem dX9_stores_65 : decode cX9_stores 65 = .ok (.ishl, 1) := by decide +kernel
theorem dX9_stores_66 : decode cX9_stores 66 = .ok (.iconst (-1), 1) := by decide +kernel
theorem dX9_stores_67 : decode cX9_stores 67 = .ok (.ixor, 1) := by decide +kernel
theorem dX9_stores_68 : decode cX9_stores 68 = .ok (.iand, 1) := by decide +kernel
theorem dX9_stores_69 : decode cX9_stores 69 = .ok (.iload_n 2, 1) := by decide +kernel
theorem dX9_stores_70 : decode cX9_stores 70 = .ok (.iload 4, 2) := by decide +kernel
theorem dX9_stores_72 : decode cX9_stores 72 = .ok (.iand, 1) := by decide +kernel
theorem dX9_stores_73 : decode cX9_stores 73 = .ok (.iload 5, 2) := by decide +kernel
theorem dX9_stores_75 : decode cX9_stores 75 = .ok (.ishl, 1) := by decide +kernel
theorem dX9_stores_76 : decode cX9_stores 76 = .ok (.ior, 1) := by decide +kernel
theorem dX9_stores_77 : decode cX9_stores 77 = .ok (.putfield 117, 3) := by decide +kernel
theorem dX9_stores_80 : decode cX9_stores 80 = .ok (.aload_n 0, 1) := by decide +kernel
theorem dX9_stores_81 : decode cX9_stores 81 = .ok (.aload_n 0, 1) := by decide +kernel
theorem dX9_stores_82 : decode cX9_stores 82 = .ok (.iload_n 1, 1) := by decide +kernel
theorem dX9_stores_83 : decode cX9_stores 83 = .ok (.invokevirtual 44, 3) := by decide +kernel
theorem dX9_stores_86 : decode cX9_stores 86 = .ok (.putfield 65, 3) := by decide +kernel
theorem dX9_stores_89 : decode cX9_stores 89 = .ok (.aload_n 0, 1) := by decide +kernel
theorem dX9_stores_90 : decode cX9_stores 90 = .ok (.aload_n 0, 1) := by decide +kernel
theorem dX9_stores_91 : decode cX9_stores 91 = .ok (.getfield 65, 3) := by decide +kernel
theorem dX9_stores_94 : decode cX9_stores 94 = .ok (.ifCond .eq 9, 3) := by decide +kernel
theorem dX9_stores_97 : decode cX9_stores 97 = .ok (.iload_n 1, 1) := by decide +kernel
theorem dX9_stores_98 : decode cX9_stores 98 = .ok (.iconst 2, 1) := by decide +kernel
theorem dX9_stores_99 : decode cX9_stores 99 = .ok (.iushr, 1) := by decide +kernel
theorem dX9_stores_100 : decode cX9_stores 100 = .ok (.goto 16, 3) := by decide +kernel
theorem dX9_stores_103 : decode cX9_stores 103 = .ok (.iload_n 1, 1) := by decide +kernel
theorem dX9_stores_104 : decode cX9_stores 104 = .ok (.i2l, 1) := by decide +kernel
theorem dX9_stores_105 : decode cX9_stores 105 = .ok (.ldc2_w 40, 3) := by decide +kernel
theorem dX9_stores_108 : decode cX9_stores 108 = .ok (.land, 1) := by decide +kernel
theorem dX9_stores_109 : decode cX9_stores 109 = .ok (.ldc2_w 42, 3) := by decide +kernel
theorem dX9_stores_112 : decode cX9_stores 112 = .ok (.lsub, 1) := by decide +kernel
theorem dX9_stores_113 : decode cX9_stores 113 = .ok (.iconst 2, 1) := by decide +kernel
theorem dX9_stores_114 : decode cX9_stores 114 = .ok (.lshr, 1) := by decide +kernel
theorem dX9_stores_115 : decode cX9_stores 115 = .ok (.l2i, 1) := by decide +kernel
theorem dX9_stores_116 : decode cX9_stores 116 = .ok (.putfield 128, 3) := by decide +kernel
theorem dX9_stores_119 : decode cX9_stores 119 = .ok (.aload_n 0, 1) := by decide +kernel
theorem dX9_stores_120 : decode cX9_stores 120 = .ok (.getfield 65, 3) := by decide +kernel
theorem dX9_stores_123 : decode cX9_stores 123 = .ok (.ifCond .ne 8, 3) := by decide +kernel
theorem dX9_stores_126 : decode cX9_stores 126 = .ok (.aload_n 0, 1) := by decide +kernel
theorem dX9_stores_127 : decode cX9_stores 127 = .ok (.iconst 1, 1) := by decide +kernel
theorem dX9_stores_128 : decode cX9_stores 128 = .ok (.putfield 58, 3) := by decide +kernel
theorem dX9_stores_131 : decode cX9_stores 131 = .ok (.return_, 1) := by decide +kernel
theorem dX9_calls_0 : decode cX9_calls 0 = .ok (.aload_n 0, 1) := by decide +kernel
theorem dX9_calls_1 : decode cX9_calls 1 = .ok (.getfield 9, 3) := by decide +kernel
theorem dX9_calls_4 : decode cX9_calls 4 = .ok (.bipush 17, 2) := by decide +kernel
theorem dX9_calls_6 : decode cX9_calls 6 = .ok (.iaload, 1) := by decide +kernel
theorem dX9_calls_7 : decode cX9_calls 7 = .ok (.iconst 3, 1) := by decide +kernel
theorem dX9_calls_8 : decode cX9_calls 8 = .ok (.if_icmp .ne 12, 3) := by decide +kernel
theorem dX9_calls_11 : decode cX9_calls 11 = .ok (.aload_n 0, 1) := by decide +kernel
theorem dX9_calls_12 : decode cX9_calls 12 = .ok (.bipush 6, 2) := by decide +kernel
theorem dX9_calls_14 : decode cX9_calls 14 = .ok (.putfield 68, 3) := by decide +kernel
theorem dX9_calls_17 : decode cX9_calls 17 = .ok (.goto 103, 3) := by decide +kernel
theorem dX9_calls_20 : decode cX9_calls 20 = .ok (.aload_n 0, 1) := by decide +kernel
theorem dX9_calls_21 : decode cX9_calls 21 = .ok (.getfield 9, 3) := by decide +kernel
theorem dX9_calls_24 : decode cX9_calls 24 = .ok (.bipush 17, 2) := by decide +kernel
theorem dX9_calls_26 : decode cX9_calls 26 = .ok (.iaload, 1) := by decide +kernel
theorem dX9_calls_27 : decode cX9_calls 27 = .ok (.iconst 2, 1) := by decide +kernel
theorem dX9_calls_28 : decode cX9_calls 28 = .ok (.if_icmp .ne 75, 3) := by decide +kernel
theorem dX9_calls_31 : decode cX9_calls 31 = .ok (.aload_n 0, 1) := by decide +kernel
theorem dX9_calls_32 : decode cX9_calls 32 = .ok (.iconst 2, 1) := by decide +kernel
theorem dX9_calls_33 : decode cX9_calls 33 = .ok (.putfield 58, 3) := by decide +kernel
theorem dX9_calls_36 : decode cX9_calls 36 = .ok (.aload_n 0, 1) := by decide +kernel
theorem dX9_calls_37 : decode cX9_calls 37 = .ok (.aload_n 0, 1) := by decide +kernel
theorem dX9_calls_38 : decode cX9_calls 38 = .ok (.getfield 9, 3) := by decide +kernel
theorem dX9_calls_41 : decode cX9_calls 41 = .ok (.bipush 11, 2) := by decide +kernel
theorem dX9_calls_43 : decode cX9_calls 43 = .ok (.iaload, 1) := by decide +kernel
theorem dX9_calls_44 : decode cX9_calls 44 = .ok (.putfield 131, 3) := by decide +kernel
theorem dX9_calls_47 : decode cX9_calls 47 = .ok (.bipush 64, 2) := by decide +kernel
theorem dX9_calls_49 : decode cX9_calls 49 = .ok (.aload_n 0, 1) := by decide +kernel
theorem dX9_calls_50 : decode cX9_calls 50 = .ok (.getfield 131, 3) := by decide +kernel
theorem dX9_calls_53 : decode cX9_calls 53 = .ok (.invokestatic 120, 3) := by decide +kernel
theorem dX9_calls_56 : decode cX9_calls 56 = .ok (.ifCond .eq 12, 3) := by decide +kernel
theorem dX9_calls_59 : decode cX9_calls 59 = .ok (.aload_n 0, 1) := by decide +kernel
theorem dX9_calls_60 : decode cX9_calls 60 = .ok (.bipush 14, 2) := by decide +kernel
theorem dX9_calls_62 : decode cX9_calls 62 = .ok (.putfield 68, 3) := by decide +kernel
theorem dX9_calls_65 : decode cX9_calls 65 = .ok (.goto 55, 3) := by decide +kernel
theorem dX9_calls_68 : decode cX9_calls 68 = .ok (.aload_n 0, 1) := by decide +kernel
theorem dX9_calls_69 : decode cX9_calls 69 = .ok (.getfield 131, 3) := by decide +kernel
theorem dX9_calls_72 : decode cX9_calls 72 = .ok (.ifCond .le 48, 3) := by decide +kernel
theorem dX9_calls_75 : decode cX9_calls 75 = .ok (.aload_n 0, 1) := by decide +kernel
theorem dX9_calls_76 : decode cX9_calls 76 = .ok (.aload_n 0, 1) := by decide +kernel
theorem dX9_calls_77 : decode cX9_calls 77 = .ok (.getfield 9, 3) := by decide +kernel
theorem dX9_calls_80 : decode cX9_calls 80 = .ok (.bipush 10, 2) := by decide +kernel
theorem dX9_calls_82 : decode cX9_calls 82 = .ok (.iaload, 1) := by decide +kernel
theorem dX9_calls_83 : decode cX9_calls 83 = .ok (.aload_n 0, 1) := by decide +kernel
theorem dX9_calls_84 : decode cX9_calls 84 = .ok (.getfield 131, 3) := by decide +kernel
theorem dX9_calls_87 : decode cX9_calls 87 = .ok (.i2l, 1) := by decide +kernel
theorem dX9_calls_88 : decode cX9_calls 88 = .ok (.invokevirtual 73, 3) := by decide +kernel
theorem dX9_calls_91 : decode cX9_calls 91 = .ok (.ifCond .ne 29, 3) := by decide +kernel
theorem dX9_calls_94 : decode cX9_calls 94 = .ok (.aload_n 0, 1) := by decide +kernel
theorem dX9_calls_95 : decode cX9_calls 95 = .ok (.bipush 13, 2) := by decide +kernel
theorem dX9_calls_97 : decode cX9_calls 97 = .ok (.putfield 68, 3) := by decide +kernel
theorem dX9_calls_100 : decode cX9_calls 100 = .ok (.goto 20, 3) := by decide +kernel
theorem dX9_calls_103 : decode cX9_calls 103 = .ok (.aload_n 0, 1) := by decide +kernel
theorem dX9_calls_104 : decode cX9_calls 104 = .ok (.getfield 9, 3) := by decide +kernel
theorem dX9_calls_107 : decode cX9_calls 107 = .ok (.bipush 17, 2) := by decide +kernel
theorem dX9_calls_109 : decode cX9_calls 109 = .ok (.iaload, 1) := by decide +kernel
theorem dX9_calls_110 : decode cX9_calls 110 = .ok (.iconst 1, 1) := by decide +kernel
theorem dX9_calls_111 : decode cX9_calls 111 = .ok (.if_icmp .eq 9, 3) := by decide +kernel
theorem dX9_calls_114 : decode cX9_calls 114 = .ok (.aload_n 0, 1) := by decide +kernel
theorem dX9_calls_115 : decode cX9_calls 115 = .ok (.bipush 11, 2) := by decide +kernel
theorem dX9_calls_117 : decode cX9_calls 117 = .ok (.putfield 68, 3) := by decide +kernel
theorem dX9_calls_120 : decode cX9_calls 120 = .ok (.return_, 1) := by decide +kernel
theorem dX9_perform_0 : decode cX9_perform 0 = .ok (.aload_n 0, 1) := by decide +kernel
theorem dX9_perform_1 : decode cX9_perform 1 = .ok (.aload_n 0, 1) := by decide +kernel
theorem dX9_perform_2 : decode cX9_perform 2 = .ok (.getfield 28, 3) := by decide +kernel
theorem dX9_perform_5 : decode cX9_perform 5 = .ok (.invokevirtual 54, 3) := by decide +kernel
theorem dX9_perform_8 : decode cX9_perform 8 = .ok (.istore_n 1, 1) := by decide +kernel
theorem dX9_perform_9 : decode cX9_perform 9 = .ok (.aload_n 0, 1) := by decide +kernel
theorem dX9_perform_10 : decode cX9_perform 10 = .ok (.getfield 61, 3) := by decide +kernel
theorem dX9_perform_13 : decode cX9_perform 13 = .ok (.ifCond .eq 19, 3) := by decide +kernel
theorem dX9_perform_16 : decode cX9_perform 16 = .ok (.aload_n 0, 1) := by decide +kernel
theorem dX9_perform_17 : decode cX9_perform 17 = .ok (.getfield 9, 3) := by decide +kernel
theorem dX9_perform_20 : decode cX9_perform 20 = .ok (.iload_n 1, 1) := by decide +kernel
theorem dX9_perform_21 : decode cX9_perform 21 = .ok (.bipush 7, 2) := by decide +kernel
theorem dX9_perform_23 : decode cX9_perform 23 = .ok (.iconst 5, 1) := by decide +kernel
theorem dX9_perform_24 : decode cX9_perform 24 = .ok (.invokestatic 84, 3) := by decide +kernel
theorem dX9_perform_27 : decode cX9_perform 27 = .ok (.aload_n 0, 1) := by decide +kernel
theorem dX9_perform_28 : decode cX9_perform 28 = .ok (.getfield 117, 3) := by decide +kernel
theorem dX9_perform_31 : decode cX9_perform 31 = .ok (.iastore, 1) := by decide +kernel
theorem dX9_perform_32 : decode cX9_perform 32 = .ok (.aload_n 0, 1) := by decide +kernel
theorem dX9_perform_33 : decode cX9_perform 33 = .ok (.getfield 65, 3) := by decide +kernel
theorem dX9_perform_36 : decode cX9_perform 36 = .ok (.ifCond .eq 16, 3) := by decide +kernel
theorem dX9_perform_39 : decode cX9_perform 39 = .ok (.aload_n 0, 1) := by decide +kernel
theorem dX9_perform_40 : decode cX9_perform 40 = .ok (.getfield 15, 3) := by decide +kernel
theorem dX9_perform_43 : decode cX9_perform 43 = .ok (.aload_n 0, 1) := by decide +kernel
theorem dX9_perform_44 : decode cX9_perform 44 = .ok (.getfield 128, 3) := by decide +kernel
theorem dX9_perform_47 : decode cX9_perform 47 = .ok (.aload_n 0, 1) := by decide +kernel
theorem dX9_perform_48 : decode cX9_perform 48 = .ok (.getfield 117, 3) := by decide +kernel
theorem dX9_perform_51 : decode cX9_perform 51 = .ok (.iastore, 1) := by decide +kernel
theorem dX9_perform_52 : decode cX9_perform 52 = .ok (.aload_n 0, 1) := by decide +kernel
theorem dX9_perform_53 : decode cX9_perform 53 = .ok (.getfield 58, 3) := by decide +kernel
theorem dX9_perform_56 : decode cX9_perform 56 = .ok (.iconst 1, 1) := by decide +kernel
theorem dX9_perform_57 : decode cX9_perform 57 = .ok (.if_icmp .ne 21, 3) := by decide +kernel
theorem dX9_perform_60 : decode cX9_perform 60 = .ok (.aload_n 0, 1) := by decide +kernel
theorem dX9_perform_61 : decode cX9_perform 61 = .ok (.getfield 48, 3) := by decide +kernel
theorem dX9_perform_64 : decode cX9_perform 64 = .ok (.aload_n 0, 1) := by decide +kernel
theorem dX9_perform_65 : decode cX9_perform 65 = .ok (.getfield 51, 3) := by decide +kernel
theorem dX9_perform_68 : decode cX9_perform 68 = .ok (.aload_n 0, 1) := by decide +kernel
theorem dX9_perform_69 : decode cX9_perform 69 = .ok (.getfield 128, 3) := by decide +kernel
theorem dX9_perform_72 : decode cX9_perform 72 = .ok (.iadd, 1) := by decide +kernel
theorem dX9_perform_73 : decode cX9_perform 73 = .ok (.aload_n 0, 1) := by decide +kernel
theorem dX9_perform_74 : decode cX9_perform 74 = .ok (.getfield 117, 3) := by decide +kernel
theorem dX9_perform_77 : decode cX9_perform 77 = .ok (.iastore, 1) := by decide +kernel
theorem dX9_perform_78 : decode cX9_perform 78 = .ok (.aload_n 0, 1) := by decide +kernel
theorem dX9_perform_79 : decode cX9_perform 79 = .ok (.getfield 58, 3) := by decide +kernel
theorem dX9_perform_82 : decode cX9_perform 82 = .ok (.iconst 2, 1) := by decide +kernel
theorem dX9_perform_83 : decode cX9_perform 83 = .ok (.if_icmp .ne 27, 3) := by decide +kernel
theorem dX9_perform_86 : decode cX9_perform 86 = .ok (.aload_n 0, 1) := by decide +kernel
theorem dX9_perform_87 : decode cX9_perform 87 = .ok (.dup, 1) := by decide +kernel
theorem dX9_perform_88 : decode cX9_perform 88 = .ok (.getfield 34, 3) := by decide +kernel
theorem dX9_perform_91 : decode cX9_perform 91 = .ok (.iconst 1, 1) := by decide +kernel
theorem dX9_perform_92 : decode cX9_perform 92 = .ok (.iadd, 1) := by decide +kernel
theorem dX9_perform_93 : decode cX9_perform 93 = .ok (.putfield 34, 3) := by decide +kernel
theorem dX9_perform_96 : decode cX9_perform 96 = .ok (.aload_n 0, 1) := by decide +kernel
theorem dX9_perform_97 : decode cX9_perform 97 = .ok (.getfield 9, 3) := by decide +kernel
theorem dX9_perform_100 : decode cX9_perform 100 = .ok (.bipush 10, 2) := by decide +kernel
theorem dX9_perform_102 : decode cX9_perform 102 = .ok (.aload_n 0, 1) := by decide +kernel
theorem dX9_perform_103 : decode cX9_perform 103 = .ok (.getfield 34, 3) := by decide +kernel
theorem dX9_perform_106 : decode cX9_perform 106 = .ok (.iastore, 1) := by decide +kernel
theorem dX9_perform_107 : decode cX9_perform 107 = .ok (.goto 57, 3) := by decide +kernel
theorem dX9_perform_110 : decode cX9_perform 110 = .ok (.iload_n 1, 1) := by decide +kernel
theorem dX9_perform_111 : decode cX9_perform 111 = .ok (.bipush 115, 2) := by decide +kernel
theorem dX9_perform_113 : decode cX9_perform 113 = .ok (.if_icmp .ne 51, 3) := by decide +kernel
theorem dX9_perform_116 : decode cX9_perform 116 = .ok (.aload_n 0, 1) := by decide +kernel
theorem dX9_perform_117 : decode cX9_perform 117 = .ok (.getfield 9, 3) := by decide +kernel
theorem dX9_perform_120 : decode cX9_perform 120 = .ok (.bipush 10, 2) := by decide +kernel
theorem dX9_perform_122 : decode cX9_perform 122 = .ok (.aload_n 0, 1) := by decide +kernel
theorem dX9_perform_123 : decode cX9_perform 123 = .ok (.getfield 31, 3) := by decide +kernel
theorem dX9_perform_126 : decode cX9_perform 126 = .ok (.ifCond .lt 26, 3) := by decide +kernel
theorem dX9_perform_129 : decode cX9_perform 129 = .ok (.aload_n 0, 1) := by decide +kernel
theorem dX9_perform_130 : decode cX9_perform 130 = .ok (.getfield 31, 3) := by decide +kernel
theorem dX9_perform_133 : decode cX9_perform 133 = .ok (.aload_n 0, 1) := by decide +kernel
theorem dX9_perform_134 : decode cX9_perform 134 = .ok (.getfield 134, 3) := by decide +kernel
theorem dX9_perform_137 : decode cX9_perform 137 = .ok (.if_icmp .ge 15, 3) := by decide +kernel
theorem dX9_perform_140 : decode cX9_perform 140 = .ok (.aload_n 0, 1) := by decide +kernel
theorem dX9_perform_141 : decode cX9_perform 141 = .ok (.getfield 18, 3) := by decide +kernel
theorem dX9_perform_144 : decode cX9_perform 144 = .ok (.aload_n 0, 1) := by decide +kernel
theorem dX9_perform_145 : decode cX9_perform 145 = .ok (.getfield 31, 3) := by decide +kernel
theorem dX9_perform_148 : decode cX9_perform 148 = .ok (.iaload, 1) := by decide +kernel
theorem dX9_perform_149 : decode cX9_perform 149 = .ok (.goto 4, 3) := by decide +kernel
theorem dX9_perform_152 : decode cX9_perform 152 = .ok (.iconst 0, 1) := by decide +kernel
theorem dX9_perform_153 : decode cX9_perform 153 = .ok (.iastore, 1) := by decide +kernel
theorem dX9_perform_154 : decode cX9_perform 154 = .ok (.aload_n 0, 1) := by decide +kernel
theorem dX9_perform_155 : decode cX9_perform 155 = .ok (.dup, 1) := by decide +kernel
theorem dX9_perform_156 : decode cX9_perform 156 = .ok (.getfield 31, 3) := by decide +kernel
theorem dX9_perform_159 : decode cX9_perform 159 = .ok (.iconst 1, 1) := by decide +kernel
theorem dX9_perform_160 : decode cX9_perform 160 = .ok (.iadd, 1) := by decide +kernel
theorem dX9_perform_161 : decode cX9_perform 161 = .ok (.putfield 31, 3) := by decide +kernel
theorem dX9_perform_164 : decode cX9_perform 164 = .ok (.aload_n 0, 1) := by decide +kernel
theorem dX9_perform_165 : decode cX9_perform 165 = .ok (.getfield 9, 3) := by decide +kernel
theorem dX9_perform_168 : decode cX9_perform 168 = .ok (.iconst 0, 1) := by decide +kernel
theorem dX9_perform_169 : decode cX9_perform 169 = .ok (.iconst 0, 1) := by decide +kernel
theorem dX9_perform_170 : decode cX9_perform 170 = .ok (.iastore, 1) := by decide +kernel
theorem dX9_perform_171 : decode cX9_perform 171 = .ok (.aload_n 0, 1) := by decide +kernel
theorem dX9_perform_172 : decode cX9_perform 172 = .ok (.aload_n 0, 1) := by decide +kernel
theorem dX9_perform_173 : decode cX9_perform 173 = .ok (.getfield 77, 3) := by decide +kernel
theorem dX9_perform_176 : decode cX9_perform 176 = .ok (.putfield 28, 3) := by decide +kernel
theorem dX9_perform_179 : decode cX9_perform 179 = .ok (.aload_n 0, 1) := by decide +kernel
theorem dX9_perform_180 : decode cX9_perform 180 = .ok (.dup, 1) := by decide +kernel
theorem dX9_perform_181 : decode cX9_perform 181 = .ok (.getfield 37, 3) := by decide +kernel
theorem dX9_perform_184 : decode cX9_perform 184 = .ok (.iconst 1, 1) := by decide +kernel
theorem dX9_perform_185 : decode cX9_perform 185 = .ok (.iadd, 1) := by decide +kernel
theorem dX9_perform_186 : decode cX9_perform 186 = .ok (.putfield 37, 3) := by decide +kernel
theorem dX9_perform_189 : decode cX9_perform 189 = .ok (.return_, 1) := by decide +kernel
theorem dX9_sendTo_0 : decode cX9_sendTo 0 = .ok (.aload_n 1, 1) := by decide +kernel
theorem dX9_sendTo_1 : decode cX9_sendTo 1 = .ok (.getfield 137, 3) := by decide +kernel
theorem dX9_sendTo_4 : decode cX9_sendTo 4 = .ok (.sipush 400, 3) := by decide +kernel
theorem dX9_sendTo_7 : decode cX9_sendTo 7 = .ok (.if_icmp .ge 82, 3) := by decide +kernel
theorem dX9_sendTo_10 : decode cX9_sendTo 10 = .ok (.aload_n 1, 1) := by decide +kernel
theorem dX9_sendTo_11 : decode cX9_sendTo 11 = .ok (.getfield 137, 3) := by decide +kernel
theorem dX9_sendTo_14 : decode cX9_sendTo 14 = .ok (.istore_n 3, 1) := by decide +kernel
theorem dX9_sendTo_15 : decode cX9_sendTo 15 = .ok (.aload_n 1, 1) := by decide +kernel
theorem dX9_sendTo_16 : decode cX9_sendTo 16 = .ok (.getfield 140, 3) := by decide +kernel
theorem dX9_sendTo_19 : decode cX9_sendTo 19 = .ok (.iload_n 3, 1) := by decide +kernel
theorem dX9_sendTo_20 : decode cX9_sendTo 20 = .ok (.aload_n 0, 1) := by decide +kernel
theorem dX9_sendTo_21 : decode cX9_sendTo 21 = .ok (.getfield 34, 3) := by decide +kernel
theorem dX9_sendTo_24 : decode cX9_sendTo 24 = .ok (.iconst 1, 1) := by decide +kernel
theorem dX9_sendTo_25 : decode cX9_sendTo 25 = .ok (.iadd, 1) := by decide +kernel
theorem dX9_sendTo_26 : decode cX9_sendTo 26 = .ok (.iastore, 1) := by decide +kernel
theorem dX9_sendTo_27 : decode cX9_sendTo 27 = .ok (.aload_n 1, 1) := by decide +kernel
theorem dX9_sendTo_28 : decode cX9_sendTo 28 = .ok (.getfield 143, 3) := by decide +kernel
theorem dX9_sendTo_31 : decode cX9_sendTo 31 = .ok (.iload_n 3, 1) := by decide +kernel
theorem dX9_sendTo_32 : decode cX9_sendTo 32 = .ok (.aload_n 0, 1) := by decide +kernel
theorem dX9_sendTo_33 : decode cX9_sendTo 33 = .ok (.getfield 131, 3) := by decide +kernel
theorem dX9_sendTo_36 : decode cX9_sendTo 36 = .ok (.iastore, 1) := by decide +kernel
theorem dX9_sendTo_37 : decode cX9_sendTo 37 = .ok (.aload_n 1, 1) := by decide +kernel
theorem dX9_sendTo_38 : decode cX9_sendTo 38 = .ok (.getfield 146, 3) := by decide +kernel
theorem dX9_sendTo_41 : decode cX9_sendTo 41 = .ok (.iload_n 3, 1) := by decide +kernel
theorem dX9_sendTo_42 : decode cX9_sendTo 42 = .ok (.iload_n 2, 1) := by decide +kernel
theorem dX9_sendTo_43 : decode cX9_sendTo 43 = .ok (.iastore, 1) := by decide +kernel
theorem dX9_sendTo_44 : decode cX9_sendTo 44 = .ok (.iconst 0, 1) := by decide +kernel
theorem dX9_sendTo_45 : decode cX9_sendTo 45 = .ok (.istore 4, 2) := by decide +kernel
theorem dX9_sendTo_47 : decode cX9_sendTo 47 = .ok (.iload 4, 2) := by decide +kernel
theorem dX9_sendTo_49 : decode cX9_sendTo 49 = .ok (.aload_n 0, 1) := by decide +kernel
theorem dX9_sendTo_50 : decode cX9_sendTo 50 = .ok (.getfield 131, 3) := by decide +kernel
theorem dX9_sendTo_53 : decode cX9_sendTo 53 = .ok (.if_icmp .ge 36, 3) := by decide +kernel
theorem dX9_sendTo_56 : decode cX9_sendTo 56 = .ok (.aload_n 1, 1) := by decide +kernel
theorem dX9_sendTo_57 : decode cX9_sendTo 57 = .ok (.getfield 149, 3) := by decide +kernel
theorem dX9_sendTo_60 : decode cX9_sendTo 60 = .ok (.bipush 64, 2) := by decide +kernel
theorem dX9_sendTo_62 : decode cX9_sendTo 62 = .ok (.iload_n 3, 1) := by decide +kernel
theorem dX9_sendTo_63 : decode cX9_sendTo 63 = .ok (.imul, 1) := by decide +kernel
theorem dX9_sendTo_64 : decode cX9_sendTo 64 = .ok (.iload 4, 2) := by decide +kernel
theorem dX9_sendTo_66 : decode cX9_sendTo 66 = .ok (.iadd, 1) := by decide +kernel
theorem dX9_sendTo_67 : decode cX9_sendTo 67 = .ok (.aload_n 0, 1) := by decide +kernel
theorem dX9_sendTo_68 : decode cX9_sendTo 68 = .ok (.aload_n 0, 1) := by decide +kernel
theorem dX9_sendTo_69 : decode cX9_sendTo 69 = .ok (.getfield 9, 3) := by decide +kernel
theorem dX9_sendTo_72 : decode cX9_sendTo 72 = .ok (.bipush 10, 2) := by decide +kernel
theorem dX9_sendTo_74 : decode cX9_sendTo 74 = .ok (.iaload, 1) := by decide +kernel
theorem dX9_sendTo_75 : decode cX9_sendTo 75 = .ok (.iload 4, 2) := by decide +kernel
theorem dX9_sendTo_77 : decode cX9_sendTo 77 = .ok (.iadd, 1) := by decide +kernel
theorem dX9_sendTo_78 : decode cX9_sendTo 78 = .ok (.invokevirtual 153, 3) := by decide +kernel
theorem dX9_sendTo_81 : decode cX9_sendTo 81 = .ok (.i2b, 1) := by decide +kernel
theorem dX9_sendTo_82 : decode cX9_sendTo 82 = .ok (.bastore, 1) := by decide +kernel
theorem dX9_sendTo_83 : decode cX9_sendTo 83 = .ok (.iinc 4 1, 3) := by decide +kernel
theorem dX9_sendTo_86 : decode cX9_sendTo 86 = .ok (.goto (-39), 3) := by decide +kernel
theorem dX9_sendTo_89 : decode cX9_sendTo 89 = .ok (.aload_n 1, 1) := by decide +kernel
theorem dX9_sendTo_90 : decode cX9_sendTo 90 = .ok (.dup, 1) := by decide +kernel
theorem dX9_sendTo_91 : decode cX9_sendTo 91 = .ok (.getfield 137, 3) := by decide +kernel
theorem dX9_sendTo_94 : decode cX9_sendTo 94 = .ok (.iconst 1, 1) := by decide +kernel
theorem dX9_sendTo_95 : decode cX9_sendTo 95 = .ok (.iadd, 1) := by decide +kernel
theorem dX9_sendTo_96 : decode cX9_sendTo 96 = .ok (.putfield 137, 3) := by decide +kernel
theorem dX9_sendTo_99 : decode cX9_sendTo 99 = .ok (.return_, 1) := by decide +kernel
theorem dX10_init_0 : decode cX10_init 0 = .ok (.aload_n 0, 1) := by decide +kernel
theorem dX10_init_1 : decode cX10_init 1 = .ok (.invokespecial 1, 3) := by decide +kernel
theorem dX10_init_4 : decode cX10_init 4 = .ok (.aload_n 0, 1) := by decide +kernel
theorem dX10_init_5 : decode cX10_init 5 = .ok (.sipush 6219, 3) := by decide +kernel
theorem dX10_init_8 : decode cX10_init 8 = .ok (.newarray .int, 2) := by decide +kernel
theorem dX10_init_10 : decode cX10_init 10 = .ok (.putfield 9, 3) := by decide +kernel
theorem dX10_init_13 : decode cX10_init 13 = .ok (.aload_n 0, 1) := by decide +kernel
theorem dX10_init_14 : decode cX10_init 14 = .ok (.sipush 2048, 3) := by decide +kernel
theorem dX10_init_17 : decode cX10_init 17 = .ok (.newarray .int, 2) := by decide +kernel
theorem dX10_init_19 : decode cX10_init 19 = .ok (.putfield 13, 3) := by decide +kernel
theorem dX10_init_22 : decode cX10_init 22 = .ok (.aload_n 0, 1) := by decide +kernel
theorem dX10_init_23 : decode cX10_init 23 = .ok (.sipush 1000, 3) := by decide +kernel
theorem dX10_init_26 : decode cX10_init 26 = .ok (.newarray .int, 2) := by decide +kernel
theorem dX10_init_28 : decode cX10_init 28 = .ok (.putfield 16, 3) := by decide +kernel
theorem dX10_init_31 : decode cX10_init 31 = .ok (.aload_n 0, 1) := by decide +kernel
theorem dX10_init_32 : decode cX10_init 32 = .ok (.new 19, 3) := by decide +kernel
theorem dX10_init_35 : decode cX10_init 35 = .ok (.dup, 1) := by decide +kernel
theorem dX10_init_36 : decode cX10_init 36 = .ok (.aload_n 0, 1) := by decide +kernel
theorem dX10_init_37 : decode cX10_init 37 = .ok (.getfield 16, 3) := by decide +kernel
theorem dX10_init_40 : decode cX10_init 40 = .ok (.invokespecial 21, 3) := by decide +kernel
theorem dX10_init_43 : decode cX10_init 43 = .ok (.putfield 24, 3) := by decide +kernel
theorem dX10_init_46 : decode cX10_init 46 = .ok (.aload_n 0, 1) := by decide +kernel
theorem dX10_init_47 : decode cX10_init 47 = .ok (.new 19, 3) := by decide +kernel
theorem dX10_init_50 : decode cX10_init 50 = .ok (.dup, 1) := by decide +kernel
theorem dX10_init_51 : decode cX10_init 51 = .ok (.aload_n 0, 1) := by decide +kernel
theorem dX10_init_52 : decode cX10_init 52 = .ok (.getfield 16, 3) := by decide +kernel
theorem dX10_init_55 : decode cX10_init 55 = .ok (.invokespecial 21, 3) := by decide +kernel
theorem dX10_init_58 : decode cX10_init 58 = .ok (.putfield 28, 3) := by decide +kernel
theorem dX10_init_61 : decode cX10_init 61 = .ok (.aload_n 0, 1) := by decide +kernel
theorem dX10_init_62 : decode cX10_init 62 = .ok (.sipush 2048, 3) := by decide +kernel
theorem dX10_init_65 : decode cX10_init 65 = .ok (.newarray .int, 2) := by decide +kernel
theorem dX10_init_67 : decode cX10_init 67 = .ok (.putfield 31, 3) := by decide +kernel
theorem dX10_init_70 : decode cX10_init 70 = .ok (.aload_n 0, 1) := by decide +kernel
theorem dX10_init_71 : decode cX10_init 71 = .ok (.new 34, 3) := by decide +kernel
theorem dX10_init_74 : decode cX10_init 74 = .ok (.dup, 1) := by decide +kernel
theorem dX10_init_75 : decode cX10_init 75 = .ok (.invokespecial 36, 3) := by decide +kernel
theorem dX10_init_78 : decode cX10_init 78 = .ok (.putfield 37, 3) := by decide +kernel
theorem dX10_init_81 : decode cX10_init 81 = .ok (.aload_n 0, 1) := by decide +kernel
theorem dX10_init_82 : decode cX10_init 82 = .ok (.new 34, 3) := by decide +kernel
theorem dX10_init_85 : decode cX10_init 85 = .ok (.dup, 1) := by decide +kernel
theorem dX10_init_86 : decode cX10_init 86 = .ok (.invokespecial 36, 3) := by decide +kernel
theorem dX10_init_89 : decode cX10_init 89 = .ok (.putfield 41, 3) := by decide +kernel
theorem dX10_init_92 : decode cX10_init 92 = .ok (.aload_n 0, 1) := by decide +kernel
theorem dX10_init_93 : decode cX10_init 93 = .ok (.sipush 2048, 3) := by decide +kernel
theorem dX10_init_96 : decode cX10_init 96 = .ok (.newarray .boolean, 2) := by decide +kernel
theorem dX10_init_98 : decode cX10_init 98 = .ok (.putfield 44, 3) := by decide +kernel
theorem dX10_init_101 : decode cX10_init 101 = .ok (.aload_n 0, 1) := by decide +kernel
theorem dX10_init_102 : decode cX10_init 102 = .ok (.sipush 8200, 3) := by decide +kernel
theorem dX10_init_105 : decode cX10_init 105 = .ok (.newarray .byte, 2) := by decide +kernel
theorem dX10_init_107 : decode cX10_init 107 = .ok (.putfield 48, 3) := by decide +kernel
theorem dX10_init_110 : decode cX10_init 110 = .ok (.return_, 1) := by decide +kernel
theorem dX10_four_0 : decode cX10_four 0 = .ok (.bipush 24, 2) := by decide +kernel
theorem dX10_four_2 : decode cX10_four 2 = .ok (.istore_n 2, 1) := by decide +kernel
theorem dX10_four_3 : decode cX10_four 3 = .ok (.iload_n 2, 1) := by decide +kernel
theorem dX10_four_4 : decode cX10_four 4 = .ok (.ifCond .lt 32, 3) := by decide +kernel
theorem dX10_four_7 : decode cX10_four 7 = .ok (.aload_n 0, 1) := by decide +kernel
theorem dX10_four_8 : decode cX10_four 8 = .ok (.getfield 48, 3) := by decide +kernel
theorem dX10_four_11 : decode cX10_four 11 = .ok (.aload_n 0, 1) := by decide +kernel
theorem dX10_four_12 : decode cX10_four 12 = .ok (.getfield 52, 3) := by decide +kernel
theorem dX10_four_15 : decode cX10_four 15 = .ok (.iload_n 1, 1) := by decide +kernel
theorem dX10_four_16 : decode cX10_four 16 = .ok (.iload_n 2, 1) := by decide +kernel
theorem dX10_four_17 : decode cX10_four 17 = .ok (.ishr, 1) := by decide +kernel
theorem dX10_four_18 : decode cX10_four 18 = .ok (.i2b, 1) := by decide +kernel
theorem dX10_four_19 : decode cX10_four 19 = .ok (.bastore, 1) := by decide +kernel
theorem dX10_four_20 : decode cX10_four 20 = .ok (.aload_n 0, 1) := by decide +kernel
theorem dX10_four_21 : decode cX10_four 21 = .ok (.dup, 1) := by decide +kernel
theorem dX10_four_22 : decode cX10_four 22 = .ok (.getfield 52, 3) := by decide +kernel
theorem dX10_four_25 : decode cX10_four 25 = .ok (.iconst 1, 1) := by decide +kernel
theorem dX10_four_26 : decode cX10_four 26 = .ok (.iadd, 1) := by decide +kernel
theorem dX10_four_27 : decode cX10_four 27 = .ok (.putfield 52, 3) := by decide +kernel
theorem dX10_four_30 : decode cX10_four 30 = .ok (.iinc 2 (-8), 3) := by decide +kernel
theorem dX10_four_33 : decode cX10_four 33 = .ok (.goto (-30), 3) := by decide +kernel
theorem dX10_four_36 : decode cX10_four 36 = .ok (.return_, 1) := by decide +kernel
theorem dX10_feed_0 : decode cX10_feed 0 = .ok (.aload_n 0, 1) := by decide +kernel
theorem dX10_feed_1 : decode cX10_feed 1 = .ok (.getfield 52, 3) := by decide +kernel
theorem dX10_feed_4 : decode cX10_feed 4 = .ok (.bipush 20, 2) := by decide +kernel
theorem dX10_feed_6 : decode cX10_feed 6 = .ok (.iadd, 1) := by decide +kernel
theorem dX10_feed_7 : decode cX10_feed 7 = .ok (.sipush 8200, 3) := by decide +kernel
theorem dX10_feed_10 : decode cX10_feed 10 = .ok (.if_icmp .gt 15, 3) := by decide +kernel
theorem dX10_feed_13 : decode cX10_feed 13 = .ok (.aload_n 0, 1) := by decide +kernel
theorem dX10_feed_14 : decode cX10_feed 14 = .ok (.getfield 56, 3) := by decide +kernel
theorem dX10_feed_17 : decode cX10_feed 17 = .ok (.bipush 20, 2) := by decide +kernel
theorem dX10_feed_19 : decode cX10_feed 19 = .ok (.iadd, 1) := by decide +kernel
theorem dX10_feed_20 : decode cX10_feed 20 = .ok (.ldc 59, 2) := by decide +kernel
theorem dX10_feed_22 : decode cX10_feed 22 = .ok (.if_icmp .le 5, 3) := by decide +kernel
theorem dX10_feed_25 : decode cX10_feed 25 = .ok (.iconst (-1), 1) := by decide +kernel
theorem dX10_feed_26 : decode cX10_feed 26 = .ok (.ireturn, 1) := by decide +kernel
theorem dX10_feed_27 : decode cX10_feed 27 = .ok (.aload_n 0, 1) := by decide +kernel
theorem dX10_feed_28 : decode cX10_feed 28 = .ok (.iload_n 1, 1) := by decide +kernel
theorem dX10_feed_29 : decode cX10_feed 29 = .ok (.invokevirtual 60, 3) := by decide +kernel
theorem dX10_feed_32 : decode cX10_feed 32 = .ok (.aload_n 0, 1) := by decide +kernel
theorem dX10_feed_33 : decode cX10_feed 33 = .ok (.iload_n 2, 1) := by decide +kernel
theorem dX10_feed_34 : decode cX10_feed 34 = .ok (.invokevirtual 60, 3) := by decide +kernel
theorem dX10_feed_37 : decode cX10_feed 37 = .ok (.aload_n 0, 1) := by decide +kernel
theorem dX10_feed_38 : decode cX10_feed 38 = .ok (.iload_n 3, 1) := by decide +kernel
theorem dX10_feed_39 : decode cX10_feed 39 = .ok (.invokevirtual 60, 3) := by decide +kernel
theorem dX10_feed_42 : decode cX10_feed 42 = .ok (.aload_n 0, 1) := by decide +kernel
theorem dX10_feed_43 : decode cX10_feed 43 = .ok (.iload 4, 2) := by decide +kernel
theorem dX10_feed_45 : decode cX10_feed 45 = .ok (.invokevirtual 60, 3) := by decide +kernel
theorem dX10_feed_48 : decode cX10_feed 48 = .ok (.aload_n 0, 1) := by decide +kernel
theorem dX10_feed_49 : decode cX10_feed 49 = .ok (.iload 5, 2) := by decide +kernel
theorem dX10_feed_51 : decode cX10_feed 51 = .ok (.invokevirtual 60, 3) := by decide +kernel
theorem dX10_feed_54 : decode cX10_feed 54 = .ok (.aload_n 0, 1) := by decide +kernel
theorem dX10_feed_55 : decode cX10_feed 55 = .ok (.dup, 1) := by decide +kernel
theorem dX10_feed_56 : decode cX10_feed 56 = .ok (.getfield 56, 3) := by decide +kernel
theorem dX10_feed_59 : decode cX10_feed 59 = .ok (.bipush 20, 2) := by decide +kernel
theorem dX10_feed_61 : decode cX10_feed 61 = .ok (.iadd, 1) := by decide +kernel
theorem dX10_feed_62 : decode cX10_feed 62 = .ok (.putfield 56, 3) := by decide +kernel
theorem dX10_feed_65 : decode cX10_feed 65 = .ok (.aload_n 0, 1) := by decide +kernel
theorem dX10_feed_66 : decode cX10_feed 66 = .ok (.getfield 52, 3) := by decide +kernel
theorem dX10_feed_69 : decode cX10_feed 69 = .ok (.ireturn, 1) := by decide +kernel
theorem dX10_end_0 : decode cX10_end 0 = .ok (.iload_n 1, 1) := by decide +kernel
theorem dX10_end_1 : decode cX10_end 1 = .ok (.ifCond .lt 11, 3) := by decide +kernel
theorem dX10_end_4 : decode cX10_end 4 = .ok (.iload_n 1, 1) := by decide +kernel
theorem dX10_end_5 : decode cX10_end 5 = .ok (.aload_n 0, 1) := by decide +kernel
theorem dX10_end_6 : decode cX10_end 6 = .ok (.getfield 52, 3) := by decide +kernel
theorem dX10_end_9 : decode cX10_end 9 = .ok (.if_icmp .le 5, 3) := by decide +kernel
theorem dX10_end_12 : decode cX10_end 12 = .ok (.iconst 0, 1) := by decide +kernel
theorem dX10_end_13 : decode cX10_end 13 = .ok (.ireturn, 1) := by decide +kernel
