theorem dX0_init_0 : decode cX0_init 0 = .ok (.aload_n 0, 1) := by decide +kernel
theorem dX0_init_1 : decode cX0_init 1 = .ok (.invokespecial 1, 3) := by decide +kernel
theorem dX0_init_4 : decode cX0_init 4 = .ok (.aload_n 0, 1) := by decide +kernel
theorem dX0_init_5 : decode cX0_init 5 = .ok (.iload_n 1, 1) := by decide +kernel
theorem dX0_init_6 : decode cX0_init 6 = .ok (.ifCond .le 11, 3) := by decide +kernel
theorem dX0_init_9 : decode cX0_init 9 = .ok (.iload_n 1, 1) := by decide +kernel
theorem dX0_init_10 : decode cX0_init 10 = .ok (.iconst 3, 1) := by decide +kernel
theorem dX0_init_11 : decode cX0_init 11 = .ok (.iadd, 1) := by decide +kernel
theorem dX0_init_12 : decode cX0_init 12 = .ok (.iconst 4, 1) := by decide +kernel
theorem dX0_init_13 : decode cX0_init 13 = .ok (.idiv, 1) := by decide +kernel
theorem dX0_init_14 : decode cX0_init 14 = .ok (.goto 4, 3) := by decide +kernel
theorem dX0_init_17 : decode cX0_init 17 = .ok (.iconst 0, 1) := by decide +kernel
theorem dX0_init_18 : decode cX0_init 18 = .ok (.newarray .int, 2) := by decide +kernel
theorem dX0_init_20 : decode cX0_init 20 = .ok (.putfield 7, 3) := by decide +kernel
theorem dX0_init_23 : decode cX0_init 23 = .ok (.return_, 1) := by decide +kernel
theorem dX0_get_0 : decode cX0_get 0 = .ok (.iload_n 1, 1) := by decide +kernel
theorem dX0_get_1 : decode cX0_get 1 = .ok (.iconst 2, 1) := by decide +kernel
theorem dX0_get_2 : decode cX0_get 2 = .ok (.ishr, 1) := by decide +kernel
theorem dX0_get_3 : decode cX0_get 3 = .ok (.istore_n 2, 1) := by decide +kernel
theorem dX0_get_4 : decode cX0_get 4 = .ok (.iload_n 2, 1) := by decide +kernel
theorem dX0_get_5 : decode cX0_get 5 = .ok (.ifCond .lt 12, 3) := by decide +kernel
theorem dX0_get_8 : decode cX0_get 8 = .ok (.iload_n 2, 1) := by decide +kernel
theorem dX0_get_9 : decode cX0_get 9 = .ok (.aload_n 0, 1) := by decide +kernel
theorem dX0_get_10 : decode cX0_get 10 = .ok (.getfield 7, 3) := by decide +kernel
theorem dX0_get_13 : decode cX0_get 13 = .ok (.arraylength, 1) := by decide +kernel
theorem dX0_get_14 : decode cX0_get 14 = .ok (.if_icmp .lt 7, 3) := by decide +kernel
theorem dX0_get_17 : decode cX0_get 17 = .ok (.iconst 0, 1) := by decide +kernel
theorem dX0_get_18 : decode cX0_get 18 = .ok (.goto 20, 3) := by decide +kernel
theorem dX0_get_21 : decode cX0_get 21 = .ok (.aload_n 0, 1) := by decide +kernel
theorem dX0_get_22 : decode cX0_get 22 = .ok (.getfield 7, 3) := by decide +kernel
theorem dX0_get_25 : decode cX0_get 25 = .ok (.iload_n 2, 1) := by decide +kernel
theorem dX0_get_26 : decode cX0_get 26 = .ok (.iaload, 1) := by decide +kernel
theorem dX0_get_27 : decode cX0_get 27 = .ok (.bipush 8, 2) := by decide +kernel
theorem dX0_get_29 : decode cX0_get 29 = .ok (.iload_n 1, 1) := by decide +kernel
theorem dX0_get_30 : decode cX0_get 30 = .ok (.iconst 3, 1) := by decide +kernel
theorem dX0_get_31 : decode cX0_get 31 = .ok (.iand, 1) := by decide +kernel
theorem dX0_get_32 : decode cX0_get 32 = .ok (.imul, 1) := by decide +kernel
theorem dX0_get_33 : decode cX0_get 33 = .ok (.iushr, 1) := by decide +kernel
theorem dX0_get_34 : decode cX0_get 34 = .ok (.sipush 255, 3) := by decide +kernel
theorem dX0_get_37 : decode cX0_get 37 = .ok (.iand, 1) := by decide +kernel
theorem dX0_get_38 : decode cX0_get 38 = .ok (.ireturn, 1) := by decide +kernel
theorem dX0_put_0 : decode cX0_put 0 = .ok (.iload_n 1, 1) := by decide +kernel
theorem dX0_put_1 : decode cX0_put 1 = .ok (.iconst 2, 1) := by decide +kernel
theorem dX0_put_2 : decode cX0_put 2 = .ok (.ishr, 1) := by decide +kernel
theorem dX0_put_3 : decode cX0_put 3 = .ok (.istore_n 3, 1) := by decide +kernel
theorem dX0_put_4 : decode cX0_put 4 = .ok (.iload_n 3, 1) := by decide +kernel
theorem dX0_put_5 : decode cX0_put 5 = .ok (.ifCond .lt 50, 3) := by decide +kernel
theorem dX0_put_8 : decode cX0_put 8 = .ok (.iload_n 3, 1) := by decide +kernel
theorem dX0_put_9 : decode cX0_put 9 = .ok (.aload_n 0, 1) := by decide +kernel
theorem dX0_put_10 : decode cX0_put 10 = .ok (.getfield 7, 3) := by decide +kernel
theorem dX0_put_13 : decode cX0_put 13 = .ok (.arraylength, 1) := by decide +kernel
theorem dX0_put_14 : decode cX0_put 14 = .ok (.if_icmp .ge 41, 3) := by decide +kernel
theorem dX0_put_17 : decode cX0_put 17 = .ok (.bipush 8, 2) := by decide +kernel
theorem dX0_put_19 : decode cX0_put 19 = .ok (.iload_n 1, 1) := by decide +kernel
theorem dX0_put_20 : decode cX0_put 20 = .ok (.iconst 3, 1) := by decide +kernel
theorem dX0_put_21 : decode cX0_put 21 = .ok (.iand, 1) := by decide +kernel
theorem dX0_put_22 : decode cX0_put 22 = .ok (.imul, 1) := by decide +kernel
theorem dX0_put_23 : decode cX0_put 23 = .ok (.istore 4, 2) := by decide +kernel
theorem dX0_put_25 : decode cX0_put 25 = .ok (.aload_n 0, 1) := by decide +kernel
theorem dX0_put_26 : decode cX0_put 26 = .ok (.getfield 7, 3) := by decide +kernel
theorem dX0_put_29 : decode cX0_put 29 = .ok (.iload_n 3, 1) := by decide +kernel
theorem dX0_put_30 : decode cX0_put 30 = .ok (.aload_n 0, 1) := by decide +kernel
theorem dX0_put_31 : decode cX0_put 31 = .ok (.getfield 7, 3) := by decide +kernel
theorem dX0_put_34 : decode cX0_put 34 = .ok (.iload_n 3, 1) := by decide +kernel
theorem dX0_put_35 : decode cX0_put 35 = .ok (.iaload, 1) := by decide +kernel
theorem dX0_put_36 : decode cX0_put 36 = .ok (.sipush 255, 3) := by decide +kernel
theorem dX0_put_39 : decode cX0_put 39 = .ok (.iload 4, 2) := by decide +kernel
theorem dX0_put_41 : decode cX0_put 41 = .ok (.ishl, 1) := by decide +kernel
theorem dX0_put_42 : decode cX0_put 42 = .ok (.iconst (-1), 1) := by decide +kernel
theorem dX0_put_43 : decode cX0_put 43 = .ok (.ixor, 1) := by decide +kernel
theorem dX0_put_44 : decode cX0_put 44 = .ok (.iand, 1) := by decide +kernel
theorem dX0_put_45 : decode cX0_put 45 = .ok (.iload_n 2, 1) := by decide +kernel
theorem dX0_put_46 : decode cX0_put 46 = .ok (.sipush 255, 3) := by decide +kernel
theorem dX0_put_49 : decode cX0_put 49 = .ok (.iand, 1) := by decide +kernel
theorem dX0_put_50 : decode cX0_put 50 = .ok (.iload 4, 2) := by decide +kernel
theorem dX0_put_52 : decode cX0_put 52 = .ok (.ishl, 1) := by decide +kernel
theorem dX0_put_53 : decode cX0_put 53 = .ok (.ior, 1) := by decide +kernel
theorem dX0_put_54 : decode cX0_put 54 = .ok (.iastore, 1) := by decide +kernel
theorem dX0_put_55 : decode cX0_put 55 = .ok (.return_, 1) := by decide +kernel
theorem dX1_init_0 : decode cX1_init 0 = .ok (.aload_n 0, 1) := by decide +kernel
theorem dX1_init_1 : decode cX1_init 1 = .ok (.invokespecial 3, 3) := by decide +kernel
theorem dX1_init_4 : decode cX1_init 4 = .ok (.aload_n 0, 1) := by decide +kernel
theorem dX1_init_5 : decode cX1_init 5 = .ok (.bipush 36, 2) := by decide +kernel
theorem dX1_init_7 : decode cX1_init 7 = .ok (.newarray .int, 2) := by decide +kernel
theorem dX1_init_9 : decode cX1_init 9 = .ok (.putfield 9, 3) := by decide +kernel
theorem dX1_init_12 : decode cX1_init 12 = .ok (.aload_n 0, 1) := by decide +kernel
theorem dX1_init_13 : decode cX1_init 13 = .ok (.sipush 1024, 3) := by decide +kernel
theorem dX1_init_16 : decode cX1_init 16 = .ok (.newarray .int, 2) := by decide +kernel
theorem dX1_init_18 : decode cX1_init 18 = .ok (.putfield 15, 3) := by decide +kernel
theorem dX1_init_21 : decode cX1_init 21 = .ok (.aload_n 0, 1) := by decide +kernel
theorem dX1_init_22 : decode cX1_init 22 = .ok (.aload_n 1, 1) := by decide +kernel
theorem dX1_init_23 : decode cX1_init 23 = .ok (.putfield 18, 3) := by decide +kernel
theorem dX1_init_26 : decode cX1_init 26 = .ok (.aload_n 0, 1) := by decide +kernel
theorem dX1_init_27 : decode cX1_init 27 = .ok (.aload_n 2, 1) := by decide +kernel
theorem dX1_init_28 : decode cX1_init 28 = .ok (.putfield 22, 3) := by decide +kernel
theorem dX1_init_31 : decode cX1_init 31 = .ok (.return_, 1) := by decide +kernel
theorem dX1_setStoreStart_0 : decode cX1_setStoreStart 0 = .ok (.aload_n 0, 1) := by decide +kernel
theorem dX1_setStoreStart_1 : decode cX1_setStoreStart 1 = .ok (.iload_n 1, 1) := by decide +kernel
theorem dX1_setStoreStart_2 : decode cX1_setStoreStart 2 = .ok (.putfield 25, 3) := by decide +kernel
theorem dX1_setStoreStart_5 : decode cX1_setStoreStart 5 = .ok (.return_, 1) := by decide +kernel
theorem dX1_owned_0 : decode cX1_owned 0 = .ok (.iload_n 1, 1) := by decide +kernel
theorem dX1_owned_1 : decode cX1_owned 1 = .ok (.ifCond .lt 18, 3) := by decide +kernel
theorem dX1_owned_4 : decode cX1_owned 4 = .ok (.iload_n 1, 1) := by decide +kernel
theorem dX1_owned_5 : decode cX1_owned 5 = .ok (.bipush 36, 2) := by decide +kernel
theorem dX1_owned_7 : decode cX1_owned 7 = .ok (.if_icmp .ge 12, 3) := by decide +kernel
theorem dX1_owned_10 : decode cX1_owned 10 = .ok (.aload_n 0, 1) := by decide +kernel
theorem dX1_owned_11 : decode cX1_owned 11 = .ok (.getfield 9, 3) := by decide +kernel
theorem dX1_owned_14 : decode cX1_owned 14 = .ok (.iload_n 1, 1) := by decide +kernel
theorem dX1_owned_15 : decode cX1_owned 15 = .ok (.iaload, 1) := by decide +kernel
theorem dX1_owned_16 : decode cX1_owned 16 = .ok (.goto 4, 3) := by decide +kernel
theorem dX1_owned_19 : decode cX1_owned 19 = .ok (.iconst 0, 1) := by decide +kernel
theorem dX1_owned_20 : decode cX1_owned 20 = .ok (.ireturn, 1) := by decide +kernel
theorem dX1_saved_0 : decode cX1_saved 0 = .ok (.iload_n 1, 1) := by decide +kernel
theorem dX1_saved_1 : decode cX1_saved 1 = .ok (.bipush 36, 2) := by decide +kernel
theorem dX1_saved_3 : decode cX1_saved 3 = .ok (.isub, 1) := by decide +kernel
theorem dX1_saved_4 : decode cX1_saved 4 = .ok (.istore_n 2, 1) := by decide +kernel
theorem dX1_saved_5 : decode cX1_saved 5 = .ok (.iload_n 2, 1) := by decide +kernel
theorem dX1_saved_6 : decode cX1_saved 6 = .ok (.ifCond .lt 21, 3) := by decide +kernel
theorem dX1_saved_9 : decode cX1_saved 9 = .ok (.iload_n 2, 1) := by decide +kernel
theorem dX1_saved_10 : decode cX1_saved 10 = .ok (.aload_n 0, 1) := by decide +kernel
theorem dX1_saved_11 : decode cX1_saved 11 = .ok (.getfield 15, 3) := by decide +kernel
theorem dX1_saved_14 : decode cX1_saved 14 = .ok (.arraylength, 1) := by decide +kernel
theorem dX1_saved_15 : decode cX1_saved 15 = .ok (.if_icmp .ge 12, 3) := by decide +kernel
theorem dX1_saved_18 : decode cX1_saved 18 = .ok (.aload_n 0, 1) := by decide +kernel
theorem dX1_saved_19 : decode cX1_saved 19 = .ok (.getfield 15, 3) := by decide +kernel
theorem dX1_saved_22 : decode cX1_saved 22 = .ok (.iload_n 2, 1) := by decide +kernel
theorem dX1_saved_23 : decode cX1_saved 23 = .ok (.iaload, 1) := by decide +kernel
theorem dX1_saved_24 : decode cX1_saved 24 = .ok (.goto 8, 3) := by decide +kernel
theorem dX1_saved_27 : decode cX1_saved 27 = .ok (.aload_n 0, 1) := by decide +kernel
theorem dX1_saved_28 : decode cX1_saved 28 = .ok (.iload_n 1, 1) := by decide +kernel
theorem dX1_saved_29 : decode cX1_saved 29 = .ok (.invokevirtual 29, 3) := by decide +kernel
theorem dX1_saved_32 : decode cX1_saved 32 = .ok (.ireturn, 1) := by decide +kernel
theorem dX1_restore_0 : decode cX1_restore 0 = .ok (.iload_n 1, 1) := by decide +kernel
theorem dX1_restore_1 : decode cX1_restore 1 = .ok (.bipush 36, 2) := by decide +kernel
theorem dX1_restore_3 : decode cX1_restore 3 = .ok (.isub, 1) := by decide +kernel
theorem dX1_restore_4 : decode cX1_restore 4 = .ok (.istore_n 3, 1) := by decide +kernel
theorem dX1_restore_5 : decode cX1_restore 5 = .ok (.iload_n 1, 1) := by decide +kernel
theorem dX1_restore_6 : decode cX1_restore 6 = .ok (.ifCond .lt 19, 3) := by decide +kernel
theorem dX1_restore_9 : decode cX1_restore 9 = .ok (.iload_n 1, 1) := by decide +kernel
theorem dX1_restore_10 : decode cX1_restore 10 = .ok (.bipush 36, 2) := by decide +kernel
theorem dX1_restore_12 : decode cX1_restore 12 = .ok (.if_icmp .ge 13, 3) := by decide +kernel
theorem dX1_restore_15 : decode cX1_restore 15 = .ok (.aload_n 0, 1) := by decide +kernel
theorem dX1_restore_16 : decode cX1_restore 16 = .ok (.getfield 9, 3) := by decide +kernel
theorem dX1_restore_19 : decode cX1_restore 19 = .ok (.iload_n 1, 1) := by decide +kernel
theorem dX1_restore_20 : decode cX1_restore 20 = .ok (.iload_n 2, 1) := by decide +kernel
theorem dX1_restore_21 : decode cX1_restore 21 = .ok (.iastore, 1) := by decide +kernel
theorem dX1_restore_22 : decode cX1_restore 22 = .ok (.goto 23, 3) := by decide +kernel
theorem dX1_restore_25 : decode cX1_restore 25 = .ok (.iload_n 3, 1) := by decide +kernel
theorem dX1_restore_26 : decode cX1_restore 26 = .ok (.ifCond .lt 19, 3) := by decide +kernel
theorem dX1_restore_29 : decode cX1_restore 29 = .ok (.iload_n 3, 1) := by decide +kernel
theorem dX1_restore_30 : decode cX1_restore 30 = .ok (.aload_n 0, 1) := by decide +kernel
theorem dX1_restore_31 : decode cX1_restore 31 = .ok (.getfield 15, 3) := by decide +kernel
theorem dX1_restore_34 : decode cX1_restore 34 = .ok (.arraylength, 1) := by decide +kernel
theorem dX1_restore_35 : decode cX1_restore 35 = .ok (.if_icmp .ge 10, 3) := by decide +kernel
theorem dX1_restore_38 : decode cX1_restore 38 = .ok (.aload_n 0, 1) := by decide +kernel
theorem dX1_restore_39 : decode cX1_restore 39 = .ok (.getfield 15, 3) := by decide +kernel
theorem dX1_restore_42 : decode cX1_restore 42 = .ok (.iload_n 3, 1) := by decide +kernel
theorem dX1_restore_43 : decode cX1_restore 43 = .ok (.iload_n 2, 1) := by decide +kernel
theorem dX1_restore_44 : decode cX1_restore 44 = .ok (.iastore, 1) := by decide +kernel
theorem dX1_restore_45 : decode cX1_restore 45 = .ok (.return_, 1) := by decide +kernel
theorem dX1_look_0 : decode cX1_look 0 = .ok (.aload_n 0, 1) := by decide +kernel
theorem dX1_look_1 : decode cX1_look 1 = .ok (.getfield 9, 3) := by decide +kernel
theorem dX1_look_4 : decode cX1_look 4 = .ok (.bipush 32, 2) := by decide +kernel
theorem dX1_look_6 : decode cX1_look 6 = .ok (.iaload, 1) := by decide +kernel
theorem dX1_look_7 : decode cX1_look 7 = .ok (.istore_n 1, 1) := by decide +kernel
theorem dX1_look_8 : decode cX1_look 8 = .ok (.aload_n 0, 1) := by decide +kernel
theorem dX1_look_9 : decode cX1_look 9 = .ok (.iconst 0, 1) := by decide +kernel
theorem dX1_look_10 : decode cX1_look 10 = .ok (.putfield 33, 3) := by decide +kernel
theorem dX1_look_13 : decode cX1_look 13 = .ok (.aload_n 0, 1) := by decide +kernel
theorem dX1_look_14 : decode cX1_look 14 = .ok (.iconst 0, 1) := by decide +kernel
theorem dX1_look_15 : decode cX1_look 15 = .ok (.putfield 36, 3) := by decide +kernel
theorem dX1_look_18 : decode cX1_look 18 = .ok (.aload_n 0, 1) := by decide +kernel
theorem dX1_look_19 : decode cX1_look 19 = .ok (.iconst 0, 1) := by decide +kernel
theorem dX1_look_20 : decode cX1_look 20 = .ok (.putfield 39, 3) := by decide +kernel
theorem dX1_look_23 : decode cX1_look 23 = .ok (.aload_n 0, 1) := by decide +kernel
theorem dX1_look_24 : decode cX1_look 24 = .ok (.iload_n 1, 1) := by decide +kernel
theorem dX1_look_25 : decode cX1_look 25 = .ok (.iconst 4, 1) := by decide +kernel
theorem dX1_look_26 : decode cX1_look 26 = .ok (.iadd, 1) := by decide +kernel
theorem dX1_look_27 : decode cX1_look 27 = .ok (.putfield 42, 3) := by decide +kernel
theorem dX1_look_30 : decode cX1_look 30 = .ok (.aload_n 0, 1) := by decide +kernel
theorem dX1_look_31 : decode cX1_look 31 = .ok (.iload_n 1, 1) := by decide +kernel
theorem dX1_look_32 : decode cX1_look 32 = .ok (.iconst 4, 1) := by decide +kernel
theorem dX1_look_33 : decode cX1_look 33 = .ok (.invokevirtual 45, 3) := by decide +kernel
theorem dX1_look_36 : decode cX1_look 36 = .ok (.istore_n 2, 1) := by decide +kernel
theorem dX1_look_37 : decode cX1_look 37 = .ok (.iload_n 2, 1) := by decide +kernel
theorem dX1_look_38 : decode cX1_look 38 = .ok (.ifCond .eq 5, 3) := by decide +kernel
theorem dX1_look_41 : decode cX1_look 41 = .ok (.iload_n 2, 1) := by decide +kernel
theorem dX1_look_42 : decode cX1_look 42 = .ok (.ireturn, 1) := by decide +kernel
theorem dX1_look_43 : decode cX1_look 43 = .ok (.aload_n 0, 1) := by decide +kernel
theorem dX1_look_44 : decode cX1_look 44 = .ok (.iload_n 1, 1) := by decide +kernel
theorem dX1_look_45 : decode cX1_look 45 = .ok (.invokevirtual 49, 3) := by decide +kernel
theorem dX1_look_48 : decode cX1_look 48 = .ok (.istore_n 3, 1) := by decide +kernel
theorem dX1_look_49 : decode cX1_look 49 = .ok (.aload_n 0, 1) := by decide +kernel
theorem dX1_look_50 : decode cX1_look 50 = .ok (.getfield 9, 3) := by decide +kernel
theorem dX1_look_53 : decode cX1_look 53 = .ok (.iload_n 3, 1) := by decide +kernel
theorem dX1_look_54 : decode cX1_look 54 = .ok (.bipush 15, 2) := by decide +kernel
theorem dX1_look_56 : decode cX1_look 56 = .ok (.iushr, 1) := by decide +kernel
theorem dX1_look_57 : decode cX1_look 57 = .ok (.bipush 31, 2) := by decide +kernel
theorem dX1_look_59 : decode cX1_look 59 = .ok (.iand, 1) := by decide +kernel
theorem dX1_look_60 : decode cX1_look 60 = .ok (.iaload, 1) := by decide +kernel
theorem dX1_look_61 : decode cX1_look 61 = .ok (.istore 4, 2) := by decide +kernel
theorem dX1_look_63 : decode cX1_look 63 = .ok (.aload_n 0, 1) := by decide +kernel
theorem dX1_look_64 : decode cX1_look 64 = .ok (.getfield 9, 3) := by decide +kernel
theorem dX1_look_67 : decode cX1_look 67 = .ok (.iload_n 3, 1) := by decide +kernel
theorem dX1_look_68 : decode cX1_look 68 = .ok (.bipush 20, 2) := by decide +kernel
theorem dX1_look_70 : decode cX1_look 70 = .ok (.iushr, 1) := by decide +kernel
theorem dX1_look_71 : decode cX1_look 71 = .ok (.bipush 31, 2) := by decide +kernel
theorem dX1_look_73 : decode cX1_look 73 = .ok (.iand, 1) := by decide +kernel
theorem dX1_look_74 : decode cX1_look 74 = .ok (.iaload, 1) := by decide +kernel
theorem dX1_look_75 : decode cX1_look 75 = .ok (.istore 5, 2) := by decide +kernel
theorem dX1_look_77 : decode cX1_look 77 = .ok (.iload_n 3, 1) := by decide +kernel
theorem dX1_look_78 : decode cX1_look 78 = .ok (.bipush 12, 2) := by decide +kernel
theorem dX1_look_80 : decode cX1_look 80 = .ok (.iushr, 1) := by decide +kernel
theorem dX1_look_81 : decode cX1_look 81 = .ok (.bipush 7, 2) := by decide +kernel
theorem dX1_look_83 : decode cX1_look 83 = .ok (.iand, 1) := by decide +kernel
theorem dX1_look_84 : decode cX1_look 84 = .ok (.istore 6, 2) := by decide +kernel
theorem dX1_look_86 : decode cX1_look 86 = .ok (.iload_n 3, 1) := by decide +kernel
theorem dX1_look_87 : decode cX1_look 87 = .ok (.bipush 20, 2) := by decide +kernel
theorem dX1_look_89 : decode cX1_look 89 = .ok (.ishr, 1) := by decide +kernel
theorem dX1_look_90 : decode cX1_look 90 = .ok (.istore 7, 2) := by decide +kernel
theorem dX1_look_92 : decode cX1_look 92 = .ok (.aload_n 0, 1) := by decide +kernel
theorem dX1_look_93 : decode cX1_look 93 = .ok (.iload_n 3, 1) := by decide +kernel
theorem dX1_look_94 : decode cX1_look 94 = .ok (.bipush 7, 2) := by decide +kernel
theorem dX1_look_96 : decode cX1_look 96 = .ok (.iushr, 1) := by decide +kernel
theorem dX1_look_97 : decode cX1_look 97 = .ok (.bipush 31, 2) := by decide +kernel
theorem dX1_look_99 : decode cX1_look 99 = .ok (.iand, 1) := by decide +kernel
theorem dX1_look_100 : decode cX1_look 100 = .ok (.putfield 36, 3) := by decide +kernel
theorem dX1_look_103 : decode cX1_look 103 = .ok (.iload_n 3, 1) := by decide +kernel
theorem dX1_look_104 : decode cX1_look 104 = .ok (.bipush 127, 2) := by decide +kernel
theorem dX1_look_106 : decode cX1_look 106 = .ok (.iand, 1) := by decide +kernel
theorem dX1_look_107 : decode cX1_look 107 = .ok (.lookupswitch 287 #[(3, 181), (15, 254), (19, 224), (23, 107), (35, 193), (51, 239), (55, 97), (99, 159), (103, 133), (111, 119), (115, 271)], 97) := by decide +kernel
theorem dX1_look_204 : decode cX1_look 204 = .ok (.aload_n 0, 1) := by decide +kernel
theorem dX1_look_205 : decode cX1_look 205 = .ok (.iload_n 3, 1) := by decide +kernel
theorem dX1_look_206 : decode cX1_look 206 = .ok (.sipush (-4096), 3) := by decide +kernel
theorem dX1_look_209 : decode cX1_look 209 = .ok (.iand, 1) := by decide +kernel
theorem dX1_look_210 : decode cX1_look 210 = .ok (.invokevirtual 52, 3) := by decide +kernel
theorem dX1_look_213 : decode cX1_look 213 = .ok (.ireturn, 1) := by decide +kernel
theorem dX1_look_214 : decode cX1_look 214 = .ok (.aload_n 0, 1) := by decide +kernel
theorem dX1_look_215 : decode cX1_look 215 = .ok (.iload_n 1, 1) := by decide +kernel
theorem dX1_look_216 : decode cX1_look 216 = .ok (.iload_n 3, 1) := by decide +kernel
theorem dX1_look_217 : decode cX1_look 217 = .ok (.sipush (-4096), 3) := by decide +kernel
theorem dX1_look_220 : decode cX1_look 220 = .ok (.iand, 1) := by decide +kernel
theorem dX1_look_221 : decode cX1_look 221 = .ok (.iadd, 1) := by decide +kernel
theorem dX1_look_222 : decode cX1_look 222 = .ok (.invokevirtual 52, 3) := by decide +kernel
theorem dX1_look_225 : decode cX1_look 225 = .ok (.ireturn, 1) := by decide +kernel
theorem dX1_look_226 : decode cX1_look 226 = .ok (.aload_n 0, 1) := by decide +kernel
theorem dX1_look_227 : decode cX1_look 227 = .ok (.iload_n 1, 1) := by decide +kernel
theorem dX1_look_228 : decode cX1_look 228 = .ok (.iload_n 3, 1) := by decide +kernel
theorem dX1_look_229 : decode cX1_look 229 = .ok (.invokestatic 55, 3) := by decide +kernel
theorem dX1_look_232 : decode cX1_look 232 = .ok (.iadd, 1) := by decide +kernel
theorem dX1_look_233 : decode cX1_look 233 = .ok (.iload_n 1, 1) := by decide +kernel
theorem dX1_look_234 : decode cX1_look 234 = .ok (.iconst 4, 1) := by decide +kernel
theorem dX1_look_235 : decode cX1_look 235 = .ok (.iadd, 1) := by decide +kernel
theorem dX1_look_236 : decode cX1_look 236 = .ok (.invokevirtual 58, 3) := by decide +kernel
theorem dX1_look_239 : decode cX1_look 239 = .ok (.ireturn, 1) := by decide +kernel
theorem dX1_look_240 : decode cX1_look 240 = .ok (.iload 6, 2) := by decide +kernel
theorem dX1_look_242 : decode cX1_look 242 = .ok (.ifCond .ne 21, 3) := by decide +kernel
theorem dX1_look_245 : decode cX1_look 245 = .ok (.aload_n 0, 1) := by decide +kernel
theorem dX1_look_246 : decode cX1_look 246 = .ok (.iload 4, 2) := by decide +kernel
theorem dX1_look_248 : decode cX1_look 248 = .ok (.iload 7, 2) := by decide +kernel
theorem dX1_look_250 : decode cX1_look 250 = .ok (.iadd, 1) := by decide +kernel
theorem dX1_look_251 : decode cX1_look 251 = .ok (.bipush (-2), 2) := by decide +kernel
theorem dX1_look_253 : decode cX1_look 253 = .ok (.iand, 1) := by decide +kernel
theorem dX1_look_254 : decode cX1_look 254 = .ok (.iload_n 1, 1) := by decide +kernel
theorem dX1_look_255 : decode cX1_look 255 = .ok (.iconst 4, 1) := by decide +kernel
theorem dX1_look_256 : decode cX1_look 256 = .ok (.iadd, 1) := by decide +kernel
theorem dX1_look_257 : decode cX1_look 257 = .ok (.invokevirtual 58, 3) := by decide +kernel
theorem dX1_look_260 : decode cX1_look 260 = .ok (.goto 5, 3) := by decide +kernel
theorem dX1_look_263 : decode cX1_look 263 = .ok (.bipush 11, 2) := by decide +kernel
theorem dX1_look_265 : decode cX1_look 265 = .ok (.ireturn, 1) := by decide +kernel
theorem dX1_look_266 : decode cX1_look 266 = .ok (.aload_n 0, 1) := by decide +kernel
theorem dX1_look_267 : decode cX1_look 267 = .ok (.iconst 0, 1) := by decide +kernel
theorem dX1_look_268 : decode cX1_look 268 = .ok (.putfield 36, 3) := by decide +kernel
theorem dX1_look_271 : decode cX1_look 271 = .ok (.aload_n 0, 1) := by decide +kernel
theorem dX1_look_272 : decode cX1_look 272 = .ok (.iload 6, 2) := by decide +kernel
theorem dX1_look_274 : decode cX1_look 274 = .ok (.iload 4, 2) := by decide +kernel
theorem dX1_look_276 : decode cX1_look 276 = .ok (.iload 5, 2) := by decide +kernel
theorem dX1_look_278 : decode cX1_look 278 = .ok (.iload_n 1, 1) := by decide +kernel
theorem dX1_look_279 : decode cX1_look 279 = .ok (.iload_n 3, 1) := by decide +kernel
theorem dX1_look_280 : decode cX1_look 280 = .ok (.invokestatic 61, 3) := by decide +kernel
theorem dX1_look_283 : decode cX1_look 283 = .ok (.iadd, 1) := by decide +kernel
theorem dX1_look_284 : decode cX1_look 284 = .ok (.invokevirtual 64, 3) := by decide +kernel
theorem dX1_look_287 : decode cX1_look 287 = .ok (.ireturn, 1) := by decide +kernel
theorem dX1_look_288 : decode cX1_look 288 = .ok (.aload_n 0, 1) := by decide +kernel
theorem dX1_look_289 : decode cX1_look 289 = .ok (.iload 6, 2) := by decide +kernel
theorem dX1_look_291 : decode cX1_look 291 = .ok (.iload 4, 2) := by decide +kernel
theorem dX1_look_293 : decode cX1_look 293 = .ok (.iload 7, 2) := by decide +kernel
theorem dX1_look_295 : decode cX1_look 295 = .ok (.iadd, 1) := by decide +kernel
theorem dX1_look_296 : decode cX1_look 296 = .ok (.invokevirtual 68, 3) := by decide +kernel
theorem dX1_look_299 : decode cX1_look 299 = .ok (.ireturn, 1) := by decide +kernel
theorem dX1_look_300 : decode cX1_look 300 = .ok (.aload_n 0, 1) := by decide +kernel
theorem dX1_look_301 : decode cX1_look 301 = .ok (.iconst 0, 1) := by decide +kernel
theorem dX1_look_302 : decode cX1_look 302 = .ok (.putfield 36, 3) := by decide +kernel
theorem dX1_look_305 : decode cX1_look 305 = .ok (.aload_n 0, 1) := by decide +kernel
theorem dX1_look_306 : decode cX1_look 306 = .ok (.iload 6, 2) := by decide +kernel
theorem dX1_look_308 : decode cX1_look 308 = .ok (.iload 4, 2) := by decide +kernel
theorem dX1_look_310 : decode cX1_look 310 = .ok (.iload_n 3, 1) := by decide +kernel
theorem dX1_look_311 : decode cX1_look 311 = .ok (.bipush 25, 2) := by decide +kernel
theorem dX1_look_313 : decode cX1_look 313 = .ok (.ishr, 1) := by decide +kernel
theorem dX1_look_314 : decode cX1_look 314 = .ok (.iconst 5, 1) := by decide +kernel
theorem dX1_look_315 : decode cX1_look 315 = .ok (.ishl, 1) := by decide +kernel
theorem dX1_look_316 : decode cX1_look 316 = .ok (.iload_n 3, 1) := by decide +kernel
theorem dX1_look_317 : decode cX1_look 317 = .ok (.bipush 7, 2) := by decide +kernel
theorem dX1_look_319 : decode cX1_look 319 = .ok (.iushr, 1) := by decide +kernel
theorem dX1_look_320 : decode cX1_look 320 = .ok (.bipush 31, 2) := by decide +kernel
theorem dX1_look_322 : decode cX1_look 322 = .ok (.iand, 1) := by decide +kernel
theorem dX1_look_323 : decode cX1_look 323 = .ok (.ior, 1) := by decide +kernel
theorem dX1_look_324 : decode cX1_look 324 = .ok (.iadd, 1) := by decide +kernel
theorem dX1_look_325 : decode cX1_look 325 = .ok (.iload 5, 2) := by decide +kernel
theorem dX1_look_327 : decode cX1_look 327 = .ok (.invokevirtual 71, 3) := by decide +kernel
theorem dX1_look_330 : decode cX1_look 330 = .ok (.ireturn, 1) := by decide +kernel
theorem dX1_look_331 : decode cX1_look 331 = .ok (.aload_n 0, 1) := by decide +kernel
theorem dX1_look_332 : decode cX1_look 332 = .ok (.iload 6, 2) := by decide +kernel
theorem dX1_look_334 : decode cX1_look 334 = .ok (.iload_n 3, 1) := by decide +kernel
theorem dX1_look_335 : decode cX1_look 335 = .ok (.bipush 25, 2) := by decide +kernel
theorem dX1_look_337 : decode cX1_look 337 = .ok (.iushr, 1) := by decide +kernel
theorem dX1_look_338 : decode cX1_look 338 = .ok (.iload 4, 2) := by decide +kernel
theorem dX1_look_340 : decode cX1_look 340 = .ok (.iload 7, 2) := by decide +kernel
theorem dX1_look_342 : decode cX1_look 342 = .ok (.invokevirtual 75, 3) := by decide +kernel
theorem dX1_look_345 : decode cX1_look 345 = .ok (.ireturn, 1) := by decide +kernel
theorem dX1_look_346 : decode cX1_look 346 = .ok (.aload_n 0, 1) := by decide +kernel
theorem dX1_look_347 : decode cX1_look 347 = .ok (.iload 6, 2) := by decide +kernel
theorem dX1_look_349 : decode cX1_look 349 = .ok (.iload_n 3, 1) := by decide +kernel
theorem dX1_look_350 : decode cX1_look 350 = .ok (.bipush 25, 2) := by decide +kernel
theorem dX1_look_352 : decode cX1_look 352 = .ok (.iushr, 1) := by decide +kernel
theorem dX1_look_353 : decode cX1_look 353 = .ok (.iload 4, 2) := by decide +kernel
theorem dX1_look_355 : decode cX1_look 355 = .ok (.iload 5, 2) := by decide +kernel
theorem dX1_look_357 : decode cX1_look 357 = .ok (.invokevirtual 78, 3) := by decide +kernel
theorem dX1_look_360 : decode cX1_look 360 = .ok (.ireturn, 1) := by decide +kernel
theorem dX1_look_361 : decode cX1_look 361 = .ok (.aload_n 0, 1) := by decide +kernel
theorem dX1_look_362 : decode cX1_look 362 = .ok (.iconst 0, 1) := by decide +kernel
theorem dX1_look_363 : decode cX1_look 363 = .ok (.putfield 36, 3) := by decide +kernel
theorem dX1_look_366 : decode cX1_look 366 = .ok (.iload 6, 2) := by decide +kernel
theorem dX1_look_368 : decode cX1_look 368 = .ok (.ifCond .ne 7, 3) := by decide +kernel
theorem dX1_look_371 : decode cX1_look 371 = .ok (.iconst 0, 1) := by decide +kernel
theorem dX1_look_372 : decode cX1_look 372 = .ok (.goto 5, 3) := by decide +kernel
theorem dX1_look_375 : decode cX1_look 375 = .ok (.bipush 11, 2) := by decide +kernel
theorem dX1_look_377 : decode cX1_look 377 = .ok (.ireturn, 1) := by decide +kernel
theorem dX1_look_378 : decode cX1_look 378 = .ok (.iload_n 3, 1) := by decide +kernel
theorem dX1_look_379 : decode cX1_look 379 = .ok (.bipush 115, 2) := by decide +kernel
theorem dX1_look_381 : decode cX1_look 381 = .ok (.if_icmp .ne 10, 3) := by decide +kernel
theorem dX1_look_384 : decode cX1_look 384 = .ok (.aload_n 0, 1) := by decide +kernel
theorem dX1_look_385 : decode cX1_look 385 = .ok (.invokevirtual 81, 3) := by decide +kernel
theorem dX1_look_388 : decode cX1_look 388 = .ok (.goto 5, 3) := by decide +kernel
theorem dX1_look_391 : decode cX1_look 391 = .ok (.bipush 11, 2) := by decide +kernel
theorem dX1_look_393 : decode cX1_look 393 = .ok (.ireturn, 1) := by decide +kernel
theorem dX1_look_394 : decode cX1_look 394 = .ok (.bipush 11, 2) := by decide +kernel
theorem dX1_look_396 : decode cX1_look 396 = .ok (.ireturn, 1) := by decide +kernel
theorem dX1_jumpOffset_0 : decode cX1_jumpOffset 0 = .ok (.iload_n 0, 1) := by decide +kernel
theorem dX1_jumpOffset_1 : decode cX1_jumpOffset 1 = .ok (.bipush 31, 2) := by decide +kernel
theorem dX1_jumpOffset_3 : decode cX1_jumpOffset 3 = .ok (.ishr, 1) := by decide +kernel
theorem dX1_jumpOffset_4 : decode cX1_jumpOffset 4 = .ok (.bipush 20, 2) := by decide +kernel
theorem dX1_jumpOffset_6 : decode cX1_jumpOffset 6 = .ok (.ishl, 1) := by decide +kernel
theorem dX1_jumpOffset_7 : decode cX1_jumpOffset 7 = .ok (.iload_n 0, 1) := by decide +kernel
theorem dX1_jumpOffset_8 : decode cX1_jumpOffset 8 = .ok (.ldc 85, 2) := by decide +kernel
theorem dX1_jumpOffset_10 : decode cX1_jumpOffset 10 = .ok (.iand, 1) := by decide +kernel
theorem dX1_jumpOffset_11 : decode cX1_jumpOffset 11 = .ok (.ior, 1) := by decide +kernel
theorem dX1_jumpOffset_12 : decode cX1_jumpOffset 12 = .ok (.iload_n 0, 1) := by decide +kernel
theorem dX1_jumpOffset_13 : decode cX1_jumpOffset 13 = .ok (.bipush 9, 2) := by decide +kernel
theorem dX1_jumpOffset_15 : decode cX1_jumpOffset 15 = .ok (.iushr, 1) := by decide +kernel
theorem dX1_jumpOffset_16 : decode cX1_jumpOffset 16 = .ok (.sipush 2048, 3) := by decide +kernel
theorem dX1_jumpOffset_19 : decode cX1_jumpOffset 19 = .ok (.iand, 1) := by decide +kernel
theorem dX1_jumpOffset_20 : decode cX1_jumpOffset 20 = .ok (.ior, 1) := by decide +kernel
theorem dX1_jumpOffset_21 : decode cX1_jumpOffset 21 = .ok (.iload_n 0, 1) := by decide +kernel
theorem dX1_jumpOffset_22 : decode cX1_jumpOffset 22 = .ok (.bipush 20, 2) := by decide +kernel
theorem dX1_jumpOffset_24 : decode cX1_jumpOffset 24 = .ok (.iushr, 1) := by decide +kernel
theorem dX1_jumpOffset_25 : decode cX1_jumpOffset 25 = .ok (.sipush 2046, 3) := by decide +kernel
theorem dX1_jumpOffset_28 : decode cX1_jumpOffset 28 = .ok (.iand, 1) := by decide +kernel
theorem dX1_jumpOffset_29 : decode cX1_jumpOffset 29 = .ok (.ior, 1) := by decide +kernel
theorem dX1_jumpOffset_30 : decode cX1_jumpOffset 30 = .ok (.ireturn, 1) := by decide +kernel
theorem dX1_branchOffset_0 : decode cX1_branchOffset 0 = .ok (.iload_n 0, 1) := by decide +kernel
theorem dX1_branchOffset_1 : decode cX1_branchOffset 1 = .ok (.bipush 31, 2) := by decide +kernel
theorem dX1_branchOffset_3 : decode cX1_branchOffset 3 = .ok (.ishr, 1) := by decide +kernel
theorem dX1_branchOffset_4 : decode cX1_branchOffset 4 = .ok (.bipush 12, 2) := by decide +kernel
theorem dX1_branchOffset_6 : decode cX1_branchOffset 6 = .ok (.ishl, 1) := by decide +kernel
theorem dX1_branchOffset_7 : decode cX1_branchOffset 7 = .ok (.iload_n 0, 1) := by decide +kernel
theorem dX1_branchOffset_8 : decode cX1_branchOffset 8 = .ok (.iconst 4, 1) := by decide +kernel
theorem dX1_branchOffset_9 : decode cX1_branchOffset 9 = .ok (.ishl, 1) := by decide +kernel
theorem dX1_branchOffset_10 : decode cX1_branchOffset 10 = .ok (.sipush 2048, 3) := by decide +kernel
theorem dX1_branchOffset_13 : decode cX1_branchOffset 13 = .ok (.iand, 1) := by decide +kernel
theorem dX1_branchOffset_14 : decode cX1_branchOffset 14 = .ok (.ior, 1) := by decide +kernel
theorem dX1_branchOffset_15 : decode cX1_branchOffset 15 = .ok (.iload_n 0, 1) := by decide +kernel
theorem dX1_branchOffset_16 : decode cX1_branchOffset 16 = .ok (.bipush 20, 2) := by decide +kernel
theorem dX1_branchOffset_18 : decode cX1_branchOffset 18 = .ok (.iushr, 1) := by decide +kernel
theorem dX1_branchOffset_19 : decode cX1_branchOffset 19 = .ok (.sipush 2016, 3) := by decide +kernel
theorem dX1_branchOffset_22 : decode cX1_branchOffset 22 = .ok (.iand, 1) := by decide +kernel
theorem dX1_branchOffset_23 : decode cX1_branchOffset 23 = .ok (.ior, 1) := by decide +kernel
theorem dX1_branchOffset_24 : decode cX1_branchOffset 24 = .ok (.iload_n 0, 1) := by decide +kernel
theorem dX1_branchOffset_25 : decode cX1_branchOffset 25 = .ok (.bipush 7, 2) := by decide +kernel
theorem dX1_branchOffset_27 : decode cX1_branchOffset 27 = .ok (.iushr, 1) := by decide +kernel
theorem dX1_branchOffset_28 : decode cX1_branchOffset 28 = .ok (.bipush 30, 2) := by decide +kernel
theorem dX1_branchOffset_30 : decode cX1_branchOffset 30 = .ok (.iand, 1) := by decide +kernel
theorem dX1_branchOffset_31 : decode cX1_branchOffset 31 = .ok (.ior, 1) := by decide +kernel
theorem dX1_branchOffset_32 : decode cX1_branchOffset 32 = .ok (.ireturn, 1) := by decide +kernel
theorem dX1_below_0 : decode cX1_below 0 = .ok (.iload_n 0, 1) := by decide +kernel
theorem dX1_below_1 : decode cX1_below 1 = .ok (.ldc 86, 2) := by decide +kernel
theorem dX1_below_3 : decode cX1_below 3 = .ok (.ixor, 1) := by decide +kernel
theorem dX1_below_4 : decode cX1_below 4 = .ok (.iload_n 1, 1) := by decide +kernel
theorem dX1_below_5 : decode cX1_below 5 = .ok (.ldc 86, 2) := by decide +kernel
theorem dX1_below_7 : decode cX1_below 7 = .ok (.ixor, 1) := by decide +kernel
theorem dX1_below_8 : decode cX1_below 8 = .ok (.if_icmp .ge 7, 3) := by decide +kernel
theorem dX1_below_11 : decode cX1_below 11 = .ok (.iconst 1, 1) := by decide +kernel
theorem dX1_below_12 : decode cX1_below 12 = .ok (.goto 4, 3) := by decide +kernel
theorem dX1_below_15 : decode cX1_below 15 = .ok (.iconst 0, 1) := by decide +kernel
theorem dX1_below_16 : decode cX1_below 16 = .ok (.ireturn, 1) := by decide +kernel
theorem dX1_give_0 : decode cX1_give 0 = .ok (.aload_n 0, 1) := by decide +kernel
theorem dX1_give_1 : decode cX1_give 1 = .ok (.iload_n 1, 1) := by decide +kernel
theorem dX1_give_2 : decode cX1_give 2 = .ok (.putfield 39, 3) := by decide +kernel
theorem dX1_give_5 : decode cX1_give 5 = .ok (.iconst 0, 1) := by decide +kernel
theorem dX1_give_6 : decode cX1_give 6 = .ok (.ireturn, 1) := by decide +kernel
theorem dX1_jump_0 : decode cX1_jump 0 = .ok (.iload_n 1, 1) := by decide +kernel
theorem dX1_jump_1 : decode cX1_jump 1 = .ok (.iconst 3, 1) := by decide +kernel
theorem dX1_jump_2 : decode cX1_jump 2 = .ok (.iand, 1) := by decide +kernel
theorem dX1_jump_3 : decode cX1_jump 3 = .ok (.ifCond .eq 6, 3) := by decide +kernel
theorem dX1_jump_6 : decode cX1_jump 6 = .ok (.bipush 12, 2) := by decide +kernel
theorem dX1_jump_8 : decode cX1_jump 8 = .ok (.ireturn, 1) := by decide +kernel
theorem dX1_jump_9 : decode cX1_jump 9 = .ok (.aload_n 0, 1) := by decide +kernel
theorem dX1_jump_10 : decode cX1_jump 10 = .ok (.iload_n 1, 1) := by decide +kernel
theorem dX1_jump_11 : decode cX1_jump 11 = .ok (.putfield 42, 3) := by decide +kernel
theorem dX1_jump_14 : decode cX1_jump 14 = .ok (.aload_n 0, 1) := by decide +kernel
theorem dX1_jump_15 : decode cX1_jump 15 = .ok (.iload_n 2, 1) := by decide +kernel
theorem dX1_jump_16 : decode cX1_jump 16 = .ok (.invokevirtual 52, 3) := by decide +kernel
theorem dX1_jump_19 : decode cX1_jump 19 = .ok (.ireturn, 1) := by decide +kernel
theorem dX1_branch_0 : decode cX1_branch 0 = .ok (.iload_n 1, 1) := by decide +kernel
theorem dX1_branch_1 : decode cX1_branch 1 = .ok (.bipush 6, 2) := by decide +kernel
theorem dX1_branch_3 : decode cX1_branch 3 = .ok (.iand, 1) := by decide +kernel
theorem dX1_branch_4 : decode cX1_branch 4 = .ok (.lookupswitch 76 #[(0, 36), (4, 51), (6, 66)], 36) := by decide +kernel
theorem dX1_branch_40 : decode cX1_branch 40 = .ok (.iload_n 2, 1) := by decide +kernel
theorem dX1_branch_41 : decode cX1_branch 41 = .ok (.iload_n 3, 1) := by decide +kernel
theorem dX1_branch_42 : decode cX1_branch 42 = .ok (.if_icmp .ne 7, 3) := by decide +kernel
theorem dX1_branch_45 : decode cX1_branch 45 = .ok (.iconst 1, 1) := by decide +kernel
theorem dX1_branch_46 : decode cX1_branch 46 = .ok (.goto 4, 3) := by decide +kernel
theorem dX1_branch_49 : decode cX1_branch 49 = .ok (.iconst 0, 1) := by decide +kernel
theorem dX1_branch_50 : decode cX1_branch 50 = .ok (.istore 5, 2) := by decide +kernel
theorem dX1_branch_52 : decode cX1_branch 52 = .ok (.goto 31, 3) := by decide +kernel
theorem dX1_branch_55 : decode cX1_branch 55 = .ok (.iload_n 2, 1) := by decide +kernel
theorem dX1_branch_56 : decode cX1_branch 56 = .ok (.iload_n 3, 1) := by decide +kernel
theorem dX1_branch_57 : decode cX1_branch 57 = .ok (.if_icmp .ge 7, 3) := by decide +kernel
theorem dX1_branch_60 : decode cX1_branch 60 = .ok (.iconst 1, 1) := by decide +kernel
theorem dX1_branch_61 : decode cX1_branch 61 = .ok (.goto 4, 3) := by decide +kernel
theorem dX1_branch_64 : decode cX1_branch 64 = .ok (.iconst 0, 1) := by decide +kernel
theorem dX1_branch_65 : decode cX1_branch 65 = .ok (.istore 5, 2) := by decide +kernel
theorem dX1_branch_67 : decode cX1_branch 67 = .ok (.goto 16, 3) := by decide +kernel
theorem dX1_branch_70 : decode cX1_branch 70 = .ok (.iload_n 2, 1) := by decide +kernel
theorem dX1_branch_71 : decode cX1_branch 71 = .ok (.iload_n 3, 1) := by decide +kernel
theorem dX1_branch_72 : decode cX1_branch 72 = .ok (.invokestatic 87, 3) := by decide +kernel
theorem dX1_branch_75 : decode cX1_branch 75 = .ok (.istore 5, 2) := by decide +kernel
theorem dX1_branch_77 : decode cX1_branch 77 = .ok (.goto 6, 3) := by decide +kernel
theorem dX1_branch_80 : decode cX1_branch 80 = .ok (.bipush 11, 2) := by decide +kernel
theorem dX1_branch_82 : decode cX1_branch 82 = .ok (.ireturn, 1) := by decide +kernel
theorem dX1_branch_83 : decode cX1_branch 83 = .ok (.iload_n 1, 1) := by decide +kernel
theorem dX1_branch_84 : decode cX1_branch 84 = .ok (.iconst 1, 1) := by decide +kernel
theorem dX1_branch_85 : decode cX1_branch 85 = .ok (.iand, 1) := by decide +kernel
theorem dX1_branch_86 : decode cX1_branch 86 = .ok (.ifCond .eq 7, 3) := by decide +kernel
theorem dX1_branch_89 : decode cX1_branch 89 = .ok (.iconst 1, 1) := by decide +kernel
theorem dX1_branch_90 : decode cX1_branch 90 = .ok (.goto 4, 3) := by decide +kernel
theorem dX1_branch_93 : decode cX1_branch 93 = .ok (.iconst 0, 1) := by decide +kernel
theorem dX1_branch_94 : decode cX1_branch 94 = .ok (.istore 6, 2) := by decide +kernel
theorem dX1_branch_96 : decode cX1_branch 96 = .ok (.iload 5, 2) := by decide +kernel
theorem dX1_branch_98 : decode cX1_branch 98 = .ok (.iload 6, 2) := by decide +kernel
theorem dX1_branch_100 : decode cX1_branch 100 = .ok (.if_icmp .eq 13, 3) := by decide +kernel
theorem dX1_branch_103 : decode cX1_branch 103 = .ok (.aload_n 0, 1) := by decide +kernel
theorem dX1_branch_104 : decode cX1_branch 104 = .ok (.iload 4, 2) := by decide +kernel
theorem dX1_branch_106 : decode cX1_branch 106 = .ok (.iconst 0, 1) := by decide +kernel
theorem dX1_branch_107 : decode cX1_branch 107 = .ok (.invokevirtual 58, 3) := by decide +kernel
theorem dX1_branch_110 : decode cX1_branch 110 = .ok (.goto 4, 3) := by decide +kernel
theorem dX1_branch_113 : decode cX1_branch 113 = .ok (.iconst 0, 1) := by decide +kernel
theorem dX1_branch_114 : decode cX1_branch 114 = .ok (.ireturn, 1) := by decide +kernel
theorem dX1_load_0 : decode cX1_load 0 = .ok (.iload_n 1, 1) := by decide +kernel
theorem dX1_load_1 : decode cX1_load 1 = .ok (.iconst 3, 1) := by decide +kernel
theorem dX1_load_2 : decode cX1_load 2 = .ok (.if_icmp .eq 8, 3) := by decide +kernel
theorem dX1_load_5 : decode cX1_load 5 = .ok (.iload_n 1, 1) := by decide +kernel
theorem dX1_load_6 : decode cX1_load 6 = .ok (.iconst 5, 1) := by decide +kernel
theorem dX1_load_7 : decode cX1_load 7 = .ok (.if_icmp .le 6, 3) := by decide +kernel
theorem dX1_load_10 : decode cX1_load 10 = .ok (.bipush 11, 2) := by decide +kernel
theorem dX1_load_12 : decode cX1_load 12 = .ok (.ireturn, 1) := by decide +kernel
theorem dX1_load_13 : decode cX1_load 13 = .ok (.aload_n 0, 1) := by decide +kernel
theorem dX1_load_14 : decode cX1_load 14 = .ok (.iload_n 2, 1) := by decide +kernel
theorem dX1_load_15 : decode cX1_load 15 = .ok (.iconst 1, 1) := by decide +kernel
theorem dX1_load_16 : decode cX1_load 16 = .ok (.iload_n 1, 1) := by decide +kernel
theorem dX1_load_17 : decode cX1_load 17 = .ok (.iconst 3, 1) := by decide +kernel
theorem dX1_load_18 : decode cX1_load 18 = .ok (.iand, 1) := by decide +kernel
theorem dX1_load_19 : decode cX1_load 19 = .ok (.ishl, 1) := by decide +kernel
theorem dX1_load_20 : decode cX1_load 20 = .ok (.invokevirtual 45, 3) := by decide +kernel
theorem dX1_load_23 : decode cX1_load 23 = .ok (.istore_n 3, 1) := by decide +kernel
theorem dX1_load_24 : decode cX1_load 24 = .ok (.iload_n 3, 1) := by decide +kernel
theorem dX1_load_25 : decode cX1_load 25 = .ok (.ifCond .eq 5, 3) := by decide +kernel
theorem dX1_load_28 : decode cX1_load 28 = .ok (.iload_n 3, 1) := by decide +kernel
theorem dX1_load_29 : decode cX1_load 29 = .ok (.ireturn, 1) := by decide +kernel
theorem dX1_load_30 : decode cX1_load 30 = .ok (.aload_n 0, 1) := by decide +kernel
theorem dX1_load_31 : decode cX1_load 31 = .ok (.iload_n 2, 1) := by decide +kernel
theorem dX1_load_32 : decode cX1_load 32 = .ok (.invokevirtual 49, 3) := by decide +kernel
theorem dX1_load_35 : decode cX1_load 35 = .ok (.bipush 8, 2) := by decide +kernel
theorem dX1_load_37 : decode cX1_load 37 = .ok (.iload_n 2, 1) := by decide +kernel
theorem dX1_load_38 : decode cX1_load 38 = .ok (.iconst 3, 1) := by decide +kernel
theorem dX1_load_39 : decode cX1_load 39 = .ok (.iand, 1) := by decide +kernel
theorem dX1_load_40 : decode cX1_load 40 = .ok (.imul, 1) := by decide +kernel
theorem dX1_load_41 : decode cX1_load 41 = .ok (.iushr, 1) := by decide +kernel
theorem dX1_load_42 : decode cX1_load 42 = .ok (.istore 4, 2) := by decide +kernel
theorem dX1_load_44 : decode cX1_load 44 = .ok (.iload_n 1, 1) := by decide +kernel
theorem dX1_load_45 : decode cX1_load 45 = .ok (.tableswitch 86 0 5 #[39, 52, 86, 86, 65, 76], 39) := by decide +kernel
theorem dX1_load_84 : decode cX1_load 84 = .ok (.aload_n 0, 1) := by decide +kernel
theorem dX1_load_85 : decode cX1_load 85 = .ok (.iload 4, 2) := by decide +kernel
theorem dX1_load_87 : decode cX1_load 87 = .ok (.bipush 24, 2) := by decide +kernel
theorem dX1_load_89 : decode cX1_load 89 = .ok (.ishl, 1) := by decide +kernel
theorem dX1_load_90 : decode cX1_load 90 = .ok (.bipush 24, 2) := by decide +kernel
theorem dX1_load_92 : decode cX1_load 92 = .ok (.ishr, 1) := by decide +kernel
theorem dX1_load_93 : decode cX1_load 93 = .ok (.invokevirtual 52, 3) := by decide +kernel
theorem dX1_load_96 : decode cX1_load 96 = .ok (.ireturn, 1) := by decide +kernel
theorem dX1_load_97 : decode cX1_load 97 = .ok (.aload_n 0, 1) := by decide +kernel
theorem dX1_load_98 : decode cX1_load 98 = .ok (.iload 4, 2) := by decide +kernel
theorem dX1_load_100 : decode cX1_load 100 = .ok (.bipush 16, 2) := by decide +kernel
theorem dX1_load_102 : decode cX1_load 102 = .ok (.ishl, 1) := by decide +kernel
theorem dX1_load_103 : decode cX1_load 103 = .ok (.bipush 16, 2) := by decide +kernel
theorem dX1_load_105 : decode cX1_load 105 = .ok (.ishr, 1) := by decide +kernel
theorem dX1_load_106 : decode cX1_load 106 = .ok (.invokevirtual 52, 3) := by decide +kernel
theorem dX1_load_109 : decode cX1_load 109 = .ok (.ireturn, 1) := by decide +kernel
theorem dX1_load_110 : decode cX1_load 110 = .ok (.aload_n 0, 1) := by decide +kernel
theorem dX1_load_111 : decode cX1_load 111 = .ok (.iload 4, 2) := by decide +kernel
theorem dX1_load_113 : decode cX1_load 113 = .ok (.sipush 255, 3) := by decide +kernel
theorem dX1_load_116 : decode cX1_load 116 = .ok (.iand, 1) := by decide +kernel
theorem dX1_load_117 : decode cX1_load 117 = .ok (.invokevirtual 52, 3) := by decide +kernel
theorem dX1_load_120 : decode cX1_load 120 = .ok (.ireturn, 1) := by decide +kernel
theorem dX1_load_121 : decode cX1_load 121 = .ok (.aload_n 0, 1) := by decide +kernel
theorem dX1_load_122 : decode cX1_load 122 = .ok (.iload 4, 2) := by decide +kernel
theorem dX1_load_124 : decode cX1_load 124 = .ok (.ldc 91, 2) := by decide +kernel
theorem dX1_load_126 : decode cX1_load 126 = .ok (.iand, 1) := by decide +kernel
theorem dX1_load_127 : decode cX1_load 127 = .ok (.invokevirtual 52, 3) := by decide +kernel
theorem dX1_load_130 : decode cX1_load 130 = .ok (.ireturn, 1) := by decide +kernel
theorem dX1_load_131 : decode cX1_load 131 = .ok (.aload_n 0, 1) := by decide +kernel
theorem dX1_load_132 : decode cX1_load 132 = .ok (.iload 4, 2) := by decide +kernel
theorem dX1_load_134 : decode cX1_load 134 = .ok (.invokevirtual 52, 3) := by decide +kernel
theorem dX1_load_137 : decode cX1_load 137 = .ok (.ireturn, 1) := by decide +kernel
theorem dX1_storeAt_0 : decode cX1_storeAt 0 = .ok (.iload_n 1, 1) := by decide +kernel
theorem dX1_storeAt_1 : decode cX1_storeAt 1 = .ok (.iconst 2, 1) := by decide +kernel
theorem dX1_storeAt_2 : decode cX1_storeAt 2 = .ok (.if_icmp .le 6, 3) := by decide +kernel
theorem dX1_storeAt_5 : decode cX1_storeAt 5 = .ok (.bipush 11, 2) := by decide +kernel
theorem dX1_storeAt_7 : decode cX1_storeAt 7 = .ok (.ireturn, 1) := by decide +kernel
theorem dX1_storeAt_8 : decode cX1_storeAt 8 = .ok (.aload_n 0, 1) := by decide +kernel
theorem dX1_storeAt_9 : decode cX1_storeAt 9 = .ok (.iload_n 2, 1) := by decide +kernel
theorem dX1_storeAt_10 : decode cX1_storeAt 10 = .ok (.iconst 1, 1) := by decide +kernel
theorem dX1_storeAt_11 : decode cX1_storeAt 11 = .ok (.iload_n 1, 1) := by decide +kernel
theorem dX1_storeAt_12 : decode cX1_storeAt 12 = .ok (.ishl, 1) := by decide +kernel
theorem dX1_storeAt_13 : decode cX1_storeAt 13 = .ok (.invokevirtual 45, 3) := by decide +kernel
theorem dX1_storeAt_16 : decode cX1_storeAt 16 = .ok (.istore 4, 2) := by decide +kernel
theorem dX1_storeAt_18 : decode cX1_storeAt 18 = .ok (.iload 4, 2) := by decide +kernel
theorem dX1_storeAt_20 : decode cX1_storeAt 20 = .ok (.ifCond .eq 6, 3) := by decide +kernel
theorem dX1_storeAt_23 : decode cX1_storeAt 23 = .ok (.iload 4, 2) := by decide +kernel
theorem dX1_storeAt_25 : decode cX1_storeAt 25 = .ok (.ireturn, 1) := by decide +kernel
theorem dX1_storeAt_26 : decode cX1_storeAt 26 = .ok (.iload_n 1, 1) := by decide +kernel
theorem dX1_storeAt_27 : decode cX1_storeAt 27 = .ok (.ifCond .ne 9, 3) := by decide +kernel
theorem dX1_storeAt_30 : decode cX1_storeAt 30 = .ok (.sipush 255, 3) := by decide +kernel
theorem dX1_storeAt_33 : decode cX1_storeAt 33 = .ok (.goto 14, 3) := by decide +kernel
theorem dX1_storeAt_36 : decode cX1_storeAt 36 = .ok (.iload_n 1, 1) := by decide +kernel
theorem dX1_storeAt_37 : decode cX1_storeAt 37 = .ok (.iconst 1, 1) := by decide +kernel
theorem dX1_storeAt_38 : decode cX1_storeAt 38 = .ok (.if_icmp .ne 8, 3) := by decide +kernel
theorem dX1_storeAt_41 : decode cX1_storeAt 41 = .ok (.ldc 91, 2) := by decide +kernel
theorem dX1_storeAt_43 : decode cX1_storeAt 43 = .ok (.goto 4, 3) := by decide +kernel
theorem dX1_storeAt_46 : decode cX1_storeAt 46 = .ok (.iconst (-1), 1) := by decide +kernel
theorem dX1_storeAt_47 : decode cX1_storeAt 47 = .ok (.istore 5, 2) := by decide +kernel
theorem dX1_storeAt_49 : decode cX1_storeAt 49 = .ok (.bipush 8, 2) := by decide +kernel
theorem dX1_storeAt_51 : decode cX1_storeAt 51 = .ok (.iload_n 2, 1) := by decide +kernel
theorem dX1_storeAt_52 : decode cX1_storeAt 52 = .ok (.iconst 3, 1) := by decide +kernel
theorem dX1_storeAt_53 : decode cX1_storeAt 53 = .ok (.iand, 1) := by decide +kernel
theorem dX1_storeAt_54 : decode cX1_storeAt 54 = .ok (.imul, 1) := by decide +kernel
theorem dX1_storeAt_55 : decode cX1_storeAt 55 = .ok (.istore 6, 2) := by decide +kernel
theorem dX1_storeAt_57 : decode cX1_storeAt 57 = .ok (.aload_n 0, 1) := by decide +kernel
theorem dX1_storeAt_58 : decode cX1_storeAt 58 = .ok (.aload_n 0, 1) := by decide +kernel
theorem dX1_storeAt_59 : decode cX1_storeAt 59 = .ok (.iload_n 2, 1) := by decide +kernel
theorem dX1_storeAt_60 : decode cX1_storeAt 60 = .ok (.invokevirtual 92, 3) := by decide +kernel
theorem dX1_storeAt_63 : decode cX1_storeAt 63 = .ok (.ifCond .eq 7, 3) := by decide +kernel
theorem dX1_storeAt_66 : decode cX1_storeAt 66 = .ok (.iconst 3, 1) := by decide +kernel
theorem dX1_storeAt_67 : decode cX1_storeAt 67 = .ok (.goto 4, 3) := by decide +kernel
theorem dX1_storeAt_70 : decode cX1_storeAt 70 = .ok (.iconst 4, 1) := by decide +kernel
theorem dX1_storeAt_71 : decode cX1_storeAt 71 = .ok (.putfield 33, 3) := by decide +kernel
theorem dX1_storeAt_74 : decode cX1_storeAt 74 = .ok (.aload_n 0, 1) := by decide +kernel
theorem dX1_storeAt_75 : decode cX1_storeAt 75 = .ok (.iload_n 2, 1) := by decide +kernel
theorem dX1_storeAt_76 : decode cX1_storeAt 76 = .ok (.putfield 96, 3) := by decide +kernel
theorem dX1_storeAt_79 : decode cX1_storeAt 79 = .ok (.aload_n 0, 1) := by decide +kernel
theorem dX1_storeAt_80 : decode cX1_storeAt 80 = .ok (.aload_n 0, 1) := by decide +kernel
theorem dX1_storeAt_81 : decode cX1_storeAt 81 = .ok (.iload_n 2, 1) := by decide +kernel
theorem dX1_storeAt_82 : decode cX1_storeAt 82 = .ok (.invokevirtual 49, 3) := by decide +kernel
theorem dX1_storeAt_85 : decode cX1_storeAt 85 = .ok (.iload 5, 2) := by decide +kernel
theorem dX1_storeAt_87 : decode cX1_storeAt 87 = .ok (.iload 6, 2) := by decide +kernel
theorem dX1_storeAt_89 : decode cX1_storeAt 89 = .ok (.ishl, 1) := by decide +kernel
theorem dX1_storeAt_90 : decode cX1_storeAt 90 = .ok (.iconst (-1), 1) := by decide +kernel
theorem dX1_storeAt_91 : decode cX1_storeAt 91 = .ok (.ixor, 1) := by decide +kernel
theorem dX1_storeAt_92 : decode cX1_storeAt 92 = .ok (.iand, 1) := by decide +kernel
theorem dX1_storeAt_93 : decode cX1_storeAt 93 = .ok (.iload_n 3, 1) := by decide +kernel
theorem dX1_storeAt_94 : decode cX1_storeAt 94 = .ok (.iload 5, 2) := by decide +kernel
theorem dX1_storeAt_96 : decode cX1_storeAt 96 = .ok (.iand, 1) := by decide +kernel
theorem dX1_storeAt_97 : decode cX1_storeAt 97 = .ok (.iload 6, 2) := by decide +kernel
theorem dX1_storeAt_99 : decode cX1_storeAt 99 = .ok (.ishl, 1) := by decide +kernel
theorem dX1_storeAt_100 : decode cX1_storeAt 100 = .ok (.ior, 1) := by decide +kernel
theorem dX1_storeAt_101 : decode cX1_storeAt 101 = .ok (.invokevirtual 52, 3) := by decide +kernel
theorem dX1_storeAt_104 : decode cX1_storeAt 104 = .ok (.ireturn, 1) := by decide +kernel
theorem dX1_trapOfPlace_0 : decode cX1_trapOfPlace 0 = .ok (.iload_n 1, 1) := by decide +kernel
theorem dX1_trapOfPlace_1 : decode cX1_trapOfPlace 1 = .ok (.iload_n 2, 1) := by decide +kernel
theorem dX1_trapOfPlace_2 : decode cX1_trapOfPlace 2 = .ok (.iconst 1, 1) := by decide +kernel
theorem dX1_trapOfPlace_3 : decode cX1_trapOfPlace 3 = .ok (.isub, 1) := by decide +kernel
theorem dX1_trapOfPlace_4 : decode cX1_trapOfPlace 4 = .ok (.iand, 1) := by decide +kernel
theorem dX1_trapOfPlace_5 : decode cX1_trapOfPlace 5 = .ok (.ifCond .eq 6, 3) := by decide +kernel
theorem dX1_trapOfPlace_8 : decode cX1_trapOfPlace 8 = .ok (.bipush 12, 2) := by decide +kernel
theorem dX1_trapOfPlace_10 : decode cX1_trapOfPlace 10 = .ok (.ireturn, 1) := by decide +kernel
theorem dX1_trapOfPlace_11 : decode cX1_trapOfPlace 11 = .ok (.aload_n 0, 1) := by decide +kernel
theorem dX1_trapOfPlace_12 : decode cX1_trapOfPlace 12 = .ok (.iload_n 1, 1) := by decide +kernel
theorem dX1_trapOfPlace_13 : decode cX1_trapOfPlace 13 = .ok (.iload_n 2, 1) := by decide +kernel
theorem dX1_trapOfPlace_14 : decode cX1_trapOfPlace 14 = .ok (.invokevirtual 99, 3) := by decide +kernel
theorem dX1_trapOfPlace_17 : decode cX1_trapOfPlace 17 = .ok (.ifCond .eq 7, 3) := by decide +kernel
theorem dX1_trapOfPlace_20 : decode cX1_trapOfPlace 20 = .ok (.iconst 0, 1) := by decide +kernel
theorem dX1_trapOfPlace_21 : decode cX1_trapOfPlace 21 = .ok (.goto 5, 3) := by decide +kernel
theorem dX1_trapOfPlace_24 : decode cX1_trapOfPlace 24 = .ok (.bipush 13, 2) := by decide +kernel
theorem dX1_trapOfPlace_26 : decode cX1_trapOfPlace 26 = .ok (.ireturn, 1) := by decide +kernel
theorem dX1_withNumber_0 : decode cX1_withNumber 0 = .ok (.iload_n 1, 1) := by decide +kernel
theorem dX1_withNumber_1 : decode cX1_withNumber 1 = .ok (.iconst 1, 1) := by decide +kernel
theorem dX1_withNumber_2 : decode cX1_withNumber 2 = .ok (.if_icmp .ne 10, 3) := by decide +kernel
theorem dX1_withNumber_5 : decode cX1_withNumber 5 = .ok (.iload_n 2, 1) := by decide +kernel
theorem dX1_withNumber_6 : decode cX1_withNumber 6 = .ok (.ifCond .eq 6, 3) := by decide +kernel
theorem dX1_withNumber_9 : decode cX1_withNumber 9 = .ok (.bipush 11, 2) := by decide +kernel
theorem dX1_withNumber_11 : decode cX1_withNumber 11 = .ok (.ireturn, 1) := by decide +kernel
theorem dX1_withNumber_12 : decode cX1_withNumber 12 = .ok (.iload_n 1, 1) := by decide +kernel
theorem dX1_withNumber_13 : decode cX1_withNumber 13 = .ok (.iconst 5, 1) := by decide +kernel
theorem dX1_withNumber_14 : decode cX1_withNumber 14 = .ok (.if_icmp .ne 30, 3) := by decide +kernel
theorem dX1_withNumber_17 : decode cX1_withNumber 17 = .ok (.iload_n 2, 1) := by decide +kernel
theorem dX1_withNumber_18 : decode cX1_withNumber 18 = .ok (.ifCond .eq 26, 3) := by decide +kernel
theorem dX1_withNumber_21 : decode cX1_withNumber 21 = .ok (.iload_n 2, 1) := by decide +kernel
theorem dX1_withNumber_22 : decode cX1_withNumber 22 = .ok (.bipush 32, 2) := by decide +kernel
theorem dX1_withNumber_24 : decode cX1_withNumber 24 = .ok (.if_icmp .ne 17, 3) := by decide +kernel
theorem dX1_withNumber_27 : decode cX1_withNumber 27 = .ok (.aload_n 0, 1) := by decide +kernel
theorem dX1_withNumber_28 : decode cX1_withNumber 28 = .ok (.iload_n 3, 1) := by decide +kernel
theorem dX1_withNumber_29 : decode cX1_withNumber 29 = .ok (.iload 4, 2) := by decide +kernel
theorem dX1_withNumber_31 : decode cX1_withNumber 31 = .ok (.bipush 31, 2) := by decide +kernel
theorem dX1_withNumber_33 : decode cX1_withNumber 33 = .ok (.iand, 1) := by decide +kernel
theorem dX1_withNumber_34 : decode cX1_withNumber 34 = .ok (.ishr, 1) := by decide +kernel
theorem dX1_withNumber_35 : decode cX1_withNumber 35 = .ok (.invokevirtual 52, 3) := by decide +kernel
theorem dX1_withNumber_38 : decode cX1_withNumber 38 = .ok (.goto 5, 3) := by decide +kernel
theorem dX1_withNumber_41 : decode cX1_withNumber 41 = .ok (.bipush 11, 2) := by decide +kernel
theorem dX1_withNumber_43 : decode cX1_withNumber 43 = .ok (.ireturn, 1) := by decide +kernel
theorem dX1_withNumber_44 : decode cX1_withNumber 44 = .ok (.aload_n 0, 1) := by decide +kernel
theorem dX1_withNumber_45 : decode cX1_withNumber 45 = .ok (.iload_n 1, 1) := by decide +kernel
theorem dX1_withNumber_46 : decode cX1_withNumber 46 = .ok (.iload_n 3, 1) := by decide +kernel
theorem dX1_withNumber_47 : decode cX1_withNumber 47 = .ok (.iload 4, 2) := by decide +kernel
theorem dX1_withNumber_49 : decode cX1_withNumber 49 = .ok (.invokestatic 102, 3) := by decide +kernel
theorem dX1_withNumber_52 : decode cX1_withNumber 52 = .ok (.invokevirtual 52, 3) := by decide +kernel
theorem dX1_withNumber_55 : decode cX1_withNumber 55 = .ok (.ireturn, 1) := by decide +kernel
theorem dX1_withRegister_0 : decode cX1_withRegister 0 = .ok (.iload_n 2, 1) := by decide +kernel
theorem dX1_withRegister_1 : decode cX1_withRegister 1 = .ok (.ifCond .ne 15, 3) := by decide +kernel
theorem dX1_withRegister_4 : decode cX1_withRegister 4 = .ok (.aload_n 0, 1) := by decide +kernel
theorem dX1_withRegister_5 : decode cX1_withRegister 5 = .ok (.iload_n 1, 1) := by decide +kernel
theorem dX1_withRegister_6 : decode cX1_withRegister 6 = .ok (.iload_n 3, 1) := by decide +kernel
theorem dX1_withRegister_7 : decode cX1_withRegister 7 = .ok (.iload 4, 2) := by decide +kernel
theorem dX1_withRegister_9 : decode cX1_withRegister 9 = .ok (.invokestatic 102, 3) := by decide +kernel
theorem dX1_withRegister_12 : decode cX1_withRegister 12 = .ok (.invokevirtual 52, 3) := by decide +kernel
theorem dX1_withRegister_15 : decode cX1_withRegister 15 = .ok (.ireturn, 1) := by decide +kernel
theorem dX1_withRegister_16 : decode cX1_withRegister 16 = .ok (.iload_n 2, 1) := by decide +kernel
theorem dX1_withRegister_17 : decode cX1_withRegister 17 = .ok (.bipush 32, 2) := by decide +kernel
theorem dX1_withRegister_19 : decode cX1_withRegister 19 = .ok (.if_icmp .ne 16, 3) := by decide +kernel
theorem dX1_withRegister_22 : decode cX1_withRegister 22 = .ok (.iload_n 1, 1) := by decide +kernel
theorem dX1_withRegister_23 : decode cX1_withRegister 23 = .ok (.ifCond .ne 12, 3) := by decide +kernel
theorem dX1_withRegister_26 : decode cX1_withRegister 26 = .ok (.aload_n 0, 1) := by decide +kernel
theorem dX1_withRegister_27 : decode cX1_withRegister 27 = .ok (.iload_n 3, 1) := by decide +kernel
theorem dX1_withRegister_28 : decode cX1_withRegister 28 = .ok (.iload 4, 2) := by decide +kernel
theorem dX1_withRegister_30 : decode cX1_withRegister 30 = .ok (.isub, 1) := by decide +kernel
theorem dX1_withRegister_31 : decode cX1_withRegister 31 = .ok (.invokevirtual 52, 3) := by decide +kernel
theorem dX1_withRegister_34 : decode cX1_withRegister 34 = .ok (.ireturn, 1) := by decide +kernel
theorem dX1_withRegister_35 : decode cX1_withRegister 35 = .ok (.iload_n 2, 1) := by decide +kernel
theorem dX1_withRegister_36 : decode cX1_withRegister 36 = .ok (.bipush 32, 2) := by decide +kernel
theorem dX1_withRegister_38 : decode cX1_withRegister 38 = .ok (.if_icmp .ne 22, 3) := by decide +kernel
theorem dX1_withRegister_41 : decode cX1_withRegister 41 = .ok (.iload_n 1, 1) := by decide +kernel
theorem dX1_withRegister_42 : decode cX1_withRegister 42 = .ok (.iconst 5, 1) := by decide +kernel
theorem dX1_withRegister_43 : decode cX1_withRegister 43 = .ok (.if_icmp .ne 17, 3) := by decide +kernel
theorem dX1_withRegister_46 : decode cX1_withRegister 46 = .ok (.aload_n 0, 1) := by decide +kernel
theorem dX1_withRegister_47 : decode cX1_withRegister 47 = .ok (.iload_n 3, 1) := by decide +kernel
theorem dX1_withRegister_48 : decode cX1_withRegister 48 = .ok (.iload 4, 2) := by decide +kernel
theorem dX1_withRegister_50 : decode cX1_withRegister 50 = .ok (.bipush 31, 2) := by decide +kernel
theorem dX1_withRegister_52 : decode cX1_withRegister 52 = .ok (.iand, 1) := by decide +kernel
theorem dX1_withRegister_53 : decode cX1_withRegister 53 = .ok (.ishr, 1) := by decide +kernel
theorem dX1_withRegister_54 : decode cX1_withRegister 54 = .ok (.invokevirtual 52, 3) := by decide +kernel
theorem dX1_withRegister_57 : decode cX1_withRegister 57 = .ok (.goto 5, 3) := by decide +kernel
theorem dX1_withRegister_60 : decode cX1_withRegister 60 = .ok (.bipush 11, 2) := by decide +kernel
theorem dX1_withRegister_62 : decode cX1_withRegister 62 = .ok (.ireturn, 1) := by decide +kernel
theorem dX1_reckon_0 : decode cX1_reckon 0 = .ok (.iload_n 0, 1) := by decide +kernel
theorem dX1_reckon_1 : decode cX1_reckon 1 = .ok (.tableswitch 94 0 6 #[43, 47, 54, 65, 79, 83, 90], 43) := by decide +kernel
theorem dX1_reckon_44 : decode cX1_reckon 44 = .ok (.iload_n 1, 1) := by decide +kernel
theorem dX1_reckon_45 : decode cX1_reckon 45 = .ok (.iload_n 2, 1) := by decide +kernel
theorem dX1_reckon_46 : decode cX1_reckon 46 = .ok (.iadd, 1) := by decide +kernel
theorem dX1_reckon_47 : decode cX1_reckon 47 = .ok (.ireturn, 1) := by decide +kernel
theorem dX1_reckon_48 : decode cX1_reckon 48 = .ok (.iload_n 1, 1) := by decide +kernel
theorem dX1_reckon_49 : decode cX1_reckon 49 = .ok (.iload_n 2, 1) := by decide +kernel
theorem dX1_reckon_50 : decode cX1_reckon 50 = .ok (.bipush 31, 2) := by decide +kernel
theorem dX1_reckon_52 : decode cX1_reckon 52 = .ok (.iand, 1) := by decide +kernel
theorem dX1_reckon_53 : decode cX1_reckon 53 = .ok (.ishl, 1) := by decide +kernel
theorem dX1_reckon_54 : decode cX1_reckon 54 = .ok (.ireturn, 1) := by decide +kernel
theorem dX1_reckon_55 : decode cX1_reckon 55 = .ok (.iload_n 1, 1) := by decide +kernel
theorem dX1_reckon_56 : decode cX1_reckon 56 = .ok (.iload_n 2, 1) := by decide +kernel
theorem dX1_reckon_57 : decode cX1_reckon 57 = .ok (.if_icmp .ge 7, 3) := by decide +kernel
theorem dX1_reckon_60 : decode cX1_reckon 60 = .ok (.iconst 1, 1) := by decide +kernel
theorem dX1_reckon_61 : decode cX1_reckon 61 = .ok (.goto 4, 3) := by decide +kernel
theorem dX1_reckon_64 : decode cX1_reckon 64 = .ok (.iconst 0, 1) := by decide +kernel
theorem dX1_reckon_65 : decode cX1_reckon 65 = .ok (.ireturn, 1) := by decide +kernel
theorem dX1_reckon_66 : decode cX1_reckon 66 = .ok (.iload_n 1, 1) := by decide +kernel
theorem dX1_reckon_67 : decode cX1_reckon 67 = .ok (.iload_n 2, 1) := by decide +kernel
theorem dX1_reckon_68 : decode cX1_reckon 68 = .ok (.invokestatic 87, 3) := by decide +kernel
theorem dX1_reckon_71 : decode cX1_reckon 71 = .ok (.ifCond .eq 7, 3) := by decide +kernel
theorem dX1_reckon_74 : decode cX1_reckon 74 = .ok (.iconst 1, 1) := by decide +kernel
theorem dX1_reckon_75 : decode cX1_reckon 75 = .ok (.goto 4, 3) := by decide +kernel
theorem dX1_reckon_78 : decode cX1_reckon 78 = .ok (.iconst 0, 1) := by decide +kernel
theorem dX1_reckon_79 : decode cX1_reckon 79 = .ok (.ireturn, 1) := by decide +kernel
theorem dX1_reckon_80 : decode cX1_reckon 80 = .ok (.iload_n 1, 1) := by decide +kernel
theorem dX1_reckon_81 : decode cX1_reckon 81 = .ok (.iload_n 2, 1) := by decide +kernel
theorem dX1_reckon_82 : decode cX1_reckon 82 = .ok (.ixor, 1) := by decide +kernel
theorem dX1_reckon_83 : decode cX1_reckon 83 = .ok (.ireturn, 1) := by decide +kernel
theorem dX1_reckon_84 : decode cX1_reckon 84 = .ok (.iload_n 1, 1) := by decide +kernel
theorem dX1_reckon_85 : decode cX1_reckon 85 = .ok (.iload_n 2, 1) := by decide +kernel
theorem dX1_reckon_86 : decode cX1_reckon 86 = .ok (.bipush 31, 2) := by decide +kernel
theorem dX1_reckon_88 : decode cX1_reckon 88 = .ok (.iand, 1) := by decide +kernel
theorem dX1_reckon_89 : decode cX1_reckon 89 = .ok (.iushr, 1) := by decide +kernel
theorem dX1_reckon_90 : decode cX1_reckon 90 = .ok (.ireturn, 1) := by decide +kernel
theorem dX1_reckon_91 : decode cX1_reckon 91 = .ok (.iload_n 1, 1) := by decide +kernel
theorem dX1_reckon_92 : decode cX1_reckon 92 = .ok (.iload_n 2, 1) := by decide +kernel
theorem dX1_reckon_93 : decode cX1_reckon 93 = .ok (.ior, 1) := by decide +kernel
theorem dX1_reckon_94 : decode cX1_reckon 94 = .ok (.ireturn, 1) := by decide +kernel
theorem dX1_reckon_95 : decode cX1_reckon 95 = .ok (.iload_n 1, 1) := by decide +kernel
theorem dX1_reckon_96 : decode cX1_reckon 96 = .ok (.iload_n 2, 1) := by decide +kernel
theorem dX1_reckon_97 : decode cX1_reckon 97 = .ok (.iand, 1) := by decide +kernel
theorem dX1_reckon_98 : decode cX1_reckon 98 = .ok (.ireturn, 1) := by decide +kernel
theorem dX1_call_0 : decode cX1_call 0 = .ok (.aload_n 0, 1) := by decide +kernel
theorem dX1_call_1 : decode cX1_call 1 = .ok (.bipush 10, 2) := by decide +kernel
theorem dX1_call_3 : decode cX1_call 3 = .ok (.putfield 36, 3) := by decide +kernel
theorem dX1_call_6 : decode cX1_call 6 = .ok (.aload_n 0, 1) := by decide +kernel
theorem dX1_call_7 : decode cX1_call 7 = .ok (.getfield 9, 3) := by decide +kernel
theorem dX1_call_10 : decode cX1_call 10 = .ok (.bipush 17, 2) := by decide +kernel
theorem dX1_call_12 : decode cX1_call 12 = .ok (.iaload, 1) := by decide +kernel
theorem dX1_call_13 : decode cX1_call 13 = .ok (.tableswitch 59 1 3 #[27, 51, 56], 27) := by decide +kernel
theorem dX1_call_40 : decode cX1_call 40 = .ok (.aload_n 0, 1) := by decide +kernel
theorem dX1_call_41 : decode cX1_call 41 = .ok (.iconst 1, 1) := by decide +kernel
theorem dX1_call_42 : decode cX1_call 42 = .ok (.putfield 33, 3) := by decide +kernel
theorem dX1_call_45 : decode cX1_call 45 = .ok (.aload_n 0, 1) := by decide +kernel
theorem dX1_call_46 : decode cX1_call 46 = .ok (.aload_n 0, 1) := by decide +kernel
theorem dX1_call_47 : decode cX1_call 47 = .ok (.getfield 18, 3) := by decide +kernel
theorem dX1_call_50 : decode cX1_call 50 = .ok (.aload_n 0, 1) := by decide +kernel
theorem dX1_call_51 : decode cX1_call 51 = .ok (.getfield 9, 3) := by decide +kernel
theorem dX1_call_54 : decode cX1_call 54 = .ok (.bipush 33, 2) := by decide +kernel
theorem dX1_call_56 : decode cX1_call 56 = .ok (.iaload, 1) := by decide +kernel
theorem dX1_call_57 : decode cX1_call 57 = .ok (.invokevirtual 105, 3) := by decide +kernel
theorem dX1_call_60 : decode cX1_call 60 = .ok (.invokevirtual 52, 3) := by decide +kernel
theorem dX1_call_63 : decode cX1_call 63 = .ok (.ireturn, 1) := by decide +kernel
theorem dX1_call_64 : decode cX1_call 64 = .ok (.aload_n 0, 1) := by decide +kernel
theorem dX1_call_65 : decode cX1_call 65 = .ok (.invokevirtual 110, 3) := by decide +kernel
theorem dX1_call_68 : decode cX1_call 68 = .ok (.ireturn, 1) := by decide +kernel
theorem dX1_call_69 : decode cX1_call 69 = .ok (.bipush 6, 2) := by decide +kernel
theorem dX1_call_71 : decode cX1_call 71 = .ok (.ireturn, 1) := by decide +kernel
theorem dX1_call_72 : decode cX1_call 72 = .ok (.bipush 11, 2) := by decide +kernel
theorem dX1_call_74 : decode cX1_call 74 = .ok (.ireturn, 1) := by decide +kernel
theorem dX1_callToSend_0 : decode cX1_callToSend 0 = .ok (.aload_n 0, 1) := by decide +kernel
theorem dX1_callToSend_1 : decode cX1_callToSend 1 = .ok (.getfield 9, 3) := by decide +kernel
theorem dX1_callToSend_4 : decode cX1_callToSend 4 = .ok (.bipush 11, 2) := by decide +kernel
theorem dX1_callToSend_6 : decode cX1_callToSend 6 = .ok (.iaload, 1) := by decide +kernel
theorem dX1_callToSend_7 : decode cX1_callToSend 7 = .ok (.istore_n 1, 1) := by decide +kernel
theorem dX1_callToSend_8 : decode cX1_callToSend 8 = .ok (.bipush 64, 2) := by decide +kernel
theorem dX1_callToSend_10 : decode cX1_callToSend 10 = .ok (.iload_n 1, 1) := by decide +kernel
theorem dX1_callToSend_11 : decode cX1_callToSend 11 = .ok (.invokestatic 87, 3) := by decide +kernel
theorem dX1_callToSend_14 : decode cX1_callToSend 14 = .ok (.ifCond .eq 6, 3) := by decide +kernel
theorem dX1_callToSend_17 : decode cX1_callToSend 17 = .ok (.bipush 14, 2) := by decide +kernel
theorem dX1_callToSend_19 : decode cX1_callToSend 19 = .ok (.ireturn, 1) := by decide +kernel
theorem dX1_callToSend_20 : decode cX1_callToSend 20 = .ok (.iload_n 1, 1) := by decide +kernel
theorem dX1_callToSend_21 : decode cX1_callToSend 21 = .ok (.ifCond .eq 21, 3) := by decide +kernel
theorem dX1_callToSend_24 : decode cX1_callToSend 24 = .ok (.aload_n 0, 1) := by decide +kernel
theorem dX1_callToSend_25 : decode cX1_callToSend 25 = .ok (.aload_n 0, 1) := by decide +kernel
theorem dX1_callToSend_26 : decode cX1_callToSend 26 = .ok (.getfield 9, 3) := by decide +kernel
theorem dX1_callToSend_29 : decode cX1_callToSend 29 = .ok (.bipush 10, 2) := by decide +kernel
theorem dX1_callToSend_31 : decode cX1_callToSend 31 = .ok (.iaload, 1) := by decide +kernel
theorem dX1_callToSend_32 : decode cX1_callToSend 32 = .ok (.iload_n 1, 1) := by decide +kernel
theorem dX1_callToSend_33 : decode cX1_callToSend 33 = .ok (.invokevirtual 99, 3) := by decide +kernel
theorem dX1_callToSend_36 : decode cX1_callToSend 36 = .ok (.ifCond .ne 6, 3) := by decide +kernel
theorem dX1_callToSend_39 : decode cX1_callToSend 39 = .ok (.bipush 13, 2) := by decide +kernel
theorem dX1_callToSend_41 : decode cX1_callToSend 41 = .ok (.ireturn, 1) := by decide +kernel
theorem dX1_callToSend_42 : decode cX1_callToSend 42 = .ok (.aload_n 0, 1) := by decide +kernel
theorem dX1_callToSend_43 : decode cX1_callToSend 43 = .ok (.iconst 2, 1) := by decide +kernel
theorem dX1_callToSend_44 : decode cX1_callToSend 44 = .ok (.putfield 33, 3) := by decide +kernel
theorem dX1_callToSend_47 : decode cX1_callToSend 47 = .ok (.aload_n 0, 1) := by decide +kernel
theorem dX1_callToSend_48 : decode cX1_callToSend 48 = .ok (.aload_n 0, 1) := by decide +kernel
theorem dX1_callToSend_49 : decode cX1_callToSend 49 = .ok (.getfield 9, 3) := by decide +kernel
theorem dX1_callToSend_52 : decode cX1_callToSend 52 = .ok (.bipush 34, 2) := by decide +kernel
theorem dX1_callToSend_54 : decode cX1_callToSend 54 = .ok (.iaload, 1) := by decide +kernel
theorem dX1_callToSend_55 : decode cX1_callToSend 55 = .ok (.iconst 1, 1) := by decide +kernel
theorem dX1_callToSend_56 : decode cX1_callToSend 56 = .ok (.iadd, 1) := by decide +kernel
theorem dX1_callToSend_57 : decode cX1_callToSend 57 = .ok (.invokevirtual 52, 3) := by decide +kernel
theorem dX1_callToSend_60 : decode cX1_callToSend 60 = .ok (.ireturn, 1) := by decide +kernel
theorem dX1_finish_0 : decode cX1_finish 0 = .ok (.aload_n 0, 1) := by decide +kernel
theorem dX1_finish_1 : decode cX1_finish 1 = .ok (.getfield 33, 3) := by decide +kernel
theorem dX1_finish_4 : decode cX1_finish 4 = .ok (.iconst 3, 1) := by decide +kernel
theorem dX1_finish_5 : decode cX1_finish 5 = .ok (.if_icmp .eq 11, 3) := by decide +kernel
theorem dX1_finish_8 : decode cX1_finish 8 = .ok (.aload_n 0, 1) := by decide +kernel
theorem dX1_finish_9 : decode cX1_finish 9 = .ok (.getfield 33, 3) := by decide +kernel
theorem dX1_finish_12 : decode cX1_finish 12 = .ok (.iconst 4, 1) := by decide +kernel
theorem dX1_finish_13 : decode cX1_finish 13 = .ok (.if_icmp .ne 18, 3) := by decide +kernel
theorem dX1_finish_16 : decode cX1_finish 16 = .ok (.aload_n 0, 1) := by decide +kernel
theorem dX1_finish_17 : decode cX1_finish 17 = .ok (.aload_n 0, 1) := by decide +kernel
theorem dX1_finish_18 : decode cX1_finish 18 = .ok (.getfield 96, 3) := by decide +kernel
theorem dX1_finish_21 : decode cX1_finish 21 = .ok (.aload_n 0, 1) := by decide +kernel
theorem dX1_finish_22 : decode cX1_finish 22 = .ok (.getfield 39, 3) := by decide +kernel
theorem dX1_finish_25 : decode cX1_finish 25 = .ok (.invokevirtual 113, 3) := by decide +kernel
theorem dX1_finish_28 : decode cX1_finish 28 = .ok (.goto 32, 3) := by decide +kernel
theorem dX1_finish_31 : decode cX1_finish 31 = .ok (.aload_n 0, 1) := by decide +kernel
theorem dX1_finish_32 : decode cX1_finish 32 = .ok (.getfield 36, 3) := by decide +kernel
theorem dX1_finish_35 : decode cX1_finish 35 = .ok (.ifCond .le 25, 3) := by decide +kernel
theorem dX1_finish_38 : decode cX1_finish 38 = .ok (.aload_n 0, 1) := by decide +kernel
theorem dX1_finish_39 : decode cX1_finish 39 = .ok (.getfield 36, 3) := by decide +kernel
theorem dX1_finish_42 : decode cX1_finish 42 = .ok (.bipush 32, 2) := by decide +kernel
theorem dX1_finish_44 : decode cX1_finish 44 = .ok (.if_icmp .ge 16, 3) := by decide +kernel
theorem dX1_finish_47 : decode cX1_finish 47 = .ok (.aload_n 0, 1) := by decide +kernel
theorem dX1_finish_48 : decode cX1_finish 48 = .ok (.getfield 9, 3) := by decide +kernel
theorem dX1_finish_51 : decode cX1_finish 51 = .ok (.aload_n 0, 1) := by decide +kernel
theorem dX1_finish_52 : decode cX1_finish 52 = .ok (.getfield 36, 3) := by decide +kernel
theorem dX1_finish_55 : decode cX1_finish 55 = .ok (.aload_n 0, 1) := by decide +kernel
theorem dX1_finish_56 : decode cX1_finish 56 = .ok (.getfield 39, 3) := by decide +kernel
theorem dX1_finish_59 : decode cX1_finish 59 = .ok (.iastore, 1) := by decide +kernel
theorem dX1_finish_60 : decode cX1_finish 60 = .ok (.aload_n 0, 1) := by decide +kernel
theorem dX1_finish_61 : decode cX1_finish 61 = .ok (.getfield 33, 3) := by decide +kernel
theorem dX1_finish_64 : decode cX1_finish 64 = .ok (.iconst 1, 1) := by decide +kernel
theorem dX1_finish_65 : decode cX1_finish 65 = .ok (.if_icmp .ne 14, 3) := by decide +kernel
theorem dX1_finish_68 : decode cX1_finish 68 = .ok (.aload_n 0, 1) := by decide +kernel
theorem dX1_finish_69 : decode cX1_finish 69 = .ok (.getfield 9, 3) := by decide +kernel
theorem dX1_finish_72 : decode cX1_finish 72 = .ok (.bipush 33, 2) := by decide +kernel
theorem dX1_finish_74 : decode cX1_finish 74 = .ok (.dup2, 1) := by decide +kernel
theorem dX1_finish_75 : decode cX1_finish 75 = .ok (.iaload, 1) := by decide +kernel
theorem dX1_finish_76 : decode cX1_finish 76 = .ok (.iconst 1, 1) := by decide +kernel
theorem dX1_finish_77 : decode cX1_finish 77 = .ok (.iadd, 1) := by decide +kernel
theorem dX1_finish_78 : decode cX1_finish 78 = .ok (.iastore, 1) := by decide +kernel
theorem dX1_finish_79 : decode cX1_finish 79 = .ok (.aload_n 0, 1) := by decide +kernel
theorem dX1_finish_80 : decode cX1_finish 80 = .ok (.getfield 33, 3) := by decide +kernel
theorem dX1_finish_83 : decode cX1_finish 83 = .ok (.iconst 2, 1) := by decide +kernel
theorem dX1_finish_84 : decode cX1_finish 84 = .ok (.if_icmp .ne 14, 3) := by decide +kernel
theorem dX1_finish_87 : decode cX1_finish 87 = .ok (.aload_n 0, 1) := by decide +kernel
theorem dX1_finish_88 : decode cX1_finish 88 = .ok (.getfield 9, 3) := by decide +kernel
theorem dX1_finish_91 : decode cX1_finish 91 = .ok (.bipush 34, 2) := by decide +kernel
theorem dX1_finish_93 : decode cX1_finish 93 = .ok (.dup2, 1) := by decide +kernel
theorem dX1_finish_94 : decode cX1_finish 94 = .ok (.iaload, 1) := by decide +kernel
theorem dX1_finish_95 : decode cX1_finish 95 = .ok (.iconst 1, 1) := by decide +kernel
theorem dX1_finish_96 : decode cX1_finish 96 = .ok (.iadd, 1) := by decide +kernel
theorem dX1_finish_97 : decode cX1_finish 97 = .ok (.iastore, 1) := by decide +kernel
theorem dX1_finish_98 : decode cX1_finish 98 = .ok (.aload_n 0, 1) := by decide +kernel
theorem dX1_finish_99 : decode cX1_finish 99 = .ok (.getfield 9, 3) := by decide +kernel
theorem dX1_finish_102 : decode cX1_finish 102 = .ok (.bipush 32, 2) := by decide +kernel
theorem dX1_finish_104 : decode cX1_finish 104 = .ok (.aload_n 0, 1) := by decide +kernel
theorem dX1_finish_105 : decode cX1_finish 105 = .ok (.getfield 42, 3) := by decide +kernel
theorem dX1_finish_108 : decode cX1_finish 108 = .ok (.iastore, 1) := by decide +kernel
theorem dX1_finish_109 : decode cX1_finish 109 = .ok (.aload_n 0, 1) := by decide +kernel
theorem dX1_finish_110 : decode cX1_finish 110 = .ok (.getfield 9, 3) := by decide +kernel
theorem dX1_finish_113 : decode cX1_finish 113 = .ok (.bipush 35, 2) := by decide +kernel
theorem dX1_finish_115 : decode cX1_finish 115 = .ok (.dup2, 1) := by decide +kernel
theorem dX1_finish_116 : decode cX1_finish 116 = .ok (.iaload, 1) := by decide +kernel
theorem dX1_finish_117 : decode cX1_finish 117 = .ok (.iconst 1, 1) := by decide +kernel
theorem dX1_finish_118 : decode cX1_finish 118 = .ok (.iadd, 1) := by decide +kernel
theorem dX1_finish_119 : decode cX1_finish 119 = .ok (.iastore, 1) := by decide +kernel
theorem dX1_finish_120 : decode cX1_finish 120 = .ok (.return_, 1) := by decide +kernel
theorem dX1_kind_0 : decode cX1_kind 0 = .ok (.aload_n 0, 1) := by decide +kernel
theorem dX1_kind_1 : decode cX1_kind 1 = .ok (.getfield 33, 3) := by decide +kernel
theorem dX1_kind_4 : decode cX1_kind 4 = .ok (.ireturn, 1) := by decide +kernel
theorem dX1_cellWritten_0 : decode cX1_cellWritten 0 = .ok (.aload_n 0, 1) := by decide +kernel
theorem dX1_cellWritten_1 : decode cX1_cellWritten 1 = .ok (.getfield 96, 3) := by decide +kernel
theorem dX1_cellWritten_4 : decode cX1_cellWritten 4 = .ok (.ldc 117, 2) := by decide +kernel
theorem dX1_cellWritten_6 : decode cX1_cellWritten 6 = .ok (.isub, 1) := by decide +kernel
theorem dX1_cellWritten_7 : decode cX1_cellWritten 7 = .ok (.iconst 2, 1) := by decide +kernel
theorem dX1_cellWritten_8 : decode cX1_cellWritten 8 = .ok (.ishr, 1) := by decide +kernel
theorem dX1_cellWritten_9 : decode cX1_cellWritten 9 = .ok (.ireturn, 1) := by decide +kernel
theorem dX1_sendLength_0 : decode cX1_sendLength 0 = .ok (.aload_n 0, 1) := by decide +kernel
theorem dX1_sendLength_1 : decode cX1_sendLength 1 = .ok (.getfield 9, 3) := by decide +kernel
theorem dX1_sendLength_4 : decode cX1_sendLength 4 = .ok (.bipush 11, 2) := by decide +kernel
theorem dX1_sendLength_6 : decode cX1_sendLength 6 = .ok (.iaload, 1) := by decide +kernel
theorem dX1_sendLength_7 : decode cX1_sendLength 7 = .ok (.ireturn, 1) := by decide +kernel
theorem dX1_sendPlace_0 : decode cX1_sendPlace 0 = .ok (.aload_n 0, 1) := by decide +kernel
theorem dX1_sendPlace_1 : decode cX1_sendPlace 1 = .ok (.getfield 9, 3) := by decide +kernel
theorem dX1_sendPlace_4 : decode cX1_sendPlace 4 = .ok (.bipush 10, 2) := by decide +kernel
theorem dX1_sendPlace_6 : decode cX1_sendPlace 6 = .ok (.iaload, 1) := by decide +kernel
theorem dX1_sendPlace_7 : decode cX1_sendPlace 7 = .ok (.ireturn, 1) := by decide +kernel
theorem dX1_inRam_0 : decode cX1_inRam 0 = .ok (.iload_n 1, 1) := by decide +kernel
theorem dX1_inRam_1 : decode cX1_inRam 1 = .ok (.ifCond .lt 29, 3) := by decide +kernel
theorem dX1_inRam_4 : decode cX1_inRam 4 = .ok (.iload_n 1, 1) := by decide +kernel
theorem dX1_inRam_5 : decode cX1_inRam 5 = .ok (.aload_n 0, 1) := by decide +kernel
theorem dX1_inRam_6 : decode cX1_inRam 6 = .ok (.getfield 18, 3) := by decide +kernel
theorem dX1_inRam_9 : decode cX1_inRam 9 = .ok (.getfield 118, 3) := by decide +kernel
theorem dX1_inRam_12 : decode cX1_inRam 12 = .ok (.if_icmp .ge 18, 3) := by decide +kernel
theorem dX1_inRam_15 : decode cX1_inRam 15 = .ok (.iload_n 1, 1) := by decide +kernel
theorem dX1_inRam_16 : decode cX1_inRam 16 = .ok (.iconst 2, 1) := by decide +kernel
theorem dX1_inRam_17 : decode cX1_inRam 17 = .ok (.ishr, 1) := by decide +kernel
theorem dX1_inRam_18 : decode cX1_inRam 18 = .ok (.aload_n 0, 1) := by decide +kernel
theorem dX1_inRam_19 : decode cX1_inRam 19 = .ok (.getfield 15, 3) := by decide +kernel
theorem dX1_inRam_22 : decode cX1_inRam 22 = .ok (.arraylength, 1) := by decide +kernel
theorem dX1_inRam_23 : decode cX1_inRam 23 = .ok (.if_icmp .ge 7, 3) := by decide +kernel
theorem dX1_inRam_26 : decode cX1_inRam 26 = .ok (.iconst 1, 1) := by decide +kernel
theorem dX1_inRam_27 : decode cX1_inRam 27 = .ok (.goto 4, 3) := by decide +kernel
theorem dX1_inRam_30 : decode cX1_inRam 30 = .ok (.iconst 0, 1) := by decide +kernel
theorem dX1_inRam_31 : decode cX1_inRam 31 = .ok (.ireturn, 1) := by decide +kernel
theorem dX1_holds_0 : decode cX1_holds 0 = .ok (.iload_n 1, 1) := by decide +kernel
theorem dX1_holds_1 : decode cX1_holds 1 = .ok (.ldc 117, 2) := by decide +kernel
theorem dX1_holds_3 : decode cX1_holds 3 = .ok (.isub, 1) := by decide +kernel
theorem dX1_holds_4 : decode cX1_holds 4 = .ok (.istore_n 3, 1) := by decide +kernel
theorem dX1_holds_5 : decode cX1_holds 5 = .ok (.iload_n 1, 1) := by decide +kernel
theorem dX1_holds_6 : decode cX1_holds 6 = .ok (.ifCond .lt 16, 3) := by decide +kernel
theorem dX1_holds_9 : decode cX1_holds 9 = .ok (.iload_n 1, 1) := by decide +kernel
theorem dX1_holds_10 : decode cX1_holds 10 = .ok (.aload_n 0, 1) := by decide +kernel
theorem dX1_holds_11 : decode cX1_holds 11 = .ok (.getfield 18, 3) := by decide +kernel
theorem dX1_holds_14 : decode cX1_holds 14 = .ok (.getfield 118, 3) := by decide +kernel
theorem dX1_holds_17 : decode cX1_holds 17 = .ok (.iload_n 2, 1) := by decide +kernel
theorem dX1_holds_18 : decode cX1_holds 18 = .ok (.isub, 1) := by decide +kernel
theorem dX1_holds_19 : decode cX1_holds 19 = .ok (.if_icmp .le 20, 3) := by decide +kernel
theorem dX1_holds_22 : decode cX1_holds 22 = .ok (.iload_n 3, 1) := by decide +kernel
theorem dX1_holds_23 : decode cX1_holds 23 = .ok (.ifCond .lt 20, 3) := by decide +kernel
theorem dX1_holds_26 : decode cX1_holds 26 = .ok (.iload_n 3, 1) := by decide +kernel
theorem dX1_holds_27 : decode cX1_holds 27 = .ok (.aload_n 0, 1) := by decide +kernel
theorem dX1_holds_28 : decode cX1_holds 28 = .ok (.getfield 18, 3) := by decide +kernel
theorem dX1_holds_31 : decode cX1_holds 31 = .ok (.getfield 121, 3) := by decide +kernel
theorem dX1_holds_34 : decode cX1_holds 34 = .ok (.iload_n 2, 1) := by decide +kernel
theorem dX1_holds_35 : decode cX1_holds 35 = .ok (.isub, 1) := by decide +kernel
theorem dX1_holds_36 : decode cX1_holds 36 = .ok (.if_icmp .gt 7, 3) := by decide +kernel
theorem dX1_holds_39 : decode cX1_holds 39 = .ok (.iconst 1, 1) := by decide +kernel
theorem dX1_holds_40 : decode cX1_holds 40 = .ok (.goto 4, 3) := by decide +kernel
theorem dX1_holds_43 : decode cX1_holds 43 = .ok (.iconst 0, 1) := by decide +kernel
theorem dX1_holds_44 : decode cX1_holds 44 = .ok (.ireturn, 1) := by decide +kernel
theorem dX1_byteAt_0 : decode cX1_byteAt 0 = .ok (.aload_n 0, 1) := by decide +kernel
theorem dX1_byteAt_1 : decode cX1_byteAt 1 = .ok (.iload_n 1, 1) := by decide +kernel
theorem dX1_byteAt_2 : decode cX1_byteAt 2 = .ok (.invokevirtual 49, 3) := by decide +kernel
theorem dX1_byteAt_5 : decode cX1_byteAt 5 = .ok (.bipush 8, 2) := by decide +kernel
theorem dX1_byteAt_7 : decode cX1_byteAt 7 = .ok (.iload_n 1, 1) := by decide +kernel
theorem dX1_byteAt_8 : decode cX1_byteAt 8 = .ok (.iconst 3, 1) := by decide +kernel
theorem dX1_byteAt_9 : decode cX1_byteAt 9 = .ok (.iand, 1) := by decide +kernel
theorem dX1_byteAt_10 : decode cX1_byteAt 10 = .ok (.imul, 1) := by decide +kernel
theorem dX1_byteAt_11 : decode cX1_byteAt 11 = .ok (.iushr, 1) := by decide +kernel
theorem dX1_byteAt_12 : decode cX1_byteAt 12 = .ok (.sipush 255, 3) := by decide +kernel
theorem dX1_byteAt_15 : decode cX1_byteAt 15 = .ok (.iand, 1) := by decide +kernel
theorem dX1_byteAt_16 : decode cX1_byteAt 16 = .ok (.ireturn, 1) := by decide +kernel
theorem dX1_wordAt_0 : decode cX1_wordAt 0 = .ok (.aload_n 0, 1) := by decide +kernel
theorem dX1_wordAt_1 : decode cX1_wordAt 1 = .ok (.iload_n 1, 1) := by decide +kernel
theorem dX1_wordAt_2 : decode cX1_wordAt 2 = .ok (.invokevirtual 92, 3) := by decide +kernel
theorem dX1_wordAt_5 : decode cX1_wordAt 5 = .ok (.ifCond .eq 12, 3) := by decide +kernel
theorem dX1_wordAt_8 : decode cX1_wordAt 8 = .ok (.aload_n 0, 1) := by decide +kernel
theorem dX1_wordAt_9 : decode cX1_wordAt 9 = .ok (.getfield 15, 3) := by decide +kernel
theorem dX1_wordAt_12 : decode cX1_wordAt 12 = .ok (.iload_n 1, 1) := by decide +kernel
theorem dX1_wordAt_13 : decode cX1_wordAt 13 = .ok (.iconst 2, 1) := by decide +kernel
theorem dX1_wordAt_14 : decode cX1_wordAt 14 = .ok (.ishr, 1) := by decide +kernel
theorem dX1_wordAt_15 : decode cX1_wordAt 15 = .ok (.iaload, 1) := by decide +kernel
theorem dX1_wordAt_16 : decode cX1_wordAt 16 = .ok (.ireturn, 1) := by decide +kernel
theorem dX1_wordAt_17 : decode cX1_wordAt 17 = .ok (.aload_n 0, 1) := by decide +kernel
theorem dX1_wordAt_18 : decode cX1_wordAt 18 = .ok (.getfield 25, 3) := by decide +kernel
theorem dX1_wordAt_21 : decode cX1_wordAt 21 = .ok (.iload_n 1, 1) := by decide +kernel
theorem dX1_wordAt_22 : decode cX1_wordAt 22 = .ok (.ldc 117, 2) := by decide +kernel
theorem dX1_wordAt_24 : decode cX1_wordAt 24 = .ok (.isub, 1) := by decide +kernel
theorem dX1_wordAt_25 : decode cX1_wordAt 25 = .ok (.iconst 2, 1) := by decide +kernel
theorem dX1_wordAt_26 : decode cX1_wordAt 26 = .ok (.ishr, 1) := by decide +kernel
theorem dX1_wordAt_27 : decode cX1_wordAt 27 = .ok (.iadd, 1) := by decide +kernel
theorem dX1_wordAt_28 : decode cX1_wordAt 28 = .ok (.istore_n 2, 1) := by decide +kernel
theorem dX1_wordAt_29 : decode cX1_wordAt 29 = .ok (.iload_n 2, 1) := by decide +kernel
theorem dX1_wordAt_30 : decode cX1_wordAt 30 = .ok (.ifCond .lt 21, 3) := by decide +kernel
theorem dX1_wordAt_33 : decode cX1_wordAt 33 = .ok (.iload_n 2, 1) := by decide +kernel
theorem dX1_wordAt_34 : decode cX1_wordAt 34 = .ok (.aload_n 0, 1) := by decide +kernel
theorem dX1_wordAt_35 : decode cX1_wordAt 35 = .ok (.getfield 22, 3) := by decide +kernel
theorem dX1_wordAt_38 : decode cX1_wordAt 38 = .ok (.arraylength, 1) := by decide +kernel
theorem dX1_wordAt_39 : decode cX1_wordAt 39 = .ok (.if_icmp .ge 12, 3) := by decide +kernel
theorem dX1_wordAt_42 : decode cX1_wordAt 42 = .ok (.aload_n 0, 1) := by decide +kernel
theorem dX1_wordAt_43 : decode cX1_wordAt 43 = .ok (.getfield 22, 3) := by decide +kernel
theorem dX1_wordAt_46 : decode cX1_wordAt 46 = .ok (.iload_n 2, 1) := by decide +kernel
theorem dX1_wordAt_47 : decode cX1_wordAt 47 = .ok (.iaload, 1) := by decide +kernel
theorem dX1_wordAt_48 : decode cX1_wordAt 48 = .ok (.goto 4, 3) := by decide +kernel
theorem dX1_wordAt_51 : decode cX1_wordAt 51 = .ok (.iconst 0, 1) := by decide +kernel
theorem dX1_wordAt_52 : decode cX1_wordAt 52 = .ok (.ireturn, 1) := by decide +kernel
theorem dX1_putWord_0 : decode cX1_putWord 0 = .ok (.aload_n 0, 1) := by decide +kernel
theorem dX1_putWord_1 : decode cX1_putWord 1 = .ok (.getfield 25, 3) := by decide +kernel
theorem dX1_putWord_4 : decode cX1_putWord 4 = .ok (.iload_n 1, 1) := by decide +kernel
theorem dX1_putWord_5 : decode cX1_putWord 5 = .ok (.ldc 117, 2) := by decide +kernel
theorem dX1_putWord_7 : decode cX1_putWord 7 = .ok (.isub, 1) := by decide +kernel
theorem dX1_putWord_8 : decode cX1_putWord 8 = .ok (.iconst 2, 1) := by decide +kernel
theorem dX1_putWord_9 : decode cX1_putWord 9 = .ok (.ishr, 1) := by decide +kernel
theorem dX1_putWord_10 : decode cX1_putWord 10 = .ok (.iadd, 1) := by decide +kernel
theorem dX1_putWord_11 : decode cX1_putWord 11 = .ok (.istore_n 3, 1) := by decide +kernel
theorem dX1_putWord_12 : decode cX1_putWord 12 = .ok (.aload_n 0, 1) := by decide +kernel
theorem dX1_putWord_13 : decode cX1_putWord 13 = .ok (.iload_n 1, 1) := by decide +kernel
theorem dX1_putWord_14 : decode cX1_putWord 14 = .ok (.invokevirtual 92, 3) := by decide +kernel
theorem dX1_putWord_17 : decode cX1_putWord 17 = .ok (.ifCond .eq 15, 3) := by decide +kernel
theorem dX1_putWord_20 : decode cX1_putWord 20 = .ok (.aload_n 0, 1) := by decide +kernel
theorem dX1_putWord_21 : decode cX1_putWord 21 = .ok (.getfield 15, 3) := by decide +kernel
theorem dX1_putWord_24 : decode cX1_putWord 24 = .ok (.iload_n 1, 1) := by decide +kernel
theorem dX1_putWord_25 : decode cX1_putWord 25 = .ok (.iconst 2, 1) := by decide +kernel
theorem dX1_putWord_26 : decode cX1_putWord 26 = .ok (.ishr, 1) := by decide +kernel
theorem dX1_putWord_27 : decode cX1_putWord 27 = .ok (.iload_n 2, 1) := by decide +kernel
theorem dX1_putWord_28 : decode cX1_putWord 28 = .ok (.iastore, 1) := by decide +kernel
theorem dX1_putWord_29 : decode cX1_putWord 29 = .ok (.goto 23, 3) := by decide +kernel
theorem dX1_putWord_32 : decode cX1_putWord 32 = .ok (.iload_n 3, 1) := by decide +kernel
theorem dX1_putWord_33 : decode cX1_putWord 33 = .ok (.ifCond .lt 19, 3) := by decide +kernel
theorem dX1_putWord_36 : decode cX1_putWord 36 = .ok (.iload_n 3, 1) := by decide +kernel
theorem dX1_putWord_37 : decode cX1_putWord 37 = .ok (.aload_n 0, 1) := by decide +kernel
theorem dX1_putWord_38 : decode cX1_putWord 38 = .ok (.getfield 22, 3) := by decide +kernel
theorem dX1_putWord_41 : decode cX1_putWord 41 = .ok (.arraylength, 1) := by decide +kernel
theorem dX1_putWord_42 : decode cX1_putWord 42 = .ok (.if_icmp .ge 10, 3) := by decide +kernel
theorem dX1_putWord_45 : decode cX1_putWord 45 = .ok (.aload_n 0, 1) := by decide +kernel
theorem dX1_putWord_46 : decode cX1_putWord 46 = .ok (.getfield 22, 3) := by decide +kernel
theorem dX1_putWord_49 : decode cX1_putWord 49 = .ok (.iload_n 3, 1) := by decide +kernel
theorem dX1_putWord_50 : decode cX1_putWord 50 = .ok (.iload_n 2, 1) := by decide +kernel
theorem dX1_putWord_51 : decode cX1_putWord 51 = .ok (.iastore, 1) := by decide +kernel
theorem dX1_putWord_52 : decode cX1_putWord 52 = .ok (.return_, 1) := by decide +kernel
theorem dX2_init_0 : decode cX2_init 0 = .ok (.aload_n 0, 1) := by decide +kernel
theorem dX2_init_1 : decode cX2_init 1 = .ok (.invokespecial 3, 3) := by decide +kernel
theorem dX2_init_4 : decode cX2_init 4 = .ok (.aload_n 0, 1) := by decide +kernel
theorem dX2_init_5 : decode cX2_init 5 = .ok (.sipush 2048, 3) := by decide +kernel
theorem dX2_init_8 : decode cX2_init 8 = .ok (.newarray .int, 2) := by decide +kernel
theorem dX2_init_10 : decode cX2_init 10 = .ok (.putfield 9, 3) := by decide +kernel
theorem dX2_init_13 : decode cX2_init 13 = .ok (.aload_n 0, 1) := by decide +kernel
theorem dX2_init_14 : decode cX2_init 14 = .ok (.bipush 7, 2) := by decide +kernel
theorem dX2_init_16 : decode cX2_init 16 = .ok (.newarray .int, 2) := by decide +kernel
theorem dX2_init_18 : decode cX2_init 18 = .ok (.putfield 15, 3) := by decide +kernel
theorem dX2_init_21 : decode cX2_init 21 = .ok (.aload_n 0, 1) := by decide +kernel
theorem dX2_init_22 : decode cX2_init 22 = .ok (.new 18, 3) := by decide +kernel
theorem dX2_init_25 : decode cX2_init 25 = .ok (.dup, 1) := by decide +kernel
theorem dX2_init_26 : decode cX2_init 26 = .ok (.invokespecial 20, 3) := by decide +kernel
theorem dX2_init_29 : decode cX2_init 29 = .ok (.putfield 21, 3) := by decide +kernel
theorem dX2_init_32 : decode cX2_init 32 = .ok (.aload_n 0, 1) := by decide +kernel
theorem dX2_init_33 : decode cX2_init 33 = .ok (.aload_n 1, 1) := by decide +kernel
theorem dX2_init_34 : decode cX2_init 34 = .ok (.putfield 25, 3) := by decide +kernel
theorem dX2_init_37 : decode cX2_init 37 = .ok (.sipush 6219, 3) := by decide +kernel
theorem dX2_init_40 : decode cX2_init 40 = .ok (.newarray .int, 2) := by decide +kernel
theorem dX2_init_42 : decode cX2_init 42 = .ok (.astore_n 2, 1) := by decide +kernel
theorem dX2_init_43 : decode cX2_init 43 = .ok (.aload_n 0, 1) := by decide +kernel
theorem dX2_init_44 : decode cX2_init 44 = .ok (.aload_n 2, 1) := by decide +kernel
theorem dX2_init_45 : decode cX2_init 45 = .ok (.putfield 29, 3) := by decide +kernel
theorem dX2_init_48 : decode cX2_init 48 = .ok (.aload_n 0, 1) := by decide +kernel
theorem dX2_init_49 : decode cX2_init 49 = .ok (.new 32, 3) := by decide +kernel
theorem dX2_init_52 : decode cX2_init 52 = .ok (.dup, 1) := by decide +kernel
theorem dX2_init_53 : decode cX2_init 53 = .ok (.aload_n 1, 1) := by decide +kernel
theorem dX2_init_54 : decode cX2_init 54 = .ok (.aload_n 2, 1) := by decide +kernel
theorem dX2_init_55 : decode cX2_init 55 = .ok (.invokespecial 34, 3) := by decide +kernel
theorem dX2_init_58 : decode cX2_init 58 = .ok (.putfield 37, 3) := by decide +kernel
theorem dX2_init_61 : decode cX2_init 61 = .ok (.aload_n 0, 1) := by decide +kernel
theorem dX2_init_62 : decode cX2_init 62 = .ok (.iconst 0, 1) := by decide +kernel
theorem dX2_init_63 : decode cX2_init 63 = .ok (.putfield 41, 3) := by decide +kernel
theorem dX2_init_66 : decode cX2_init 66 = .ok (.return_, 1) := by decide +kernel
theorem dX2_makeNew_0 : decode cX2_makeNew 0 = .ok (.aload_n 0, 1) := by decide +kernel
theorem dX2_makeNew_1 : decode cX2_makeNew 1 = .ok (.iconst 3, 1) := by decide +kernel
theorem dX2_makeNew_2 : decode cX2_makeNew 2 = .ok (.iconst 2, 1) := by decide +kernel
theorem dX2_makeNew_3 : decode cX2_makeNew 3 = .ok (.aload_n 0, 1) := by decide +kernel
theorem dX2_makeNew_4 : decode cX2_makeNew 4 = .ok (.getfield 25, 3) := by decide +kernel
theorem dX2_makeNew_7 : decode cX2_makeNew 7 = .ok (.invokevirtual 45, 3) := by decide +kernel
theorem dX2_makeNew_10 : decode cX2_makeNew 10 = .ok (.imul, 1) := by decide +kernel
theorem dX2_makeNew_11 : decode cX2_makeNew 11 = .ok (.iadd, 1) := by decide +kernel
theorem dX2_makeNew_12 : decode cX2_makeNew 12 = .ok (.putfield 51, 3) := by decide +kernel
theorem dX2_makeNew_15 : decode cX2_makeNew 15 = .ok (.aload_n 0, 1) := by decide +kernel
theorem dX2_makeNew_16 : decode cX2_makeNew 16 = .ok (.aload_n 0, 1) := by decide +kernel
theorem dX2_makeNew_17 : decode cX2_makeNew 17 = .ok (.getfield 51, 3) := by decide +kernel
theorem dX2_makeNew_20 : decode cX2_makeNew 20 = .ok (.iconst 2, 1) := by decide +kernel
theorem dX2_makeNew_21 : decode cX2_makeNew 21 = .ok (.aload_n 0, 1) := by decide +kernel
theorem dX2_makeNew_22 : decode cX2_makeNew 22 = .ok (.getfield 25, 3) := by decide +kernel
theorem dX2_makeNew_25 : decode cX2_makeNew 25 = .ok (.getfield 54, 3) := by decide +kernel
theorem dX2_makeNew_28 : decode cX2_makeNew 28 = .ok (.imul, 1) := by decide +kernel
theorem dX2_makeNew_29 : decode cX2_makeNew 29 = .ok (.iadd, 1) := by decide +kernel
theorem dX2_makeNew_30 : decode cX2_makeNew 30 = .ok (.putfield 57, 3) := by decide +kernel
theorem dX2_makeNew_33 : decode cX2_makeNew 33 = .ok (.aload_n 0, 1) := by decide +kernel
theorem dX2_makeNew_34 : decode cX2_makeNew 34 = .ok (.aload_n 0, 1) := by decide +kernel
theorem dX2_makeNew_35 : decode cX2_makeNew 35 = .ok (.getfield 57, 3) := by decide +kernel
theorem dX2_makeNew_38 : decode cX2_makeNew 38 = .ok (.aload_n 0, 1) := by decide +kernel
theorem dX2_makeNew_39 : decode cX2_makeNew 39 = .ok (.getfield 25, 3) := by decide +kernel
theorem dX2_makeNew_42 : decode cX2_makeNew 42 = .ok (.getfield 60, 3) := by decide +kernel
theorem dX2_makeNew_45 : decode cX2_makeNew 45 = .ok (.iconst 4, 1) := by decide +kernel
theorem dX2_makeNew_46 : decode cX2_makeNew 46 = .ok (.idiv, 1) := by decide +kernel
theorem dX2_makeNew_47 : decode cX2_makeNew 47 = .ok (.iadd, 1) := by decide +kernel
theorem dX2_makeNew_48 : decode cX2_makeNew 48 = .ok (.putfield 63, 3) := by decide +kernel
theorem dX2_makeNew_51 : decode cX2_makeNew 51 = .ok (.iconst 0, 1) := by decide +kernel
theorem dX2_makeNew_52 : decode cX2_makeNew 52 = .ok (.istore_n 1, 1) := by decide +kernel
theorem dX2_makeNew_53 : decode cX2_makeNew 53 = .ok (.iload_n 1, 1) := by decide +kernel
theorem dX2_makeNew_54 : decode cX2_makeNew 54 = .ok (.aload_n 0, 1) := by decide +kernel
theorem dX2_makeNew_55 : decode cX2_makeNew 55 = .ok (.getfield 29, 3) := by decide +kernel
theorem dX2_makeNew_58 : decode cX2_makeNew 58 = .ok (.arraylength, 1) := by decide +kernel
theorem dX2_makeNew_59 : decode cX2_makeNew 59 = .ok (.if_icmp .ge 16, 3) := by decide +kernel
theorem dX2_makeNew_62 : decode cX2_makeNew 62 = .ok (.aload_n 0, 1) := by decide +kernel
theorem dX2_makeNew_63 : decode cX2_makeNew 63 = .ok (.getfield 29, 3) := by decide +kernel
theorem dX2_makeNew_66 : decode cX2_makeNew 66 = .ok (.iload_n 1, 1) := by decide +kernel
theorem dX2_makeNew_67 : decode cX2_makeNew 67 = .ok (.iconst 0, 1) := by decide +kernel
theorem dX2_makeNew_68 : decode cX2_makeNew 68 = .ok (.iastore, 1) := by decide +kernel
theorem dX2_makeNew_69 : decode cX2_makeNew 69 = .ok (.iinc 1 1, 3) := by decide +kernel
theorem dX2_makeNew_72 : decode cX2_makeNew 72 = .ok (.goto (-19), 3) := by decide +kernel
theorem dX2_makeNew_75 : decode cX2_makeNew 75 = .ok (.aload_n 0, 1) := by decide +kernel
theorem dX2_makeNew_76 : decode cX2_makeNew 76 = .ok (.getfield 29, 3) := by decide +kernel
theorem dX2_makeNew_79 : decode cX2_makeNew 79 = .ok (.bipush 35, 2) := by decide +kernel
theorem dX2_makeNew_81 : decode cX2_makeNew 81 = .ok (.aload_n 0, 1) := by decide +kernel
theorem dX2_makeNew_82 : decode cX2_makeNew 82 = .ok (.getfield 25, 3) := by decide +kernel
theorem dX2_makeNew_85 : decode cX2_makeNew 85 = .ok (.getfield 66, 3) := by decide +kernel
theorem dX2_makeNew_88 : decode cX2_makeNew 88 = .ok (.iastore, 1) := by decide +kernel
theorem dX2_makeNew_89 : decode cX2_makeNew 89 = .ok (.aload_n 0, 1) := by decide +kernel
theorem dX2_makeNew_90 : decode cX2_makeNew 90 = .ok (.getfield 25, 3) := by decide +kernel
theorem dX2_makeNew_93 : decode cX2_makeNew 93 = .ok (.aload_n 0, 1) := by decide +kernel
theorem dX2_makeNew_94 : decode cX2_makeNew 94 = .ok (.getfield 29, 3) := by decide +kernel
theorem dX2_makeNew_97 : decode cX2_makeNew 97 = .ok (.aload_n 0, 1) := by decide +kernel
theorem dX2_makeNew_98 : decode cX2_makeNew 98 = .ok (.getfield 57, 3) := by decide +kernel
theorem dX2_makeNew_101 : decode cX2_makeNew 101 = .ok (.invokevirtual 69, 3) := by decide +kernel
theorem dX2_makeNew_104 : decode cX2_makeNew 104 = .ok (.aload_n 0, 1) := by decide +kernel
theorem dX2_makeNew_105 : decode cX2_makeNew 105 = .ok (.getfield 37, 3) := by decide +kernel
theorem dX2_makeNew_108 : decode cX2_makeNew 108 = .ok (.aload_n 0, 1) := by decide +kernel
theorem dX2_makeNew_109 : decode cX2_makeNew 109 = .ok (.getfield 57, 3) := by decide +kernel
theorem dX2_makeNew_112 : decode cX2_makeNew 112 = .ok (.invokevirtual 73, 3) := by decide +kernel
theorem dX2_makeNew_115 : decode cX2_makeNew 115 = .ok (.iconst 0, 1) := by decide +kernel
theorem dX2_makeNew_116 : decode cX2_makeNew 116 = .ok (.istore_n 1, 1) := by decide +kernel
theorem dX2_makeNew_117 : decode cX2_makeNew 117 = .ok (.iload_n 1, 1) := by decide +kernel
theorem dX2_makeNew_118 : decode cX2_makeNew 118 = .ok (.aload_n 0, 1) := by decide +kernel
theorem dX2_makeNew_119 : decode cX2_makeNew 119 = .ok (.getfield 15, 3) := by decide +kernel
theorem dX2_makeNew_122 : decode cX2_makeNew 122 = .ok (.arraylength, 1) := by decide +kernel
theorem dX2_makeNew_123 : decode cX2_makeNew 123 = .ok (.if_icmp .ge 16, 3) := by decide +kernel
theorem dX2_makeNew_126 : decode cX2_makeNew 126 = .ok (.aload_n 0, 1) := by decide +kernel
theorem dX2_makeNew_127 : decode cX2_makeNew 127 = .ok (.getfield 15, 3) := by decide +kernel
theorem dX2_makeNew_130 : decode cX2_makeNew 130 = .ok (.iload_n 1, 1) := by decide +kernel
theorem dX2_makeNew_131 : decode cX2_makeNew 131 = .ok (.iconst 0, 1) := by decide +kernel
theorem dX2_makeNew_132 : decode cX2_makeNew 132 = .ok (.iastore, 1) := by decide +kernel
theorem dX2_makeNew_133 : decode cX2_makeNew 133 = .ok (.iinc 1 1, 3) := by decide +kernel
theorem dX2_makeNew_136 : decode cX2_makeNew 136 = .ok (.goto (-19), 3) := by decide +kernel
theorem dX2_makeNew_139 : decode cX2_makeNew 139 = .ok (.aload_n 0, 1) := by decide +kernel
theorem dX2_makeNew_140 : decode cX2_makeNew 140 = .ok (.getfield 21, 3) := by decide +kernel
theorem dX2_makeNew_143 : decode cX2_makeNew 143 = .ok (.invokevirtual 77, 3) := by decide +kernel
theorem dX2_makeNew_146 : decode cX2_makeNew 146 = .ok (.aload_n 0, 1) := by decide +kernel
theorem dX2_makeNew_147 : decode cX2_makeNew 147 = .ok (.iconst 0, 1) := by decide +kernel
theorem dX2_makeNew_148 : decode cX2_makeNew 148 = .ok (.putfield 80, 3) := by decide +kernel
theorem dX2_makeNew_151 : decode cX2_makeNew 151 = .ok (.aload_n 0, 1) := by decide +kernel
theorem dX2_makeNew_152 : decode cX2_makeNew 152 = .ok (.iconst 0, 1) := by decide +kernel
theorem dX2_makeNew_153 : decode cX2_makeNew 153 = .ok (.putfield 83, 3) := by decide +kernel
theorem dX2_makeNew_156 : decode cX2_makeNew 156 = .ok (.aload_n 0, 1) := by decide +kernel
theorem dX2_makeNew_157 : decode cX2_makeNew 157 = .ok (.iconst 1, 1) := by decide +kernel
theorem dX2_makeNew_158 : decode cX2_makeNew 158 = .ok (.putfield 41, 3) := by decide +kernel
theorem dX2_makeNew_161 : decode cX2_makeNew 161 = .ok (.return_, 1) := by decide +kernel
theorem dX2_hadPower_0 : decode cX2_hadPower 0 = .ok (.aload_n 0, 1) := by decide +kernel
theorem dX2_hadPower_1 : decode cX2_hadPower 1 = .ok (.getfield 83, 3) := by decide +kernel
theorem dX2_hadPower_4 : decode cX2_hadPower 4 = .ok (.ireturn, 1) := by decide +kernel
theorem dX2_hasPower_0 : decode cX2_hasPower 0 = .ok (.aload_n 0, 1) := by decide +kernel
theorem dX2_hasPower_1 : decode cX2_hasPower 1 = .ok (.getfield 41, 3) := by decide +kernel
theorem dX2_hasPower_4 : decode cX2_hasPower 4 = .ok (.iconst 1, 1) := by decide +kernel
theorem dX2_hasPower_5 : decode cX2_hasPower 5 = .ok (.if_icmp .le 7, 3) := by decide +kernel
theorem dX2_hasPower_8 : decode cX2_hasPower 8 = .ok (.iconst 1, 1) := by decide +kernel
theorem dX2_hasPower_9 : decode cX2_hasPower 9 = .ok (.goto 4, 3) := by decide +kernel
theorem dX2_hasPower_12 : decode cX2_hasPower 12 = .ok (.iconst 0, 1) := by decide +kernel
theorem dX2_hasPower_13 : decode cX2_hasPower 13 = .ok (.ireturn, 1) := by decide +kernel
theorem dX2_givePower_0 : decode cX2_givePower 0 = .ok (.aload_n 0, 1) := by decide +kernel
theorem dX2_givePower_1 : decode cX2_givePower 1 = .ok (.getfield 41, 3) := by decide +kernel
theorem dX2_givePower_4 : decode cX2_givePower 4 = .ok (.iconst 1, 1) := by decide +kernel
theorem dX2_givePower_5 : decode cX2_givePower 5 = .ok (.if_icmp .eq 5, 3) := by decide +kernel
theorem dX2_givePower_8 : decode cX2_givePower 8 = .ok (.iconst 0, 1) := by decide +kernel
theorem dX2_givePower_9 : decode cX2_givePower 9 = .ok (.ireturn, 1) := by decide +kernel
theorem dX2_givePower_10 : decode cX2_givePower 10 = .ok (.aload_n 0, 1) := by decide +kernel
theorem dX2_givePower_11 : decode cX2_givePower 11 = .ok (.iconst 1, 1) := by decide +kernel
theorem dX2_givePower_12 : decode cX2_givePower 12 = .ok (.putfield 83, 3) := by decide +kernel
theorem dX2_givePower_15 : decode cX2_givePower 15 = .ok (.aload_n 0, 1) := by decide +kernel
theorem dX2_givePower_16 : decode cX2_givePower 16 = .ok (.iconst 0, 1) := by decide +kernel
theorem dX2_givePower_17 : decode cX2_givePower 17 = .ok (.putfield 87, 3) := by decide +kernel
theorem dX2_givePower_20 : decode cX2_givePower 20 = .ok (.aload_n 0, 1) := by decide +kernel
theorem dX2_givePower_21 : decode cX2_givePower 21 = .ok (.iconst 0, 1) := by decide +kernel
theorem dX2_givePower_22 : decode cX2_givePower 22 = .ok (.putfield 90, 3) := by decide +kernel
theorem dX2_givePower_25 : decode cX2_givePower 25 = .ok (.aload_n 0, 1) := by decide +kernel
theorem dX2_givePower_26 : decode cX2_givePower 26 = .ok (.dup, 1) := by decide +kernel
theorem dX2_givePower_27 : decode cX2_givePower 27 = .ok (.getfield 93, 3) := by decide +kernel
theorem dX2_givePower_30 : decode cX2_givePower 30 = .ok (.iconst 1, 1) := by decide +kernel
theorem dX2_givePower_31 : decode cX2_givePower 31 = .ok (.iadd, 1) := by decide +kernel
theorem dX2_givePower_32 : decode cX2_givePower 32 = .ok (.putfield 93, 3) := by decide +kernel
theorem dX2_givePower_35 : decode cX2_givePower 35 = .ok (.aload_n 0, 1) := by decide +kernel
theorem dX2_givePower_36 : decode cX2_givePower 36 = .ok (.aload_n 0, 1) := by decide +kernel
theorem dX2_givePower_37 : decode cX2_givePower 37 = .ok (.invokevirtual 96, 3) := by decide +kernel
theorem dX2_givePower_40 : decode cX2_givePower 40 = .ok (.invokevirtual 99, 3) := by decide +kernel
theorem dX2_givePower_43 : decode cX2_givePower 43 = .ok (.istore_n 1, 1) := by decide +kernel
theorem dX2_givePower_44 : decode cX2_givePower 44 = .ok (.iconst 0, 1) := by decide +kernel
theorem dX2_givePower_45 : decode cX2_givePower 45 = .ok (.istore_n 2, 1) := by decide +kernel
theorem dX2_givePower_46 : decode cX2_givePower 46 = .ok (.iload_n 2, 1) := by decide +kernel
theorem dX2_givePower_47 : decode cX2_givePower 47 = .ok (.aload_n 0, 1) := by decide +kernel
theorem dX2_givePower_48 : decode cX2_givePower 48 = .ok (.getfield 25, 3) := by decide +kernel
theorem dX2_givePower_51 : decode cX2_givePower 51 = .ok (.invokevirtual 45, 3) := by decide +kernel
theorem dX2_givePower_54 : decode cX2_givePower 54 = .ok (.if_icmp .ge 24, 3) := by decide +kernel
theorem dX2_givePower_57 : decode cX2_givePower 57 = .ok (.aload_n 0, 1) := by decide +kernel
theorem dX2_givePower_58 : decode cX2_givePower 58 = .ok (.getfield 37, 3) := by decide +kernel
theorem dX2_givePower_61 : decode cX2_givePower 61 = .ok (.iload_n 2, 1) := by decide +kernel
theorem dX2_givePower_62 : decode cX2_givePower 62 = .ok (.aload_n 0, 1) := by decide +kernel
theorem dX2_givePower_63 : decode cX2_givePower 63 = .ok (.iload_n 1, 1) := by decide +kernel
theorem dX2_givePower_64 : decode cX2_givePower 64 = .ok (.iload_n 2, 1) := by decide +kernel
theorem dX2_givePower_65 : decode cX2_givePower 65 = .ok (.iadd, 1) := by decide +kernel
theorem dX2_givePower_66 : decode cX2_givePower 66 = .ok (.invokevirtual 103, 3) := by decide +kernel
theorem dX2_givePower_69 : decode cX2_givePower 69 = .ok (.invokevirtual 106, 3) := by decide +kernel
theorem dX2_givePower_72 : decode cX2_givePower 72 = .ok (.iinc 2 1, 3) := by decide +kernel
theorem dX2_givePower_75 : decode cX2_givePower 75 = .ok (.goto (-29), 3) := by decide +kernel
theorem dX2_givePower_78 : decode cX2_givePower 78 = .ok (.aload_n 0, 1) := by decide +kernel
theorem dX2_givePower_79 : decode cX2_givePower 79 = .ok (.invokevirtual 110, 3) := by decide +kernel
theorem dX2_givePower_82 : decode cX2_givePower 82 = .ok (.iconst 1, 1) := by decide +kernel
theorem dX2_givePower_83 : decode cX2_givePower 83 = .ok (.ireturn, 1) := by decide +kernel
theorem dX2_meetLog_0 : decode cX2_meetLog 0 = .ok (.aload_n 0, 1) := by decide +kernel
theorem dX2_meetLog_1 : decode cX2_meetLog 1 = .ok (.getfield 29, 3) := by decide +kernel
theorem dX2_meetLog_4 : decode cX2_meetLog 4 = .ok (.iconst 1, 1) := by decide +kernel
theorem dX2_meetLog_5 : decode cX2_meetLog 5 = .ok (.iaload, 1) := by decide +kernel
theorem dX2_meetLog_6 : decode cX2_meetLog 6 = .ok (.bipush 16, 2) := by decide +kernel
theorem dX2_meetLog_8 : decode cX2_meetLog 8 = .ok (.iushr, 1) := by decide +kernel
theorem dX2_meetLog_9 : decode cX2_meetLog 9 = .ok (.istore_n 1, 1) := by decide +kernel
theorem dX2_meetLog_10 : decode cX2_meetLog 10 = .ok (.iload_n 1, 1) := by decide +kernel
theorem dX2_meetLog_11 : decode cX2_meetLog 11 = .ok (.aload_n 0, 1) := by decide +kernel
theorem dX2_meetLog_12 : decode cX2_meetLog 12 = .ok (.invokevirtual 96, 3) := by decide +kernel
theorem dX2_meetLog_15 : decode cX2_meetLog 15 = .ok (.if_icmp .eq 26, 3) := by decide +kernel
theorem dX2_meetLog_18 : decode cX2_meetLog 18 = .ok (.iload_n 1, 1) := by decide +kernel
theorem dX2_meetLog_19 : decode cX2_meetLog 19 = .ok (.aload_n 0, 1) := by decide +kernel
theorem dX2_meetLog_20 : decode cX2_meetLog 20 = .ok (.invokevirtual 96, 3) := by decide +kernel
theorem dX2_meetLog_23 : decode cX2_meetLog 23 = .ok (.iconst 1, 1) := by decide +kernel
theorem dX2_meetLog_24 : decode cX2_meetLog 24 = .ok (.isub, 1) := by decide +kernel
theorem dX2_meetLog_25 : decode cX2_meetLog 25 = .ok (.ldc 113, 2) := by decide +kernel
theorem dX2_meetLog_27 : decode cX2_meetLog 27 = .ok (.iand, 1) := by decide +kernel
theorem dX2_meetLog_28 : decode cX2_meetLog 28 = .ok (.if_icmp .eq 13, 3) := by decide +kernel
theorem dX2_meetLog_31 : decode cX2_meetLog 31 = .ok (.aload_n 0, 1) := by decide +kernel
theorem dX2_meetLog_32 : decode cX2_meetLog 32 = .ok (.dup, 1) := by decide +kernel
theorem dX2_meetLog_33 : decode cX2_meetLog 33 = .ok (.getfield 80, 3) := by decide +kernel
theorem dX2_meetLog_36 : decode cX2_meetLog 36 = .ok (.iconst 1, 1) := by decide +kernel
theorem dX2_meetLog_37 : decode cX2_meetLog 37 = .ok (.iadd, 1) := by decide +kernel
theorem dX2_meetLog_38 : decode cX2_meetLog 38 = .ok (.putfield 80, 3) := by decide +kernel
theorem dX2_meetLog_41 : decode cX2_meetLog 41 = .ok (.aload_n 0, 1) := by decide +kernel
theorem dX2_meetLog_42 : decode cX2_meetLog 42 = .ok (.iload_n 1, 1) := by decide +kernel
theorem dX2_meetLog_43 : decode cX2_meetLog 43 = .ok (.aload_n 0, 1) := by decide +kernel
theorem dX2_meetLog_44 : decode cX2_meetLog 44 = .ok (.invokevirtual 96, 3) := by decide +kernel
theorem dX2_meetLog_47 : decode cX2_meetLog 47 = .ok (.if_icmp .ne 10, 3) := by decide +kernel
theorem dX2_meetLog_50 : decode cX2_meetLog 50 = .ok (.aload_n 0, 1) := by decide +kernel
theorem dX2_meetLog_51 : decode cX2_meetLog 51 = .ok (.invokevirtual 114, 3) := by decide +kernel
theorem dX2_meetLog_54 : decode cX2_meetLog 54 = .ok (.ifCond .le 7, 3) := by decide +kernel
theorem dX2_meetLog_57 : decode cX2_meetLog 57 = .ok (.iconst 2, 1) := by decide +kernel
theorem dX2_meetLog_58 : decode cX2_meetLog 58 = .ok (.goto 4, 3) := by decide +kernel
theorem dX2_meetLog_61 : decode cX2_meetLog 61 = .ok (.iconst 3, 1) := by decide +kernel
theorem dX2_meetLog_62 : decode cX2_meetLog 62 = .ok (.putfield 41, 3) := by decide +kernel
theorem dX2_meetLog_65 : decode cX2_meetLog 65 = .ok (.return_, 1) := by decide +kernel
theorem dX2_cutPower_0 : decode cX2_cutPower 0 = .ok (.aload_n 0, 1) := by decide +kernel
theorem dX2_cutPower_1 : decode cX2_cutPower 1 = .ok (.invokevirtual 117, 3) := by decide +kernel
theorem dX2_cutPower_4 : decode cX2_cutPower 4 = .ok (.ifCond .ne 5, 3) := by decide +kernel
theorem dX2_cutPower_7 : decode cX2_cutPower 7 = .ok (.iconst 0, 1) := by decide +kernel
theorem dX2_cutPower_8 : decode cX2_cutPower 8 = .ok (.ireturn, 1) := by decide +kernel
theorem dX2_cutPower_9 : decode cX2_cutPower 9 = .ok (.aload_n 0, 1) := by decide +kernel
theorem dX2_cutPower_10 : decode cX2_cutPower 10 = .ok (.getfield 15, 3) := by decide +kernel
theorem dX2_cutPower_13 : decode cX2_cutPower 13 = .ok (.iconst 5, 1) := by decide +kernel
theorem dX2_cutPower_14 : decode cX2_cutPower 14 = .ok (.dup2, 1) := by decide +kernel
theorem dX2_cutPower_15 : decode cX2_cutPower 15 = .ok (.iaload, 1) := by decide +kernel
theorem dX2_cutPower_16 : decode cX2_cutPower 16 = .ok (.iconst 1, 1) := by decide +kernel
theorem dX2_cutPower_17 : decode cX2_cutPower 17 = .ok (.iadd, 1) := by decide +kernel
theorem dX2_cutPower_18 : decode cX2_cutPower 18 = .ok (.iastore, 1) := by decide +kernel
theorem dX2_cutPower_19 : decode cX2_cutPower 19 = .ok (.aload_n 0, 1) := by decide +kernel
theorem dX2_cutPower_20 : decode cX2_cutPower 20 = .ok (.getfield 15, 3) := by decide +kernel
theorem dX2_cutPower_23 : decode cX2_cutPower 23 = .ok (.iconst 3, 1) := by decide +kernel
theorem dX2_cutPower_24 : decode cX2_cutPower 24 = .ok (.dup2, 1) := by decide +kernel
theorem dX2_cutPower_25 : decode cX2_cutPower 25 = .ok (.iaload, 1) := by decide +kernel
theorem dX2_cutPower_26 : decode cX2_cutPower 26 = .ok (.aload_n 0, 1) := by decide +kernel
theorem dX2_cutPower_27 : decode cX2_cutPower 27 = .ok (.getfield 87, 3) := by decide +kernel
theorem dX2_cutPower_30 : decode cX2_cutPower 30 = .ok (.iadd, 1) := by decide +kernel
theorem dX2_cutPower_31 : decode cX2_cutPower 31 = .ok (.iastore, 1) := by decide +kernel
theorem dX2_cutPower_32 : decode cX2_cutPower 32 = .ok (.aload_n 0, 1) := by decide +kernel
theorem dX2_cutPower_33 : decode cX2_cutPower 33 = .ok (.iconst 1, 1) := by decide +kernel
theorem dX2_cutPower_34 : decode cX2_cutPower 34 = .ok (.putfield 41, 3) := by decide +kernel
theorem dX2_cutPower_37 : decode cX2_cutPower 37 = .ok (.iconst 1, 1) := by decide +kernel
theorem dX2_cutPower_38 : decode cX2_cutPower 38 = .ok (.ireturn, 1) := by decide +kernel
theorem dX2_act_0 : decode cX2_act 0 = .ok (.iconst 0, 1) := by decide +kernel
theorem dX2_act_1 : decode cX2_act 1 = .ok (.istore_n 2, 1) := by decide +kernel
theorem dX2_act_2 : decode cX2_act 2 = .ok (.iload_n 2, 1) := by decide +kernel
theorem dX2_act_3 : decode cX2_act 3 = .ok (.iload_n 1, 1) := by decide +kernel
theorem dX2_act_4 : decode cX2_act 4 = .ok (.if_icmp .ge 79, 3) := by decide +kernel
theorem dX2_act_7 : decode cX2_act 7 = .ok (.aload_n 0, 1) := by decide +kernel
theorem dX2_act_8 : decode cX2_act 8 = .ok (.invokevirtual 117, 3) := by decide +kernel
theorem dX2_act_11 : decode cX2_act 11 = .ok (.ifCond .eq 72, 3) := by decide +kernel
theorem dX2_act_14 : decode cX2_act 14 = .ok (.aload_n 0, 1) := by decide +kernel
theorem dX2_act_15 : decode cX2_act 15 = .ok (.getfield 41, 3) := by decide +kernel
theorem dX2_act_18 : decode cX2_act 18 = .ok (.bipush 6, 2) := by decide +kernel
theorem dX2_act_20 : decode cX2_act 20 = .ok (.if_icmp .ge 63, 3) := by decide +kernel
theorem dX2_act_23 : decode cX2_act 23 = .ok (.aload_n 0, 1) := by decide +kernel
theorem dX2_act_24 : decode cX2_act 24 = .ok (.getfield 41, 3) := by decide +kernel
theorem dX2_act_27 : decode cX2_act 27 = .ok (.iconst 3, 1) := by decide +kernel
theorem dX2_act_28 : decode cX2_act 28 = .ok (.if_icmp .ne 7, 3) := by decide +kernel
theorem dX2_act_31 : decode cX2_act 31 = .ok (.aload_n 0, 1) := by decide +kernel
theorem dX2_act_32 : decode cX2_act 32 = .ok (.invokevirtual 121, 3) := by decide +kernel
theorem dX2_act_35 : decode cX2_act 35 = .ok (.aload_n 0, 1) := by decide +kernel
theorem dX2_act_36 : decode cX2_act 36 = .ok (.getfield 41, 3) := by decide +kernel
theorem dX2_act_39 : decode cX2_act 39 = .ok (.iconst 2, 1) := by decide +kernel
theorem dX2_act_40 : decode cX2_act 40 = .ok (.if_icmp .ne 10, 3) := by decide +kernel
theorem dX2_act_43 : decode cX2_act 43 = .ok (.aload_n 0, 1) := by decide +kernel
theorem dX2_act_44 : decode cX2_act 44 = .ok (.invokevirtual 124, 3) := by decide +kernel
theorem dX2_act_47 : decode cX2_act 47 = .ok (.goto 30, 3) := by decide +kernel
theorem dX2_act_50 : decode cX2_act 50 = .ok (.aload_n 0, 1) := by decide +kernel
theorem dX2_act_51 : decode cX2_act 51 = .ok (.getfield 41, 3) := by decide +kernel
theorem dX2_act_54 : decode cX2_act 54 = .ok (.iconst 4, 1) := by decide +kernel
theorem dX2_act_55 : decode cX2_act 55 = .ok (.if_icmp .ne 10, 3) := by decide +kernel
theorem dX2_act_58 : decode cX2_act 58 = .ok (.aload_n 0, 1) := by decide +kernel
theorem dX2_act_59 : decode cX2_act 59 = .ok (.invokevirtual 127, 3) := by decide +kernel
theorem dX2_act_62 : decode cX2_act 62 = .ok (.goto 15, 3) := by decide +kernel
theorem dX2_act_65 : decode cX2_act 65 = .ok (.aload_n 0, 1) := by decide +kernel
theorem dX2_act_66 : decode cX2_act 66 = .ok (.getfield 41, 3) := by decide +kernel
theorem dX2_act_69 : decode cX2_act 69 = .ok (.iconst 5, 1) := by decide +kernel
theorem dX2_act_70 : decode cX2_act 70 = .ok (.if_icmp .ne 7, 3) := by decide +kernel
theorem dX2_act_73 : decode cX2_act 73 = .ok (.aload_n 0, 1) := by decide +kernel
theorem dX2_act_74 : decode cX2_act 74 = .ok (.invokevirtual 130, 3) := by decide +kernel
theorem dX2_act_77 : decode cX2_act 77 = .ok (.iinc 2 1, 3) := by decide +kernel
theorem dX2_act_80 : decode cX2_act 80 = .ok (.goto (-78), 3) := by decide +kernel
theorem dX2_act_83 : decode cX2_act 83 = .ok (.aload_n 0, 1) := by decide +kernel
theorem dX2_act_84 : decode cX2_act 84 = .ok (.getfield 15, 3) := by decide +kernel
theorem dX2_act_87 : decode cX2_act 87 = .ok (.iconst 0, 1) := by decide +kernel
theorem dX2_act_88 : decode cX2_act 88 = .ok (.dup2, 1) := by decide +kernel
theorem dX2_act_89 : decode cX2_act 89 = .ok (.iaload, 1) := by decide +kernel
theorem dX2_act_90 : decode cX2_act 90 = .ok (.iload_n 2, 1) := by decide +kernel
theorem dX2_act_91 : decode cX2_act 91 = .ok (.iadd, 1) := by decide +kernel
theorem dX2_act_92 : decode cX2_act 92 = .ok (.iastore, 1) := by decide +kernel
theorem dX2_act_93 : decode cX2_act 93 = .ok (.iload_n 2, 1) := by decide +kernel
theorem dX2_act_94 : decode cX2_act 94 = .ok (.ireturn, 1) := by decide +kernel
theorem dX2_choose_0 : decode cX2_choose 0 = .ok (.aload_n 0, 1) := by decide +kernel
theorem dX2_choose_1 : decode cX2_choose 1 = .ok (.iconst 0, 1) := by decide +kernel
theorem dX2_choose_2 : decode cX2_choose 2 = .ok (.putfield 90, 3) := by decide +kernel
theorem dX2_choose_5 : decode cX2_choose 5 = .ok (.aload_n 0, 1) := by decide +kernel
theorem dX2_choose_6 : decode cX2_choose 6 = .ok (.getfield 87, 3) := by decide +kernel
theorem dX2_choose_9 : decode cX2_choose 9 = .ok (.aload_n 0, 1) := by decide +kernel
theorem dX2_choose_10 : decode cX2_choose 10 = .ok (.getfield 25, 3) := by decide +kernel
theorem dX2_choose_13 : decode cX2_choose 13 = .ok (.getfield 133, 3) := by decide +kernel
theorem dX2_choose_16 : decode cX2_choose 16 = .ok (.if_icmp .ne 9, 3) := by decide +kernel
theorem dX2_choose_19 : decode cX2_choose 19 = .ok (.aload_n 0, 1) := by decide +kernel
theorem dX2_choose_20 : decode cX2_choose 20 = .ok (.iconst 4, 1) := by decide +kernel
theorem dX2_choose_21 : decode cX2_choose 21 = .ok (.putfield 41, 3) := by decide +kernel
theorem dX2_choose_24 : decode cX2_choose 24 = .ok (.return_, 1) := by decide +kernel
theorem dX2_choose_25 : decode cX2_choose 25 = .ok (.aload_n 0, 1) := by decide +kernel
theorem dX2_choose_26 : decode cX2_choose 26 = .ok (.getfield 37, 3) := by decide +kernel
theorem dX2_choose_29 : decode cX2_choose 29 = .ok (.invokevirtual 136, 3) := by decide +kernel
theorem dX2_choose_32 : decode cX2_choose 32 = .ok (.istore_n 1, 1) := by decide +kernel
theorem dX2_choose_33 : decode cX2_choose 33 = .ok (.iload_n 1, 1) := by decide +kernel
theorem dX2_choose_34 : decode cX2_choose 34 = .ok (.ifCond .eq 11, 3) := by decide +kernel
theorem dX2_choose_37 : decode cX2_choose 37 = .ok (.aload_n 0, 1) := by decide +kernel
theorem dX2_choose_38 : decode cX2_choose 38 = .ok (.iload_n 1, 1) := by decide +kernel
theorem dX2_choose_39 : decode cX2_choose 39 = .ok (.putfield 41, 3) := by decide +kernel
theorem dX2_choose_42 : decode cX2_choose 42 = .ok (.goto 19, 3) := by decide +kernel
theorem dX2_choose_45 : decode cX2_choose 45 = .ok (.aload_n 0, 1) := by decide +kernel
theorem dX2_choose_46 : decode cX2_choose 46 = .ok (.aload_n 0, 1) := by decide +kernel
theorem dX2_choose_47 : decode cX2_choose 47 = .ok (.invokevirtual 139, 3) := by decide +kernel
theorem dX2_choose_50 : decode cX2_choose 50 = .ok (.ifCond .eq 7, 3) := by decide +kernel
theorem dX2_choose_53 : decode cX2_choose 53 = .ok (.iconst 4, 1) := by decide +kernel
theorem dX2_choose_54 : decode cX2_choose 54 = .ok (.goto 4, 3) := by decide +kernel
theorem dX2_choose_57 : decode cX2_choose 57 = .ok (.iconst 5, 1) := by decide +kernel
theorem dX2_choose_58 : decode cX2_choose 58 = .ok (.putfield 41, 3) := by decide +kernel
theorem dX2_choose_61 : decode cX2_choose 61 = .ok (.return_, 1) := by decide +kernel
theorem dX2_needsCheckpoint_0 : decode cX2_needsCheckpoint 0 = .ok (.aload_n 0, 1) := by decide +kernel
theorem dX2_needsCheckpoint_1 : decode cX2_needsCheckpoint 1 = .ok (.getfield 37, 3) := by decide +kernel
theorem dX2_needsCheckpoint_4 : decode cX2_needsCheckpoint 4 = .ok (.invokevirtual 142, 3) := by decide +kernel
theorem dX2_needsCheckpoint_7 : decode cX2_needsCheckpoint 7 = .ok (.iconst 2, 1) := by decide +kernel
theorem dX2_needsCheckpoint_8 : decode cX2_needsCheckpoint 8 = .ok (.if_icmp .ne 16, 3) := by decide +kernel
theorem dX2_needsCheckpoint_11 : decode cX2_needsCheckpoint 11 = .ok (.aload_n 0, 1) := by decide +kernel
theorem dX2_needsCheckpoint_12 : decode cX2_needsCheckpoint 12 = .ok (.getfield 87, 3) := by decide +kernel
theorem dX2_needsCheckpoint_15 : decode cX2_needsCheckpoint 15 = .ok (.ifCond .le 7, 3) := by decide +kernel
theorem dX2_needsCheckpoint_18 : decode cX2_needsCheckpoint 18 = .ok (.iconst 1, 1) := by decide +kernel
theorem dX2_needsCheckpoint_19 : decode cX2_needsCheckpoint 19 = .ok (.goto 4, 3) := by decide +kernel
theorem dX2_needsCheckpoint_22 : decode cX2_needsCheckpoint 22 = .ok (.iconst 0, 1) := by decide +kernel
theorem dX2_needsCheckpoint_23 : decode cX2_needsCheckpoint 23 = .ok (.ireturn, 1) := by decide +kernel
theorem dX2_needsCheckpoint_24 : decode cX2_needsCheckpoint 24 = .ok (.aload_n 0, 1) := by decide +kernel
theorem dX2_needsCheckpoint_25 : decode cX2_needsCheckpoint 25 = .ok (.invokevirtual 145, 3) := by decide +kernel
theorem dX2_needsCheckpoint_28 : decode cX2_needsCheckpoint 28 = .ok (.ifCond .eq 21, 3) := by decide +kernel
theorem dX2_needsCheckpoint_31 : decode cX2_needsCheckpoint 31 = .ok (.aload_n 0, 1) := by decide +kernel
theorem dX2_needsCheckpoint_32 : decode cX2_needsCheckpoint 32 = .ok (.invokevirtual 114, 3) := by decide +kernel
theorem dX2_needsCheckpoint_35 : decode cX2_needsCheckpoint 35 = .ok (.aload_n 0, 1) := by decide +kernel
theorem dX2_needsCheckpoint_36 : decode cX2_needsCheckpoint 36 = .ok (.getfield 25, 3) := by decide +kernel
theorem dX2_needsCheckpoint_39 : decode cX2_needsCheckpoint 39 = .ok (.getfield 54, 3) := by decide +kernel
theorem dX2_needsCheckpoint_42 : decode cX2_needsCheckpoint 42 = .ok (.if_icmp .lt 7, 3) := by decide +kernel
theorem dX2_needsCheckpoint_45 : decode cX2_needsCheckpoint 45 = .ok (.iconst 1, 1) := by decide +kernel
theorem dX2_needsCheckpoint_46 : decode cX2_needsCheckpoint 46 = .ok (.goto 4, 3) := by decide +kernel
theorem dX2_needsCheckpoint_49 : decode cX2_needsCheckpoint 49 = .ok (.iconst 0, 1) := by decide +kernel
theorem dX2_needsCheckpoint_50 : decode cX2_needsCheckpoint 50 = .ok (.ireturn, 1) := by decide +kernel
theorem dX2_needsEntry_0 : decode cX2_needsEntry 0 = .ok (.aload_n 0, 1) := by decide +kernel
theorem dX2_needsEntry_1 : decode cX2_needsEntry 1 = .ok (.getfield 37, 3) := by decide +kernel
theorem dX2_needsEntry_4 : decode cX2_needsEntry 4 = .ok (.invokevirtual 148, 3) := by decide +kernel
theorem dX2_needsEntry_7 : decode cX2_needsEntry 7 = .ok (.istore_n 1, 1) := by decide +kernel
theorem dX2_needsEntry_8 : decode cX2_needsEntry 8 = .ok (.aload_n 0, 1) := by decide +kernel
theorem dX2_needsEntry_9 : decode cX2_needsEntry 9 = .ok (.getfield 37, 3) := by decide +kernel
theorem dX2_needsEntry_12 : decode cX2_needsEntry 12 = .ok (.invokevirtual 142, 3) := by decide +kernel
theorem dX2_needsEntry_15 : decode cX2_needsEntry 15 = .ok (.iconst 4, 1) := by decide +kernel
theorem dX2_needsEntry_16 : decode cX2_needsEntry 16 = .ok (.if_icmp .ne 33, 3) := by decide +kernel
theorem dX2_needsEntry_19 : decode cX2_needsEntry 19 = .ok (.iload_n 1, 1) := by decide +kernel
theorem dX2_needsEntry_20 : decode cX2_needsEntry 20 = .ok (.ifCond .lt 29, 3) := by decide +kernel
theorem dX2_needsEntry_23 : decode cX2_needsEntry 23 = .ok (.iload_n 1, 1) := by decide +kernel
theorem dX2_needsEntry_24 : decode cX2_needsEntry 24 = .ok (.aload_n 0, 1) := by decide +kernel
theorem dX2_needsEntry_25 : decode cX2_needsEntry 25 = .ok (.getfield 9, 3) := by decide +kernel
theorem dX2_needsEntry_28 : decode cX2_needsEntry 28 = .ok (.arraylength, 1) := by decide +kernel
theorem dX2_needsEntry_29 : decode cX2_needsEntry 29 = .ok (.if_icmp .ge 20, 3) := by decide +kernel
theorem dX2_needsEntry_32 : decode cX2_needsEntry 32 = .ok (.aload_n 0, 1) := by decide +kernel
theorem dX2_needsEntry_33 : decode cX2_needsEntry 33 = .ok (.getfield 9, 3) := by decide +kernel
theorem dX2_needsEntry_36 : decode cX2_needsEntry 36 = .ok (.iload_n 1, 1) := by decide +kernel
theorem dX2_needsEntry_37 : decode cX2_needsEntry 37 = .ok (.iaload, 1) := by decide +kernel
theorem dX2_needsEntry_38 : decode cX2_needsEntry 38 = .ok (.aload_n 0, 1) := by decide +kernel
theorem dX2_needsEntry_39 : decode cX2_needsEntry 39 = .ok (.getfield 93, 3) := by decide +kernel
theorem dX2_needsEntry_42 : decode cX2_needsEntry 42 = .ok (.if_icmp .eq 7, 3) := by decide +kernel
theorem dX2_needsEntry_45 : decode cX2_needsEntry 45 = .ok (.iconst 1, 1) := by decide +kernel
theorem dX2_needsEntry_46 : decode cX2_needsEntry 46 = .ok (.goto 4, 3) := by decide +kernel
theorem dX2_needsEntry_49 : decode cX2_needsEntry 49 = .ok (.iconst 0, 1) := by decide +kernel
theorem dX2_needsEntry_50 : decode cX2_needsEntry 50 = .ok (.ireturn, 1) := by decide +kernel
theorem dX2_boot_0 : decode cX2_boot 0 = .ok (.aload_n 0, 1) := by decide +kernel
theorem dX2_boot_1 : decode cX2_boot 1 = .ok (.getfield 29, 3) := by decide +kernel
theorem dX2_boot_4 : decode cX2_boot 4 = .ok (.iconst 1, 1) := by decide +kernel
theorem dX2_boot_5 : decode cX2_boot 5 = .ok (.iaload, 1) := by decide +kernel
theorem dX2_boot_6 : decode cX2_boot 6 = .ok (.bipush 16, 2) := by decide +kernel
theorem dX2_boot_8 : decode cX2_boot 8 = .ok (.iushr, 1) := by decide +kernel
theorem dX2_boot_9 : decode cX2_boot 9 = .ok (.aload_n 0, 1) := by decide +kernel
theorem dX2_boot_10 : decode cX2_boot 10 = .ok (.invokevirtual 96, 3) := by decide +kernel
theorem dX2_boot_13 : decode cX2_boot 13 = .ok (.if_icmp .ne 7, 3) := by decide +kernel
theorem dX2_boot_16 : decode cX2_boot 16 = .ok (.iconst 1, 1) := by decide +kernel
theorem dX2_boot_17 : decode cX2_boot 17 = .ok (.goto 4, 3) := by decide +kernel
theorem dX2_boot_20 : decode cX2_boot 20 = .ok (.iconst 0, 1) := by decide +kernel
theorem dX2_boot_21 : decode cX2_boot 21 = .ok (.istore_n 1, 1) := by decide +kernel
theorem dX2_boot_22 : decode cX2_boot 22 = .ok (.iload_n 1, 1) := by decide +kernel
theorem dX2_boot_23 : decode cX2_boot 23 = .ok (.ifCond .eq 15, 3) := by decide +kernel
theorem dX2_boot_26 : decode cX2_boot 26 = .ok (.aload_n 0, 1) := by decide +kernel
theorem dX2_boot_27 : decode cX2_boot 27 = .ok (.invokevirtual 114, 3) := by decide +kernel
theorem dX2_boot_30 : decode cX2_boot 30 = .ok (.aload_n 0, 1) := by decide +kernel
theorem dX2_boot_31 : decode cX2_boot 31 = .ok (.getfield 90, 3) := by decide +kernel
theorem dX2_boot_34 : decode cX2_boot 34 = .ok (.isub, 1) := by decide +kernel
theorem dX2_boot_35 : decode cX2_boot 35 = .ok (.goto 4, 3) := by decide +kernel
theorem dX2_boot_38 : decode cX2_boot 38 = .ok (.iconst 0, 1) := by decide +kernel
theorem dX2_boot_39 : decode cX2_boot 39 = .ok (.istore_n 2, 1) := by decide +kernel
theorem dX2_boot_40 : decode cX2_boot 40 = .ok (.iload_n 2, 1) := by decide +kernel
theorem dX2_boot_41 : decode cX2_boot 41 = .ok (.ifCond .le 54, 3) := by decide +kernel
theorem dX2_boot_44 : decode cX2_boot 44 = .ok (.aload_n 0, 1) := by decide +kernel
theorem dX2_boot_45 : decode cX2_boot 45 = .ok (.getfield 51, 3) := by decide +kernel
theorem dX2_boot_48 : decode cX2_boot 48 = .ok (.iconst 2, 1) := by decide +kernel
theorem dX2_boot_49 : decode cX2_boot 49 = .ok (.iload_n 2, 1) := by decide +kernel
theorem dX2_boot_50 : decode cX2_boot 50 = .ok (.iconst 1, 1) := by decide +kernel
theorem dX2_boot_51 : decode cX2_boot 51 = .ok (.isub, 1) := by decide +kernel
theorem dX2_boot_52 : decode cX2_boot 52 = .ok (.imul, 1) := by decide +kernel
theorem dX2_boot_53 : decode cX2_boot 53 = .ok (.iadd, 1) := by decide +kernel
theorem dX2_boot_54 : decode cX2_boot 54 = .ok (.istore_n 3, 1) := by decide +kernel
theorem dX2_boot_55 : decode cX2_boot 55 = .ok (.aload_n 0, 1) := by decide +kernel
theorem dX2_boot_56 : decode cX2_boot 56 = .ok (.aload_n 0, 1) := by decide +kernel
theorem dX2_boot_57 : decode cX2_boot 57 = .ok (.iload_n 3, 1) := by decide +kernel
theorem dX2_boot_58 : decode cX2_boot 58 = .ok (.invokevirtual 103, 3) := by decide +kernel
theorem dX2_boot_61 : decode cX2_boot 61 = .ok (.aload_n 0, 1) := by decide +kernel
theorem dX2_boot_62 : decode cX2_boot 62 = .ok (.iload_n 3, 1) := by decide +kernel
theorem dX2_boot_63 : decode cX2_boot 63 = .ok (.iconst 1, 1) := by decide +kernel
theorem dX2_boot_64 : decode cX2_boot 64 = .ok (.iadd, 1) := by decide +kernel
theorem dX2_boot_65 : decode cX2_boot 65 = .ok (.invokevirtual 103, 3) := by decide +kernel
theorem dX2_boot_68 : decode cX2_boot 68 = .ok (.invokevirtual 151, 3) := by decide +kernel
theorem dX2_boot_71 : decode cX2_boot 71 = .ok (.aload_n 0, 1) := by decide +kernel
theorem dX2_boot_72 : decode cX2_boot 72 = .ok (.getfield 15, 3) := by decide +kernel
theorem dX2_boot_75 : decode cX2_boot 75 = .ok (.bipush 6, 2) := by decide +kernel
theorem dX2_boot_77 : decode cX2_boot 77 = .ok (.dup2, 1) := by decide +kernel
theorem dX2_boot_78 : decode cX2_boot 78 = .ok (.iaload, 1) := by decide +kernel
theorem dX2_boot_79 : decode cX2_boot 79 = .ok (.iconst 1, 1) := by decide +kernel
theorem dX2_boot_80 : decode cX2_boot 80 = .ok (.iadd, 1) := by decide +kernel
theorem dX2_boot_81 : decode cX2_boot 81 = .ok (.iastore, 1) := by decide +kernel
theorem dX2_boot_82 : decode cX2_boot 82 = .ok (.aload_n 0, 1) := by decide +kernel
theorem dX2_boot_83 : decode cX2_boot 83 = .ok (.dup, 1) := by decide +kernel
theorem dX2_boot_84 : decode cX2_boot 84 = .ok (.getfield 90, 3) := by decide +kernel
theorem dX2_boot_87 : decode cX2_boot 87 = .ok (.iconst 1, 1) := by decide +kernel
theorem dX2_boot_88 : decode cX2_boot 88 = .ok (.iadd, 1) := by decide +kernel
theorem dX2_boot_89 : decode cX2_boot 89 = .ok (.putfield 90, 3) := by decide +kernel
theorem dX2_boot_92 : decode cX2_boot 92 = .ok (.goto 20, 3) := by decide +kernel
theorem dX2_boot_95 : decode cX2_boot 95 = .ok (.aload_n 0, 1) := by decide +kernel
theorem dX2_boot_96 : decode cX2_boot 96 = .ok (.iconst 1, 1) := by decide +kernel
theorem dX2_boot_97 : decode cX2_boot 97 = .ok (.aload_n 0, 1) := by decide +kernel
theorem dX2_boot_98 : decode cX2_boot 98 = .ok (.invokevirtual 96, 3) := by decide +kernel
theorem dX2_boot_101 : decode cX2_boot 101 = .ok (.bipush 16, 2) := by decide +kernel
theorem dX2_boot_103 : decode cX2_boot 103 = .ok (.ishl, 1) := by decide +kernel
theorem dX2_boot_104 : decode cX2_boot 104 = .ok (.invokevirtual 151, 3) := by decide +kernel
theorem dX2_boot_107 : decode cX2_boot 107 = .ok (.aload_n 0, 1) := by decide +kernel
theorem dX2_boot_108 : decode cX2_boot 108 = .ok (.iconst 3, 1) := by decide +kernel
theorem dX2_boot_109 : decode cX2_boot 109 = .ok (.putfield 41, 3) := by decide +kernel
theorem dX2_boot_112 : decode cX2_boot 112 = .ok (.return_, 1) := by decide +kernel
theorem dX2_checkpoint_0 : decode cX2_checkpoint 0 = .ok (.aload_n 0, 1) := by decide +kernel
theorem dX2_checkpoint_1 : decode cX2_checkpoint 1 = .ok (.getfield 25, 3) := by decide +kernel
theorem dX2_checkpoint_4 : decode cX2_checkpoint 4 = .ok (.invokevirtual 45, 3) := by decide +kernel
theorem dX2_checkpoint_7 : decode cX2_checkpoint 7 = .ok (.istore_n 1, 1) := by decide +kernel
theorem dX2_checkpoint_8 : decode cX2_checkpoint 8 = .ok (.aload_n 0, 1) := by decide +kernel
theorem dX2_checkpoint_9 : decode cX2_checkpoint 9 = .ok (.invokevirtual 96, 3) := by decide +kernel
theorem dX2_checkpoint_12 : decode cX2_checkpoint 12 = .ok (.iconst 1, 1) := by decide +kernel
theorem dX2_checkpoint_13 : decode cX2_checkpoint 13 = .ok (.iadd, 1) := by decide +kernel
theorem dX2_checkpoint_14 : decode cX2_checkpoint 14 = .ok (.ldc 113, 2) := by decide +kernel
theorem dX2_checkpoint_16 : decode cX2_checkpoint 16 = .ok (.iand, 1) := by decide +kernel
theorem dX2_checkpoint_17 : decode cX2_checkpoint 17 = .ok (.istore_n 2, 1) := by decide +kernel
theorem dX2_checkpoint_18 : decode cX2_checkpoint 18 = .ok (.aload_n 0, 1) := by decide +kernel
theorem dX2_checkpoint_19 : decode cX2_checkpoint 19 = .ok (.getfield 90, 3) := by decide +kernel
theorem dX2_checkpoint_22 : decode cX2_checkpoint 22 = .ok (.iload_n 1, 1) := by decide +kernel
theorem dX2_checkpoint_23 : decode cX2_checkpoint 23 = .ok (.if_icmp .ge 31, 3) := by decide +kernel
theorem dX2_checkpoint_26 : decode cX2_checkpoint 26 = .ok (.aload_n 0, 1) := by decide +kernel
theorem dX2_checkpoint_27 : decode cX2_checkpoint 27 = .ok (.aload_n 0, 1) := by decide +kernel
theorem dX2_checkpoint_28 : decode cX2_checkpoint 28 = .ok (.iload_n 2, 1) := by decide +kernel
theorem dX2_checkpoint_29 : decode cX2_checkpoint 29 = .ok (.invokevirtual 99, 3) := by decide +kernel
theorem dX2_checkpoint_32 : decode cX2_checkpoint 32 = .ok (.aload_n 0, 1) := by decide +kernel
theorem dX2_checkpoint_33 : decode cX2_checkpoint 33 = .ok (.getfield 90, 3) := by decide +kernel
theorem dX2_checkpoint_36 : decode cX2_checkpoint 36 = .ok (.iadd, 1) := by decide +kernel
theorem dX2_checkpoint_37 : decode cX2_checkpoint 37 = .ok (.aload_n 0, 1) := by decide +kernel
theorem dX2_checkpoint_38 : decode cX2_checkpoint 38 = .ok (.getfield 37, 3) := by decide +kernel
theorem dX2_checkpoint_41 : decode cX2_checkpoint 41 = .ok (.aload_n 0, 1) := by decide +kernel
theorem dX2_checkpoint_42 : decode cX2_checkpoint 42 = .ok (.getfield 90, 3) := by decide +kernel
theorem dX2_checkpoint_45 : decode cX2_checkpoint 45 = .ok (.invokevirtual 154, 3) := by decide +kernel
theorem dX2_checkpoint_48 : decode cX2_checkpoint 48 = .ok (.invokevirtual 151, 3) := by decide +kernel
theorem dX2_checkpoint_51 : decode cX2_checkpoint 51 = .ok (.goto 62, 3) := by decide +kernel
theorem dX2_checkpoint_54 : decode cX2_checkpoint 54 = .ok (.aload_n 0, 1) := by decide +kernel
theorem dX2_checkpoint_55 : decode cX2_checkpoint 55 = .ok (.getfield 90, 3) := by decide +kernel
theorem dX2_checkpoint_58 : decode cX2_checkpoint 58 = .ok (.iload_n 1, 1) := by decide +kernel
theorem dX2_checkpoint_59 : decode cX2_checkpoint 59 = .ok (.if_icmp .ne 37, 3) := by decide +kernel
theorem dX2_checkpoint_62 : decode cX2_checkpoint 62 = .ok (.aload_n 0, 1) := by decide +kernel
theorem dX2_checkpoint_63 : decode cX2_checkpoint 63 = .ok (.iconst 0, 1) := by decide +kernel
theorem dX2_checkpoint_64 : decode cX2_checkpoint 64 = .ok (.iload_n 2, 1) := by decide +kernel
theorem dX2_checkpoint_65 : decode cX2_checkpoint 65 = .ok (.invokevirtual 151, 3) := by decide +kernel
theorem dX2_checkpoint_68 : decode cX2_checkpoint 68 = .ok (.aload_n 0, 1) := by decide +kernel
theorem dX2_checkpoint_69 : decode cX2_checkpoint 69 = .ok (.getfield 15, 3) := by decide +kernel
theorem dX2_checkpoint_72 : decode cX2_checkpoint 72 = .ok (.iconst 4, 1) := by decide +kernel
theorem dX2_checkpoint_73 : decode cX2_checkpoint 73 = .ok (.dup2, 1) := by decide +kernel
theorem dX2_checkpoint_74 : decode cX2_checkpoint 74 = .ok (.iaload, 1) := by decide +kernel
theorem dX2_checkpoint_75 : decode cX2_checkpoint 75 = .ok (.iconst 1, 1) := by decide +kernel
theorem dX2_checkpoint_76 : decode cX2_checkpoint 76 = .ok (.iadd, 1) := by decide +kernel
theorem dX2_checkpoint_77 : decode cX2_checkpoint 77 = .ok (.iastore, 1) := by decide +kernel
theorem dX2_checkpoint_78 : decode cX2_checkpoint 78 = .ok (.aload_n 0, 1) := by decide +kernel
theorem dX2_checkpoint_79 : decode cX2_checkpoint 79 = .ok (.iconst 0, 1) := by decide +kernel
theorem dX2_checkpoint_80 : decode cX2_checkpoint 80 = .ok (.putfield 87, 3) := by decide +kernel
theorem dX2_checkpoint_83 : decode cX2_checkpoint 83 = .ok (.aload_n 0, 1) := by decide +kernel
theorem dX2_checkpoint_84 : decode cX2_checkpoint 84 = .ok (.dup, 1) := by decide +kernel
theorem dX2_checkpoint_85 : decode cX2_checkpoint 85 = .ok (.getfield 93, 3) := by decide +kernel
theorem dX2_checkpoint_88 : decode cX2_checkpoint 88 = .ok (.iconst 1, 1) := by decide +kernel
theorem dX2_checkpoint_89 : decode cX2_checkpoint 89 = .ok (.iadd, 1) := by decide +kernel
theorem dX2_checkpoint_90 : decode cX2_checkpoint 90 = .ok (.putfield 93, 3) := by decide +kernel
theorem dX2_checkpoint_93 : decode cX2_checkpoint 93 = .ok (.goto 20, 3) := by decide +kernel
theorem dX2_checkpoint_96 : decode cX2_checkpoint 96 = .ok (.aload_n 0, 1) := by decide +kernel
theorem dX2_checkpoint_97 : decode cX2_checkpoint 97 = .ok (.iconst 1, 1) := by decide +kernel
theorem dX2_checkpoint_98 : decode cX2_checkpoint 98 = .ok (.aload_n 0, 1) := by decide +kernel
theorem dX2_checkpoint_99 : decode cX2_checkpoint 99 = .ok (.invokevirtual 96, 3) := by decide +kernel
theorem dX2_checkpoint_102 : decode cX2_checkpoint 102 = .ok (.bipush 16, 2) := by decide +kernel
theorem dX2_checkpoint_104 : decode cX2_checkpoint 104 = .ok (.ishl, 1) := by decide +kernel
theorem dX2_checkpoint_105 : decode cX2_checkpoint 105 = .ok (.invokevirtual 151, 3) := by decide +kernel
theorem dX2_checkpoint_108 : decode cX2_checkpoint 108 = .ok (.aload_n 0, 1) := by decide +kernel
theorem dX2_checkpoint_109 : decode cX2_checkpoint 109 = .ok (.iconst 3, 1) := by decide +kernel
theorem dX2_checkpoint_110 : decode cX2_checkpoint 110 = .ok (.putfield 41, 3) := by decide +kernel
theorem dX2_checkpoint_113 : decode cX2_checkpoint 113 = .ok (.aload_n 0, 1) := by decide +kernel
theorem dX2_checkpoint_114 : decode cX2_checkpoint 114 = .ok (.dup, 1) := by decide +kernel
theorem dX2_checkpoint_115 : decode cX2_checkpoint 115 = .ok (.getfield 90, 3) := by decide +kernel
theorem dX2_checkpoint_118 : decode cX2_checkpoint 118 = .ok (.iconst 1, 1) := by decide +kernel
theorem dX2_checkpoint_119 : decode cX2_checkpoint 119 = .ok (.iadd, 1) := by decide +kernel
theorem dX2_checkpoint_120 : decode cX2_checkpoint 120 = .ok (.putfield 90, 3) := by decide +kernel
theorem dX2_checkpoint_123 : decode cX2_checkpoint 123 = .ok (.return_, 1) := by decide +kernel
theorem dX2_instruct_0 : decode cX2_instruct 0 = .ok (.aload_n 0, 1) := by decide +kernel
theorem dX2_instruct_1 : decode cX2_instruct 1 = .ok (.getfield 37, 3) := by decide +kernel
theorem dX2_instruct_4 : decode cX2_instruct 4 = .ok (.bipush 34, 2) := by decide +kernel
theorem dX2_instruct_6 : decode cX2_instruct 6 = .ok (.invokevirtual 157, 3) := by decide +kernel
theorem dX2_instruct_9 : decode cX2_instruct 9 = .ok (.iconst 1, 1) := by decide +kernel
theorem dX2_instruct_10 : decode cX2_instruct 10 = .ok (.iadd, 1) := by decide +kernel
theorem dX2_instruct_11 : decode cX2_instruct 11 = .ok (.istore_n 1, 1) := by decide +kernel
theorem dX2_instruct_12 : decode cX2_instruct 12 = .ok (.aload_n 0, 1) := by decide +kernel
theorem dX2_instruct_13 : decode cX2_instruct 13 = .ok (.getfield 37, 3) := by decide +kernel
theorem dX2_instruct_16 : decode cX2_instruct 16 = .ok (.invokevirtual 142, 3) := by decide +kernel
theorem dX2_instruct_19 : decode cX2_instruct 19 = .ok (.iconst 2, 1) := by decide +kernel
theorem dX2_instruct_20 : decode cX2_instruct 20 = .ok (.if_icmp .ne 17, 3) := by decide +kernel
theorem dX2_instruct_23 : decode cX2_instruct 23 = .ok (.aload_n 0, 1) := by decide +kernel
theorem dX2_instruct_24 : decode cX2_instruct 24 = .ok (.getfield 29, 3) := by decide +kernel
theorem dX2_instruct_27 : decode cX2_instruct 27 = .ok (.iconst 2, 1) := by decide +kernel
theorem dX2_instruct_28 : decode cX2_instruct 28 = .ok (.iaload, 1) := by decide +kernel
theorem dX2_instruct_29 : decode cX2_instruct 29 = .ok (.iload_n 1, 1) := by decide +kernel
theorem dX2_instruct_30 : decode cX2_instruct 30 = .ok (.if_icmp .eq 7, 3) := by decide +kernel
theorem dX2_instruct_33 : decode cX2_instruct 33 = .ok (.iconst 1, 1) := by decide +kernel
theorem dX2_instruct_34 : decode cX2_instruct 34 = .ok (.goto 4, 3) := by decide +kernel
theorem dX2_instruct_37 : decode cX2_instruct 37 = .ok (.iconst 0, 1) := by decide +kernel
theorem dX2_instruct_38 : decode cX2_instruct 38 = .ok (.istore_n 2, 1) := by decide +kernel
theorem dX2_instruct_39 : decode cX2_instruct 39 = .ok (.iload_n 2, 1) := by decide +kernel
theorem dX2_instruct_40 : decode cX2_instruct 40 = .ok (.ifCond .eq 31, 3) := by decide +kernel
theorem dX2_instruct_43 : decode cX2_instruct 43 = .ok (.aload_n 0, 1) := by decide +kernel
theorem dX2_instruct_44 : decode cX2_instruct 44 = .ok (.getfield 90, 3) := by decide +kernel
theorem dX2_instruct_47 : decode cX2_instruct 47 = .ok (.ifCond .ne 24, 3) := by decide +kernel
theorem dX2_instruct_50 : decode cX2_instruct 50 = .ok (.aload_n 0, 1) := by decide +kernel
theorem dX2_instruct_51 : decode cX2_instruct 51 = .ok (.getfield 21, 3) := by decide +kernel
theorem dX2_instruct_54 : decode cX2_instruct 54 = .ok (.aload_n 0, 1) := by decide +kernel
theorem dX2_instruct_55 : decode cX2_instruct 55 = .ok (.getfield 37, 3) := by decide +kernel
theorem dX2_instruct_58 : decode cX2_instruct 58 = .ok (.iload_n 1, 1) := by decide +kernel
theorem dX2_instruct_59 : decode cX2_instruct 59 = .ok (.aload_n 0, 1) := by decide +kernel
theorem dX2_instruct_60 : decode cX2_instruct 60 = .ok (.getfield 15, 3) := by decide +kernel
theorem dX2_instruct_63 : decode cX2_instruct 63 = .ok (.iconst 5, 1) := by decide +kernel
theorem dX2_instruct_64 : decode cX2_instruct 64 = .ok (.iaload, 1) := by decide +kernel
theorem dX2_instruct_65 : decode cX2_instruct 65 = .ok (.invokevirtual 160, 3) := by decide +kernel
theorem dX2_instruct_68 : decode cX2_instruct 68 = .ok (.goto 41, 3) := by decide +kernel
theorem dX2_instruct_71 : decode cX2_instruct 71 = .ok (.iload_n 2, 1) := by decide +kernel
theorem dX2_instruct_72 : decode cX2_instruct 72 = .ok (.ifCond .eq 12, 3) := by decide +kernel
theorem dX2_instruct_75 : decode cX2_instruct 75 = .ok (.aload_n 0, 1) := by decide +kernel
theorem dX2_instruct_76 : decode cX2_instruct 76 = .ok (.iconst 2, 1) := by decide +kernel
theorem dX2_instruct_77 : decode cX2_instruct 77 = .ok (.iload_n 1, 1) := by decide +kernel
theorem dX2_instruct_78 : decode cX2_instruct 78 = .ok (.invokevirtual 151, 3) := by decide +kernel
theorem dX2_instruct_81 : decode cX2_instruct 81 = .ok (.goto 28, 3) := by decide +kernel
theorem dX2_instruct_84 : decode cX2_instruct 84 = .ok (.aload_n 0, 1) := by decide +kernel
theorem dX2_instruct_85 : decode cX2_instruct 85 = .ok (.invokevirtual 145, 3) := by decide +kernel
theorem dX2_instruct_88 : decode cX2_instruct 88 = .ok (.ifCond .eq 17, 3) := by decide +kernel
theorem dX2_instruct_91 : decode cX2_instruct 91 = .ok (.aload_n 0, 1) := by decide +kernel
theorem dX2_instruct_92 : decode cX2_instruct 92 = .ok (.aload_n 0, 1) := by decide +kernel
theorem dX2_instruct_93 : decode cX2_instruct 93 = .ok (.getfield 37, 3) := by decide +kernel
theorem dX2_instruct_96 : decode cX2_instruct 96 = .ok (.invokevirtual 148, 3) := by decide +kernel
theorem dX2_instruct_99 : decode cX2_instruct 99 = .ok (.invokevirtual 164, 3) := by decide +kernel
theorem dX2_instruct_102 : decode cX2_instruct 102 = .ok (.goto 7, 3) := by decide +kernel
theorem dX2_instruct_105 : decode cX2_instruct 105 = .ok (.aload_n 0, 1) := by decide +kernel
theorem dX2_instruct_106 : decode cX2_instruct 106 = .ok (.invokevirtual 167, 3) := by decide +kernel
theorem dX2_instruct_109 : decode cX2_instruct 109 = .ok (.aload_n 0, 1) := by decide +kernel
theorem dX2_instruct_110 : decode cX2_instruct 110 = .ok (.dup, 1) := by decide +kernel
theorem dX2_instruct_111 : decode cX2_instruct 111 = .ok (.getfield 90, 3) := by decide +kernel
theorem dX2_instruct_114 : decode cX2_instruct 114 = .ok (.iconst 1, 1) := by decide +kernel
theorem dX2_instruct_115 : decode cX2_instruct 115 = .ok (.iadd, 1) := by decide +kernel
theorem dX2_instruct_116 : decode cX2_instruct 116 = .ok (.putfield 90, 3) := by decide +kernel
theorem dX2_instruct_119 : decode cX2_instruct 119 = .ok (.return_, 1) := by decide +kernel
theorem dX2_log_0 : decode cX2_log 0 = .ok (.aload_n 0, 1) := by decide +kernel
theorem dX2_log_1 : decode cX2_log 1 = .ok (.getfield 51, 3) := by decide +kernel
theorem dX2_log_4 : decode cX2_log 4 = .ok (.iconst 2, 1) := by decide +kernel
theorem dX2_log_5 : decode cX2_log 5 = .ok (.aload_n 0, 1) := by decide +kernel
theorem dX2_log_6 : decode cX2_log 6 = .ok (.invokevirtual 114, 3) := by decide +kernel
theorem dX2_log_9 : decode cX2_log 9 = .ok (.imul, 1) := by decide +kernel
theorem dX2_log_10 : decode cX2_log 10 = .ok (.iadd, 1) := by decide +kernel
theorem dX2_log_11 : decode cX2_log 11 = .ok (.istore_n 2, 1) := by decide +kernel
theorem dX2_log_12 : decode cX2_log 12 = .ok (.aload_n 0, 1) := by decide +kernel
theorem dX2_log_13 : decode cX2_log 13 = .ok (.getfield 90, 3) := by decide +kernel
theorem dX2_log_16 : decode cX2_log 16 = .ok (.ifCond .ne 17, 3) := by decide +kernel
theorem dX2_log_19 : decode cX2_log 19 = .ok (.aload_n 0, 1) := by decide +kernel
theorem dX2_log_20 : decode cX2_log 20 = .ok (.iload_n 2, 1) := by decide +kernel
theorem dX2_log_21 : decode cX2_log 21 = .ok (.aload_n 0, 1) := by decide +kernel
theorem dX2_log_22 : decode cX2_log 22 = .ok (.getfield 57, 3) := by decide +kernel
theorem dX2_log_25 : decode cX2_log 25 = .ok (.iload_n 1, 1) := by decide +kernel
theorem dX2_log_26 : decode cX2_log 26 = .ok (.iadd, 1) := by decide +kernel
theorem dX2_log_27 : decode cX2_log 27 = .ok (.invokevirtual 151, 3) := by decide +kernel
theorem dX2_log_30 : decode cX2_log 30 = .ok (.goto 73, 3) := by decide +kernel
theorem dX2_log_33 : decode cX2_log 33 = .ok (.aload_n 0, 1) := by decide +kernel
theorem dX2_log_34 : decode cX2_log 34 = .ok (.getfield 90, 3) := by decide +kernel
theorem dX2_log_37 : decode cX2_log 37 = .ok (.iconst 1, 1) := by decide +kernel
theorem dX2_log_38 : decode cX2_log 38 = .ok (.if_icmp .ne 23, 3) := by decide +kernel
theorem dX2_log_41 : decode cX2_log 41 = .ok (.aload_n 0, 1) := by decide +kernel
theorem dX2_log_42 : decode cX2_log 42 = .ok (.iload_n 2, 1) := by decide +kernel
theorem dX2_log_43 : decode cX2_log 43 = .ok (.iconst 1, 1) := by decide +kernel
theorem dX2_log_44 : decode cX2_log 44 = .ok (.iadd, 1) := by decide +kernel
theorem dX2_log_45 : decode cX2_log 45 = .ok (.aload_n 0, 1) := by decide +kernel
theorem dX2_log_46 : decode cX2_log 46 = .ok (.aload_n 0, 1) := by decide +kernel
theorem dX2_log_47 : decode cX2_log 47 = .ok (.getfield 57, 3) := by decide +kernel
theorem dX2_log_50 : decode cX2_log 50 = .ok (.iload_n 1, 1) := by decide +kernel
theorem dX2_log_51 : decode cX2_log 51 = .ok (.iadd, 1) := by decide +kernel
theorem dX2_log_52 : decode cX2_log 52 = .ok (.invokevirtual 103, 3) := by decide +kernel
theorem dX2_log_55 : decode cX2_log 55 = .ok (.invokevirtual 151, 3) := by decide +kernel
theorem dX2_log_58 : decode cX2_log 58 = .ok (.goto 45, 3) := by decide +kernel
theorem dX2_log_61 : decode cX2_log 61 = .ok (.aload_n 0, 1) := by decide +kernel
theorem dX2_log_62 : decode cX2_log 62 = .ok (.iconst 1, 1) := by decide +kernel
theorem dX2_log_63 : decode cX2_log 63 = .ok (.aload_n 0, 1) := by decide +kernel
theorem dX2_log_64 : decode cX2_log 64 = .ok (.invokevirtual 96, 3) := by decide +kernel
theorem dX2_log_67 : decode cX2_log 67 = .ok (.bipush 16, 2) := by decide +kernel
theorem dX2_log_69 : decode cX2_log 69 = .ok (.ishl, 1) := by decide +kernel
theorem dX2_log_70 : decode cX2_log 70 = .ok (.aload_n 0, 1) := by decide +kernel
theorem dX2_log_71 : decode cX2_log 71 = .ok (.invokevirtual 114, 3) := by decide +kernel
theorem dX2_log_74 : decode cX2_log 74 = .ok (.iconst 1, 1) := by decide +kernel
theorem dX2_log_75 : decode cX2_log 75 = .ok (.iadd, 1) := by decide +kernel
theorem dX2_log_76 : decode cX2_log 76 = .ok (.ior, 1) := by decide +kernel
theorem dX2_log_77 : decode cX2_log 77 = .ok (.invokevirtual 151, 3) := by decide +kernel
theorem dX2_log_80 : decode cX2_log 80 = .ok (.iload_n 1, 1) := by decide +kernel
theorem dX2_log_81 : decode cX2_log 81 = .ok (.ifCond .lt 22, 3) := by decide +kernel
theorem dX2_log_84 : decode cX2_log 84 = .ok (.iload_n 1, 1) := by decide +kernel
theorem dX2_log_85 : decode cX2_log 85 = .ok (.aload_n 0, 1) := by decide +kernel
theorem dX2_log_86 : decode cX2_log 86 = .ok (.getfield 9, 3) := by decide +kernel
theorem dX2_log_89 : decode cX2_log 89 = .ok (.arraylength, 1) := by decide +kernel
theorem dX2_log_90 : decode cX2_log 90 = .ok (.if_icmp .ge 13, 3) := by decide +kernel
theorem dX2_log_93 : decode cX2_log 93 = .ok (.aload_n 0, 1) := by decide +kernel
theorem dX2_log_94 : decode cX2_log 94 = .ok (.getfield 9, 3) := by decide +kernel
theorem dX2_log_97 : decode cX2_log 97 = .ok (.iload_n 1, 1) := by decide +kernel
theorem dX2_log_98 : decode cX2_log 98 = .ok (.aload_n 0, 1) := by decide +kernel
theorem dX2_log_99 : decode cX2_log 99 = .ok (.getfield 93, 3) := by decide +kernel
theorem dX2_log_102 : decode cX2_log 102 = .ok (.iastore, 1) := by decide +kernel
theorem dX2_log_103 : decode cX2_log 103 = .ok (.return_, 1) := by decide +kernel
theorem dX2_finish_0 : decode cX2_finish 0 = .ok (.aload_n 0, 1) := by decide +kernel
theorem dX2_finish_1 : decode cX2_finish 1 = .ok (.getfield 37, 3) := by decide +kernel
theorem dX2_finish_4 : decode cX2_finish 4 = .ok (.invokevirtual 142, 3) := by decide +kernel
theorem dX2_finish_7 : decode cX2_finish 7 = .ok (.iconst 4, 1) := by decide +kernel
theorem dX2_finish_8 : decode cX2_finish 8 = .ok (.if_icmp .ne 13, 3) := by decide +kernel
theorem dX2_finish_11 : decode cX2_finish 11 = .ok (.aload_n 0, 1) := by decide +kernel
theorem dX2_finish_12 : decode cX2_finish 12 = .ok (.getfield 15, 3) := by decide +kernel
theorem dX2_finish_15 : decode cX2_finish 15 = .ok (.iconst 1, 1) := by decide +kernel
theorem dX2_finish_16 : decode cX2_finish 16 = .ok (.dup2, 1) := by decide +kernel
theorem dX2_finish_17 : decode cX2_finish 17 = .ok (.iaload, 1) := by decide +kernel
theorem dX2_finish_18 : decode cX2_finish 18 = .ok (.iconst 1, 1) := by decide +kernel
theorem dX2_finish_19 : decode cX2_finish 19 = .ok (.iadd, 1) := by decide +kernel
theorem dX2_finish_20 : decode cX2_finish 20 = .ok (.iastore, 1) := by decide +kernel
theorem dX2_finish_21 : decode cX2_finish 21 = .ok (.aload_n 0, 1) := by decide +kernel
theorem dX2_finish_22 : decode cX2_finish 22 = .ok (.getfield 37, 3) := by decide +kernel
theorem dX2_finish_25 : decode cX2_finish 25 = .ok (.invokevirtual 142, 3) := by decide +kernel
theorem dX2_finish_28 : decode cX2_finish 28 = .ok (.iconst 2, 1) := by decide +kernel
theorem dX2_finish_29 : decode cX2_finish 29 = .ok (.if_icmp .ne 34, 3) := by decide +kernel
theorem dX2_finish_32 : decode cX2_finish 32 = .ok (.aload_n 0, 1) := by decide +kernel
theorem dX2_finish_33 : decode cX2_finish 33 = .ok (.getfield 21, 3) := by decide +kernel
theorem dX2_finish_36 : decode cX2_finish 36 = .ok (.invokevirtual 170, 3) := by decide +kernel
theorem dX2_finish_39 : decode cX2_finish 39 = .ok (.aload_n 0, 1) := by decide +kernel
theorem dX2_finish_40 : decode cX2_finish 40 = .ok (.getfield 37, 3) := by decide +kernel
theorem dX2_finish_43 : decode cX2_finish 43 = .ok (.bipush 34, 2) := by decide +kernel
theorem dX2_finish_45 : decode cX2_finish 45 = .ok (.invokevirtual 157, 3) := by decide +kernel
theorem dX2_finish_48 : decode cX2_finish 48 = .ok (.iconst 1, 1) := by decide +kernel
theorem dX2_finish_49 : decode cX2_finish 49 = .ok (.iadd, 1) := by decide +kernel
theorem dX2_finish_50 : decode cX2_finish 50 = .ok (.if_icmp .eq 13, 3) := by decide +kernel
theorem dX2_finish_53 : decode cX2_finish 53 = .ok (.aload_n 0, 1) := by decide +kernel
theorem dX2_finish_54 : decode cX2_finish 54 = .ok (.dup, 1) := by decide +kernel
theorem dX2_finish_55 : decode cX2_finish 55 = .ok (.getfield 80, 3) := by decide +kernel
theorem dX2_finish_58 : decode cX2_finish 58 = .ok (.iconst 1, 1) := by decide +kernel
theorem dX2_finish_59 : decode cX2_finish 59 = .ok (.iadd, 1) := by decide +kernel
theorem dX2_finish_60 : decode cX2_finish 60 = .ok (.putfield 80, 3) := by decide +kernel
theorem dX2_finish_63 : decode cX2_finish 63 = .ok (.aload_n 0, 1) := by decide +kernel
theorem dX2_finish_64 : decode cX2_finish 64 = .ok (.getfield 37, 3) := by decide +kernel
theorem dX2_finish_67 : decode cX2_finish 67 = .ok (.invokevirtual 173, 3) := by decide +kernel
theorem dX2_finish_70 : decode cX2_finish 70 = .ok (.aload_n 0, 1) := by decide +kernel
theorem dX2_finish_71 : decode cX2_finish 71 = .ok (.getfield 15, 3) := by decide +kernel
theorem dX2_finish_74 : decode cX2_finish 74 = .ok (.iconst 2, 1) := by decide +kernel
theorem dX2_finish_75 : decode cX2_finish 75 = .ok (.dup2, 1) := by decide +kernel
theorem dX2_finish_76 : decode cX2_finish 76 = .ok (.iaload, 1) := by decide +kernel
theorem dX2_finish_77 : decode cX2_finish 77 = .ok (.iconst 1, 1) := by decide +kernel
theorem dX2_finish_78 : decode cX2_finish 78 = .ok (.iadd, 1) := by decide +kernel
theorem dX2_finish_79 : decode cX2_finish 79 = .ok (.iastore, 1) := by decide +kernel
theorem dX2_finish_80 : decode cX2_finish 80 = .ok (.aload_n 0, 1) := by decide +kernel
theorem dX2_finish_81 : decode cX2_finish 81 = .ok (.dup, 1) := by decide +kernel
theorem dX2_finish_82 : decode cX2_finish 82 = .ok (.getfield 87, 3) := by decide +kernel
theorem dX2_finish_85 : decode cX2_finish 85 = .ok (.iconst 1, 1) := by decide +kernel
theorem dX2_finish_86 : decode cX2_finish 86 = .ok (.iadd, 1) := by decide +kernel
theorem dX2_finish_87 : decode cX2_finish 87 = .ok (.putfield 87, 3) := by decide +kernel
theorem dX2_finish_90 : decode cX2_finish 90 = .ok (.aload_n 0, 1) := by decide +kernel
theorem dX2_finish_91 : decode cX2_finish 91 = .ok (.iconst 3, 1) := by decide +kernel
theorem dX2_finish_92 : decode cX2_finish 92 = .ok (.putfield 41, 3) := by decide +kernel
theorem dX2_finish_95 : decode cX2_finish 95 = .ok (.return_, 1) := by decide +kernel
theorem dX2_write_0 : decode cX2_write 0 = .ok (.iload_n 1, 1) := by decide +kernel
theorem dX2_write_1 : decode cX2_write 1 = .ok (.ifCond .lt 29, 3) := by decide +kernel
theorem dX2_write_4 : decode cX2_write 4 = .ok (.iload_n 1, 1) := by decide +kernel
theorem dX2_write_5 : decode cX2_write 5 = .ok (.aload_n 0, 1) := by decide +kernel
theorem dX2_write_6 : decode cX2_write 6 = .ok (.getfield 29, 3) := by decide +kernel
theorem dX2_write_9 : decode cX2_write 9 = .ok (.arraylength, 1) := by decide +kernel
theorem dX2_write_10 : decode cX2_write 10 = .ok (.if_icmp .ge 20, 3) := by decide +kernel
theorem dX2_write_13 : decode cX2_write 13 = .ok (.aload_n 0, 1) := by decide +kernel
theorem dX2_write_14 : decode cX2_write 14 = .ok (.getfield 29, 3) := by decide +kernel
theorem dX2_write_17 : decode cX2_write 17 = .ok (.iload_n 1, 1) := by decide +kernel
theorem dX2_write_18 : decode cX2_write 18 = .ok (.iload_n 2, 1) := by decide +kernel
theorem dX2_write_19 : decode cX2_write 19 = .ok (.iastore, 1) := by decide +kernel
theorem dX2_write_20 : decode cX2_write 20 = .ok (.aload_n 0, 1) := by decide +kernel
theorem dX2_write_21 : decode cX2_write 21 = .ok (.getfield 15, 3) := by decide +kernel
theorem dX2_write_24 : decode cX2_write 24 = .ok (.iconst 1, 1) := by decide +kernel
theorem dX2_write_25 : decode cX2_write 25 = .ok (.dup2, 1) := by decide +kernel
theorem dX2_write_26 : decode cX2_write 26 = .ok (.iaload, 1) := by decide +kernel
theorem dX2_write_27 : decode cX2_write 27 = .ok (.iconst 1, 1) := by decide +kernel
theorem dX2_write_28 : decode cX2_write 28 = .ok (.iadd, 1) := by decide +kernel
theorem dX2_write_29 : decode cX2_write 29 = .ok (.iastore, 1) := by decide +kernel
theorem dX2_write_30 : decode cX2_write 30 = .ok (.return_, 1) := by decide +kernel
theorem dX2_generation_0 : decode cX2_generation 0 = .ok (.aload_n 0, 1) := by decide +kernel
theorem dX2_generation_1 : decode cX2_generation 1 = .ok (.getfield 29, 3) := by decide +kernel
theorem dX2_generation_4 : decode cX2_generation 4 = .ok (.iconst 0, 1) := by decide +kernel
theorem dX2_generation_5 : decode cX2_generation 5 = .ok (.iaload, 1) := by decide +kernel
theorem dX2_generation_6 : decode cX2_generation 6 = .ok (.ldc 113, 2) := by decide +kernel
theorem dX2_generation_8 : decode cX2_generation 8 = .ok (.iand, 1) := by decide +kernel
theorem dX2_generation_9 : decode cX2_generation 9 = .ok (.ireturn, 1) := by decide +kernel
theorem dX2_entriesThatCount_0 : decode cX2_entriesThatCount 0 = .ok (.aload_n 0, 1) := by decide +kernel
theorem dX2_entriesThatCount_1 : decode cX2_entriesThatCount 1 = .ok (.getfield 29, 3) := by decide +kernel
theorem dX2_entriesThatCount_4 : decode cX2_entriesThatCount 4 = .ok (.iconst 1, 1) := by decide +kernel
theorem dX2_entriesThatCount_5 : decode cX2_entriesThatCount 5 = .ok (.iaload, 1) := by decide +kernel
theorem dX2_entriesThatCount_6 : decode cX2_entriesThatCount 6 = .ok (.ldc 113, 2) := by decide +kernel
theorem dX2_entriesThatCount_8 : decode cX2_entriesThatCount 8 = .ok (.iand, 1) := by decide +kernel
theorem dX2_entriesThatCount_9 : decode cX2_entriesThatCount 9 = .ok (.ireturn, 1) := by decide +kernel
theorem dX2_bufferStart_0 : decode cX2_bufferStart 0 = .ok (.iconst 3, 1) := by decide +kernel
theorem dX2_bufferStart_1 : decode cX2_bufferStart 1 = .ok (.iload_n 1, 1) := by decide +kernel
theorem dX2_bufferStart_2 : decode cX2_bufferStart 2 = .ok (.iconst 1, 1) := by decide +kernel
theorem dX2_bufferStart_3 : decode cX2_bufferStart 3 = .ok (.iand, 1) := by decide +kernel
theorem dX2_bufferStart_4 : decode cX2_bufferStart 4 = .ok (.aload_n 0, 1) := by decide +kernel
theorem dX2_bufferStart_5 : decode cX2_bufferStart 5 = .ok (.getfield 25, 3) := by decide +kernel
theorem dX2_bufferStart_8 : decode cX2_bufferStart 8 = .ok (.invokevirtual 45, 3) := by decide +kernel
theorem dX2_bufferStart_11 : decode cX2_bufferStart 11 = .ok (.imul, 1) := by decide +kernel
theorem dX2_bufferStart_12 : decode cX2_bufferStart 12 = .ok (.iadd, 1) := by decide +kernel
theorem dX2_bufferStart_13 : decode cX2_bufferStart 13 = .ok (.ireturn, 1) := by decide +kernel
theorem dX2_condition_0 : decode cX2_condition 0 = .ok (.aload_n 0, 1) := by decide +kernel
theorem dX2_condition_1 : decode cX2_condition 1 = .ok (.getfield 41, 3) := by decide +kernel
theorem dX2_condition_4 : decode cX2_condition 4 = .ok (.ireturn, 1) := by decide +kernel
theorem dX2_owned_0 : decode cX2_owned 0 = .ok (.aload_n 0, 1) := by decide +kernel
theorem dX2_owned_1 : decode cX2_owned 1 = .ok (.invokevirtual 117, 3) := by decide +kernel
theorem dX2_owned_4 : decode cX2_owned 4 = .ok (.ifCond .ne 5, 3) := by decide +kernel
theorem dX2_owned_7 : decode cX2_owned 7 = .ok (.iconst 0, 1) := by decide +kernel
theorem dX2_owned_8 : decode cX2_owned 8 = .ok (.ireturn, 1) := by decide +kernel
theorem dX2_owned_9 : decode cX2_owned 9 = .ok (.iload_n 1, 1) := by decide +kernel
theorem dX2_owned_10 : decode cX2_owned 10 = .ok (.bipush 36, 2) := by decide +kernel
theorem dX2_owned_12 : decode cX2_owned 12 = .ok (.if_icmp .ne 10, 3) := by decide +kernel
theorem dX2_owned_15 : decode cX2_owned 15 = .ok (.aload_n 0, 1) := by decide +kernel
theorem dX2_owned_16 : decode cX2_owned 16 = .ok (.getfield 87, 3) := by decide +kernel
theorem dX2_owned_19 : decode cX2_owned 19 = .ok (.goto 11, 3) := by decide +kernel
theorem dX2_owned_22 : decode cX2_owned 22 = .ok (.aload_n 0, 1) := by decide +kernel
theorem dX2_owned_23 : decode cX2_owned 23 = .ok (.getfield 37, 3) := by decide +kernel
theorem dX2_owned_26 : decode cX2_owned 26 = .ok (.iload_n 1, 1) := by decide +kernel
theorem dX2_owned_27 : decode cX2_owned 27 = .ok (.invokevirtual 157, 3) := by decide +kernel
theorem dX2_owned_30 : decode cX2_owned 30 = .ok (.ireturn, 1) := by decide +kernel
theorem dX2_ramByte_0 : decode cX2_ramByte 0 = .ok (.aload_n 0, 1) := by decide +kernel
theorem dX2_ramByte_1 : decode cX2_ramByte 1 = .ok (.invokevirtual 117, 3) := by decide +kernel
theorem dX2_ramByte_4 : decode cX2_ramByte 4 = .ok (.ifCond .eq 25, 3) := by decide +kernel
theorem dX2_ramByte_7 : decode cX2_ramByte 7 = .ok (.aload_n 0, 1) := by decide +kernel
theorem dX2_ramByte_8 : decode cX2_ramByte 8 = .ok (.getfield 37, 3) := by decide +kernel
theorem dX2_ramByte_11 : decode cX2_ramByte 11 = .ok (.iload_n 1, 1) := by decide +kernel
theorem dX2_ramByte_12 : decode cX2_ramByte 12 = .ok (.invokevirtual 174, 3) := by decide +kernel
theorem dX2_ramByte_15 : decode cX2_ramByte 15 = .ok (.ifCond .eq 14, 3) := by decide +kernel
theorem dX2_ramByte_18 : decode cX2_ramByte 18 = .ok (.aload_n 0, 1) := by decide +kernel
theorem dX2_ramByte_19 : decode cX2_ramByte 19 = .ok (.getfield 37, 3) := by decide +kernel
theorem dX2_ramByte_22 : decode cX2_ramByte 22 = .ok (.iload_n 1, 1) := by decide +kernel
theorem dX2_ramByte_23 : decode cX2_ramByte 23 = .ok (.invokevirtual 178, 3) := by decide +kernel
theorem dX2_ramByte_26 : decode cX2_ramByte 26 = .ok (.goto 4, 3) := by decide +kernel
theorem dX2_ramByte_29 : decode cX2_ramByte 29 = .ok (.iconst (-1), 1) := by decide +kernel
theorem dX2_ramByte_30 : decode cX2_ramByte 30 = .ok (.ireturn, 1) := by decide +kernel
theorem dX2_size_0 : decode cX2_size 0 = .ok (.aload_n 0, 1) := by decide +kernel
theorem dX2_size_1 : decode cX2_size 1 = .ok (.getfield 63, 3) := by decide +kernel
theorem dX2_size_4 : decode cX2_size 4 = .ok (.ireturn, 1) := by decide +kernel
theorem dX2_stored_0 : decode cX2_stored 0 = .ok (.iload_n 1, 1) := by decide +kernel
theorem dX2_stored_1 : decode cX2_stored 1 = .ok (.ifCond .lt 29, 3) := by decide +kernel
theorem dX2_stored_4 : decode cX2_stored 4 = .ok (.iload_n 1, 1) := by decide +kernel
theorem dX2_stored_5 : decode cX2_stored 5 = .ok (.aload_n 0, 1) := by decide +kernel
theorem dX2_stored_6 : decode cX2_stored 6 = .ok (.getfield 63, 3) := by decide +kernel
theorem dX2_stored_9 : decode cX2_stored 9 = .ok (.if_icmp .ge 21, 3) := by decide +kernel
theorem dX2_stored_12 : decode cX2_stored 12 = .ok (.iload_n 1, 1) := by decide +kernel
theorem dX2_stored_13 : decode cX2_stored 13 = .ok (.aload_n 0, 1) := by decide +kernel
theorem dX2_stored_14 : decode cX2_stored 14 = .ok (.getfield 29, 3) := by decide +kernel
theorem dX2_stored_17 : decode cX2_stored 17 = .ok (.arraylength, 1) := by decide +kernel
theorem dX2_stored_18 : decode cX2_stored 18 = .ok (.if_icmp .ge 12, 3) := by decide +kernel
theorem dX2_stored_21 : decode cX2_stored 21 = .ok (.aload_n 0, 1) := by decide +kernel
theorem dX2_stored_22 : decode cX2_stored 22 = .ok (.getfield 29, 3) := by decide +kernel
theorem dX2_stored_25 : decode cX2_stored 25 = .ok (.iload_n 1, 1) := by decide +kernel
theorem dX2_stored_26 : decode cX2_stored 26 = .ok (.iaload, 1) := by decide +kernel
theorem dX2_stored_27 : decode cX2_stored 27 = .ok (.goto 4, 3) := by decide +kernel
theorem dX2_stored_30 : decode cX2_stored 30 = .ok (.iconst 0, 1) := by decide +kernel
theorem dX2_stored_31 : decode cX2_stored 31 = .ok (.ireturn, 1) := by decide +kernel
theorem dX2_radio_0 : decode cX2_radio 0 = .ok (.aload_n 0, 1) := by decide +kernel
theorem dX2_radio_1 : decode cX2_radio 1 = .ok (.getfield 21, 3) := by decide +kernel
theorem dX2_radio_4 : decode cX2_radio 4 = .ok (.areturn, 1) := by decide +kernel
theorem dX2_counted_0 : decode cX2_counted 0 = .ok (.aload_n 0, 1) := by decide +kernel
theorem dX2_counted_1 : decode cX2_counted 1 = .ok (.getfield 41, 3) := by decide +kernel
theorem dX2_counted_4 : decode cX2_counted 4 = .ok (.ifCond .eq 25, 3) := by decide +kernel
theorem dX2_counted_7 : decode cX2_counted 7 = .ok (.iload_n 1, 1) := by decide +kernel
theorem dX2_counted_8 : decode cX2_counted 8 = .ok (.ifCond .lt 21, 3) := by decide +kernel
theorem dX2_counted_11 : decode cX2_counted 11 = .ok (.iload_n 1, 1) := by decide +kernel
theorem dX2_counted_12 : decode cX2_counted 12 = .ok (.aload_n 0, 1) := by decide +kernel
theorem dX2_counted_13 : decode cX2_counted 13 = .ok (.getfield 15, 3) := by decide +kernel
theorem dX2_counted_16 : decode cX2_counted 16 = .ok (.arraylength, 1) := by decide +kernel
theorem dX2_counted_17 : decode cX2_counted 17 = .ok (.if_icmp .ge 12, 3) := by decide +kernel
theorem dX2_counted_20 : decode cX2_counted 20 = .ok (.aload_n 0, 1) := by decide +kernel
theorem dX2_counted_21 : decode cX2_counted 21 = .ok (.getfield 15, 3) := by decide +kernel
theorem dX2_counted_24 : decode cX2_counted 24 = .ok (.iload_n 1, 1) := by decide +kernel
theorem dX2_counted_25 : decode cX2_counted 25 = .ok (.iaload, 1) := by decide +kernel
theorem dX2_counted_26 : decode cX2_counted 26 = .ok (.goto 4, 3) := by decide +kernel
theorem dX2_counted_29 : decode cX2_counted 29 = .ok (.iconst (-1), 1) := by decide +kernel
theorem dX2_counted_30 : decode cX2_counted 30 = .ok (.ireturn, 1) := by decide +kernel
theorem dX2_strayed_0 : decode cX2_strayed 0 = .ok (.aload_n 0, 1) := by decide +kernel
theorem dX2_strayed_1 : decode cX2_strayed 1 = .ok (.getfield 80, 3) := by decide +kernel
theorem dX2_strayed_4 : decode cX2_strayed 4 = .ok (.ireturn, 1) := by decide +kernel
theorem dX3_init_0 : decode cX3_init 0 = .ok (.aload_n 0, 1) := by decide +kernel
theorem dX3_init_1 : decode cX3_init 1 = .ok (.invokespecial 3, 3) := by decide +kernel
theorem dX3_init_4 : decode cX3_init 4 = .ok (.aload_n 0, 1) := by decide +kernel
theorem dX3_init_5 : decode cX3_init 5 = .ok (.new 9, 3) := by decide +kernel
theorem dX3_init_8 : decode cX3_init 8 = .ok (.dup, 1) := by decide +kernel
theorem dX3_init_9 : decode cX3_init 9 = .ok (.invokespecial 11, 3) := by decide +kernel
theorem dX3_init_12 : decode cX3_init 12 = .ok (.putfield 12, 3) := by decide +kernel
theorem dX3_init_15 : decode cX3_init 15 = .ok (.aload_n 0, 1) := by decide +kernel
theorem dX3_init_16 : decode cX3_init 16 = .ok (.aload_n 1, 1) := by decide +kernel
theorem dX3_init_17 : decode cX3_init 17 = .ok (.putfield 18, 3) := by decide +kernel
theorem dX3_init_20 : decode cX3_init 20 = .ok (.sipush 2048, 3) := by decide +kernel
theorem dX3_init_23 : decode cX3_init 23 = .ok (.newarray .int, 2) := by decide +kernel
theorem dX3_init_25 : decode cX3_init 25 = .ok (.astore_n 2, 1) := by decide +kernel
theorem dX3_init_26 : decode cX3_init 26 = .ok (.aload_n 0, 1) := by decide +kernel
theorem dX3_init_27 : decode cX3_init 27 = .ok (.aload_n 2, 1) := by decide +kernel
theorem dX3_init_28 : decode cX3_init 28 = .ok (.putfield 22, 3) := by decide +kernel
theorem dX3_init_31 : decode cX3_init 31 = .ok (.aload_n 0, 1) := by decide +kernel
theorem dX3_init_32 : decode cX3_init 32 = .ok (.new 26, 3) := by decide +kernel
theorem dX3_init_35 : decode cX3_init 35 = .ok (.dup, 1) := by decide +kernel
theorem dX3_init_36 : decode cX3_init 36 = .ok (.aload_n 1, 1) := by decide +kernel
theorem dX3_init_37 : decode cX3_init 37 = .ok (.aload_n 2, 1) := by decide +kernel
theorem dX3_init_38 : decode cX3_init 38 = .ok (.invokespecial 28, 3) := by decide +kernel
theorem dX3_init_41 : decode cX3_init 41 = .ok (.putfield 31, 3) := by decide +kernel
theorem dX3_init_44 : decode cX3_init 44 = .ok (.return_, 1) := by decide +kernel
theorem dX3_forget_0 : decode cX3_forget 0 = .ok (.aload_n 0, 1) := by decide +kernel
theorem dX3_forget_1 : decode cX3_forget 1 = .ok (.iconst 0, 1) := by decide +kernel
theorem dX3_forget_2 : decode cX3_forget 2 = .ok (.putfield 35, 3) := by decide +kernel
theorem dX3_forget_5 : decode cX3_forget 5 = .ok (.aload_n 0, 1) := by decide +kernel
theorem dX3_forget_6 : decode cX3_forget 6 = .ok (.iconst 0, 1) := by decide +kernel
theorem dX3_forget_7 : decode cX3_forget 7 = .ok (.putfield 39, 3) := by decide +kernel
theorem dX3_forget_10 : decode cX3_forget 10 = .ok (.aload_n 0, 1) := by decide +kernel
theorem dX3_forget_11 : decode cX3_forget 11 = .ok (.getfield 12, 3) := by decide +kernel
theorem dX3_forget_14 : decode cX3_forget 14 = .ok (.invokevirtual 43, 3) := by decide +kernel
theorem dX3_forget_17 : decode cX3_forget 17 = .ok (.return_, 1) := by decide +kernel
theorem dX3_run_0 : decode cX3_run 0 = .ok (.aload_n 0, 1) := by decide +kernel
theorem dX3_run_1 : decode cX3_run 1 = .ok (.invokevirtual 46, 3) := by decide +kernel
theorem dX3_run_4 : decode cX3_run 4 = .ok (.iconst 0, 1) := by decide +kernel
theorem dX3_run_5 : decode cX3_run 5 = .ok (.istore_n 2, 1) := by decide +kernel
theorem dX3_run_6 : decode cX3_run 6 = .ok (.iload_n 2, 1) := by decide +kernel
theorem dX3_run_7 : decode cX3_run 7 = .ok (.iload_n 1, 1) := by decide +kernel
theorem dX3_run_8 : decode cX3_run 8 = .ok (.if_icmp .ge 68, 3) := by decide +kernel
theorem dX3_run_11 : decode cX3_run 11 = .ok (.aload_n 0, 1) := by decide +kernel
theorem dX3_run_12 : decode cX3_run 12 = .ok (.getfield 39, 3) := by decide +kernel
theorem dX3_run_15 : decode cX3_run 15 = .ok (.ifCond .ne 61, 3) := by decide +kernel
theorem dX3_run_18 : decode cX3_run 18 = .ok (.aload_n 0, 1) := by decide +kernel
theorem dX3_run_19 : decode cX3_run 19 = .ok (.getfield 31, 3) := by decide +kernel
theorem dX3_run_22 : decode cX3_run 22 = .ok (.invokevirtual 49, 3) := by decide +kernel
theorem dX3_run_25 : decode cX3_run 25 = .ok (.iconst 2, 1) := by decide +kernel
theorem dX3_run_26 : decode cX3_run 26 = .ok (.if_icmp .ne 26, 3) := by decide +kernel
theorem dX3_run_29 : decode cX3_run 29 = .ok (.aload_n 0, 1) := by decide +kernel
theorem dX3_run_30 : decode cX3_run 30 = .ok (.getfield 12, 3) := by decide +kernel
theorem dX3_run_33 : decode cX3_run 33 = .ok (.aload_n 0, 1) := by decide +kernel
theorem dX3_run_34 : decode cX3_run 34 = .ok (.getfield 31, 3) := by decide +kernel
theorem dX3_run_37 : decode cX3_run 37 = .ok (.aload_n 0, 1) := by decide +kernel
theorem dX3_run_38 : decode cX3_run 38 = .ok (.getfield 31, 3) := by decide +kernel
theorem dX3_run_41 : decode cX3_run 41 = .ok (.bipush 34, 2) := by decide +kernel
theorem dX3_run_43 : decode cX3_run 43 = .ok (.invokevirtual 53, 3) := by decide +kernel
theorem dX3_run_46 : decode cX3_run 46 = .ok (.iconst 1, 1) := by decide +kernel
theorem dX3_run_47 : decode cX3_run 47 = .ok (.iadd, 1) := by decide +kernel
theorem dX3_run_48 : decode cX3_run 48 = .ok (.iconst 0, 1) := by decide +kernel
theorem dX3_run_49 : decode cX3_run 49 = .ok (.invokevirtual 57, 3) := by decide +kernel
theorem dX3_run_52 : decode cX3_run 52 = .ok (.aload_n 0, 1) := by decide +kernel
theorem dX3_run_53 : decode cX3_run 53 = .ok (.getfield 31, 3) := by decide +kernel
theorem dX3_run_56 : decode cX3_run 56 = .ok (.invokevirtual 61, 3) := by decide +kernel
theorem dX3_run_59 : decode cX3_run 59 = .ok (.iinc 2 1, 3) := by decide +kernel
theorem dX3_run_62 : decode cX3_run 62 = .ok (.aload_n 0, 1) := by decide +kernel
theorem dX3_run_63 : decode cX3_run 63 = .ok (.aload_n 0, 1) := by decide +kernel
theorem dX3_run_64 : decode cX3_run 64 = .ok (.getfield 31, 3) := by decide +kernel
theorem dX3_run_67 : decode cX3_run 67 = .ok (.invokevirtual 64, 3) := by decide +kernel
theorem dX3_run_70 : decode cX3_run 70 = .ok (.putfield 39, 3) := by decide +kernel
theorem dX3_run_73 : decode cX3_run 73 = .ok (.goto (-67), 3) := by decide +kernel
theorem dX3_run_76 : decode cX3_run 76 = .ok (.iload_n 2, 1) := by decide +kernel
theorem dX3_run_77 : decode cX3_run 77 = .ok (.ireturn, 1) := by decide +kernel
