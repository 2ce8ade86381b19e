theorem dX0_init_0 : decode cX0_init 0 = .ok (.aload_n 0, 1) := by decide +kernel
theorem dX0_init_1 : decode cX0_init 1 = .ok (.invokespecial 3, 3) := by decide +kernel
theorem dX0_init_4 : decode cX0_init 4 = .ok (.aload_n 0, 1) := by decide +kernel
theorem dX0_init_5 : decode cX0_init 5 = .ok (.iconst 4, 1) := by decide +kernel
theorem dX0_init_6 : decode cX0_init 6 = .ok (.bipush 6, 2) := by decide +kernel
theorem dX0_init_8 : decode cX0_init 8 = .ok (.multianewarray 9 2, 4) := by decide +kernel
theorem dX0_init_12 : decode cX0_init 12 = .ok (.putfield 11, 3) := by decide +kernel
theorem dX0_init_15 : decode cX0_init 15 = .ok (.aload_n 0, 1) := by decide +kernel
theorem dX0_init_16 : decode cX0_init 16 = .ok (.iconst 4, 1) := by decide +kernel
theorem dX0_init_17 : decode cX0_init 17 = .ok (.newarray .int, 2) := by decide +kernel
theorem dX0_init_19 : decode cX0_init 19 = .ok (.putfield 16, 3) := by decide +kernel
theorem dX0_init_22 : decode cX0_init 22 = .ok (.aload_n 0, 1) := by decide +kernel
theorem dX0_init_23 : decode cX0_init 23 = .ok (.iconst 4, 1) := by decide +kernel
theorem dX0_init_24 : decode cX0_init 24 = .ok (.newarray .int, 2) := by decide +kernel
theorem dX0_init_26 : decode cX0_init 26 = .ok (.putfield 20, 3) := by decide +kernel
theorem dX0_init_29 : decode cX0_init 29 = .ok (.aload_n 0, 1) := by decide +kernel
theorem dX0_init_30 : decode cX0_init 30 = .ok (.aload_n 1, 1) := by decide +kernel
theorem dX0_init_31 : decode cX0_init 31 = .ok (.putfield 23, 3) := by decide +kernel
theorem dX0_init_34 : decode cX0_init 34 = .ok (.aload_n 0, 1) := by decide +kernel
theorem dX0_init_35 : decode cX0_init 35 = .ok (.aload_n 2, 1) := by decide +kernel
theorem dX0_init_36 : decode cX0_init 36 = .ok (.putfield 27, 3) := by decide +kernel
theorem dX0_init_39 : decode cX0_init 39 = .ok (.return_, 1) := by decide +kernel
theorem dX0_findBest_0 : decode cX0_findBest 0 = .ok (.aload_n 0, 1) := by decide +kernel
theorem dX0_findBest_1 : decode cX0_findBest 1 = .ok (.getfield 27, 3) := by decide +kernel
theorem dX0_findBest_4 : decode cX0_findBest 4 = .ok (.aload_n 0, 1) := by decide +kernel
theorem dX0_findBest_5 : decode cX0_findBest 5 = .ok (.getfield 23, 3) := by decide +kernel
theorem dX0_findBest_8 : decode cX0_findBest 8 = .ok (.invokevirtual 30, 3) := by decide +kernel
theorem dX0_findBest_11 : decode cX0_findBest 11 = .ok (.aload_n 0, 1) := by decide +kernel
theorem dX0_findBest_12 : decode cX0_findBest 12 = .ok (.iload_n 1, 1) := by decide +kernel
theorem dX0_findBest_13 : decode cX0_findBest 13 = .ok (.aload_n 0, 1) := by decide +kernel
theorem dX0_findBest_14 : decode cX0_findBest 14 = .ok (.getfield 23, 3) := by decide +kernel
theorem dX0_findBest_17 : decode cX0_findBest 17 = .ok (.getfield 36, 3) := by decide +kernel
theorem dX0_findBest_20 : decode cX0_findBest 20 = .ok (.aload_n 0, 1) := by decide +kernel
theorem dX0_findBest_21 : decode cX0_findBest 21 = .ok (.getfield 23, 3) := by decide +kernel
theorem dX0_findBest_24 : decode cX0_findBest 24 = .ok (.getfield 40, 3) := by decide +kernel
theorem dX0_findBest_27 : decode cX0_findBest 27 = .ok (.isub, 1) := by decide +kernel
theorem dX0_findBest_28 : decode cX0_findBest 28 = .ok (.invokestatic 43, 3) := by decide +kernel
theorem dX0_findBest_31 : decode cX0_findBest 31 = .ok (.putfield 49, 3) := by decide +kernel
theorem dX0_findBest_34 : decode cX0_findBest 34 = .ok (.aload_n 0, 1) := by decide +kernel
theorem dX0_findBest_35 : decode cX0_findBest 35 = .ok (.iconst (-1), 1) := by decide +kernel
theorem dX0_findBest_36 : decode cX0_findBest 36 = .ok (.putfield 52, 3) := by decide +kernel
theorem dX0_findBest_39 : decode cX0_findBest 39 = .ok (.aload_n 0, 1) := by decide +kernel
theorem dX0_findBest_40 : decode cX0_findBest 40 = .ok (.iconst 0, 1) := by decide +kernel
theorem dX0_findBest_41 : decode cX0_findBest 41 = .ok (.putfield 55, 3) := by decide +kernel
theorem dX0_findBest_44 : decode cX0_findBest 44 = .ok (.aload_n 0, 1) := by decide +kernel
theorem dX0_findBest_45 : decode cX0_findBest 45 = .ok (.iconst 0, 1) := by decide +kernel
theorem dX0_findBest_46 : decode cX0_findBest 46 = .ok (.iconst 0, 1) := by decide +kernel
theorem dX0_findBest_47 : decode cX0_findBest 47 = .ok (.invokestatic 58, 3) := by decide +kernel
theorem dX0_findBest_50 : decode cX0_findBest 50 = .ok (.return_, 1) := by decide +kernel
theorem dX0_search_0 : decode cX0_search 0 = .ok (.iload_n 1, 1) := by decide +kernel
theorem dX0_search_1 : decode cX0_search 1 = .ok (.aload_n 0, 1) := by decide +kernel
theorem dX0_search_2 : decode cX0_search 2 = .ok (.getfield 49, 3) := by decide +kernel
theorem dX0_search_5 : decode cX0_search 5 = .ok (.if_icmp .ge 8, 3) := by decide +kernel
theorem dX0_search_8 : decode cX0_search 8 = .ok (.iload_n 1, 1) := by decide +kernel
theorem dX0_search_9 : decode cX0_search 9 = .ok (.iconst 4, 1) := by decide +kernel
theorem dX0_search_10 : decode cX0_search 10 = .ok (.if_icmp .lt 9, 3) := by decide +kernel
theorem dX0_search_13 : decode cX0_search 13 = .ok (.aload_n 0, 1) := by decide +kernel
theorem dX0_search_14 : decode cX0_search 14 = .ok (.iload_n 2, 1) := by decide +kernel
theorem dX0_search_15 : decode cX0_search 15 = .ok (.invokevirtual 62, 3) := by decide +kernel
theorem dX0_search_18 : decode cX0_search 18 = .ok (.return_, 1) := by decide +kernel
theorem dX0_search_19 : decode cX0_search 19 = .ok (.iconst 0, 1) := by decide +kernel
theorem dX0_search_20 : decode cX0_search 20 = .ok (.istore_n 3, 1) := by decide +kernel
theorem dX0_search_21 : decode cX0_search 21 = .ok (.iload_n 3, 1) := by decide +kernel
theorem dX0_search_22 : decode cX0_search 22 = .ok (.aload_n 0, 1) := by decide +kernel
theorem dX0_search_23 : decode cX0_search 23 = .ok (.getfield 23, 3) := by decide +kernel
theorem dX0_search_26 : decode cX0_search 26 = .ok (.getfield 66, 3) := by decide +kernel
theorem dX0_search_29 : decode cX0_search 29 = .ok (.if_icmp .gt 49, 3) := by decide +kernel
theorem dX0_search_32 : decode cX0_search 32 = .ok (.aload_n 0, 1) := by decide +kernel
theorem dX0_search_33 : decode cX0_search 33 = .ok (.getfield 16, 3) := by decide +kernel
theorem dX0_search_36 : decode cX0_search 36 = .ok (.iload_n 1, 1) := by decide +kernel
theorem dX0_search_37 : decode cX0_search 37 = .ok (.iload_n 3, 1) := by decide +kernel
theorem dX0_search_38 : decode cX0_search 38 = .ok (.iastore, 1) := by decide +kernel
theorem dX0_search_39 : decode cX0_search 39 = .ok (.aload_n 0, 1) := by decide +kernel
theorem dX0_search_40 : decode cX0_search 40 = .ok (.iload_n 1, 1) := by decide +kernel
theorem dX0_search_41 : decode cX0_search 41 = .ok (.invokevirtual 69, 3) := by decide +kernel
theorem dX0_search_44 : decode cX0_search 44 = .ok (.aload_n 0, 1) := by decide +kernel
theorem dX0_search_45 : decode cX0_search 45 = .ok (.getfield 27, 3) := by decide +kernel
theorem dX0_search_48 : decode cX0_search 48 = .ok (.iload_n 3, 1) := by decide +kernel
theorem dX0_search_49 : decode cX0_search 49 = .ok (.iconst 1, 1) := by decide +kernel
theorem dX0_search_50 : decode cX0_search 50 = .ok (.isub, 1) := by decide +kernel
theorem dX0_search_51 : decode cX0_search 51 = .ok (.invokevirtual 72, 3) := by decide +kernel
theorem dX0_search_54 : decode cX0_search 54 = .ok (.istore 4, 2) := by decide +kernel
theorem dX0_search_56 : decode cX0_search 56 = .ok (.aload_n 0, 1) := by decide +kernel
theorem dX0_search_57 : decode cX0_search 57 = .ok (.iload_n 1, 1) := by decide +kernel
theorem dX0_search_58 : decode cX0_search 58 = .ok (.iconst 1, 1) := by decide +kernel
theorem dX0_search_59 : decode cX0_search 59 = .ok (.iadd, 1) := by decide +kernel
theorem dX0_search_60 : decode cX0_search 60 = .ok (.iload_n 2, 1) := by decide +kernel
theorem dX0_search_61 : decode cX0_search 61 = .ok (.iload 4, 2) := by decide +kernel
theorem dX0_search_63 : decode cX0_search 63 = .ok (.iadd, 1) := by decide +kernel
theorem dX0_search_64 : decode cX0_search 64 = .ok (.invokestatic 58, 3) := by decide +kernel
theorem dX0_search_67 : decode cX0_search 67 = .ok (.aload_n 0, 1) := by decide +kernel
theorem dX0_search_68 : decode cX0_search 68 = .ok (.iload_n 1, 1) := by decide +kernel
theorem dX0_search_69 : decode cX0_search 69 = .ok (.invokevirtual 76, 3) := by decide +kernel
theorem dX0_search_72 : decode cX0_search 72 = .ok (.iinc 3 1, 3) := by decide +kernel
theorem dX0_search_75 : decode cX0_search 75 = .ok (.goto (-54), 3) := by decide +kernel
theorem dX0_search_78 : decode cX0_search 78 = .ok (.return_, 1) := by decide +kernel
theorem dX0_weigh_0 : decode cX0_weigh 0 = .ok (.iload_n 1, 1) := by decide +kernel
theorem dX0_weigh_1 : decode cX0_weigh 1 = .ok (.aload_n 0, 1) := by decide +kernel
theorem dX0_weigh_2 : decode cX0_weigh 2 = .ok (.getfield 52, 3) := by decide +kernel
theorem dX0_weigh_5 : decode cX0_weigh 5 = .ok (.if_icmp .le 27, 3) := by decide +kernel
theorem dX0_weigh_8 : decode cX0_weigh 8 = .ok (.aload_n 0, 1) := by decide +kernel
theorem dX0_weigh_9 : decode cX0_weigh 9 = .ok (.iload_n 1, 1) := by decide +kernel
theorem dX0_weigh_10 : decode cX0_weigh 10 = .ok (.putfield 52, 3) := by decide +kernel
theorem dX0_weigh_13 : decode cX0_weigh 13 = .ok (.aload_n 0, 1) := by decide +kernel
theorem dX0_weigh_14 : decode cX0_weigh 14 = .ok (.iconst 0, 1) := by decide +kernel
theorem dX0_weigh_15 : decode cX0_weigh 15 = .ok (.putfield 55, 3) := by decide +kernel
theorem dX0_weigh_18 : decode cX0_weigh 18 = .ok (.aload_n 0, 1) := by decide +kernel
theorem dX0_weigh_19 : decode cX0_weigh 19 = .ok (.getfield 16, 3) := by decide +kernel
theorem dX0_weigh_22 : decode cX0_weigh 22 = .ok (.iconst 0, 1) := by decide +kernel
theorem dX0_weigh_23 : decode cX0_weigh 23 = .ok (.aload_n 0, 1) := by decide +kernel
theorem dX0_weigh_24 : decode cX0_weigh 24 = .ok (.getfield 20, 3) := by decide +kernel
theorem dX0_weigh_27 : decode cX0_weigh 27 = .ok (.iconst 0, 1) := by decide +kernel
theorem dX0_weigh_28 : decode cX0_weigh 28 = .ok (.iconst 4, 1) := by decide +kernel
theorem dX0_weigh_29 : decode cX0_weigh 29 = .ok (.invokestatic 79, 3) := by decide +kernel
theorem dX0_weigh_32 : decode cX0_weigh 32 = .ok (.iload_n 1, 1) := by decide +kernel
theorem dX0_weigh_33 : decode cX0_weigh 33 = .ok (.aload_n 0, 1) := by decide +kernel
theorem dX0_weigh_34 : decode cX0_weigh 34 = .ok (.getfield 52, 3) := by decide +kernel
theorem dX0_weigh_37 : decode cX0_weigh 37 = .ok (.if_icmp .ne 13, 3) := by decide +kernel
theorem dX0_weigh_40 : decode cX0_weigh 40 = .ok (.aload_n 0, 1) := by decide +kernel
theorem dX0_weigh_41 : decode cX0_weigh 41 = .ok (.dup, 1) := by decide +kernel
theorem dX0_weigh_42 : decode cX0_weigh 42 = .ok (.getfield 55, 3) := by decide +kernel
theorem dX0_weigh_45 : decode cX0_weigh 45 = .ok (.iconst 1, 1) := by decide +kernel
theorem dX0_weigh_46 : decode cX0_weigh 46 = .ok (.iadd, 1) := by decide +kernel
theorem dX0_weigh_47 : decode cX0_weigh 47 = .ok (.putfield 55, 3) := by decide +kernel
theorem dX0_weigh_50 : decode cX0_weigh 50 = .ok (.return_, 1) := by decide +kernel
theorem dX0_gameValue_0 : decode cX0_gameValue 0 = .ok (.aload_n 0, 1) := by decide +kernel
theorem dX0_gameValue_1 : decode cX0_gameValue 1 = .ok (.getfield 27, 3) := by decide +kernel
theorem dX0_gameValue_4 : decode cX0_gameValue 4 = .ok (.aload_n 0, 1) := by decide +kernel
theorem dX0_gameValue_5 : decode cX0_gameValue 5 = .ok (.getfield 23, 3) := by decide +kernel
theorem dX0_gameValue_8 : decode cX0_gameValue 8 = .ok (.invokevirtual 30, 3) := by decide +kernel
theorem dX0_gameValue_11 : decode cX0_gameValue 11 = .ok (.aload_n 0, 1) := by decide +kernel
theorem dX0_gameValue_12 : decode cX0_gameValue 12 = .ok (.iload_n 1, 1) := by decide +kernel
theorem dX0_gameValue_13 : decode cX0_gameValue 13 = .ok (.aload_n 0, 1) := by decide +kernel
theorem dX0_gameValue_14 : decode cX0_gameValue 14 = .ok (.getfield 23, 3) := by decide +kernel
theorem dX0_gameValue_17 : decode cX0_gameValue 17 = .ok (.getfield 36, 3) := by decide +kernel
theorem dX0_gameValue_20 : decode cX0_gameValue 20 = .ok (.aload_n 0, 1) := by decide +kernel
theorem dX0_gameValue_21 : decode cX0_gameValue 21 = .ok (.getfield 23, 3) := by decide +kernel
theorem dX0_gameValue_24 : decode cX0_gameValue 24 = .ok (.getfield 40, 3) := by decide +kernel
theorem dX0_gameValue_27 : decode cX0_gameValue 27 = .ok (.isub, 1) := by decide +kernel
theorem dX0_gameValue_28 : decode cX0_gameValue 28 = .ok (.invokestatic 43, 3) := by decide +kernel
theorem dX0_gameValue_31 : decode cX0_gameValue 31 = .ok (.putfield 49, 3) := by decide +kernel
theorem dX0_gameValue_34 : decode cX0_gameValue 34 = .ok (.aload_n 0, 1) := by decide +kernel
theorem dX0_gameValue_35 : decode cX0_gameValue 35 = .ok (.iconst 0, 1) := by decide +kernel
theorem dX0_gameValue_36 : decode cX0_gameValue 36 = .ok (.putfield 85, 3) := by decide +kernel
theorem dX0_gameValue_39 : decode cX0_gameValue 39 = .ok (.aload_n 0, 1) := by decide +kernel
theorem dX0_gameValue_40 : decode cX0_gameValue 40 = .ok (.iconst 0, 1) := by decide +kernel
theorem dX0_gameValue_41 : decode cX0_gameValue 41 = .ok (.invokestatic 88, 3) := by decide +kernel
theorem dX0_gameValue_44 : decode cX0_gameValue 44 = .ok (.ireturn, 1) := by decide +kernel
theorem dX0_valueFrom_0 : decode cX0_valueFrom 0 = .ok (.iload_n 1, 1) := by decide +kernel
theorem dX0_valueFrom_1 : decode cX0_valueFrom 1 = .ok (.aload_n 0, 1) := by decide +kernel
theorem dX0_valueFrom_2 : decode cX0_valueFrom 2 = .ok (.getfield 49, 3) := by decide +kernel
theorem dX0_valueFrom_5 : decode cX0_valueFrom 5 = .ok (.if_icmp .ge 8, 3) := by decide +kernel
theorem dX0_valueFrom_8 : decode cX0_valueFrom 8 = .ok (.iload_n 1, 1) := by decide +kernel
theorem dX0_valueFrom_9 : decode cX0_valueFrom 9 = .ok (.iconst 4, 1) := by decide +kernel
theorem dX0_valueFrom_10 : decode cX0_valueFrom 10 = .ok (.if_icmp .lt 5, 3) := by decide +kernel
theorem dX0_valueFrom_13 : decode cX0_valueFrom 13 = .ok (.iconst 0, 1) := by decide +kernel
theorem dX0_valueFrom_14 : decode cX0_valueFrom 14 = .ok (.ireturn, 1) := by decide +kernel
theorem dX0_valueFrom_15 : decode cX0_valueFrom 15 = .ok (.iload_n 1, 1) := by decide +kernel
theorem dX0_valueFrom_16 : decode cX0_valueFrom 16 = .ok (.iconst 2, 1) := by decide +kernel
theorem dX0_valueFrom_17 : decode cX0_valueFrom 17 = .ok (.irem, 1) := by decide +kernel
theorem dX0_valueFrom_18 : decode cX0_valueFrom 18 = .ok (.ifCond .ne 7, 3) := by decide +kernel
theorem dX0_valueFrom_21 : decode cX0_valueFrom 21 = .ok (.iconst 1, 1) := by decide +kernel
theorem dX0_valueFrom_22 : decode cX0_valueFrom 22 = .ok (.goto 4, 3) := by decide +kernel
theorem dX0_valueFrom_25 : decode cX0_valueFrom 25 = .ok (.iconst 0, 1) := by decide +kernel
theorem dX0_valueFrom_26 : decode cX0_valueFrom 26 = .ok (.istore_n 2, 1) := by decide +kernel
theorem dX0_valueFrom_27 : decode cX0_valueFrom 27 = .ok (.iconst 0, 1) := by decide +kernel
theorem dX0_valueFrom_28 : decode cX0_valueFrom 28 = .ok (.istore_n 3, 1) := by decide +kernel
theorem dX0_valueFrom_29 : decode cX0_valueFrom 29 = .ok (.iconst 0, 1) := by decide +kernel
theorem dX0_valueFrom_30 : decode cX0_valueFrom 30 = .ok (.istore 4, 2) := by decide +kernel
theorem dX0_valueFrom_32 : decode cX0_valueFrom 32 = .ok (.iload 4, 2) := by decide +kernel
theorem dX0_valueFrom_34 : decode cX0_valueFrom 34 = .ok (.aload_n 0, 1) := by decide +kernel
theorem dX0_valueFrom_35 : decode cX0_valueFrom 35 = .ok (.getfield 23, 3) := by decide +kernel
theorem dX0_valueFrom_38 : decode cX0_valueFrom 38 = .ok (.getfield 66, 3) := by decide +kernel
theorem dX0_valueFrom_41 : decode cX0_valueFrom 41 = .ok (.if_icmp .gt 81, 3) := by decide +kernel
theorem dX0_valueFrom_44 : decode cX0_valueFrom 44 = .ok (.aload_n 0, 1) := by decide +kernel
theorem dX0_valueFrom_45 : decode cX0_valueFrom 45 = .ok (.iload_n 1, 1) := by decide +kernel
theorem dX0_valueFrom_46 : decode cX0_valueFrom 46 = .ok (.invokevirtual 69, 3) := by decide +kernel
theorem dX0_valueFrom_49 : decode cX0_valueFrom 49 = .ok (.aload_n 0, 1) := by decide +kernel
theorem dX0_valueFrom_50 : decode cX0_valueFrom 50 = .ok (.getfield 27, 3) := by decide +kernel
theorem dX0_valueFrom_53 : decode cX0_valueFrom 53 = .ok (.iload 4, 2) := by decide +kernel
theorem dX0_valueFrom_55 : decode cX0_valueFrom 55 = .ok (.iconst 1, 1) := by decide +kernel
theorem dX0_valueFrom_56 : decode cX0_valueFrom 56 = .ok (.isub, 1) := by decide +kernel
theorem dX0_valueFrom_57 : decode cX0_valueFrom 57 = .ok (.invokevirtual 72, 3) := by decide +kernel
theorem dX0_valueFrom_60 : decode cX0_valueFrom 60 = .ok (.istore 5, 2) := by decide +kernel
theorem dX0_valueFrom_62 : decode cX0_valueFrom 62 = .ok (.iload 5, 2) := by decide +kernel
theorem dX0_valueFrom_64 : decode cX0_valueFrom 64 = .ok (.aload_n 0, 1) := by decide +kernel
theorem dX0_valueFrom_65 : decode cX0_valueFrom 65 = .ok (.iload_n 1, 1) := by decide +kernel
theorem dX0_valueFrom_66 : decode cX0_valueFrom 66 = .ok (.iconst 1, 1) := by decide +kernel
theorem dX0_valueFrom_67 : decode cX0_valueFrom 67 = .ok (.iadd, 1) := by decide +kernel
theorem dX0_valueFrom_68 : decode cX0_valueFrom 68 = .ok (.invokestatic 88, 3) := by decide +kernel
theorem dX0_valueFrom_71 : decode cX0_valueFrom 71 = .ok (.iadd, 1) := by decide +kernel
theorem dX0_valueFrom_72 : decode cX0_valueFrom 72 = .ok (.istore 6, 2) := by decide +kernel
theorem dX0_valueFrom_74 : decode cX0_valueFrom 74 = .ok (.aload_n 0, 1) := by decide +kernel
theorem dX0_valueFrom_75 : decode cX0_valueFrom 75 = .ok (.iload_n 1, 1) := by decide +kernel
theorem dX0_valueFrom_76 : decode cX0_valueFrom 76 = .ok (.invokevirtual 76, 3) := by decide +kernel
theorem dX0_valueFrom_79 : decode cX0_valueFrom 79 = .ok (.iload 4, 2) := by decide +kernel
theorem dX0_valueFrom_81 : decode cX0_valueFrom 81 = .ok (.ifCond .eq 22, 3) := by decide +kernel
theorem dX0_valueFrom_84 : decode cX0_valueFrom 84 = .ok (.iload_n 2, 1) := by decide +kernel
theorem dX0_valueFrom_85 : decode cX0_valueFrom 85 = .ok (.ifCond .eq 12, 3) := by decide +kernel
theorem dX0_valueFrom_88 : decode cX0_valueFrom 88 = .ok (.iload 6, 2) := by decide +kernel
theorem dX0_valueFrom_90 : decode cX0_valueFrom 90 = .ok (.iload_n 3, 1) := by decide +kernel
theorem dX0_valueFrom_91 : decode cX0_valueFrom 91 = .ok (.if_icmp .le 25, 3) := by decide +kernel
theorem dX0_valueFrom_94 : decode cX0_valueFrom 94 = .ok (.goto 9, 3) := by decide +kernel
theorem dX0_valueFrom_97 : decode cX0_valueFrom 97 = .ok (.iload 6, 2) := by decide +kernel
theorem dX0_valueFrom_99 : decode cX0_valueFrom 99 = .ok (.iload_n 3, 1) := by decide +kernel
theorem dX0_valueFrom_100 : decode cX0_valueFrom 100 = .ok (.if_icmp .ge 16, 3) := by decide +kernel
theorem dX0_valueFrom_103 : decode cX0_valueFrom 103 = .ok (.iload 6, 2) := by decide +kernel
theorem dX0_valueFrom_105 : decode cX0_valueFrom 105 = .ok (.istore_n 3, 1) := by decide +kernel
theorem dX0_valueFrom_106 : decode cX0_valueFrom 106 = .ok (.iload_n 1, 1) := by decide +kernel
theorem dX0_valueFrom_107 : decode cX0_valueFrom 107 = .ok (.ifCond .ne 9, 3) := by decide +kernel
theorem dX0_valueFrom_110 : decode cX0_valueFrom 110 = .ok (.aload_n 0, 1) := by decide +kernel
theorem dX0_valueFrom_111 : decode cX0_valueFrom 111 = .ok (.iload 4, 2) := by decide +kernel
theorem dX0_valueFrom_113 : decode cX0_valueFrom 113 = .ok (.putfield 85, 3) := by decide +kernel
theorem dX0_valueFrom_116 : decode cX0_valueFrom 116 = .ok (.iinc 4 1, 3) := by decide +kernel
theorem dX0_valueFrom_119 : decode cX0_valueFrom 119 = .ok (.goto (-87), 3) := by decide +kernel
theorem dX0_valueFrom_122 : decode cX0_valueFrom 122 = .ok (.iload_n 3, 1) := by decide +kernel
theorem dX0_valueFrom_123 : decode cX0_valueFrom 123 = .ok (.ireturn, 1) := by decide +kernel
theorem dX0_keepAims_0 : decode cX0_keepAims 0 = .ok (.aload_n 0, 1) := by decide +kernel
theorem dX0_keepAims_1 : decode cX0_keepAims 1 = .ok (.getfield 27, 3) := by decide +kernel
theorem dX0_keepAims_4 : decode cX0_keepAims 4 = .ok (.getfield 92, 3) := by decide +kernel
theorem dX0_keepAims_7 : decode cX0_keepAims 7 = .ok (.iconst 0, 1) := by decide +kernel
theorem dX0_keepAims_8 : decode cX0_keepAims 8 = .ok (.aload_n 0, 1) := by decide +kernel
theorem dX0_keepAims_9 : decode cX0_keepAims 9 = .ok (.getfield 11, 3) := by decide +kernel
theorem dX0_keepAims_12 : decode cX0_keepAims 12 = .ok (.iload_n 1, 1) := by decide +kernel
theorem dX0_keepAims_13 : decode cX0_keepAims 13 = .ok (.aaload, 1) := by decide +kernel
theorem dX0_keepAims_14 : decode cX0_keepAims 14 = .ok (.iconst 0, 1) := by decide +kernel
theorem dX0_keepAims_15 : decode cX0_keepAims 15 = .ok (.bipush 6, 2) := by decide +kernel
theorem dX0_keepAims_17 : decode cX0_keepAims 17 = .ok (.invokestatic 79, 3) := by decide +kernel
theorem dX0_keepAims_20 : decode cX0_keepAims 20 = .ok (.return_, 1) := by decide +kernel
theorem dX0_takeBack_0 : decode cX0_takeBack 0 = .ok (.aload_n 0, 1) := by decide +kernel
theorem dX0_takeBack_1 : decode cX0_takeBack 1 = .ok (.getfield 11, 3) := by decide +kernel
theorem dX0_takeBack_4 : decode cX0_takeBack 4 = .ok (.iload_n 1, 1) := by decide +kernel
theorem dX0_takeBack_5 : decode cX0_takeBack 5 = .ok (.aaload, 1) := by decide +kernel
theorem dX0_takeBack_6 : decode cX0_takeBack 6 = .ok (.iconst 0, 1) := by decide +kernel
theorem dX0_takeBack_7 : decode cX0_takeBack 7 = .ok (.aload_n 0, 1) := by decide +kernel
theorem dX0_takeBack_8 : decode cX0_takeBack 8 = .ok (.getfield 27, 3) := by decide +kernel
theorem dX0_takeBack_11 : decode cX0_takeBack 11 = .ok (.getfield 92, 3) := by decide +kernel
theorem dX0_takeBack_14 : decode cX0_takeBack 14 = .ok (.iconst 0, 1) := by decide +kernel
theorem dX0_takeBack_15 : decode cX0_takeBack 15 = .ok (.bipush 6, 2) := by decide +kernel
theorem dX0_takeBack_17 : decode cX0_takeBack 17 = .ok (.invokestatic 79, 3) := by decide +kernel
theorem dX0_takeBack_20 : decode cX0_takeBack 20 = .ok (.aload_n 0, 1) := by decide +kernel
theorem dX0_takeBack_21 : decode cX0_takeBack 21 = .ok (.getfield 27, 3) := by decide +kernel
theorem dX0_takeBack_24 : decode cX0_takeBack 24 = .ok (.dup, 1) := by decide +kernel
theorem dX0_takeBack_25 : decode cX0_takeBack 25 = .ok (.getfield 40, 3) := by decide +kernel
theorem dX0_takeBack_28 : decode cX0_takeBack 28 = .ok (.iconst 1, 1) := by decide +kernel
theorem dX0_takeBack_29 : decode cX0_takeBack 29 = .ok (.isub, 1) := by decide +kernel
theorem dX0_takeBack_30 : decode cX0_takeBack 30 = .ok (.putfield 40, 3) := by decide +kernel
theorem dX0_takeBack_33 : decode cX0_takeBack 33 = .ok (.return_, 1) := by decide +kernel
theorem dX1_init_0 : decode cX1_init 0 = .ok (.aload_n 0, 1) := by decide +kernel
theorem dX1_init_1 : decode cX1_init 1 = .ok (.invokespecial 3, 3) := by decide +kernel
theorem dX1_init_4 : decode cX1_init 4 = .ok (.aload_n 0, 1) := by decide +kernel
theorem dX1_init_5 : decode cX1_init 5 = .ok (.bipush 6, 2) := by decide +kernel
theorem dX1_init_7 : decode cX1_init 7 = .ok (.newarray .int, 2) := by decide +kernel
theorem dX1_init_9 : decode cX1_init 9 = .ok (.putfield 9, 3) := by decide +kernel
theorem dX1_init_12 : decode cX1_init 12 = .ok (.aload_n 0, 1) := by decide +kernel
theorem dX1_init_13 : decode cX1_init 13 = .ok (.bipush 6, 2) := by decide +kernel
theorem dX1_init_15 : decode cX1_init 15 = .ok (.newarray .int, 2) := by decide +kernel
theorem dX1_init_17 : decode cX1_init 17 = .ok (.putfield 15, 3) := by decide +kernel
theorem dX1_init_20 : decode cX1_init 20 = .ok (.aload_n 0, 1) := by decide +kernel
theorem dX1_init_21 : decode cX1_init 21 = .ok (.bipush 6, 2) := by decide +kernel
theorem dX1_init_23 : decode cX1_init 23 = .ok (.newarray .int, 2) := by decide +kernel
theorem dX1_init_25 : decode cX1_init 25 = .ok (.putfield 18, 3) := by decide +kernel
theorem dX1_init_28 : decode cX1_init 28 = .ok (.aload_n 0, 1) := by decide +kernel
theorem dX1_init_29 : decode cX1_init 29 = .ok (.bipush 6, 2) := by decide +kernel
theorem dX1_init_31 : decode cX1_init 31 = .ok (.newarray .int, 2) := by decide +kernel
theorem dX1_init_33 : decode cX1_init 33 = .ok (.putfield 21, 3) := by decide +kernel
theorem dX1_init_36 : decode cX1_init 36 = .ok (.return_, 1) := by decide +kernel
theorem dX1_copyFrom_0 : decode cX1_copyFrom 0 = .ok (.aload_n 1, 1) := by decide +kernel
theorem dX1_copyFrom_1 : decode cX1_copyFrom 1 = .ok (.getfield 9, 3) := by decide +kernel
theorem dX1_copyFrom_4 : decode cX1_copyFrom 4 = .ok (.iconst 0, 1) := by decide +kernel
theorem dX1_copyFrom_5 : decode cX1_copyFrom 5 = .ok (.aload_n 0, 1) := by decide +kernel
theorem dX1_copyFrom_6 : decode cX1_copyFrom 6 = .ok (.getfield 9, 3) := by decide +kernel
theorem dX1_copyFrom_9 : decode cX1_copyFrom 9 = .ok (.iconst 0, 1) := by decide +kernel
theorem dX1_copyFrom_10 : decode cX1_copyFrom 10 = .ok (.bipush 6, 2) := by decide +kernel
theorem dX1_copyFrom_12 : decode cX1_copyFrom 12 = .ok (.invokestatic 24, 3) := by decide +kernel
theorem dX1_copyFrom_15 : decode cX1_copyFrom 15 = .ok (.aload_n 1, 1) := by decide +kernel
theorem dX1_copyFrom_16 : decode cX1_copyFrom 16 = .ok (.getfield 15, 3) := by decide +kernel
theorem dX1_copyFrom_19 : decode cX1_copyFrom 19 = .ok (.iconst 0, 1) := by decide +kernel
theorem dX1_copyFrom_20 : decode cX1_copyFrom 20 = .ok (.aload_n 0, 1) := by decide +kernel
theorem dX1_copyFrom_21 : decode cX1_copyFrom 21 = .ok (.getfield 15, 3) := by decide +kernel
theorem dX1_copyFrom_24 : decode cX1_copyFrom 24 = .ok (.iconst 0, 1) := by decide +kernel
theorem dX1_copyFrom_25 : decode cX1_copyFrom 25 = .ok (.bipush 6, 2) := by decide +kernel
theorem dX1_copyFrom_27 : decode cX1_copyFrom 27 = .ok (.invokestatic 24, 3) := by decide +kernel
theorem dX1_copyFrom_30 : decode cX1_copyFrom 30 = .ok (.aload_n 1, 1) := by decide +kernel
theorem dX1_copyFrom_31 : decode cX1_copyFrom 31 = .ok (.getfield 18, 3) := by decide +kernel
theorem dX1_copyFrom_34 : decode cX1_copyFrom 34 = .ok (.iconst 0, 1) := by decide +kernel
theorem dX1_copyFrom_35 : decode cX1_copyFrom 35 = .ok (.aload_n 0, 1) := by decide +kernel
theorem dX1_copyFrom_36 : decode cX1_copyFrom 36 = .ok (.getfield 18, 3) := by decide +kernel
theorem dX1_copyFrom_39 : decode cX1_copyFrom 39 = .ok (.iconst 0, 1) := by decide +kernel
theorem dX1_copyFrom_40 : decode cX1_copyFrom 40 = .ok (.bipush 6, 2) := by decide +kernel
theorem dX1_copyFrom_42 : decode cX1_copyFrom 42 = .ok (.invokestatic 24, 3) := by decide +kernel
theorem dX1_copyFrom_45 : decode cX1_copyFrom 45 = .ok (.aload_n 1, 1) := by decide +kernel
theorem dX1_copyFrom_46 : decode cX1_copyFrom 46 = .ok (.getfield 21, 3) := by decide +kernel
theorem dX1_copyFrom_49 : decode cX1_copyFrom 49 = .ok (.iconst 0, 1) := by decide +kernel
theorem dX1_copyFrom_50 : decode cX1_copyFrom 50 = .ok (.aload_n 0, 1) := by decide +kernel
theorem dX1_copyFrom_51 : decode cX1_copyFrom 51 = .ok (.getfield 21, 3) := by decide +kernel
theorem dX1_copyFrom_54 : decode cX1_copyFrom 54 = .ok (.iconst 0, 1) := by decide +kernel
theorem dX1_copyFrom_55 : decode cX1_copyFrom 55 = .ok (.bipush 6, 2) := by decide +kernel
theorem dX1_copyFrom_57 : decode cX1_copyFrom 57 = .ok (.invokestatic 24, 3) := by decide +kernel
theorem dX1_copyFrom_60 : decode cX1_copyFrom 60 = .ok (.aload_n 0, 1) := by decide +kernel
theorem dX1_copyFrom_61 : decode cX1_copyFrom 61 = .ok (.aload_n 1, 1) := by decide +kernel
theorem dX1_copyFrom_62 : decode cX1_copyFrom 62 = .ok (.getfield 30, 3) := by decide +kernel
theorem dX1_copyFrom_65 : decode cX1_copyFrom 65 = .ok (.putfield 30, 3) := by decide +kernel
theorem dX1_copyFrom_68 : decode cX1_copyFrom 68 = .ok (.return_, 1) := by decide +kernel
theorem dX1_addReport_0 : decode cX1_addReport 0 = .ok (.aload_n 0, 1) := by decide +kernel
theorem dX1_addReport_1 : decode cX1_addReport 1 = .ok (.getfield 30, 3) := by decide +kernel
theorem dX1_addReport_4 : decode cX1_addReport 4 = .ok (.istore 5, 2) := by decide +kernel
theorem dX1_addReport_6 : decode cX1_addReport 6 = .ok (.iload 5, 2) := by decide +kernel
theorem dX1_addReport_8 : decode cX1_addReport 8 = .ok (.bipush 6, 2) := by decide +kernel
theorem dX1_addReport_10 : decode cX1_addReport 10 = .ok (.if_icmp .lt 6, 3) := by decide +kernel
theorem dX1_addReport_13 : decode cX1_addReport 13 = .ok (.bipush (-2), 2) := by decide +kernel
theorem dX1_addReport_15 : decode cX1_addReport 15 = .ok (.ireturn, 1) := by decide +kernel
theorem dX1_addReport_16 : decode cX1_addReport 16 = .ok (.aload_n 0, 1) := by decide +kernel
theorem dX1_addReport_17 : decode cX1_addReport 17 = .ok (.getfield 9, 3) := by decide +kernel
theorem dX1_addReport_20 : decode cX1_addReport 20 = .ok (.iload 5, 2) := by decide +kernel
theorem dX1_addReport_22 : decode cX1_addReport 22 = .ok (.iload_n 1, 1) := by decide +kernel
theorem dX1_addReport_23 : decode cX1_addReport 23 = .ok (.iastore, 1) := by decide +kernel
theorem dX1_addReport_24 : decode cX1_addReport 24 = .ok (.aload_n 0, 1) := by decide +kernel
theorem dX1_addReport_25 : decode cX1_addReport 25 = .ok (.getfield 15, 3) := by decide +kernel
theorem dX1_addReport_28 : decode cX1_addReport 28 = .ok (.iload 5, 2) := by decide +kernel
theorem dX1_addReport_30 : decode cX1_addReport 30 = .ok (.iload_n 2, 1) := by decide +kernel
theorem dX1_addReport_31 : decode cX1_addReport 31 = .ok (.iastore, 1) := by decide +kernel
theorem dX1_addReport_32 : decode cX1_addReport 32 = .ok (.aload_n 0, 1) := by decide +kernel
theorem dX1_addReport_33 : decode cX1_addReport 33 = .ok (.getfield 18, 3) := by decide +kernel
theorem dX1_addReport_36 : decode cX1_addReport 36 = .ok (.iload 5, 2) := by decide +kernel
theorem dX1_addReport_38 : decode cX1_addReport 38 = .ok (.iload_n 3, 1) := by decide +kernel
theorem dX1_addReport_39 : decode cX1_addReport 39 = .ok (.iastore, 1) := by decide +kernel
theorem dX1_addReport_40 : decode cX1_addReport 40 = .ok (.aload_n 0, 1) := by decide +kernel
theorem dX1_addReport_41 : decode cX1_addReport 41 = .ok (.getfield 21, 3) := by decide +kernel
theorem dX1_addReport_44 : decode cX1_addReport 44 = .ok (.iload 5, 2) := by decide +kernel
theorem dX1_addReport_46 : decode cX1_addReport 46 = .ok (.iload 4, 2) := by decide +kernel
theorem dX1_addReport_48 : decode cX1_addReport 48 = .ok (.iastore, 1) := by decide +kernel
theorem dX1_addReport_49 : decode cX1_addReport 49 = .ok (.aload_n 0, 1) := by decide +kernel
theorem dX1_addReport_50 : decode cX1_addReport 50 = .ok (.iload 5, 2) := by decide +kernel
theorem dX1_addReport_52 : decode cX1_addReport 52 = .ok (.iconst 1, 1) := by decide +kernel
theorem dX1_addReport_53 : decode cX1_addReport 53 = .ok (.iadd, 1) := by decide +kernel
theorem dX1_addReport_54 : decode cX1_addReport 54 = .ok (.putfield 30, 3) := by decide +kernel
theorem dX1_addReport_57 : decode cX1_addReport 57 = .ok (.iload 5, 2) := by decide +kernel
theorem dX1_addReport_59 : decode cX1_addReport 59 = .ok (.ireturn, 1) := by decide +kernel
theorem dX1_countWalks_0 : decode cX1_countWalks 0 = .ok (.iconst 0, 1) := by decide +kernel
theorem dX1_countWalks_1 : decode cX1_countWalks 1 = .ok (.istore_n 2, 1) := by decide +kernel
theorem dX1_countWalks_2 : decode cX1_countWalks 2 = .ok (.iconst 0, 1) := by decide +kernel
theorem dX1_countWalks_3 : decode cX1_countWalks 3 = .ok (.istore_n 3, 1) := by decide +kernel
theorem dX1_countWalks_4 : decode cX1_countWalks 4 = .ok (.iload_n 3, 1) := by decide +kernel
theorem dX1_countWalks_5 : decode cX1_countWalks 5 = .ok (.bipush 40, 2) := by decide +kernel
theorem dX1_countWalks_7 : decode cX1_countWalks 7 = .ok (.if_icmp .gt 54, 3) := by decide +kernel
theorem dX1_countWalks_10 : decode cX1_countWalks 10 = .ok (.bipush (-2), 2) := by decide +kernel
theorem dX1_countWalks_12 : decode cX1_countWalks 12 = .ok (.istore 4, 2) := by decide +kernel
theorem dX1_countWalks_14 : decode cX1_countWalks 14 = .ok (.iload 4, 2) := by decide +kernel
theorem dX1_countWalks_16 : decode cX1_countWalks 16 = .ok (.iconst 2, 1) := by decide +kernel
theorem dX1_countWalks_17 : decode cX1_countWalks 17 = .ok (.if_icmp .gt 38, 3) := by decide +kernel
theorem dX1_countWalks_20 : decode cX1_countWalks 20 = .ok (.aload_n 0, 1) := by decide +kernel
theorem dX1_countWalks_21 : decode cX1_countWalks 21 = .ok (.iload_n 3, 1) := by decide +kernel
theorem dX1_countWalks_22 : decode cX1_countWalks 22 = .ok (.iload 4, 2) := by decide +kernel
theorem dX1_countWalks_24 : decode cX1_countWalks 24 = .ok (.iload_n 1, 1) := by decide +kernel
theorem dX1_countWalks_25 : decode cX1_countWalks 25 = .ok (.invokevirtual 34, 3) := by decide +kernel
theorem dX1_countWalks_28 : decode cX1_countWalks 28 = .ok (.ifCond .eq 21, 3) := by decide +kernel
theorem dX1_countWalks_31 : decode cX1_countWalks 31 = .ok (.iload_n 2, 1) := by decide +kernel
theorem dX1_countWalks_32 : decode cX1_countWalks 32 = .ok (.ifCond .ne 14, 3) := by decide +kernel
theorem dX1_countWalks_35 : decode cX1_countWalks 35 = .ok (.aload_n 0, 1) := by decide +kernel
theorem dX1_countWalks_36 : decode cX1_countWalks 36 = .ok (.iload_n 3, 1) := by decide +kernel
theorem dX1_countWalks_37 : decode cX1_countWalks 37 = .ok (.putfield 38, 3) := by decide +kernel
theorem dX1_countWalks_40 : decode cX1_countWalks 40 = .ok (.aload_n 0, 1) := by decide +kernel
theorem dX1_countWalks_41 : decode cX1_countWalks 41 = .ok (.iload 4, 2) := by decide +kernel
theorem dX1_countWalks_43 : decode cX1_countWalks 43 = .ok (.putfield 41, 3) := by decide +kernel
theorem dX1_countWalks_46 : decode cX1_countWalks 46 = .ok (.iinc 2 1, 3) := by decide +kernel
theorem dX1_countWalks_49 : decode cX1_countWalks 49 = .ok (.iinc 4 1, 3) := by decide +kernel
theorem dX1_countWalks_52 : decode cX1_countWalks 52 = .ok (.goto (-38), 3) := by decide +kernel
theorem dX1_countWalks_55 : decode cX1_countWalks 55 = .ok (.iinc 3 1, 3) := by decide +kernel
theorem dX1_countWalks_58 : decode cX1_countWalks 58 = .ok (.goto (-54), 3) := by decide +kernel
theorem dX1_countWalks_61 : decode cX1_countWalks 61 = .ok (.iload_n 2, 1) := by decide +kernel
theorem dX1_countWalks_62 : decode cX1_countWalks 62 = .ok (.ireturn, 1) := by decide +kernel
theorem dX1_fitsAll_0 : decode cX1_fitsAll 0 = .ok (.iconst 0, 1) := by decide +kernel
theorem dX1_fitsAll_1 : decode cX1_fitsAll 1 = .ok (.istore 4, 2) := by decide +kernel
theorem dX1_fitsAll_3 : decode cX1_fitsAll 3 = .ok (.iload 4, 2) := by decide +kernel
theorem dX1_fitsAll_5 : decode cX1_fitsAll 5 = .ok (.aload_n 0, 1) := by decide +kernel
theorem dX1_fitsAll_6 : decode cX1_fitsAll 6 = .ok (.getfield 30, 3) := by decide +kernel
theorem dX1_fitsAll_9 : decode cX1_fitsAll 9 = .ok (.if_icmp .ge 65, 3) := by decide +kernel
theorem dX1_fitsAll_12 : decode cX1_fitsAll 12 = .ok (.iload_n 1, 1) := by decide +kernel
theorem dX1_fitsAll_13 : decode cX1_fitsAll 13 = .ok (.aload_n 0, 1) := by decide +kernel
theorem dX1_fitsAll_14 : decode cX1_fitsAll 14 = .ok (.getfield 9, 3) := by decide +kernel
theorem dX1_fitsAll_17 : decode cX1_fitsAll 17 = .ok (.iload 4, 2) := by decide +kernel
theorem dX1_fitsAll_19 : decode cX1_fitsAll 19 = .ok (.iaload, 1) := by decide +kernel
theorem dX1_fitsAll_20 : decode cX1_fitsAll 20 = .ok (.iload_n 2, 1) := by decide +kernel
theorem dX1_fitsAll_21 : decode cX1_fitsAll 21 = .ok (.imul, 1) := by decide +kernel
theorem dX1_fitsAll_22 : decode cX1_fitsAll 22 = .ok (.iadd, 1) := by decide +kernel
theorem dX1_fitsAll_23 : decode cX1_fitsAll 23 = .ok (.iconst 0, 1) := by decide +kernel
theorem dX1_fitsAll_24 : decode cX1_fitsAll 24 = .ok (.bipush 40, 2) := by decide +kernel
theorem dX1_fitsAll_26 : decode cX1_fitsAll 26 = .ok (.invokestatic 44, 3) := by decide +kernel
theorem dX1_fitsAll_29 : decode cX1_fitsAll 29 = .ok (.istore 5, 2) := by decide +kernel
theorem dX1_fitsAll_31 : decode cX1_fitsAll 31 = .ok (.iload 4, 2) := by decide +kernel
theorem dX1_fitsAll_33 : decode cX1_fitsAll 33 = .ok (.iload_n 3, 1) := by decide +kernel
theorem dX1_fitsAll_34 : decode cX1_fitsAll 34 = .ok (.if_icmp .eq 34, 3) := by decide +kernel
theorem dX1_fitsAll_37 : decode cX1_fitsAll 37 = .ok (.aload_n 0, 1) := by decide +kernel
theorem dX1_fitsAll_38 : decode cX1_fitsAll 38 = .ok (.getfield 15, 3) := by decide +kernel
theorem dX1_fitsAll_41 : decode cX1_fitsAll 41 = .ok (.iload 4, 2) := by decide +kernel
theorem dX1_fitsAll_43 : decode cX1_fitsAll 43 = .ok (.iaload, 1) := by decide +kernel
theorem dX1_fitsAll_44 : decode cX1_fitsAll 44 = .ok (.aload_n 0, 1) := by decide +kernel
theorem dX1_fitsAll_45 : decode cX1_fitsAll 45 = .ok (.getfield 18, 3) := by decide +kernel
theorem dX1_fitsAll_48 : decode cX1_fitsAll 48 = .ok (.iload 4, 2) := by decide +kernel
theorem dX1_fitsAll_50 : decode cX1_fitsAll 50 = .ok (.iaload, 1) := by decide +kernel
theorem dX1_fitsAll_51 : decode cX1_fitsAll 51 = .ok (.iload 5, 2) := by decide +kernel
theorem dX1_fitsAll_53 : decode cX1_fitsAll 53 = .ok (.invokestatic 50, 3) := by decide +kernel
theorem dX1_fitsAll_56 : decode cX1_fitsAll 56 = .ok (.aload_n 0, 1) := by decide +kernel
theorem dX1_fitsAll_57 : decode cX1_fitsAll 57 = .ok (.getfield 21, 3) := by decide +kernel
theorem dX1_fitsAll_60 : decode cX1_fitsAll 60 = .ok (.iload 4, 2) := by decide +kernel
theorem dX1_fitsAll_62 : decode cX1_fitsAll 62 = .ok (.iaload, 1) := by decide +kernel
theorem dX1_fitsAll_63 : decode cX1_fitsAll 63 = .ok (.if_icmp .eq 5, 3) := by decide +kernel
theorem dX1_fitsAll_66 : decode cX1_fitsAll 66 = .ok (.iconst 0, 1) := by decide +kernel
theorem dX1_fitsAll_67 : decode cX1_fitsAll 67 = .ok (.ireturn, 1) := by decide +kernel
theorem dX1_fitsAll_68 : decode cX1_fitsAll 68 = .ok (.iinc 4 1, 3) := by decide +kernel
theorem dX1_fitsAll_71 : decode cX1_fitsAll 71 = .ok (.goto (-68), 3) := by decide +kernel
theorem dX1_fitsAll_74 : decode cX1_fitsAll 74 = .ok (.iconst 1, 1) := by decide +kernel
theorem dX1_fitsAll_75 : decode cX1_fitsAll 75 = .ok (.ireturn, 1) := by decide +kernel
theorem dX1_leastLiar_0 : decode cX1_leastLiar 0 = .ok (.aload_n 0, 1) := by decide +kernel
theorem dX1_leastLiar_1 : decode cX1_leastLiar 1 = .ok (.bipush (-3), 2) := by decide +kernel
theorem dX1_leastLiar_3 : decode cX1_leastLiar 3 = .ok (.invokevirtual 53, 3) := by decide +kernel
theorem dX1_leastLiar_6 : decode cX1_leastLiar 6 = .ok (.ifCond .le 6, 3) := by decide +kernel
theorem dX1_leastLiar_9 : decode cX1_leastLiar 9 = .ok (.bipush (-3), 2) := by decide +kernel
theorem dX1_leastLiar_11 : decode cX1_leastLiar 11 = .ok (.ireturn, 1) := by decide +kernel
theorem dX1_leastLiar_12 : decode cX1_leastLiar 12 = .ok (.iconst 0, 1) := by decide +kernel
theorem dX1_leastLiar_13 : decode cX1_leastLiar 13 = .ok (.istore_n 1, 1) := by decide +kernel
theorem dX1_leastLiar_14 : decode cX1_leastLiar 14 = .ok (.iload_n 1, 1) := by decide +kernel
theorem dX1_leastLiar_15 : decode cX1_leastLiar 15 = .ok (.aload_n 0, 1) := by decide +kernel
theorem dX1_leastLiar_16 : decode cX1_leastLiar 16 = .ok (.getfield 30, 3) := by decide +kernel
theorem dX1_leastLiar_19 : decode cX1_leastLiar 19 = .ok (.if_icmp .ge 19, 3) := by decide +kernel
theorem dX1_leastLiar_22 : decode cX1_leastLiar 22 = .ok (.aload_n 0, 1) := by decide +kernel
theorem dX1_leastLiar_23 : decode cX1_leastLiar 23 = .ok (.iload_n 1, 1) := by decide +kernel
theorem dX1_leastLiar_24 : decode cX1_leastLiar 24 = .ok (.invokevirtual 53, 3) := by decide +kernel
theorem dX1_leastLiar_27 : decode cX1_leastLiar 27 = .ok (.ifCond .le 5, 3) := by decide +kernel
theorem dX1_leastLiar_30 : decode cX1_leastLiar 30 = .ok (.iload_n 1, 1) := by decide +kernel
theorem dX1_leastLiar_31 : decode cX1_leastLiar 31 = .ok (.ireturn, 1) := by decide +kernel
theorem dX1_leastLiar_32 : decode cX1_leastLiar 32 = .ok (.iinc 1 1, 3) := by decide +kernel
theorem dX1_leastLiar_35 : decode cX1_leastLiar 35 = .ok (.goto (-21), 3) := by decide +kernel
theorem dX1_leastLiar_38 : decode cX1_leastLiar 38 = .ok (.bipush (-3), 2) := by decide +kernel
theorem dX1_leastLiar_40 : decode cX1_leastLiar 40 = .ok (.ireturn, 1) := by decide +kernel
theorem dX2_init_0 : decode cX2_init 0 = .ok (.aload_n 0, 1) := by decide +kernel
theorem dX2_init_1 : decode cX2_init 1 = .ok (.invokespecial 3, 3) := by decide +kernel
theorem dX2_init_4 : decode cX2_init 4 = .ok (.aload_n 0, 1) := by decide +kernel
theorem dX2_init_5 : decode cX2_init 5 = .ok (.bipush 16, 2) := by decide +kernel
theorem dX2_init_7 : decode cX2_init 7 = .ok (.newarray .int, 2) := by decide +kernel
theorem dX2_init_9 : decode cX2_init 9 = .ok (.putfield 9, 3) := by decide +kernel
theorem dX2_init_12 : decode cX2_init 12 = .ok (.aload_n 0, 1) := by decide +kernel
theorem dX2_init_13 : decode cX2_init 13 = .ok (.aload_n 1, 1) := by decide +kernel
theorem dX2_init_14 : decode cX2_init 14 = .ok (.putfield 15, 3) := by decide +kernel
theorem dX2_init_17 : decode cX2_init 17 = .ok (.aload_n 0, 1) := by decide +kernel
theorem dX2_init_18 : decode cX2_init 18 = .ok (.aload_n 2, 1) := by decide +kernel
theorem dX2_init_19 : decode cX2_init 19 = .ok (.putfield 19, 3) := by decide +kernel
theorem dX2_init_22 : decode cX2_init 22 = .ok (.return_, 1) := by decide +kernel
theorem dX2_worthOfBeats_0 : decode cX2_worthOfBeats 0 = .ok (.aload_n 0, 1) := by decide +kernel
theorem dX2_worthOfBeats_1 : decode cX2_worthOfBeats 1 = .ok (.getfield 19, 3) := by decide +kernel
theorem dX2_worthOfBeats_4 : decode cX2_worthOfBeats 4 = .ok (.aload_n 0, 1) := by decide +kernel
theorem dX2_worthOfBeats_5 : decode cX2_worthOfBeats 5 = .ok (.getfield 15, 3) := by decide +kernel
theorem dX2_worthOfBeats_8 : decode cX2_worthOfBeats 8 = .ok (.invokevirtual 22, 3) := by decide +kernel
theorem dX2_worthOfBeats_11 : decode cX2_worthOfBeats 11 = .ok (.iconst 0, 1) := by decide +kernel
theorem dX2_worthOfBeats_12 : decode cX2_worthOfBeats 12 = .ok (.istore_n 2, 1) := by decide +kernel
theorem dX2_worthOfBeats_13 : decode cX2_worthOfBeats 13 = .ok (.iconst 0, 1) := by decide +kernel
theorem dX2_worthOfBeats_14 : decode cX2_worthOfBeats 14 = .ok (.istore_n 3, 1) := by decide +kernel
theorem dX2_worthOfBeats_15 : decode cX2_worthOfBeats 15 = .ok (.iload_n 3, 1) := by decide +kernel
theorem dX2_worthOfBeats_16 : decode cX2_worthOfBeats 16 = .ok (.iload_n 1, 1) := by decide +kernel
theorem dX2_worthOfBeats_17 : decode cX2_worthOfBeats 17 = .ok (.if_icmp .ge 30, 3) := by decide +kernel
theorem dX2_worthOfBeats_20 : decode cX2_worthOfBeats 20 = .ok (.aload_n 0, 1) := by decide +kernel
theorem dX2_worthOfBeats_21 : decode cX2_worthOfBeats 21 = .ok (.getfield 19, 3) := by decide +kernel
theorem dX2_worthOfBeats_24 : decode cX2_worthOfBeats 24 = .ok (.invokevirtual 28, 3) := by decide +kernel
theorem dX2_worthOfBeats_27 : decode cX2_worthOfBeats 27 = .ok (.ifCond .ne 20, 3) := by decide +kernel
theorem dX2_worthOfBeats_30 : decode cX2_worthOfBeats 30 = .ok (.iload_n 2, 1) := by decide +kernel
theorem dX2_worthOfBeats_31 : decode cX2_worthOfBeats 31 = .ok (.aload_n 0, 1) := by decide +kernel
theorem dX2_worthOfBeats_32 : decode cX2_worthOfBeats 32 = .ok (.getfield 19, 3) := by decide +kernel
theorem dX2_worthOfBeats_35 : decode cX2_worthOfBeats 35 = .ok (.iconst (-1), 1) := by decide +kernel
theorem dX2_worthOfBeats_36 : decode cX2_worthOfBeats 36 = .ok (.invokevirtual 32, 3) := by decide +kernel
theorem dX2_worthOfBeats_39 : decode cX2_worthOfBeats 39 = .ok (.iadd, 1) := by decide +kernel
theorem dX2_worthOfBeats_40 : decode cX2_worthOfBeats 40 = .ok (.istore_n 2, 1) := by decide +kernel
theorem dX2_worthOfBeats_41 : decode cX2_worthOfBeats 41 = .ok (.iinc 3 1, 3) := by decide +kernel
theorem dX2_worthOfBeats_44 : decode cX2_worthOfBeats 44 = .ok (.goto (-29), 3) := by decide +kernel
theorem dX2_worthOfBeats_47 : decode cX2_worthOfBeats 47 = .ok (.iload_n 2, 1) := by decide +kernel
theorem dX2_worthOfBeats_48 : decode cX2_worthOfBeats 48 = .ok (.ireturn, 1) := by decide +kernel
theorem dX2_worthWith_0 : decode cX2_worthWith 0 = .ok (.aload_n 0, 1) := by decide +kernel
theorem dX2_worthWith_1 : decode cX2_worthWith 1 = .ok (.getfield 19, 3) := by decide +kernel
theorem dX2_worthWith_4 : decode cX2_worthWith 4 = .ok (.aload_n 0, 1) := by decide +kernel
theorem dX2_worthWith_5 : decode cX2_worthWith 5 = .ok (.getfield 15, 3) := by decide +kernel
theorem dX2_worthWith_8 : decode cX2_worthWith 8 = .ok (.invokevirtual 22, 3) := by decide +kernel
theorem dX2_worthWith_11 : decode cX2_worthWith 11 = .ok (.aload_n 0, 1) := by decide +kernel
theorem dX2_worthWith_12 : decode cX2_worthWith 12 = .ok (.getfield 19, 3) := by decide +kernel
theorem dX2_worthWith_15 : decode cX2_worthWith 15 = .ok (.iload_n 1, 1) := by decide +kernel
theorem dX2_worthWith_16 : decode cX2_worthWith 16 = .ok (.iload_n 2, 1) := by decide +kernel
theorem dX2_worthWith_17 : decode cX2_worthWith 17 = .ok (.iload_n 3, 1) := by decide +kernel
theorem dX2_worthWith_18 : decode cX2_worthWith 18 = .ok (.invokevirtual 36, 3) := by decide +kernel
theorem dX2_worthWith_21 : decode cX2_worthWith 21 = .ok (.pop, 1) := by decide +kernel
theorem dX2_worthWith_22 : decode cX2_worthWith 22 = .ok (.iconst 0, 1) := by decide +kernel
theorem dX2_worthWith_23 : decode cX2_worthWith 23 = .ok (.istore 4, 2) := by decide +kernel
theorem dX2_worthWith_25 : decode cX2_worthWith 25 = .ok (.aload_n 0, 1) := by decide +kernel
theorem dX2_worthWith_26 : decode cX2_worthWith 26 = .ok (.getfield 15, 3) := by decide +kernel
theorem dX2_worthWith_29 : decode cX2_worthWith 29 = .ok (.getfield 40, 3) := by decide +kernel
theorem dX2_worthWith_32 : decode cX2_worthWith 32 = .ok (.istore 5, 2) := by decide +kernel
theorem dX2_worthWith_34 : decode cX2_worthWith 34 = .ok (.iload 5, 2) := by decide +kernel
theorem dX2_worthWith_36 : decode cX2_worthWith 36 = .ok (.aload_n 0, 1) := by decide +kernel
theorem dX2_worthWith_37 : decode cX2_worthWith 37 = .ok (.getfield 15, 3) := by decide +kernel
theorem dX2_worthWith_40 : decode cX2_worthWith 40 = .ok (.getfield 44, 3) := by decide +kernel
theorem dX2_worthWith_43 : decode cX2_worthWith 43 = .ok (.if_icmp .ge 31, 3) := by decide +kernel
theorem dX2_worthWith_46 : decode cX2_worthWith 46 = .ok (.aload_n 0, 1) := by decide +kernel
theorem dX2_worthWith_47 : decode cX2_worthWith 47 = .ok (.getfield 19, 3) := by decide +kernel
theorem dX2_worthWith_50 : decode cX2_worthWith 50 = .ok (.iconst (-1), 1) := by decide +kernel
theorem dX2_worthWith_51 : decode cX2_worthWith 51 = .ok (.invokevirtual 32, 3) := by decide +kernel
theorem dX2_worthWith_54 : decode cX2_worthWith 54 = .ok (.pop, 1) := by decide +kernel
theorem dX2_worthWith_55 : decode cX2_worthWith 55 = .ok (.iload 4, 2) := by decide +kernel
theorem dX2_worthWith_57 : decode cX2_worthWith 57 = .ok (.aload_n 0, 1) := by decide +kernel
theorem dX2_worthWith_58 : decode cX2_worthWith 58 = .ok (.getfield 19, 3) := by decide +kernel
theorem dX2_worthWith_61 : decode cX2_worthWith 61 = .ok (.iload_n 1, 1) := by decide +kernel
theorem dX2_worthWith_62 : decode cX2_worthWith 62 = .ok (.invokevirtual 47, 3) := by decide +kernel
theorem dX2_worthWith_65 : decode cX2_worthWith 65 = .ok (.iadd, 1) := by decide +kernel
theorem dX2_worthWith_66 : decode cX2_worthWith 66 = .ok (.istore 4, 2) := by decide +kernel
theorem dX2_worthWith_68 : decode cX2_worthWith 68 = .ok (.iinc 5 1, 3) := by decide +kernel
theorem dX2_worthWith_71 : decode cX2_worthWith 71 = .ok (.goto (-37), 3) := by decide +kernel
theorem dX2_worthWith_74 : decode cX2_worthWith 74 = .ok (.iload 4, 2) := by decide +kernel
theorem dX2_worthWith_76 : decode cX2_worthWith 76 = .ok (.ireturn, 1) := by decide +kernel
theorem dX2_worthiest_0 : decode cX2_worthiest 0 = .ok (.iconst (-1), 1) := by decide +kernel
theorem dX2_worthiest_1 : decode cX2_worthiest 1 = .ok (.istore 4, 2) := by decide +kernel
theorem dX2_worthiest_3 : decode cX2_worthiest 3 = .ok (.iconst 0, 1) := by decide +kernel
theorem dX2_worthiest_4 : decode cX2_worthiest 4 = .ok (.istore 5, 2) := by decide +kernel
theorem dX2_worthiest_6 : decode cX2_worthiest 6 = .ok (.iconst 0, 1) := by decide +kernel
theorem dX2_worthiest_7 : decode cX2_worthiest 7 = .ok (.istore 6, 2) := by decide +kernel
theorem dX2_worthiest_9 : decode cX2_worthiest 9 = .ok (.iload 6, 2) := by decide +kernel
theorem dX2_worthiest_11 : decode cX2_worthiest 11 = .ok (.iload_n 3, 1) := by decide +kernel
theorem dX2_worthiest_12 : decode cX2_worthiest 12 = .ok (.if_icmp .gt 34, 3) := by decide +kernel
theorem dX2_worthiest_15 : decode cX2_worthiest 15 = .ok (.aload_n 0, 1) := by decide +kernel
theorem dX2_worthiest_16 : decode cX2_worthiest 16 = .ok (.iload_n 1, 1) := by decide +kernel
theorem dX2_worthiest_17 : decode cX2_worthiest 17 = .ok (.iload_n 2, 1) := by decide +kernel
theorem dX2_worthiest_18 : decode cX2_worthiest 18 = .ok (.iload 6, 2) := by decide +kernel
theorem dX2_worthiest_20 : decode cX2_worthiest 20 = .ok (.invokevirtual 50, 3) := by decide +kernel
theorem dX2_worthiest_23 : decode cX2_worthiest 23 = .ok (.istore 7, 2) := by decide +kernel
theorem dX2_worthiest_25 : decode cX2_worthiest 25 = .ok (.iload 7, 2) := by decide +kernel
theorem dX2_worthiest_27 : decode cX2_worthiest 27 = .ok (.iload 4, 2) := by decide +kernel
theorem dX2_worthiest_29 : decode cX2_worthiest 29 = .ok (.if_icmp .le 11, 3) := by decide +kernel
theorem dX2_worthiest_32 : decode cX2_worthiest 32 = .ok (.iload 7, 2) := by decide +kernel
theorem dX2_worthiest_34 : decode cX2_worthiest 34 = .ok (.istore 4, 2) := by decide +kernel
theorem dX2_worthiest_36 : decode cX2_worthiest 36 = .ok (.iload 6, 2) := by decide +kernel
theorem dX2_worthiest_38 : decode cX2_worthiest 38 = .ok (.istore 5, 2) := by decide +kernel
theorem dX2_worthiest_40 : decode cX2_worthiest 40 = .ok (.iinc 6 1, 3) := by decide +kernel
theorem dX2_worthiest_43 : decode cX2_worthiest 43 = .ok (.goto (-34), 3) := by decide +kernel
theorem dX2_worthiest_46 : decode cX2_worthiest 46 = .ok (.iload 5, 2) := by decide +kernel
theorem dX2_worthiest_48 : decode cX2_worthiest 48 = .ok (.ireturn, 1) := by decide +kernel
theorem dX2_firstOutWith_0 : decode cX2_firstOutWith 0 = .ok (.aload_n 0, 1) := by decide +kernel
theorem dX2_firstOutWith_1 : decode cX2_firstOutWith 1 = .ok (.getfield 19, 3) := by decide +kernel
theorem dX2_firstOutWith_4 : decode cX2_firstOutWith 4 = .ok (.aload_n 0, 1) := by decide +kernel
theorem dX2_firstOutWith_5 : decode cX2_firstOutWith 5 = .ok (.getfield 15, 3) := by decide +kernel
theorem dX2_firstOutWith_8 : decode cX2_firstOutWith 8 = .ok (.invokevirtual 22, 3) := by decide +kernel
theorem dX2_firstOutWith_11 : decode cX2_firstOutWith 11 = .ok (.aload_n 0, 1) := by decide +kernel
theorem dX2_firstOutWith_12 : decode cX2_firstOutWith 12 = .ok (.getfield 19, 3) := by decide +kernel
theorem dX2_firstOutWith_15 : decode cX2_firstOutWith 15 = .ok (.iload_n 1, 1) := by decide +kernel
theorem dX2_firstOutWith_16 : decode cX2_firstOutWith 16 = .ok (.iconst 3, 1) := by decide +kernel
theorem dX2_firstOutWith_17 : decode cX2_firstOutWith 17 = .ok (.iload_n 2, 1) := by decide +kernel
theorem dX2_firstOutWith_18 : decode cX2_firstOutWith 18 = .ok (.invokevirtual 36, 3) := by decide +kernel
theorem dX2_firstOutWith_21 : decode cX2_firstOutWith 21 = .ok (.pop, 1) := by decide +kernel
theorem dX2_firstOutWith_22 : decode cX2_firstOutWith 22 = .ok (.aload_n 0, 1) := by decide +kernel
theorem dX2_firstOutWith_23 : decode cX2_firstOutWith 23 = .ok (.getfield 15, 3) := by decide +kernel
theorem dX2_firstOutWith_26 : decode cX2_firstOutWith 26 = .ok (.getfield 40, 3) := by decide +kernel
theorem dX2_firstOutWith_29 : decode cX2_firstOutWith 29 = .ok (.istore_n 3, 1) := by decide +kernel
theorem dX2_firstOutWith_30 : decode cX2_firstOutWith 30 = .ok (.iload_n 3, 1) := by decide +kernel
theorem dX2_firstOutWith_31 : decode cX2_firstOutWith 31 = .ok (.aload_n 0, 1) := by decide +kernel
theorem dX2_firstOutWith_32 : decode cX2_firstOutWith 32 = .ok (.getfield 15, 3) := by decide +kernel
theorem dX2_firstOutWith_35 : decode cX2_firstOutWith 35 = .ok (.getfield 44, 3) := by decide +kernel
theorem dX2_firstOutWith_38 : decode cX2_firstOutWith 38 = .ok (.if_icmp .ge 31, 3) := by decide +kernel
theorem dX2_firstOutWith_41 : decode cX2_firstOutWith 41 = .ok (.aload_n 0, 1) := by decide +kernel
theorem dX2_firstOutWith_42 : decode cX2_firstOutWith 42 = .ok (.getfield 19, 3) := by decide +kernel
theorem dX2_firstOutWith_45 : decode cX2_firstOutWith 45 = .ok (.iconst (-1), 1) := by decide +kernel
theorem dX2_firstOutWith_46 : decode cX2_firstOutWith 46 = .ok (.invokevirtual 32, 3) := by decide +kernel
theorem dX2_firstOutWith_49 : decode cX2_firstOutWith 49 = .ok (.pop, 1) := by decide +kernel
theorem dX2_firstOutWith_50 : decode cX2_firstOutWith 50 = .ok (.aload_n 0, 1) := by decide +kernel
theorem dX2_firstOutWith_51 : decode cX2_firstOutWith 51 = .ok (.getfield 19, 3) := by decide +kernel
theorem dX2_firstOutWith_54 : decode cX2_firstOutWith 54 = .ok (.iload_n 1, 1) := by decide +kernel
theorem dX2_firstOutWith_55 : decode cX2_firstOutWith 55 = .ok (.invokevirtual 53, 3) := by decide +kernel
theorem dX2_firstOutWith_58 : decode cX2_firstOutWith 58 = .ok (.ifCond .ne 5, 3) := by decide +kernel
theorem dX2_firstOutWith_61 : decode cX2_firstOutWith 61 = .ok (.iload_n 3, 1) := by decide +kernel
theorem dX2_firstOutWith_62 : decode cX2_firstOutWith 62 = .ok (.ireturn, 1) := by decide +kernel
theorem dX2_firstOutWith_63 : decode cX2_firstOutWith 63 = .ok (.iinc 3 1, 3) := by decide +kernel
theorem dX2_firstOutWith_66 : decode cX2_firstOutWith 66 = .ok (.goto (-36), 3) := by decide +kernel
theorem dX2_firstOutWith_69 : decode cX2_firstOutWith 69 = .ok (.bipush (-3), 2) := by decide +kernel
theorem dX2_firstOutWith_71 : decode cX2_firstOutWith 71 = .ok (.ireturn, 1) := by decide +kernel
theorem dX2_leastStep_0 : decode cX2_leastStep 0 = .ok (.iconst 1, 1) := by decide +kernel
theorem dX2_leastStep_1 : decode cX2_leastStep 1 = .ok (.istore_n 2, 1) := by decide +kernel
theorem dX2_leastStep_2 : decode cX2_leastStep 2 = .ok (.iload_n 2, 1) := by decide +kernel
theorem dX2_leastStep_3 : decode cX2_leastStep 3 = .ok (.bipush 9, 2) := by decide +kernel
theorem dX2_leastStep_5 : decode cX2_leastStep 5 = .ok (.if_icmp .gt 22, 3) := by decide +kernel
theorem dX2_leastStep_8 : decode cX2_leastStep 8 = .ok (.aload_n 0, 1) := by decide +kernel
theorem dX2_leastStep_9 : decode cX2_leastStep 9 = .ok (.iload_n 1, 1) := by decide +kernel
theorem dX2_leastStep_10 : decode cX2_leastStep 10 = .ok (.iload_n 2, 1) := by decide +kernel
theorem dX2_leastStep_11 : decode cX2_leastStep 11 = .ok (.invokevirtual 56, 3) := by decide +kernel
theorem dX2_leastStep_14 : decode cX2_leastStep 14 = .ok (.bipush (-3), 2) := by decide +kernel
theorem dX2_leastStep_16 : decode cX2_leastStep 16 = .ok (.if_icmp .ne 5, 3) := by decide +kernel
theorem dX2_leastStep_19 : decode cX2_leastStep 19 = .ok (.iload_n 2, 1) := by decide +kernel
theorem dX2_leastStep_20 : decode cX2_leastStep 20 = .ok (.ireturn, 1) := by decide +kernel
theorem dX2_leastStep_21 : decode cX2_leastStep 21 = .ok (.iinc 2 1, 3) := by decide +kernel
theorem dX2_leastStep_24 : decode cX2_leastStep 24 = .ok (.goto (-22), 3) := by decide +kernel
theorem dX2_leastStep_27 : decode cX2_leastStep 27 = .ok (.bipush (-3), 2) := by decide +kernel
theorem dX2_leastStep_29 : decode cX2_leastStep 29 = .ok (.ireturn, 1) := by decide +kernel
theorem dX2_crossings_0 : decode cX2_crossings 0 = .ok (.aload_n 0, 1) := by decide +kernel
theorem dX2_crossings_1 : decode cX2_crossings 1 = .ok (.getfield 19, 3) := by decide +kernel
theorem dX2_crossings_4 : decode cX2_crossings 4 = .ok (.aload_n 0, 1) := by decide +kernel
theorem dX2_crossings_5 : decode cX2_crossings 5 = .ok (.getfield 15, 3) := by decide +kernel
theorem dX2_crossings_8 : decode cX2_crossings 8 = .ok (.invokevirtual 22, 3) := by decide +kernel
theorem dX2_crossings_11 : decode cX2_crossings 11 = .ok (.iconst 0, 1) := by decide +kernel
theorem dX2_crossings_12 : decode cX2_crossings 12 = .ok (.istore_n 3, 1) := by decide +kernel
theorem dX2_crossings_13 : decode cX2_crossings 13 = .ok (.aload_n 0, 1) := by decide +kernel
theorem dX2_crossings_14 : decode cX2_crossings 14 = .ok (.getfield 15, 3) := by decide +kernel
theorem dX2_crossings_17 : decode cX2_crossings 17 = .ok (.getfield 40, 3) := by decide +kernel
theorem dX2_crossings_20 : decode cX2_crossings 20 = .ok (.istore 4, 2) := by decide +kernel
theorem dX2_crossings_22 : decode cX2_crossings 22 = .ok (.iload 4, 2) := by decide +kernel
theorem dX2_crossings_24 : decode cX2_crossings 24 = .ok (.aload_n 0, 1) := by decide +kernel
theorem dX2_crossings_25 : decode cX2_crossings 25 = .ok (.getfield 15, 3) := by decide +kernel
theorem dX2_crossings_28 : decode cX2_crossings 28 = .ok (.getfield 44, 3) := by decide +kernel
theorem dX2_crossings_31 : decode cX2_crossings 31 = .ok (.if_icmp .ge 75, 3) := by decide +kernel
theorem dX2_crossings_34 : decode cX2_crossings 34 = .ok (.aload_n 0, 1) := by decide +kernel
theorem dX2_crossings_35 : decode cX2_crossings 35 = .ok (.getfield 19, 3) := by decide +kernel
theorem dX2_crossings_38 : decode cX2_crossings 38 = .ok (.getfield 60, 3) := by decide +kernel
theorem dX2_crossings_41 : decode cX2_crossings 41 = .ok (.iload_n 1, 1) := by decide +kernel
theorem dX2_crossings_42 : decode cX2_crossings 42 = .ok (.iaload, 1) := by decide +kernel
theorem dX2_crossings_43 : decode cX2_crossings 43 = .ok (.aload_n 0, 1) := by decide +kernel
theorem dX2_crossings_44 : decode cX2_crossings 44 = .ok (.getfield 19, 3) := by decide +kernel
theorem dX2_crossings_47 : decode cX2_crossings 47 = .ok (.getfield 60, 3) := by decide +kernel
theorem dX2_crossings_50 : decode cX2_crossings 50 = .ok (.iload_n 2, 1) := by decide +kernel
theorem dX2_crossings_51 : decode cX2_crossings 51 = .ok (.iaload, 1) := by decide +kernel
theorem dX2_crossings_52 : decode cX2_crossings 52 = .ok (.invokestatic 63, 3) := by decide +kernel
theorem dX2_crossings_55 : decode cX2_crossings 55 = .ok (.istore 5, 2) := by decide +kernel
theorem dX2_crossings_57 : decode cX2_crossings 57 = .ok (.aload_n 0, 1) := by decide +kernel
theorem dX2_crossings_58 : decode cX2_crossings 58 = .ok (.getfield 19, 3) := by decide +kernel
theorem dX2_crossings_61 : decode cX2_crossings 61 = .ok (.iconst (-1), 1) := by decide +kernel
theorem dX2_crossings_62 : decode cX2_crossings 62 = .ok (.invokevirtual 32, 3) := by decide +kernel
theorem dX2_crossings_65 : decode cX2_crossings 65 = .ok (.pop, 1) := by decide +kernel
theorem dX2_crossings_66 : decode cX2_crossings 66 = .ok (.aload_n 0, 1) := by decide +kernel
theorem dX2_crossings_67 : decode cX2_crossings 67 = .ok (.getfield 19, 3) := by decide +kernel
theorem dX2_crossings_70 : decode cX2_crossings 70 = .ok (.getfield 60, 3) := by decide +kernel
theorem dX2_crossings_73 : decode cX2_crossings 73 = .ok (.iload_n 1, 1) := by decide +kernel
theorem dX2_crossings_74 : decode cX2_crossings 74 = .ok (.iaload, 1) := by decide +kernel
theorem dX2_crossings_75 : decode cX2_crossings 75 = .ok (.aload_n 0, 1) := by decide +kernel
theorem dX2_crossings_76 : decode cX2_crossings 76 = .ok (.getfield 19, 3) := by decide +kernel
theorem dX2_crossings_79 : decode cX2_crossings 79 = .ok (.getfield 60, 3) := by decide +kernel
theorem dX2_crossings_82 : decode cX2_crossings 82 = .ok (.iload_n 2, 1) := by decide +kernel
theorem dX2_crossings_83 : decode cX2_crossings 83 = .ok (.iaload, 1) := by decide +kernel
theorem dX2_crossings_84 : decode cX2_crossings 84 = .ok (.invokestatic 63, 3) := by decide +kernel
theorem dX2_crossings_87 : decode cX2_crossings 87 = .ok (.istore 6, 2) := by decide +kernel
theorem dX2_crossings_89 : decode cX2_crossings 89 = .ok (.iload 5, 2) := by decide +kernel
theorem dX2_crossings_91 : decode cX2_crossings 91 = .ok (.iload 6, 2) := by decide +kernel
theorem dX2_crossings_93 : decode cX2_crossings 93 = .ok (.imul, 1) := by decide +kernel
theorem dX2_crossings_94 : decode cX2_crossings 94 = .ok (.ifCond .ge 6, 3) := by decide +kernel
theorem dX2_crossings_97 : decode cX2_crossings 97 = .ok (.iinc 3 1, 3) := by decide +kernel
theorem dX2_crossings_100 : decode cX2_crossings 100 = .ok (.iinc 4 1, 3) := by decide +kernel
theorem dX2_crossings_103 : decode cX2_crossings 103 = .ok (.goto (-81), 3) := by decide +kernel
theorem dX2_crossings_106 : decode cX2_crossings 106 = .ok (.iload_n 3, 1) := by decide +kernel
theorem dX2_crossings_107 : decode cX2_crossings 107 = .ok (.ireturn, 1) := by decide +kernel
theorem dX2_fewestLamps_0 : decode cX2_fewestLamps 0 = .ok (.aload_n 0, 1) := by decide +kernel
theorem dX2_fewestLamps_1 : decode cX2_fewestLamps 1 = .ok (.getfield 19, 3) := by decide +kernel
theorem dX2_fewestLamps_4 : decode cX2_fewestLamps 4 = .ok (.aload_n 0, 1) := by decide +kernel
theorem dX2_fewestLamps_5 : decode cX2_fewestLamps 5 = .ok (.getfield 15, 3) := by decide +kernel
theorem dX2_fewestLamps_8 : decode cX2_fewestLamps 8 = .ok (.invokevirtual 22, 3) := by decide +kernel
theorem dX2_fewestLamps_11 : decode cX2_fewestLamps 11 = .ok (.aload_n 0, 1) := by decide +kernel
theorem dX2_fewestLamps_12 : decode cX2_fewestLamps 12 = .ok (.getfield 15, 3) := by decide +kernel
theorem dX2_fewestLamps_15 : decode cX2_fewestLamps 15 = .ok (.getfield 40, 3) := by decide +kernel
theorem dX2_fewestLamps_18 : decode cX2_fewestLamps 18 = .ok (.istore_n 1, 1) := by decide +kernel
theorem dX2_fewestLamps_19 : decode cX2_fewestLamps 19 = .ok (.iload_n 1, 1) := by decide +kernel
theorem dX2_fewestLamps_20 : decode cX2_fewestLamps 20 = .ok (.aload_n 0, 1) := by decide +kernel
theorem dX2_fewestLamps_21 : decode cX2_fewestLamps 21 = .ok (.getfield 15, 3) := by decide +kernel
theorem dX2_fewestLamps_24 : decode cX2_fewestLamps 24 = .ok (.getfield 44, 3) := by decide +kernel
theorem dX2_fewestLamps_27 : decode cX2_fewestLamps 27 = .ok (.if_icmp .ge 32, 3) := by decide +kernel
theorem dX2_fewestLamps_30 : decode cX2_fewestLamps 30 = .ok (.aload_n 0, 1) := by decide +kernel
theorem dX2_fewestLamps_31 : decode cX2_fewestLamps 31 = .ok (.getfield 19, 3) := by decide +kernel
theorem dX2_fewestLamps_34 : decode cX2_fewestLamps 34 = .ok (.iconst (-1), 1) := by decide +kernel
theorem dX2_fewestLamps_35 : decode cX2_fewestLamps 35 = .ok (.invokevirtual 32, 3) := by decide +kernel
theorem dX2_fewestLamps_38 : decode cX2_fewestLamps 38 = .ok (.pop, 1) := by decide +kernel
theorem dX2_fewestLamps_39 : decode cX2_fewestLamps 39 = .ok (.aload_n 0, 1) := by decide +kernel
theorem dX2_fewestLamps_40 : decode cX2_fewestLamps 40 = .ok (.getfield 9, 3) := by decide +kernel
theorem dX2_fewestLamps_43 : decode cX2_fewestLamps 43 = .ok (.iload_n 1, 1) := by decide +kernel
theorem dX2_fewestLamps_44 : decode cX2_fewestLamps 44 = .ok (.aload_n 0, 1) := by decide +kernel
theorem dX2_fewestLamps_45 : decode cX2_fewestLamps 45 = .ok (.getfield 19, 3) := by decide +kernel
theorem dX2_fewestLamps_48 : decode cX2_fewestLamps 48 = .ok (.iconst 2, 1) := by decide +kernel
theorem dX2_fewestLamps_49 : decode cX2_fewestLamps 49 = .ok (.invokevirtual 68, 3) := by decide +kernel
theorem dX2_fewestLamps_52 : decode cX2_fewestLamps 52 = .ok (.iastore, 1) := by decide +kernel
theorem dX2_fewestLamps_53 : decode cX2_fewestLamps 53 = .ok (.iinc 1 1, 3) := by decide +kernel
theorem dX2_fewestLamps_56 : decode cX2_fewestLamps 56 = .ok (.goto (-37), 3) := by decide +kernel
theorem dX2_fewestLamps_59 : decode cX2_fewestLamps 59 = .ok (.bipush (-3), 2) := by decide +kernel
theorem dX2_fewestLamps_61 : decode cX2_fewestLamps 61 = .ok (.istore_n 1, 1) := by decide +kernel
theorem dX2_fewestLamps_62 : decode cX2_fewestLamps 62 = .ok (.iconst 0, 1) := by decide +kernel
theorem dX2_fewestLamps_63 : decode cX2_fewestLamps 63 = .ok (.istore_n 2, 1) := by decide +kernel
theorem dX2_fewestLamps_64 : decode cX2_fewestLamps 64 = .ok (.iload_n 2, 1) := by decide +kernel
theorem dX2_fewestLamps_65 : decode cX2_fewestLamps 65 = .ok (.iconst 1, 1) := by decide +kernel
theorem dX2_fewestLamps_66 : decode cX2_fewestLamps 66 = .ok (.aload_n 0, 1) := by decide +kernel
theorem dX2_fewestLamps_67 : decode cX2_fewestLamps 67 = .ok (.getfield 15, 3) := by decide +kernel
theorem dX2_fewestLamps_70 : decode cX2_fewestLamps 70 = .ok (.getfield 71, 3) := by decide +kernel
theorem dX2_fewestLamps_73 : decode cX2_fewestLamps 73 = .ok (.ishl, 1) := by decide +kernel
theorem dX2_fewestLamps_74 : decode cX2_fewestLamps 74 = .ok (.if_icmp .ge 46, 3) := by decide +kernel
theorem dX2_fewestLamps_77 : decode cX2_fewestLamps 77 = .ok (.iload_n 1, 1) := by decide +kernel
theorem dX2_fewestLamps_78 : decode cX2_fewestLamps 78 = .ok (.bipush (-3), 2) := by decide +kernel
theorem dX2_fewestLamps_80 : decode cX2_fewestLamps 80 = .ok (.if_icmp .eq 14, 3) := by decide +kernel
theorem dX2_fewestLamps_83 : decode cX2_fewestLamps 83 = .ok (.iload_n 2, 1) := by decide +kernel
theorem dX2_fewestLamps_84 : decode cX2_fewestLamps 84 = .ok (.invokestatic 74, 3) := by decide +kernel
theorem dX2_fewestLamps_87 : decode cX2_fewestLamps 87 = .ok (.iload_n 1, 1) := by decide +kernel
theorem dX2_fewestLamps_88 : decode cX2_fewestLamps 88 = .ok (.invokestatic 74, 3) := by decide +kernel
theorem dX2_fewestLamps_91 : decode cX2_fewestLamps 91 = .ok (.if_icmp .ge 7, 3) := by decide +kernel
theorem dX2_fewestLamps_94 : decode cX2_fewestLamps 94 = .ok (.iconst 1, 1) := by decide +kernel
theorem dX2_fewestLamps_95 : decode cX2_fewestLamps 95 = .ok (.goto 4, 3) := by decide +kernel
theorem dX2_fewestLamps_98 : decode cX2_fewestLamps 98 = .ok (.iconst 0, 1) := by decide +kernel
theorem dX2_fewestLamps_99 : decode cX2_fewestLamps 99 = .ok (.istore_n 3, 1) := by decide +kernel
theorem dX2_fewestLamps_100 : decode cX2_fewestLamps 100 = .ok (.iload_n 3, 1) := by decide +kernel
theorem dX2_fewestLamps_101 : decode cX2_fewestLamps 101 = .ok (.ifCond .eq 13, 3) := by decide +kernel
theorem dX2_fewestLamps_104 : decode cX2_fewestLamps 104 = .ok (.aload_n 0, 1) := by decide +kernel
theorem dX2_fewestLamps_105 : decode cX2_fewestLamps 105 = .ok (.iload_n 2, 1) := by decide +kernel
theorem dX2_fewestLamps_106 : decode cX2_fewestLamps 106 = .ok (.invokevirtual 77, 3) := by decide +kernel
theorem dX2_fewestLamps_109 : decode cX2_fewestLamps 109 = .ok (.ifCond .eq 5, 3) := by decide +kernel
theorem dX2_fewestLamps_112 : decode cX2_fewestLamps 112 = .ok (.iload_n 2, 1) := by decide +kernel
theorem dX2_fewestLamps_113 : decode cX2_fewestLamps 113 = .ok (.istore_n 1, 1) := by decide +kernel
theorem dX2_fewestLamps_114 : decode cX2_fewestLamps 114 = .ok (.iinc 2 1, 3) := by decide +kernel
theorem dX2_fewestLamps_117 : decode cX2_fewestLamps 117 = .ok (.goto (-53), 3) := by decide +kernel
theorem dX2_fewestLamps_120 : decode cX2_fewestLamps 120 = .ok (.iload_n 1, 1) := by decide +kernel
theorem dX2_fewestLamps_121 : decode cX2_fewestLamps 121 = .ok (.ireturn, 1) := by decide +kernel
theorem dX2_isNeverDark_0 : decode cX2_isNeverDark 0 = .ok (.aload_n 0, 1) := by decide +kernel
theorem dX2_isNeverDark_1 : decode cX2_isNeverDark 1 = .ok (.getfield 15, 3) := by decide +kernel
theorem dX2_isNeverDark_4 : decode cX2_isNeverDark 4 = .ok (.getfield 40, 3) := by decide +kernel
theorem dX2_isNeverDark_7 : decode cX2_isNeverDark 7 = .ok (.istore_n 2, 1) := by decide +kernel
theorem dX2_isNeverDark_8 : decode cX2_isNeverDark 8 = .ok (.iload_n 2, 1) := by decide +kernel
theorem dX2_isNeverDark_9 : decode cX2_isNeverDark 9 = .ok (.aload_n 0, 1) := by decide +kernel
theorem dX2_isNeverDark_10 : decode cX2_isNeverDark 10 = .ok (.getfield 15, 3) := by decide +kernel
theorem dX2_isNeverDark_13 : decode cX2_isNeverDark 13 = .ok (.getfield 44, 3) := by decide +kernel
theorem dX2_isNeverDark_16 : decode cX2_isNeverDark 16 = .ok (.if_icmp .ge 22, 3) := by decide +kernel
theorem dX2_isNeverDark_19 : decode cX2_isNeverDark 19 = .ok (.aload_n 0, 1) := by decide +kernel
theorem dX2_isNeverDark_20 : decode cX2_isNeverDark 20 = .ok (.getfield 9, 3) := by decide +kernel
theorem dX2_isNeverDark_23 : decode cX2_isNeverDark 23 = .ok (.iload_n 2, 1) := by decide +kernel
theorem dX2_isNeverDark_24 : decode cX2_isNeverDark 24 = .ok (.iaload, 1) := by decide +kernel
theorem dX2_isNeverDark_25 : decode cX2_isNeverDark 25 = .ok (.iload_n 1, 1) := by decide +kernel
theorem dX2_isNeverDark_26 : decode cX2_isNeverDark 26 = .ok (.iand, 1) := by decide +kernel
theorem dX2_isNeverDark_27 : decode cX2_isNeverDark 27 = .ok (.ifCond .ne 5, 3) := by decide +kernel
theorem dX2_isNeverDark_30 : decode cX2_isNeverDark 30 = .ok (.iconst 0, 1) := by decide +kernel
theorem dX2_isNeverDark_31 : decode cX2_isNeverDark 31 = .ok (.ireturn, 1) := by decide +kernel
theorem dX2_isNeverDark_32 : decode cX2_isNeverDark 32 = .ok (.iinc 2 1, 3) := by decide +kernel
theorem dX2_isNeverDark_35 : decode cX2_isNeverDark 35 = .ok (.goto (-27), 3) := by decide +kernel
theorem dX2_isNeverDark_38 : decode cX2_isNeverDark 38 = .ok (.iconst 1, 1) := by decide +kernel
theorem dX2_isNeverDark_39 : decode cX2_isNeverDark 39 = .ok (.ireturn, 1) := by decide +kernel
theorem dX2_timesWorth_0 : decode cX2_timesWorth 0 = .ok (.iconst 0, 1) := by decide +kernel
theorem dX2_timesWorth_1 : decode cX2_timesWorth 1 = .ok (.istore_n 3, 1) := by decide +kernel
theorem dX2_timesWorth_2 : decode cX2_timesWorth 2 = .ok (.aload_n 0, 1) := by decide +kernel
theorem dX2_timesWorth_3 : decode cX2_timesWorth 3 = .ok (.getfield 15, 3) := by decide +kernel
theorem dX2_timesWorth_6 : decode cX2_timesWorth 6 = .ok (.getfield 81, 3) := by decide +kernel
theorem dX2_timesWorth_9 : decode cX2_timesWorth 9 = .ok (.istore 4, 2) := by decide +kernel
theorem dX2_timesWorth_11 : decode cX2_timesWorth 11 = .ok (.iconst 0, 1) := by decide +kernel
theorem dX2_timesWorth_12 : decode cX2_timesWorth 12 = .ok (.istore 5, 2) := by decide +kernel
theorem dX2_timesWorth_14 : decode cX2_timesWorth 14 = .ok (.iload 5, 2) := by decide +kernel
theorem dX2_timesWorth_16 : decode cX2_timesWorth 16 = .ok (.iload_n 1, 1) := by decide +kernel
theorem dX2_timesWorth_17 : decode cX2_timesWorth 17 = .ok (.if_icmp .ge 89, 3) := by decide +kernel
theorem dX2_timesWorth_20 : decode cX2_timesWorth 20 = .ok (.aload_n 0, 1) := by decide +kernel
theorem dX2_timesWorth_21 : decode cX2_timesWorth 21 = .ok (.getfield 19, 3) := by decide +kernel
theorem dX2_timesWorth_24 : decode cX2_timesWorth 24 = .ok (.aload_n 0, 1) := by decide +kernel
theorem dX2_timesWorth_25 : decode cX2_timesWorth 25 = .ok (.getfield 15, 3) := by decide +kernel
theorem dX2_timesWorth_28 : decode cX2_timesWorth 28 = .ok (.invokevirtual 22, 3) := by decide +kernel
theorem dX2_timesWorth_31 : decode cX2_timesWorth 31 = .ok (.aload_n 0, 1) := by decide +kernel
theorem dX2_timesWorth_32 : decode cX2_timesWorth 32 = .ok (.getfield 19, 3) := by decide +kernel
theorem dX2_timesWorth_35 : decode cX2_timesWorth 35 = .ok (.iload 4, 2) := by decide +kernel
theorem dX2_timesWorth_37 : decode cX2_timesWorth 37 = .ok (.putfield 81, 3) := by decide +kernel
theorem dX2_timesWorth_40 : decode cX2_timesWorth 40 = .ok (.iconst 0, 1) := by decide +kernel
theorem dX2_timesWorth_41 : decode cX2_timesWorth 41 = .ok (.istore 6, 2) := by decide +kernel
theorem dX2_timesWorth_43 : decode cX2_timesWorth 43 = .ok (.aload_n 0, 1) := by decide +kernel
theorem dX2_timesWorth_44 : decode cX2_timesWorth 44 = .ok (.getfield 15, 3) := by decide +kernel
theorem dX2_timesWorth_47 : decode cX2_timesWorth 47 = .ok (.getfield 40, 3) := by decide +kernel
theorem dX2_timesWorth_50 : decode cX2_timesWorth 50 = .ok (.istore 7, 2) := by decide +kernel
theorem dX2_timesWorth_52 : decode cX2_timesWorth 52 = .ok (.iload 7, 2) := by decide +kernel
theorem dX2_timesWorth_54 : decode cX2_timesWorth 54 = .ok (.aload_n 0, 1) := by decide +kernel
theorem dX2_timesWorth_55 : decode cX2_timesWorth 55 = .ok (.getfield 15, 3) := by decide +kernel
theorem dX2_timesWorth_58 : decode cX2_timesWorth 58 = .ok (.getfield 44, 3) := by decide +kernel
theorem dX2_timesWorth_61 : decode cX2_timesWorth 61 = .ok (.if_icmp .ge 21, 3) := by decide +kernel
theorem dX2_timesWorth_64 : decode cX2_timesWorth 64 = .ok (.iload 6, 2) := by decide +kernel
theorem dX2_timesWorth_66 : decode cX2_timesWorth 66 = .ok (.aload_n 0, 1) := by decide +kernel
theorem dX2_timesWorth_67 : decode cX2_timesWorth 67 = .ok (.getfield 19, 3) := by decide +kernel
theorem dX2_timesWorth_70 : decode cX2_timesWorth 70 = .ok (.invokevirtual 84, 3) := by decide +kernel
theorem dX2_timesWorth_73 : decode cX2_timesWorth 73 = .ok (.iadd, 1) := by decide +kernel
theorem dX2_timesWorth_74 : decode cX2_timesWorth 74 = .ok (.istore 6, 2) := by decide +kernel
theorem dX2_timesWorth_76 : decode cX2_timesWorth 76 = .ok (.iinc 7 1, 3) := by decide +kernel
theorem dX2_timesWorth_79 : decode cX2_timesWorth 79 = .ok (.goto (-27), 3) := by decide +kernel
theorem dX2_timesWorth_82 : decode cX2_timesWorth 82 = .ok (.iload 6, 2) := by decide +kernel
theorem dX2_timesWorth_84 : decode cX2_timesWorth 84 = .ok (.iload_n 2, 1) := by decide +kernel
theorem dX2_timesWorth_85 : decode cX2_timesWorth 85 = .ok (.if_icmp .lt 6, 3) := by decide +kernel
theorem dX2_timesWorth_88 : decode cX2_timesWorth 88 = .ok (.iinc 3 1, 3) := by decide +kernel
theorem dX2_timesWorth_91 : decode cX2_timesWorth 91 = .ok (.aload_n 0, 1) := by decide +kernel
theorem dX2_timesWorth_92 : decode cX2_timesWorth 92 = .ok (.getfield 19, 3) := by decide +kernel
theorem dX2_timesWorth_95 : decode cX2_timesWorth 95 = .ok (.getfield 81, 3) := by decide +kernel
theorem dX2_timesWorth_98 : decode cX2_timesWorth 98 = .ok (.istore 4, 2) := by decide +kernel
theorem dX2_timesWorth_100 : decode cX2_timesWorth 100 = .ok (.iinc 5 1, 3) := by decide +kernel
theorem dX2_timesWorth_103 : decode cX2_timesWorth 103 = .ok (.goto (-89), 3) := by decide +kernel
theorem dX2_timesWorth_106 : decode cX2_timesWorth 106 = .ok (.iload_n 3, 1) := by decide +kernel
theorem dX2_timesWorth_107 : decode cX2_timesWorth 107 = .ok (.ireturn, 1) := by decide +kernel
theorem dX3_init_0 : decode cX3_init 0 = .ok (.aload_n 0, 1) := by decide +kernel
theorem dX3_init_1 : decode cX3_init 1 = .ok (.invokespecial 3, 3) := by decide +kernel
theorem dX3_init_4 : decode cX3_init 4 = .ok (.aload_n 0, 1) := by decide +kernel
theorem dX3_init_5 : decode cX3_init 5 = .ok (.iconst 4, 1) := by decide +kernel
theorem dX3_init_6 : decode cX3_init 6 = .ok (.iconst 3, 1) := by decide +kernel
theorem dX3_init_7 : decode cX3_init 7 = .ok (.multianewarray 11 2, 4) := by decide +kernel
theorem dX3_init_11 : decode cX3_init 11 = .ok (.putfield 13, 3) := by decide +kernel
theorem dX3_init_14 : decode cX3_init 14 = .ok (.aload_n 0, 1) := by decide +kernel
theorem dX3_init_15 : decode cX3_init 15 = .ok (.aload_n 1, 1) := by decide +kernel
theorem dX3_init_16 : decode cX3_init 16 = .ok (.putfield 16, 3) := by decide +kernel
theorem dX3_init_19 : decode cX3_init 19 = .ok (.aload_n 0, 1) := by decide +kernel
theorem dX3_init_20 : decode cX3_init 20 = .ok (.aload_n 2, 1) := by decide +kernel
theorem dX3_init_21 : decode cX3_init 21 = .ok (.putfield 20, 3) := by decide +kernel
theorem dX3_init_24 : decode cX3_init 24 = .ok (.return_, 1) := by decide +kernel
theorem dX3_hasCell_0 : decode cX3_hasCell 0 = .ok (.iload_n 1, 1) := by decide +kernel
theorem dX3_hasCell_1 : decode cX3_hasCell 1 = .ok (.ifCond .lt 24, 3) := by decide +kernel
theorem dX3_hasCell_4 : decode cX3_hasCell 4 = .ok (.iload_n 1, 1) := by decide +kernel
theorem dX3_hasCell_5 : decode cX3_hasCell 5 = .ok (.aload_n 0, 1) := by decide +kernel
theorem dX3_hasCell_6 : decode cX3_hasCell 6 = .ok (.getfield 23, 3) := by decide +kernel
theorem dX3_hasCell_9 : decode cX3_hasCell 9 = .ok (.if_icmp .ge 16, 3) := by decide +kernel
theorem dX3_hasCell_12 : decode cX3_hasCell 12 = .ok (.iload_n 2, 1) := by decide +kernel
theorem dX3_hasCell_13 : decode cX3_hasCell 13 = .ok (.ifCond .lt 12, 3) := by decide +kernel
theorem dX3_hasCell_16 : decode cX3_hasCell 16 = .ok (.iload_n 2, 1) := by decide +kernel
theorem dX3_hasCell_17 : decode cX3_hasCell 17 = .ok (.iconst 3, 1) := by decide +kernel
theorem dX3_hasCell_18 : decode cX3_hasCell 18 = .ok (.if_icmp .ge 7, 3) := by decide +kernel
theorem dX3_hasCell_21 : decode cX3_hasCell 21 = .ok (.iconst 1, 1) := by decide +kernel
theorem dX3_hasCell_22 : decode cX3_hasCell 22 = .ok (.goto 4, 3) := by decide +kernel
theorem dX3_hasCell_25 : decode cX3_hasCell 25 = .ok (.iconst 0, 1) := by decide +kernel
theorem dX3_hasCell_26 : decode cX3_hasCell 26 = .ok (.ireturn, 1) := by decide +kernel
theorem dX3_tell_0 : decode cX3_tell 0 = .ok (.aload_n 0, 1) := by decide +kernel
theorem dX3_tell_1 : decode cX3_tell 1 = .ok (.getfield 20, 3) := by decide +kernel
theorem dX3_tell_4 : decode cX3_tell 4 = .ok (.aload_n 0, 1) := by decide +kernel
theorem dX3_tell_5 : decode cX3_tell 5 = .ok (.getfield 16, 3) := by decide +kernel
theorem dX3_tell_8 : decode cX3_tell 8 = .ok (.invokevirtual 27, 3) := by decide +kernel
theorem dX3_tell_11 : decode cX3_tell 11 = .ok (.aload_n 0, 1) := by decide +kernel
theorem dX3_tell_12 : decode cX3_tell 12 = .ok (.iload_n 2, 1) := by decide +kernel
theorem dX3_tell_13 : decode cX3_tell 13 = .ok (.iconst 4, 1) := by decide +kernel
theorem dX3_tell_14 : decode cX3_tell 14 = .ok (.invokestatic 33, 3) := by decide +kernel
theorem dX3_tell_17 : decode cX3_tell 17 = .ok (.putfield 23, 3) := by decide +kernel
theorem dX3_tell_20 : decode cX3_tell 20 = .ok (.iconst 0, 1) := by decide +kernel
theorem dX3_tell_21 : decode cX3_tell 21 = .ok (.istore_n 3, 1) := by decide +kernel
theorem dX3_tell_22 : decode cX3_tell 22 = .ok (.iload_n 3, 1) := by decide +kernel
theorem dX3_tell_23 : decode cX3_tell 23 = .ok (.aload_n 0, 1) := by decide +kernel
theorem dX3_tell_24 : decode cX3_tell 24 = .ok (.getfield 23, 3) := by decide +kernel
theorem dX3_tell_27 : decode cX3_tell 27 = .ok (.if_icmp .ge 56, 3) := by decide +kernel
theorem dX3_tell_30 : decode cX3_tell 30 = .ok (.aload_n 0, 1) := by decide +kernel
theorem dX3_tell_31 : decode cX3_tell 31 = .ok (.getfield 13, 3) := by decide +kernel
theorem dX3_tell_34 : decode cX3_tell 34 = .ok (.iload_n 3, 1) := by decide +kernel
theorem dX3_tell_35 : decode cX3_tell 35 = .ok (.aaload, 1) := by decide +kernel
theorem dX3_tell_36 : decode cX3_tell 36 = .ok (.iconst 0, 1) := by decide +kernel
theorem dX3_tell_37 : decode cX3_tell 37 = .ok (.aload_n 1, 1) := by decide +kernel
theorem dX3_tell_38 : decode cX3_tell 38 = .ok (.iload_n 3, 1) := by decide +kernel
theorem dX3_tell_39 : decode cX3_tell 39 = .ok (.iaload, 1) := by decide +kernel
theorem dX3_tell_40 : decode cX3_tell 40 = .ok (.iastore, 1) := by decide +kernel
theorem dX3_tell_41 : decode cX3_tell 41 = .ok (.aload_n 0, 1) := by decide +kernel
theorem dX3_tell_42 : decode cX3_tell 42 = .ok (.getfield 13, 3) := by decide +kernel
theorem dX3_tell_45 : decode cX3_tell 45 = .ok (.iload_n 3, 1) := by decide +kernel
theorem dX3_tell_46 : decode cX3_tell 46 = .ok (.aaload, 1) := by decide +kernel
theorem dX3_tell_47 : decode cX3_tell 47 = .ok (.iconst 1, 1) := by decide +kernel
theorem dX3_tell_48 : decode cX3_tell 48 = .ok (.aload_n 0, 1) := by decide +kernel
theorem dX3_tell_49 : decode cX3_tell 49 = .ok (.getfield 20, 3) := by decide +kernel
theorem dX3_tell_52 : decode cX3_tell 52 = .ok (.aload_n 1, 1) := by decide +kernel
theorem dX3_tell_53 : decode cX3_tell 53 = .ok (.iload_n 3, 1) := by decide +kernel
theorem dX3_tell_54 : decode cX3_tell 54 = .ok (.iaload, 1) := by decide +kernel
theorem dX3_tell_55 : decode cX3_tell 55 = .ok (.iconst 1, 1) := by decide +kernel
theorem dX3_tell_56 : decode cX3_tell 56 = .ok (.isub, 1) := by decide +kernel
theorem dX3_tell_57 : decode cX3_tell 57 = .ok (.invokevirtual 39, 3) := by decide +kernel
theorem dX3_tell_60 : decode cX3_tell 60 = .ok (.iastore, 1) := by decide +kernel
theorem dX3_tell_61 : decode cX3_tell 61 = .ok (.aload_n 0, 1) := by decide +kernel
theorem dX3_tell_62 : decode cX3_tell 62 = .ok (.getfield 13, 3) := by decide +kernel
theorem dX3_tell_65 : decode cX3_tell 65 = .ok (.iload_n 3, 1) := by decide +kernel
theorem dX3_tell_66 : decode cX3_tell 66 = .ok (.aaload, 1) := by decide +kernel
theorem dX3_tell_67 : decode cX3_tell 67 = .ok (.iconst 2, 1) := by decide +kernel
theorem dX3_tell_68 : decode cX3_tell 68 = .ok (.aload_n 0, 1) := by decide +kernel
theorem dX3_tell_69 : decode cX3_tell 69 = .ok (.getfield 20, 3) := by decide +kernel
theorem dX3_tell_72 : decode cX3_tell 72 = .ok (.iconst 2, 1) := by decide +kernel
theorem dX3_tell_73 : decode cX3_tell 73 = .ok (.invokevirtual 43, 3) := by decide +kernel
theorem dX3_tell_76 : decode cX3_tell 76 = .ok (.iastore, 1) := by decide +kernel
theorem dX3_tell_77 : decode cX3_tell 77 = .ok (.iinc 3 1, 3) := by decide +kernel
theorem dX3_tell_80 : decode cX3_tell 80 = .ok (.goto (-58), 3) := by decide +kernel
theorem dX3_tell_83 : decode cX3_tell 83 = .ok (.return_, 1) := by decide +kernel
theorem dX3_firstWrong_0 : decode cX3_firstWrong 0 = .ok (.aload_n 0, 1) := by decide +kernel
theorem dX3_firstWrong_1 : decode cX3_firstWrong 1 = .ok (.getfield 20, 3) := by decide +kernel
theorem dX3_firstWrong_4 : decode cX3_firstWrong 4 = .ok (.aload_n 0, 1) := by decide +kernel
theorem dX3_firstWrong_5 : decode cX3_firstWrong 5 = .ok (.getfield 16, 3) := by decide +kernel
theorem dX3_firstWrong_8 : decode cX3_firstWrong 8 = .ok (.invokevirtual 27, 3) := by decide +kernel
theorem dX3_firstWrong_11 : decode cX3_firstWrong 11 = .ok (.iconst 0, 1) := by decide +kernel
theorem dX3_firstWrong_12 : decode cX3_firstWrong 12 = .ok (.istore_n 1, 1) := by decide +kernel
theorem dX3_firstWrong_13 : decode cX3_firstWrong 13 = .ok (.iload_n 1, 1) := by decide +kernel
theorem dX3_firstWrong_14 : decode cX3_firstWrong 14 = .ok (.aload_n 0, 1) := by decide +kernel
theorem dX3_firstWrong_15 : decode cX3_firstWrong 15 = .ok (.getfield 23, 3) := by decide +kernel
theorem dX3_firstWrong_18 : decode cX3_firstWrong 18 = .ok (.if_icmp .ge 89, 3) := by decide +kernel
theorem dX3_firstWrong_21 : decode cX3_firstWrong 21 = .ok (.aload_n 0, 1) := by decide +kernel
theorem dX3_firstWrong_22 : decode cX3_firstWrong 22 = .ok (.getfield 13, 3) := by decide +kernel
theorem dX3_firstWrong_25 : decode cX3_firstWrong 25 = .ok (.iload_n 1, 1) := by decide +kernel
theorem dX3_firstWrong_26 : decode cX3_firstWrong 26 = .ok (.aaload, 1) := by decide +kernel
theorem dX3_firstWrong_27 : decode cX3_firstWrong 27 = .ok (.iconst 0, 1) := by decide +kernel
theorem dX3_firstWrong_28 : decode cX3_firstWrong 28 = .ok (.iaload, 1) := by decide +kernel
theorem dX3_firstWrong_29 : decode cX3_firstWrong 29 = .ok (.istore_n 2, 1) := by decide +kernel
theorem dX3_firstWrong_30 : decode cX3_firstWrong 30 = .ok (.aload_n 0, 1) := by decide +kernel
theorem dX3_firstWrong_31 : decode cX3_firstWrong 31 = .ok (.getfield 20, 3) := by decide +kernel
theorem dX3_firstWrong_34 : decode cX3_firstWrong 34 = .ok (.invokevirtual 46, 3) := by decide +kernel
theorem dX3_firstWrong_37 : decode cX3_firstWrong 37 = .ok (.ifCond .ne 14, 3) := by decide +kernel
theorem dX3_firstWrong_40 : decode cX3_firstWrong 40 = .ok (.aload_n 0, 1) := by decide +kernel
theorem dX3_firstWrong_41 : decode cX3_firstWrong 41 = .ok (.getfield 20, 3) := by decide +kernel
theorem dX3_firstWrong_44 : decode cX3_firstWrong 44 = .ok (.iload_n 2, 1) := by decide +kernel
theorem dX3_firstWrong_45 : decode cX3_firstWrong 45 = .ok (.invokevirtual 50, 3) := by decide +kernel
theorem dX3_firstWrong_48 : decode cX3_firstWrong 48 = .ok (.ifCond .ne 7, 3) := by decide +kernel
theorem dX3_firstWrong_51 : decode cX3_firstWrong 51 = .ok (.iload_n 1, 1) := by decide +kernel
theorem dX3_firstWrong_52 : decode cX3_firstWrong 52 = .ok (.iconst 1, 1) := by decide +kernel
theorem dX3_firstWrong_53 : decode cX3_firstWrong 53 = .ok (.iadd, 1) := by decide +kernel
theorem dX3_firstWrong_54 : decode cX3_firstWrong 54 = .ok (.ireturn, 1) := by decide +kernel
theorem dX3_firstWrong_55 : decode cX3_firstWrong 55 = .ok (.aload_n 0, 1) := by decide +kernel
theorem dX3_firstWrong_56 : decode cX3_firstWrong 56 = .ok (.getfield 20, 3) := by decide +kernel
theorem dX3_firstWrong_59 : decode cX3_firstWrong 59 = .ok (.iload_n 2, 1) := by decide +kernel
theorem dX3_firstWrong_60 : decode cX3_firstWrong 60 = .ok (.iconst 1, 1) := by decide +kernel
theorem dX3_firstWrong_61 : decode cX3_firstWrong 61 = .ok (.isub, 1) := by decide +kernel
theorem dX3_firstWrong_62 : decode cX3_firstWrong 62 = .ok (.invokevirtual 39, 3) := by decide +kernel
theorem dX3_firstWrong_65 : decode cX3_firstWrong 65 = .ok (.istore_n 3, 1) := by decide +kernel
theorem dX3_firstWrong_66 : decode cX3_firstWrong 66 = .ok (.aload_n 0, 1) := by decide +kernel
theorem dX3_firstWrong_67 : decode cX3_firstWrong 67 = .ok (.getfield 13, 3) := by decide +kernel
theorem dX3_firstWrong_70 : decode cX3_firstWrong 70 = .ok (.iload_n 1, 1) := by decide +kernel
theorem dX3_firstWrong_71 : decode cX3_firstWrong 71 = .ok (.aaload, 1) := by decide +kernel
theorem dX3_firstWrong_72 : decode cX3_firstWrong 72 = .ok (.iconst 1, 1) := by decide +kernel
theorem dX3_firstWrong_73 : decode cX3_firstWrong 73 = .ok (.iaload, 1) := by decide +kernel
theorem dX3_firstWrong_74 : decode cX3_firstWrong 74 = .ok (.iload_n 3, 1) := by decide +kernel
theorem dX3_firstWrong_75 : decode cX3_firstWrong 75 = .ok (.if_icmp .ne 22, 3) := by decide +kernel
theorem dX3_firstWrong_78 : decode cX3_firstWrong 78 = .ok (.aload_n 0, 1) := by decide +kernel
theorem dX3_firstWrong_79 : decode cX3_firstWrong 79 = .ok (.getfield 13, 3) := by decide +kernel
theorem dX3_firstWrong_82 : decode cX3_firstWrong 82 = .ok (.iload_n 1, 1) := by decide +kernel
theorem dX3_firstWrong_83 : decode cX3_firstWrong 83 = .ok (.aaload, 1) := by decide +kernel
theorem dX3_firstWrong_84 : decode cX3_firstWrong 84 = .ok (.iconst 2, 1) := by decide +kernel
theorem dX3_firstWrong_85 : decode cX3_firstWrong 85 = .ok (.iaload, 1) := by decide +kernel
theorem dX3_firstWrong_86 : decode cX3_firstWrong 86 = .ok (.aload_n 0, 1) := by decide +kernel
theorem dX3_firstWrong_87 : decode cX3_firstWrong 87 = .ok (.getfield 20, 3) := by decide +kernel
theorem dX3_firstWrong_90 : decode cX3_firstWrong 90 = .ok (.iconst 2, 1) := by decide +kernel
theorem dX3_firstWrong_91 : decode cX3_firstWrong 91 = .ok (.invokevirtual 43, 3) := by decide +kernel
theorem dX3_firstWrong_94 : decode cX3_firstWrong 94 = .ok (.if_icmp .eq 7, 3) := by decide +kernel
theorem dX3_firstWrong_97 : decode cX3_firstWrong 97 = .ok (.iload_n 1, 1) := by decide +kernel
theorem dX3_firstWrong_98 : decode cX3_firstWrong 98 = .ok (.iconst 1, 1) := by decide +kernel
theorem dX3_firstWrong_99 : decode cX3_firstWrong 99 = .ok (.iadd, 1) := by decide +kernel
theorem dX3_firstWrong_100 : decode cX3_firstWrong 100 = .ok (.ireturn, 1) := by decide +kernel
theorem dX3_firstWrong_101 : decode cX3_firstWrong 101 = .ok (.iinc 1 1, 3) := by decide +kernel
theorem dX3_firstWrong_104 : decode cX3_firstWrong 104 = .ok (.goto (-91), 3) := by decide +kernel
theorem dX3_firstWrong_107 : decode cX3_firstWrong 107 = .ok (.iconst 0, 1) := by decide +kernel
theorem dX3_firstWrong_108 : decode cX3_firstWrong 108 = .ok (.ireturn, 1) := by decide +kernel
theorem dX4_init_0 : decode cX4_init 0 = .ok (.aload_n 0, 1) := by decide +kernel
theorem dX4_init_1 : decode cX4_init 1 = .ok (.invokespecial 5, 3) := by decide +kernel
theorem dX4_init_4 : decode cX4_init 4 = .ok (.aload_n 0, 1) := by decide +kernel
theorem dX4_init_5 : decode cX4_init 5 = .ok (.sipush 200, 3) := by decide +kernel
theorem dX4_init_8 : decode cX4_init 8 = .ok (.newarray .int, 2) := by decide +kernel
theorem dX4_init_10 : decode cX4_init 10 = .ok (.putfield 11, 3) := by decide +kernel
theorem dX4_init_13 : decode cX4_init 13 = .ok (.aload_n 0, 1) := by decide +kernel
theorem dX4_init_14 : decode cX4_init 14 = .ok (.sipush 201, 3) := by decide +kernel
theorem dX4_init_17 : decode cX4_init 17 = .ok (.newarray .int, 2) := by decide +kernel
theorem dX4_init_19 : decode cX4_init 19 = .ok (.putfield 15, 3) := by decide +kernel
theorem dX4_init_22 : decode cX4_init 22 = .ok (.aload_n 0, 1) := by decide +kernel
theorem dX4_init_23 : decode cX4_init 23 = .ok (.sipush 201, 3) := by decide +kernel
theorem dX4_init_26 : decode cX4_init 26 = .ok (.newarray .int, 2) := by decide +kernel
theorem dX4_init_28 : decode cX4_init 28 = .ok (.putfield 18, 3) := by decide +kernel
theorem dX4_init_31 : decode cX4_init 31 = .ok (.aload_n 0, 1) := by decide +kernel
theorem dX4_init_32 : decode cX4_init 32 = .ok (.sipush 201, 3) := by decide +kernel
theorem dX4_init_35 : decode cX4_init 35 = .ok (.newarray .int, 2) := by decide +kernel
theorem dX4_init_37 : decode cX4_init 37 = .ok (.putfield 21, 3) := by decide +kernel
theorem dX4_init_40 : decode cX4_init 40 = .ok (.aload_n 0, 1) := by decide +kernel
theorem dX4_init_41 : decode cX4_init 41 = .ok (.new 24, 3) := by decide +kernel
theorem dX4_init_44 : decode cX4_init 44 = .ok (.dup, 1) := by decide +kernel
theorem dX4_init_45 : decode cX4_init 45 = .ok (.invokespecial 26, 3) := by decide +kernel
theorem dX4_init_48 : decode cX4_init 48 = .ok (.putfield 27, 3) := by decide +kernel
theorem dX4_init_51 : decode cX4_init 51 = .ok (.return_, 1) := by decide +kernel
theorem dX4_take_0 : decode cX4_take 0 = .ok (.iconst 0, 1) := by decide +kernel
theorem dX4_take_1 : decode cX4_take 1 = .ok (.istore 4, 2) := by decide +kernel
theorem dX4_take_3 : decode cX4_take 3 = .ok (.iload 4, 2) := by decide +kernel
theorem dX4_take_5 : decode cX4_take 5 = .ok (.iload_n 3, 1) := by decide +kernel
theorem dX4_take_6 : decode cX4_take 6 = .ok (.if_icmp .ge 50, 3) := by decide +kernel
theorem dX4_take_9 : decode cX4_take 9 = .ok (.aload_n 0, 1) := by decide +kernel
theorem dX4_take_10 : decode cX4_take 10 = .ok (.getfield 31, 3) := by decide +kernel
theorem dX4_take_13 : decode cX4_take 13 = .ok (.sipush 200, 3) := by decide +kernel
theorem dX4_take_16 : decode cX4_take 16 = .ok (.if_icmp .ge 40, 3) := by decide +kernel
theorem dX4_take_19 : decode cX4_take 19 = .ok (.aload_n 0, 1) := by decide +kernel
theorem dX4_take_20 : decode cX4_take 20 = .ok (.getfield 11, 3) := by decide +kernel
theorem dX4_take_23 : decode cX4_take 23 = .ok (.aload_n 0, 1) := by decide +kernel
theorem dX4_take_24 : decode cX4_take 24 = .ok (.getfield 31, 3) := by decide +kernel
theorem dX4_take_27 : decode cX4_take 27 = .ok (.lload_n 1, 1) := by decide +kernel
theorem dX4_take_28 : decode cX4_take 28 = .ok (.bipush 8, 2) := by decide +kernel
theorem dX4_take_30 : decode cX4_take 30 = .ok (.iload 4, 2) := by decide +kernel
theorem dX4_take_32 : decode cX4_take 32 = .ok (.imul, 1) := by decide +kernel
theorem dX4_take_33 : decode cX4_take 33 = .ok (.lushr, 1) := by decide +kernel
theorem dX4_take_34 : decode cX4_take 34 = .ok (.l2i, 1) := by decide +kernel
theorem dX4_take_35 : decode cX4_take 35 = .ok (.sipush 255, 3) := by decide +kernel
theorem dX4_take_38 : decode cX4_take 38 = .ok (.iand, 1) := by decide +kernel
theorem dX4_take_39 : decode cX4_take 39 = .ok (.iastore, 1) := by decide +kernel
theorem dX4_take_40 : decode cX4_take 40 = .ok (.aload_n 0, 1) := by decide +kernel
theorem dX4_take_41 : decode cX4_take 41 = .ok (.dup, 1) := by decide +kernel
theorem dX4_take_42 : decode cX4_take 42 = .ok (.getfield 31, 3) := by decide +kernel
theorem dX4_take_45 : decode cX4_take 45 = .ok (.iconst 1, 1) := by decide +kernel
theorem dX4_take_46 : decode cX4_take 46 = .ok (.iadd, 1) := by decide +kernel
theorem dX4_take_47 : decode cX4_take 47 = .ok (.putfield 31, 3) := by decide +kernel
theorem dX4_take_50 : decode cX4_take 50 = .ok (.iinc 4 1, 3) := by decide +kernel
theorem dX4_take_53 : decode cX4_take 53 = .ok (.goto (-50), 3) := by decide +kernel
theorem dX4_take_56 : decode cX4_take 56 = .ok (.aload_n 0, 1) := by decide +kernel
theorem dX4_take_57 : decode cX4_take 57 = .ok (.getfield 31, 3) := by decide +kernel
theorem dX4_take_60 : decode cX4_take 60 = .ok (.ireturn, 1) := by decide +kernel
theorem dX4_readInto_0 : decode cX4_readInto 0 = .ok (.aload_n 0, 1) := by decide +kernel
theorem dX4_readInto_1 : decode cX4_readInto 1 = .ok (.invokevirtual 35, 3) := by decide +kernel
theorem dX4_readInto_4 : decode cX4_readInto 4 = .ok (.aload_n 0, 1) := by decide +kernel
theorem dX4_readInto_5 : decode cX4_readInto 5 = .ok (.iconst 0, 1) := by decide +kernel
theorem dX4_readInto_6 : decode cX4_readInto 6 = .ok (.putfield 31, 3) := by decide +kernel
theorem dX4_readInto_9 : decode cX4_readInto 9 = .ok (.aload_n 0, 1) := by decide +kernel
theorem dX4_readInto_10 : decode cX4_readInto 10 = .ok (.iconst 0, 1) := by decide +kernel
theorem dX4_readInto_11 : decode cX4_readInto 11 = .ok (.putfield 38, 3) := by decide +kernel
theorem dX4_readInto_14 : decode cX4_readInto 14 = .ok (.aload_n 0, 1) := by decide +kernel
theorem dX4_readInto_15 : decode cX4_readInto 15 = .ok (.getfield 27, 3) := by decide +kernel
theorem dX4_readInto_18 : decode cX4_readInto 18 = .ok (.invokevirtual 41, 3) := by decide +kernel
theorem dX4_readInto_21 : decode cX4_readInto 21 = .ok (.iconst 1, 1) := by decide +kernel
theorem dX4_readInto_22 : decode cX4_readInto 22 = .ok (.istore_n 2, 1) := by decide +kernel
theorem dX4_readInto_23 : decode cX4_readInto 23 = .ok (.iconst 0, 1) := by decide +kernel
theorem dX4_readInto_24 : decode cX4_readInto 24 = .ok (.istore_n 3, 1) := by decide +kernel
theorem dX4_readInto_25 : decode cX4_readInto 25 = .ok (.iload_n 3, 1) := by decide +kernel
theorem dX4_readInto_26 : decode cX4_readInto 26 = .ok (.bipush 8, 2) := by decide +kernel
theorem dX4_readInto_28 : decode cX4_readInto 28 = .ok (.if_icmp .ge 31, 3) := by decide +kernel
theorem dX4_readInto_31 : decode cX4_readInto 31 = .ok (.iload_n 2, 1) := by decide +kernel
theorem dX4_readInto_32 : decode cX4_readInto 32 = .ok (.ifCond .eq 27, 3) := by decide +kernel
theorem dX4_readInto_35 : decode cX4_readInto 35 = .ok (.aload_n 0, 1) := by decide +kernel
theorem dX4_readInto_36 : decode cX4_readInto 36 = .ok (.getfield 15, 3) := by decide +kernel
theorem dX4_readInto_39 : decode cX4_readInto 39 = .ok (.aload_n 0, 1) := by decide +kernel
theorem dX4_readInto_40 : decode cX4_readInto 40 = .ok (.getfield 38, 3) := by decide +kernel
theorem dX4_readInto_43 : decode cX4_readInto 43 = .ok (.iaload, 1) := by decide +kernel
theorem dX4_readInto_44 : decode cX4_readInto 44 = .ok (.iconst (-1), 1) := by decide +kernel
theorem dX4_readInto_45 : decode cX4_readInto 45 = .ok (.if_icmp .eq 14, 3) := by decide +kernel
theorem dX4_readInto_48 : decode cX4_readInto 48 = .ok (.aload_n 0, 1) := by decide +kernel
theorem dX4_readInto_49 : decode cX4_readInto 49 = .ok (.invokevirtual 44, 3) := by decide +kernel
theorem dX4_readInto_52 : decode cX4_readInto 52 = .ok (.istore_n 2, 1) := by decide +kernel
theorem dX4_readInto_53 : decode cX4_readInto 53 = .ok (.iinc 3 1, 3) := by decide +kernel
theorem dX4_readInto_56 : decode cX4_readInto 56 = .ok (.goto (-31), 3) := by decide +kernel
theorem dX4_readInto_59 : decode cX4_readInto 59 = .ok (.iload_n 2, 1) := by decide +kernel
theorem dX4_readInto_60 : decode cX4_readInto 60 = .ok (.ifCond .eq 16, 3) := by decide +kernel
theorem dX4_readInto_63 : decode cX4_readInto 63 = .ok (.aload_n 0, 1) := by decide +kernel
theorem dX4_readInto_64 : decode cX4_readInto 64 = .ok (.getfield 15, 3) := by decide +kernel
theorem dX4_readInto_67 : decode cX4_readInto 67 = .ok (.aload_n 0, 1) := by decide +kernel
theorem dX4_readInto_68 : decode cX4_readInto 68 = .ok (.getfield 38, 3) := by decide +kernel
theorem dX4_readInto_71 : decode cX4_readInto 71 = .ok (.iaload, 1) := by decide +kernel
theorem dX4_readInto_72 : decode cX4_readInto 72 = .ok (.iconst (-1), 1) := by decide +kernel
theorem dX4_readInto_73 : decode cX4_readInto 73 = .ok (.if_icmp .eq 13, 3) := by decide +kernel
theorem dX4_readInto_76 : decode cX4_readInto 76 = .ok (.aload_n 0, 1) := by decide +kernel
theorem dX4_readInto_77 : decode cX4_readInto 77 = .ok (.getfield 21, 3) := by decide +kernel
theorem dX4_readInto_80 : decode cX4_readInto 80 = .ok (.aload_n 0, 1) := by decide +kernel
theorem dX4_readInto_81 : decode cX4_readInto 81 = .ok (.getfield 38, 3) := by decide +kernel
theorem dX4_readInto_84 : decode cX4_readInto 84 = .ok (.iaload, 1) := by decide +kernel
theorem dX4_readInto_85 : decode cX4_readInto 85 = .ok (.ireturn, 1) := by decide +kernel
theorem dX4_readInto_86 : decode cX4_readInto 86 = .ok (.aload_n 1, 1) := by decide +kernel
theorem dX4_readInto_87 : decode cX4_readInto 87 = .ok (.aload_n 0, 1) := by decide +kernel
theorem dX4_readInto_88 : decode cX4_readInto 88 = .ok (.getfield 27, 3) := by decide +kernel
theorem dX4_readInto_91 : decode cX4_readInto 91 = .ok (.invokevirtual 48, 3) := by decide +kernel
theorem dX4_readInto_94 : decode cX4_readInto 94 = .ok (.iconst (-1), 1) := by decide +kernel
theorem dX4_readInto_95 : decode cX4_readInto 95 = .ok (.ireturn, 1) := by decide +kernel
theorem dX4_readRule_0 : decode cX4_readRule 0 = .ok (.aload_n 0, 1) := by decide +kernel
theorem dX4_readRule_1 : decode cX4_readRule 1 = .ok (.getfield 15, 3) := by decide +kernel
theorem dX4_readRule_4 : decode cX4_readRule 4 = .ok (.aload_n 0, 1) := by decide +kernel
theorem dX4_readRule_5 : decode cX4_readRule 5 = .ok (.getfield 38, 3) := by decide +kernel
theorem dX4_readRule_8 : decode cX4_readRule 8 = .ok (.iaload, 1) := by decide +kernel
theorem dX4_readRule_9 : decode cX4_readRule 9 = .ok (.sipush 256, 3) := by decide +kernel
theorem dX4_readRule_12 : decode cX4_readRule 12 = .ok (.isub, 1) := by decide +kernel
theorem dX4_readRule_13 : decode cX4_readRule 13 = .ok (.istore_n 1, 1) := by decide +kernel
theorem dX4_readRule_14 : decode cX4_readRule 14 = .ok (.iload_n 1, 1) := by decide +kernel
theorem dX4_readRule_15 : decode cX4_readRule 15 = .ok (.ifCond .lt 8, 3) := by decide +kernel
theorem dX4_readRule_18 : decode cX4_readRule 18 = .ok (.iload_n 1, 1) := by decide +kernel
theorem dX4_readRule_19 : decode cX4_readRule 19 = .ok (.iconst 5, 1) := by decide +kernel
theorem dX4_readRule_20 : decode cX4_readRule 20 = .ok (.if_icmp .le 5, 3) := by decide +kernel
theorem dX4_readRule_23 : decode cX4_readRule 23 = .ok (.iconst 0, 1) := by decide +kernel
theorem dX4_readRule_24 : decode cX4_readRule 24 = .ok (.ireturn, 1) := by decide +kernel
theorem dX4_readRule_25 : decode cX4_readRule 25 = .ok (.aload_n 0, 1) := by decide +kernel
theorem dX4_readRule_26 : decode cX4_readRule 26 = .ok (.dup, 1) := by decide +kernel
theorem dX4_readRule_27 : decode cX4_readRule 27 = .ok (.getfield 38, 3) := by decide +kernel
theorem dX4_readRule_30 : decode cX4_readRule 30 = .ok (.iconst 1, 1) := by decide +kernel
theorem dX4_readRule_31 : decode cX4_readRule 31 = .ok (.iadd, 1) := by decide +kernel
theorem dX4_readRule_32 : decode cX4_readRule 32 = .ok (.putfield 38, 3) := by decide +kernel
theorem dX4_readRule_35 : decode cX4_readRule 35 = .ok (.aload_n 0, 1) := by decide +kernel
theorem dX4_readRule_36 : decode cX4_readRule 36 = .ok (.getfield 15, 3) := by decide +kernel
theorem dX4_readRule_39 : decode cX4_readRule 39 = .ok (.aload_n 0, 1) := by decide +kernel
theorem dX4_readRule_40 : decode cX4_readRule 40 = .ok (.getfield 38, 3) := by decide +kernel
theorem dX4_readRule_43 : decode cX4_readRule 43 = .ok (.iaload, 1) := by decide +kernel
theorem dX4_readRule_44 : decode cX4_readRule 44 = .ok (.sipush 262, 3) := by decide +kernel
theorem dX4_readRule_47 : decode cX4_readRule 47 = .ok (.if_icmp .ne 23, 3) := by decide +kernel
theorem dX4_readRule_50 : decode cX4_readRule 50 = .ok (.aload_n 0, 1) := by decide +kernel
theorem dX4_readRule_51 : decode cX4_readRule 51 = .ok (.dup, 1) := by decide +kernel
theorem dX4_readRule_52 : decode cX4_readRule 52 = .ok (.getfield 38, 3) := by decide +kernel
theorem dX4_readRule_55 : decode cX4_readRule 55 = .ok (.iconst 1, 1) := by decide +kernel
theorem dX4_readRule_56 : decode cX4_readRule 56 = .ok (.iadd, 1) := by decide +kernel
theorem dX4_readRule_57 : decode cX4_readRule 57 = .ok (.putfield 38, 3) := by decide +kernel
theorem dX4_readRule_60 : decode cX4_readRule 60 = .ok (.aload_n 0, 1) := by decide +kernel
theorem dX4_readRule_61 : decode cX4_readRule 61 = .ok (.iconst 0, 1) := by decide +kernel
theorem dX4_readRule_62 : decode cX4_readRule 62 = .ok (.invokevirtual 52, 3) := by decide +kernel
theorem dX4_readRule_65 : decode cX4_readRule 65 = .ok (.ifCond .ne 5, 3) := by decide +kernel
theorem dX4_readRule_68 : decode cX4_readRule 68 = .ok (.iconst 0, 1) := by decide +kernel
theorem dX4_readRule_69 : decode cX4_readRule 69 = .ok (.ireturn, 1) := by decide +kernel
theorem dX4_readRule_70 : decode cX4_readRule 70 = .ok (.aload_n 0, 1) := by decide +kernel
theorem dX4_readRule_71 : decode cX4_readRule 71 = .ok (.getfield 15, 3) := by decide +kernel
theorem dX4_readRule_74 : decode cX4_readRule 74 = .ok (.aload_n 0, 1) := by decide +kernel
theorem dX4_readRule_75 : decode cX4_readRule 75 = .ok (.getfield 38, 3) := by decide +kernel
theorem dX4_readRule_78 : decode cX4_readRule 78 = .ok (.iaload, 1) := by decide +kernel
theorem dX4_readRule_79 : decode cX4_readRule 79 = .ok (.istore_n 2, 1) := by decide +kernel
theorem dX4_readRule_80 : decode cX4_readRule 80 = .ok (.iload_n 2, 1) := by decide +kernel
theorem dX4_readRule_81 : decode cX4_readRule 81 = .ok (.sipush 263, 3) := by decide +kernel
theorem dX4_readRule_84 : decode cX4_readRule 84 = .ok (.if_icmp .eq 19, 3) := by decide +kernel
theorem dX4_readRule_87 : decode cX4_readRule 87 = .ok (.iload_n 2, 1) := by decide +kernel
theorem dX4_readRule_88 : decode cX4_readRule 88 = .ok (.sipush 264, 3) := by decide +kernel
theorem dX4_readRule_91 : decode cX4_readRule 91 = .ok (.if_icmp .eq 12, 3) := by decide +kernel
theorem dX4_readRule_94 : decode cX4_readRule 94 = .ok (.iload_n 2, 1) := by decide +kernel
theorem dX4_readRule_95 : decode cX4_readRule 95 = .ok (.sipush 265, 3) := by decide +kernel
theorem dX4_readRule_98 : decode cX4_readRule 98 = .ok (.if_icmp .eq 5, 3) := by decide +kernel
theorem dX4_readRule_101 : decode cX4_readRule 101 = .ok (.iconst 0, 1) := by decide +kernel
theorem dX4_readRule_102 : decode cX4_readRule 102 = .ok (.ireturn, 1) := by decide +kernel
theorem dX4_readRule_103 : decode cX4_readRule 103 = .ok (.aload_n 0, 1) := by decide +kernel
theorem dX4_readRule_104 : decode cX4_readRule 104 = .ok (.dup, 1) := by decide +kernel
theorem dX4_readRule_105 : decode cX4_readRule 105 = .ok (.getfield 38, 3) := by decide +kernel
theorem dX4_readRule_108 : decode cX4_readRule 108 = .ok (.iconst 1, 1) := by decide +kernel
theorem dX4_readRule_109 : decode cX4_readRule 109 = .ok (.iadd, 1) := by decide +kernel
theorem dX4_readRule_110 : decode cX4_readRule 110 = .ok (.putfield 38, 3) := by decide +kernel
theorem dX4_readRule_113 : decode cX4_readRule 113 = .ok (.sipush 1000, 3) := by decide +kernel
theorem dX4_readRule_116 : decode cX4_readRule 116 = .ok (.istore_n 3, 1) := by decide +kernel
theorem dX4_readRule_117 : decode cX4_readRule 117 = .ok (.iload_n 2, 1) := by decide +kernel
theorem dX4_readRule_118 : decode cX4_readRule 118 = .ok (.sipush 265, 3) := by decide +kernel
theorem dX4_readRule_121 : decode cX4_readRule 121 = .ok (.if_icmp .eq 73, 3) := by decide +kernel
theorem dX4_readRule_124 : decode cX4_readRule 124 = .ok (.aload_n 0, 1) := by decide +kernel
theorem dX4_readRule_125 : decode cX4_readRule 125 = .ok (.getfield 15, 3) := by decide +kernel
theorem dX4_readRule_128 : decode cX4_readRule 128 = .ok (.aload_n 0, 1) := by decide +kernel
theorem dX4_readRule_129 : decode cX4_readRule 129 = .ok (.getfield 38, 3) := by decide +kernel
theorem dX4_readRule_132 : decode cX4_readRule 132 = .ok (.iaload, 1) := by decide +kernel
theorem dX4_readRule_133 : decode cX4_readRule 133 = .ok (.bipush (-2), 2) := by decide +kernel
theorem dX4_readRule_135 : decode cX4_readRule 135 = .ok (.if_icmp .ne 17, 3) := by decide +kernel
theorem dX4_readRule_138 : decode cX4_readRule 138 = .ok (.aload_n 0, 1) := by decide +kernel
theorem dX4_readRule_139 : decode cX4_readRule 139 = .ok (.getfield 18, 3) := by decide +kernel
theorem dX4_readRule_142 : decode cX4_readRule 142 = .ok (.aload_n 0, 1) := by decide +kernel
theorem dX4_readRule_143 : decode cX4_readRule 143 = .ok (.getfield 38, 3) := by decide +kernel
theorem dX4_readRule_146 : decode cX4_readRule 146 = .ok (.iaload, 1) := by decide +kernel
theorem dX4_readRule_147 : decode cX4_readRule 147 = .ok (.bipush 99, 2) := by decide +kernel
theorem dX4_readRule_149 : decode cX4_readRule 149 = .ok (.if_icmp .le 5, 3) := by decide +kernel
theorem dX4_readRule_152 : decode cX4_readRule 152 = .ok (.iconst 0, 1) := by decide +kernel
theorem dX4_readRule_153 : decode cX4_readRule 153 = .ok (.ireturn, 1) := by decide +kernel
theorem dX4_readRule_154 : decode cX4_readRule 154 = .ok (.iload_n 2, 1) := by decide +kernel
theorem dX4_readRule_155 : decode cX4_readRule 155 = .ok (.sipush 263, 3) := by decide +kernel
theorem dX4_readRule_158 : decode cX4_readRule 158 = .ok (.if_icmp .ne 15, 3) := by decide +kernel
theorem dX4_readRule_161 : decode cX4_readRule 161 = .ok (.aload_n 0, 1) := by decide +kernel
theorem dX4_readRule_162 : decode cX4_readRule 162 = .ok (.getfield 18, 3) := by decide +kernel
theorem dX4_readRule_165 : decode cX4_readRule 165 = .ok (.aload_n 0, 1) := by decide +kernel
theorem dX4_readRule_166 : decode cX4_readRule 166 = .ok (.getfield 38, 3) := by decide +kernel
theorem dX4_readRule_169 : decode cX4_readRule 169 = .ok (.iaload, 1) := by decide +kernel
theorem dX4_readRule_170 : decode cX4_readRule 170 = .ok (.goto 13, 3) := by decide +kernel
theorem dX4_readRule_173 : decode cX4_readRule 173 = .ok (.aload_n 0, 1) := by decide +kernel
theorem dX4_readRule_174 : decode cX4_readRule 174 = .ok (.getfield 18, 3) := by decide +kernel
theorem dX4_readRule_177 : decode cX4_readRule 177 = .ok (.aload_n 0, 1) := by decide +kernel
theorem dX4_readRule_178 : decode cX4_readRule 178 = .ok (.getfield 38, 3) := by decide +kernel
theorem dX4_readRule_181 : decode cX4_readRule 181 = .ok (.iaload, 1) := by decide +kernel
theorem dX4_readRule_182 : decode cX4_readRule 182 = .ok (.ineg, 1) := by decide +kernel
theorem dX4_readRule_183 : decode cX4_readRule 183 = .ok (.istore_n 3, 1) := by decide +kernel
theorem dX4_readRule_184 : decode cX4_readRule 184 = .ok (.aload_n 0, 1) := by decide +kernel
theorem dX4_readRule_185 : decode cX4_readRule 185 = .ok (.dup, 1) := by decide +kernel
theorem dX4_readRule_186 : decode cX4_readRule 186 = .ok (.getfield 38, 3) := by decide +kernel
theorem dX4_readRule_189 : decode cX4_readRule 189 = .ok (.iconst 1, 1) := by decide +kernel
theorem dX4_readRule_190 : decode cX4_readRule 190 = .ok (.iadd, 1) := by decide +kernel
theorem dX4_readRule_191 : decode cX4_readRule 191 = .ok (.putfield 38, 3) := by decide +kernel
theorem dX4_readRule_194 : decode cX4_readRule 194 = .ok (.aload_n 0, 1) := by decide +kernel
theorem dX4_readRule_195 : decode cX4_readRule 195 = .ok (.getfield 15, 3) := by decide +kernel
theorem dX4_readRule_198 : decode cX4_readRule 198 = .ok (.aload_n 0, 1) := by decide +kernel
theorem dX4_readRule_199 : decode cX4_readRule 199 = .ok (.getfield 38, 3) := by decide +kernel
theorem dX4_readRule_202 : decode cX4_readRule 202 = .ok (.iaload, 1) := by decide +kernel
theorem dX4_readRule_203 : decode cX4_readRule 203 = .ok (.bipush 59, 2) := by decide +kernel
theorem dX4_readRule_205 : decode cX4_readRule 205 = .ok (.if_icmp .eq 5, 3) := by decide +kernel
theorem dX4_readRule_208 : decode cX4_readRule 208 = .ok (.iconst 0, 1) := by decide +kernel
theorem dX4_readRule_209 : decode cX4_readRule 209 = .ok (.ireturn, 1) := by decide +kernel
theorem dX4_readRule_210 : decode cX4_readRule 210 = .ok (.aload_n 0, 1) := by decide +kernel
theorem dX4_readRule_211 : decode cX4_readRule 211 = .ok (.dup, 1) := by decide +kernel
theorem dX4_readRule_212 : decode cX4_readRule 212 = .ok (.getfield 38, 3) := by decide +kernel
theorem dX4_readRule_215 : decode cX4_readRule 215 = .ok (.iconst 1, 1) := by decide +kernel
theorem dX4_readRule_216 : decode cX4_readRule 216 = .ok (.iadd, 1) := by decide +kernel
theorem dX4_readRule_217 : decode cX4_readRule 217 = .ok (.putfield 38, 3) := by decide +kernel
theorem dX4_readRule_220 : decode cX4_readRule 220 = .ok (.aload_n 0, 1) := by decide +kernel
theorem dX4_readRule_221 : decode cX4_readRule 221 = .ok (.getfield 27, 3) := by decide +kernel
theorem dX4_readRule_224 : decode cX4_readRule 224 = .ok (.iload_n 1, 1) := by decide +kernel
theorem dX4_readRule_225 : decode cX4_readRule 225 = .ok (.iload_n 3, 1) := by decide +kernel
theorem dX4_readRule_226 : decode cX4_readRule 226 = .ok (.invokevirtual 56, 3) := by decide +kernel
theorem dX4_readRule_229 : decode cX4_readRule 229 = .ok (.iconst 1, 1) := by decide +kernel
theorem dX4_readRule_230 : decode cX4_readRule 230 = .ok (.ireturn, 1) := by decide +kernel
theorem dX4_readAny_0 : decode cX4_readAny 0 = .ok (.aload_n 0, 1) := by decide +kernel
theorem dX4_readAny_1 : decode cX4_readAny 1 = .ok (.iload_n 1, 1) := by decide +kernel
theorem dX4_readAny_2 : decode cX4_readAny 2 = .ok (.invokevirtual 60, 3) := by decide +kernel
theorem dX4_readAny_5 : decode cX4_readAny 5 = .ok (.ifCond .ne 5, 3) := by decide +kernel
theorem dX4_readAny_8 : decode cX4_readAny 8 = .ok (.iconst 0, 1) := by decide +kernel
theorem dX4_readAny_9 : decode cX4_readAny 9 = .ok (.ireturn, 1) := by decide +kernel
theorem dX4_readAny_10 : decode cX4_readAny 10 = .ok (.iconst 0, 1) := by decide +kernel
theorem dX4_readAny_11 : decode cX4_readAny 11 = .ok (.istore_n 2, 1) := by decide +kernel
theorem dX4_readAny_12 : decode cX4_readAny 12 = .ok (.iload_n 2, 1) := by decide +kernel
theorem dX4_readAny_13 : decode cX4_readAny 13 = .ok (.sipush 200, 3) := by decide +kernel
theorem dX4_readAny_16 : decode cX4_readAny 16 = .ok (.if_icmp .ge 53, 3) := by decide +kernel
theorem dX4_readAny_19 : decode cX4_readAny 19 = .ok (.aload_n 0, 1) := by decide +kernel
theorem dX4_readAny_20 : decode cX4_readAny 20 = .ok (.getfield 15, 3) := by decide +kernel
theorem dX4_readAny_23 : decode cX4_readAny 23 = .ok (.aload_n 0, 1) := by decide +kernel
theorem dX4_readAny_24 : decode cX4_readAny 24 = .ok (.getfield 38, 3) := by decide +kernel
theorem dX4_readAny_27 : decode cX4_readAny 27 = .ok (.iaload, 1) := by decide +kernel
theorem dX4_readAny_28 : decode cX4_readAny 28 = .ok (.sipush 266, 3) := by decide +kernel
theorem dX4_readAny_31 : decode cX4_readAny 31 = .ok (.if_icmp .ne 38, 3) := by decide +kernel
theorem dX4_readAny_34 : decode cX4_readAny 34 = .ok (.aload_n 0, 1) := by decide +kernel
theorem dX4_readAny_35 : decode cX4_readAny 35 = .ok (.dup, 1) := by decide +kernel
theorem dX4_readAny_36 : decode cX4_readAny 36 = .ok (.getfield 38, 3) := by decide +kernel
theorem dX4_readAny_39 : decode cX4_readAny 39 = .ok (.iconst 1, 1) := by decide +kernel
theorem dX4_readAny_40 : decode cX4_readAny 40 = .ok (.iadd, 1) := by decide +kernel
theorem dX4_readAny_41 : decode cX4_readAny 41 = .ok (.putfield 38, 3) := by decide +kernel
theorem dX4_readAny_44 : decode cX4_readAny 44 = .ok (.aload_n 0, 1) := by decide +kernel
theorem dX4_readAny_45 : decode cX4_readAny 45 = .ok (.iload_n 1, 1) := by decide +kernel
theorem dX4_readAny_46 : decode cX4_readAny 46 = .ok (.invokevirtual 60, 3) := by decide +kernel
theorem dX4_readAny_49 : decode cX4_readAny 49 = .ok (.ifCond .ne 5, 3) := by decide +kernel
theorem dX4_readAny_52 : decode cX4_readAny 52 = .ok (.iconst 0, 1) := by decide +kernel
theorem dX4_readAny_53 : decode cX4_readAny 53 = .ok (.ireturn, 1) := by decide +kernel
theorem dX4_readAny_54 : decode cX4_readAny 54 = .ok (.aload_n 0, 1) := by decide +kernel
theorem dX4_readAny_55 : decode cX4_readAny 55 = .ok (.getfield 27, 3) := by decide +kernel
theorem dX4_readAny_58 : decode cX4_readAny 58 = .ok (.bipush (-11), 2) := by decide +kernel
theorem dX4_readAny_60 : decode cX4_readAny 60 = .ok (.invokevirtual 63, 3) := by decide +kernel
theorem dX4_readAny_63 : decode cX4_readAny 63 = .ok (.iinc 2 1, 3) := by decide +kernel
theorem dX4_readAny_66 : decode cX4_readAny 66 = .ok (.goto (-54), 3) := by decide +kernel
theorem dX4_readAny_69 : decode cX4_readAny 69 = .ok (.iconst 1, 1) := by decide +kernel
theorem dX4_readAny_70 : decode cX4_readAny 70 = .ok (.ireturn, 1) := by decide +kernel
theorem dX4_readAll_0 : decode cX4_readAll 0 = .ok (.aload_n 0, 1) := by decide +kernel
theorem dX4_readAll_1 : decode cX4_readAll 1 = .ok (.iload_n 1, 1) := by decide +kernel
theorem dX4_readAll_2 : decode cX4_readAll 2 = .ok (.invokevirtual 67, 3) := by decide +kernel
theorem dX4_readAll_5 : decode cX4_readAll 5 = .ok (.ifCond .ne 5, 3) := by decide +kernel
theorem dX4_readAll_8 : decode cX4_readAll 8 = .ok (.iconst 0, 1) := by decide +kernel
theorem dX4_readAll_9 : decode cX4_readAll 9 = .ok (.ireturn, 1) := by decide +kernel
theorem dX4_readAll_10 : decode cX4_readAll 10 = .ok (.iconst 0, 1) := by decide +kernel
theorem dX4_readAll_11 : decode cX4_readAll 11 = .ok (.istore_n 2, 1) := by decide +kernel
theorem dX4_readAll_12 : decode cX4_readAll 12 = .ok (.iload_n 2, 1) := by decide +kernel
theorem dX4_readAll_13 : decode cX4_readAll 13 = .ok (.sipush 200, 3) := by decide +kernel
theorem dX4_readAll_16 : decode cX4_readAll 16 = .ok (.if_icmp .ge 53, 3) := by decide +kernel
theorem dX4_readAll_19 : decode cX4_readAll 19 = .ok (.aload_n 0, 1) := by decide +kernel
theorem dX4_readAll_20 : decode cX4_readAll 20 = .ok (.getfield 15, 3) := by decide +kernel
theorem dX4_readAll_23 : decode cX4_readAll 23 = .ok (.aload_n 0, 1) := by decide +kernel
theorem dX4_readAll_24 : decode cX4_readAll 24 = .ok (.getfield 38, 3) := by decide +kernel
theorem dX4_readAll_27 : decode cX4_readAll 27 = .ok (.iaload, 1) := by decide +kernel
theorem dX4_readAll_28 : decode cX4_readAll 28 = .ok (.sipush 267, 3) := by decide +kernel
theorem dX4_readAll_31 : decode cX4_readAll 31 = .ok (.if_icmp .ne 38, 3) := by decide +kernel
theorem dX4_readAll_34 : decode cX4_readAll 34 = .ok (.aload_n 0, 1) := by decide +kernel
theorem dX4_readAll_35 : decode cX4_readAll 35 = .ok (.dup, 1) := by decide +kernel
theorem dX4_readAll_36 : decode cX4_readAll 36 = .ok (.getfield 38, 3) := by decide +kernel
theorem dX4_readAll_39 : decode cX4_readAll 39 = .ok (.iconst 1, 1) := by decide +kernel
theorem dX4_readAll_40 : decode cX4_readAll 40 = .ok (.iadd, 1) := by decide +kernel
theorem dX4_readAll_41 : decode cX4_readAll 41 = .ok (.putfield 38, 3) := by decide +kernel
theorem dX4_readAll_44 : decode cX4_readAll 44 = .ok (.aload_n 0, 1) := by decide +kernel
theorem dX4_readAll_45 : decode cX4_readAll 45 = .ok (.iload_n 1, 1) := by decide +kernel
theorem dX4_readAll_46 : decode cX4_readAll 46 = .ok (.invokevirtual 67, 3) := by decide +kernel
theorem dX4_readAll_49 : decode cX4_readAll 49 = .ok (.ifCond .ne 5, 3) := by decide +kernel
theorem dX4_readAll_52 : decode cX4_readAll 52 = .ok (.iconst 0, 1) := by decide +kernel
theorem dX4_readAll_53 : decode cX4_readAll 53 = .ok (.ireturn, 1) := by decide +kernel
theorem dX4_readAll_54 : decode cX4_readAll 54 = .ok (.aload_n 0, 1) := by decide +kernel
theorem dX4_readAll_55 : decode cX4_readAll 55 = .ok (.getfield 27, 3) := by decide +kernel
theorem dX4_readAll_58 : decode cX4_readAll 58 = .ok (.bipush (-10), 2) := by decide +kernel
theorem dX4_readAll_60 : decode cX4_readAll 60 = .ok (.invokevirtual 63, 3) := by decide +kernel
theorem dX4_readAll_63 : decode cX4_readAll 63 = .ok (.iinc 2 1, 3) := by decide +kernel
theorem dX4_readAll_66 : decode cX4_readAll 66 = .ok (.goto (-54), 3) := by decide +kernel
theorem dX4_readAll_69 : decode cX4_readAll 69 = .ok (.iconst 1, 1) := by decide +kernel
theorem dX4_readAll_70 : decode cX4_readAll 70 = .ok (.ireturn, 1) := by decide +kernel
theorem dX4_readOne_0 : decode cX4_readOne 0 = .ok (.iconst 0, 1) := by decide +kernel
theorem dX4_readOne_1 : decode cX4_readOne 1 = .ok (.istore_n 2, 1) := by decide +kernel
theorem dX4_readOne_2 : decode cX4_readOne 2 = .ok (.iconst 0, 1) := by decide +kernel
theorem dX4_readOne_3 : decode cX4_readOne 3 = .ok (.istore_n 3, 1) := by decide +kernel
theorem dX4_readOne_4 : decode cX4_readOne 4 = .ok (.iload_n 3, 1) := by decide +kernel
theorem dX4_readOne_5 : decode cX4_readOne 5 = .ok (.sipush 200, 3) := by decide +kernel
theorem dX4_readOne_8 : decode cX4_readOne 8 = .ok (.if_icmp .ge 44, 3) := by decide +kernel
theorem dX4_readOne_11 : decode cX4_readOne 11 = .ok (.aload_n 0, 1) := by decide +kernel
theorem dX4_readOne_12 : decode cX4_readOne 12 = .ok (.getfield 15, 3) := by decide +kernel
theorem dX4_readOne_15 : decode cX4_readOne 15 = .ok (.aload_n 0, 1) := by decide +kernel
theorem dX4_readOne_16 : decode cX4_readOne 16 = .ok (.getfield 38, 3) := by decide +kernel
theorem dX4_readOne_19 : decode cX4_readOne 19 = .ok (.iaload, 1) := by decide +kernel
theorem dX4_readOne_20 : decode cX4_readOne 20 = .ok (.sipush 268, 3) := by decide +kernel
theorem dX4_readOne_23 : decode cX4_readOne 23 = .ok (.if_icmp .ne 29, 3) := by decide +kernel
theorem dX4_readOne_26 : decode cX4_readOne 26 = .ok (.aload_n 0, 1) := by decide +kernel
theorem dX4_readOne_27 : decode cX4_readOne 27 = .ok (.dup, 1) := by decide +kernel
theorem dX4_readOne_28 : decode cX4_readOne 28 = .ok (.getfield 38, 3) := by decide +kernel
theorem dX4_readOne_31 : decode cX4_readOne 31 = .ok (.iconst 1, 1) := by decide +kernel
theorem dX4_readOne_32 : decode cX4_readOne 32 = .ok (.iadd, 1) := by decide +kernel
theorem dX4_readOne_33 : decode cX4_readOne 33 = .ok (.putfield 38, 3) := by decide +kernel
theorem dX4_readOne_36 : decode cX4_readOne 36 = .ok (.iload_n 2, 1) := by decide +kernel
theorem dX4_readOne_37 : decode cX4_readOne 37 = .ok (.ifCond .ne 7, 3) := by decide +kernel
theorem dX4_readOne_40 : decode cX4_readOne 40 = .ok (.iconst 1, 1) := by decide +kernel
theorem dX4_readOne_41 : decode cX4_readOne 41 = .ok (.goto 4, 3) := by decide +kernel
theorem dX4_readOne_44 : decode cX4_readOne 44 = .ok (.iconst 0, 1) := by decide +kernel
theorem dX4_readOne_45 : decode cX4_readOne 45 = .ok (.istore_n 2, 1) := by decide +kernel
theorem dX4_readOne_46 : decode cX4_readOne 46 = .ok (.iinc 3 1, 3) := by decide +kernel
theorem dX4_readOne_49 : decode cX4_readOne 49 = .ok (.goto (-45), 3) := by decide +kernel
theorem dX4_readOne_52 : decode cX4_readOne 52 = .ok (.aload_n 0, 1) := by decide +kernel
theorem dX4_readOne_53 : decode cX4_readOne 53 = .ok (.getfield 15, 3) := by decide +kernel
theorem dX4_readOne_56 : decode cX4_readOne 56 = .ok (.aload_n 0, 1) := by decide +kernel
theorem dX4_readOne_57 : decode cX4_readOne 57 = .ok (.getfield 38, 3) := by decide +kernel
theorem dX4_readOne_60 : decode cX4_readOne 60 = .ok (.iaload, 1) := by decide +kernel
theorem dX4_readOne_61 : decode cX4_readOne 61 = .ok (.bipush 40, 2) := by decide +kernel
theorem dX4_readOne_63 : decode cX4_readOne 63 = .ok (.if_icmp .ne 59, 3) := by decide +kernel
theorem dX4_readOne_66 : decode cX4_readOne 66 = .ok (.iload_n 1, 1) := by decide +kernel
theorem dX4_readOne_67 : decode cX4_readOne 67 = .ok (.iconst 3, 1) := by decide +kernel
theorem dX4_readOne_68 : decode cX4_readOne 68 = .ok (.if_icmp .lt 5, 3) := by decide +kernel
theorem dX4_readOne_71 : decode cX4_readOne 71 = .ok (.iconst 0, 1) := by decide +kernel
theorem dX4_readOne_72 : decode cX4_readOne 72 = .ok (.ireturn, 1) := by decide +kernel
theorem dX4_readOne_73 : decode cX4_readOne 73 = .ok (.aload_n 0, 1) := by decide +kernel
theorem dX4_readOne_74 : decode cX4_readOne 74 = .ok (.dup, 1) := by decide +kernel
theorem dX4_readOne_75 : decode cX4_readOne 75 = .ok (.getfield 38, 3) := by decide +kernel
theorem dX4_readOne_78 : decode cX4_readOne 78 = .ok (.iconst 1, 1) := by decide +kernel
theorem dX4_readOne_79 : decode cX4_readOne 79 = .ok (.iadd, 1) := by decide +kernel
theorem dX4_readOne_80 : decode cX4_readOne 80 = .ok (.putfield 38, 3) := by decide +kernel
theorem dX4_readOne_83 : decode cX4_readOne 83 = .ok (.aload_n 0, 1) := by decide +kernel
theorem dX4_readOne_84 : decode cX4_readOne 84 = .ok (.iload_n 1, 1) := by decide +kernel
theorem dX4_readOne_85 : decode cX4_readOne 85 = .ok (.iconst 1, 1) := by decide +kernel
theorem dX4_readOne_86 : decode cX4_readOne 86 = .ok (.iadd, 1) := by decide +kernel
theorem dX4_readOne_87 : decode cX4_readOne 87 = .ok (.invokevirtual 52, 3) := by decide +kernel
theorem dX4_readOne_90 : decode cX4_readOne 90 = .ok (.ifCond .eq 17, 3) := by decide +kernel
theorem dX4_readOne_93 : decode cX4_readOne 93 = .ok (.aload_n 0, 1) := by decide +kernel
theorem dX4_readOne_94 : decode cX4_readOne 94 = .ok (.getfield 15, 3) := by decide +kernel
theorem dX4_readOne_97 : decode cX4_readOne 97 = .ok (.aload_n 0, 1) := by decide +kernel
theorem dX4_readOne_98 : decode cX4_readOne 98 = .ok (.getfield 38, 3) := by decide +kernel
theorem dX4_readOne_101 : decode cX4_readOne 101 = .ok (.iaload, 1) := by decide +kernel
theorem dX4_readOne_102 : decode cX4_readOne 102 = .ok (.bipush 41, 2) := by decide +kernel
theorem dX4_readOne_104 : decode cX4_readOne 104 = .ok (.if_icmp .eq 5, 3) := by decide +kernel
theorem dX4_readOne_107 : decode cX4_readOne 107 = .ok (.iconst 0, 1) := by decide +kernel
theorem dX4_readOne_108 : decode cX4_readOne 108 = .ok (.ireturn, 1) := by decide +kernel
theorem dX4_readOne_109 : decode cX4_readOne 109 = .ok (.aload_n 0, 1) := by decide +kernel
theorem dX4_readOne_110 : decode cX4_readOne 110 = .ok (.dup, 1) := by decide +kernel
theorem dX4_readOne_111 : decode cX4_readOne 111 = .ok (.getfield 38, 3) := by decide +kernel
theorem dX4_readOne_114 : decode cX4_readOne 114 = .ok (.iconst 1, 1) := by decide +kernel
theorem dX4_readOne_115 : decode cX4_readOne 115 = .ok (.iadd, 1) := by decide +kernel
theorem dX4_readOne_116 : decode cX4_readOne 116 = .ok (.putfield 38, 3) := by decide +kernel
theorem dX4_readOne_119 : decode cX4_readOne 119 = .ok (.goto 50, 3) := by decide +kernel
theorem dX4_readOne_122 : decode cX4_readOne 122 = .ok (.aload_n 0, 1) := by decide +kernel
theorem dX4_readOne_123 : decode cX4_readOne 123 = .ok (.invokevirtual 70, 3) := by decide +kernel
theorem dX4_readOne_126 : decode cX4_readOne 126 = .ok (.ifCond .ne 5, 3) := by decide +kernel
theorem dX4_readOne_129 : decode cX4_readOne 129 = .ok (.iconst 0, 1) := by decide +kernel
theorem dX4_readOne_130 : decode cX4_readOne 130 = .ok (.ireturn, 1) := by decide +kernel
theorem dX4_readOne_131 : decode cX4_readOne 131 = .ok (.aload_n 0, 1) := by decide +kernel
theorem dX4_readOne_132 : decode cX4_readOne 132 = .ok (.invokevirtual 73, 3) := by decide +kernel
theorem dX4_readOne_135 : decode cX4_readOne 135 = .ok (.istore_n 3, 1) := by decide +kernel
theorem dX4_readOne_136 : decode cX4_readOne 136 = .ok (.iload_n 3, 1) := by decide +kernel
theorem dX4_readOne_137 : decode cX4_readOne 137 = .ok (.ifCond .ne 5, 3) := by decide +kernel
theorem dX4_readOne_140 : decode cX4_readOne 140 = .ok (.iconst 0, 1) := by decide +kernel
theorem dX4_readOne_141 : decode cX4_readOne 141 = .ok (.ireturn, 1) := by decide +kernel
theorem dX4_readOne_142 : decode cX4_readOne 142 = .ok (.aload_n 0, 1) := by decide +kernel
theorem dX4_readOne_143 : decode cX4_readOne 143 = .ok (.dup, 1) := by decide +kernel
theorem dX4_readOne_144 : decode cX4_readOne 144 = .ok (.getfield 38, 3) := by decide +kernel
theorem dX4_readOne_147 : decode cX4_readOne 147 = .ok (.iconst 1, 1) := by decide +kernel
theorem dX4_readOne_148 : decode cX4_readOne 148 = .ok (.iadd, 1) := by decide +kernel
theorem dX4_readOne_149 : decode cX4_readOne 149 = .ok (.putfield 38, 3) := by decide +kernel
theorem dX4_readOne_152 : decode cX4_readOne 152 = .ok (.aload_n 0, 1) := by decide +kernel
theorem dX4_readOne_153 : decode cX4_readOne 153 = .ok (.invokevirtual 70, 3) := by decide +kernel
theorem dX4_readOne_156 : decode cX4_readOne 156 = .ok (.ifCond .ne 5, 3) := by decide +kernel
theorem dX4_readOne_159 : decode cX4_readOne 159 = .ok (.iconst 0, 1) := by decide +kernel
theorem dX4_readOne_160 : decode cX4_readOne 160 = .ok (.ireturn, 1) := by decide +kernel
theorem dX4_readOne_161 : decode cX4_readOne 161 = .ok (.aload_n 0, 1) := by decide +kernel
theorem dX4_readOne_162 : decode cX4_readOne 162 = .ok (.getfield 27, 3) := by decide +kernel
theorem dX4_readOne_165 : decode cX4_readOne 165 = .ok (.iload_n 3, 1) := by decide +kernel
theorem dX4_readOne_166 : decode cX4_readOne 166 = .ok (.invokevirtual 63, 3) := by decide +kernel
theorem dX4_readOne_169 : decode cX4_readOne 169 = .ok (.iload_n 2, 1) := by decide +kernel
theorem dX4_readOne_170 : decode cX4_readOne 170 = .ok (.ifCond .eq 12, 3) := by decide +kernel
theorem dX4_readOne_173 : decode cX4_readOne 173 = .ok (.aload_n 0, 1) := by decide +kernel
theorem dX4_readOne_174 : decode cX4_readOne 174 = .ok (.getfield 27, 3) := by decide +kernel
theorem dX4_readOne_177 : decode cX4_readOne 177 = .ok (.bipush (-9), 2) := by decide +kernel
theorem dX4_readOne_179 : decode cX4_readOne 179 = .ok (.invokevirtual 63, 3) := by decide +kernel
theorem dX4_readOne_182 : decode cX4_readOne 182 = .ok (.iconst 1, 1) := by decide +kernel
theorem dX4_readOne_183 : decode cX4_readOne 183 = .ok (.ireturn, 1) := by decide +kernel
theorem dX4_signHere_0 : decode cX4_signHere 0 = .ok (.aload_n 0, 1) := by decide +kernel
theorem dX4_signHere_1 : decode cX4_signHere 1 = .ok (.getfield 15, 3) := by decide +kernel
theorem dX4_signHere_4 : decode cX4_signHere 4 = .ok (.aload_n 0, 1) := by decide +kernel
theorem dX4_signHere_5 : decode cX4_signHere 5 = .ok (.getfield 38, 3) := by decide +kernel
theorem dX4_signHere_8 : decode cX4_signHere 8 = .ok (.iaload, 1) := by decide +kernel
theorem dX4_signHere_9 : decode cX4_signHere 9 = .ok (.tableswitch 36 60 62 #[27, 30, 33], 27) := by decide +kernel
theorem dX4_signHere_36 : decode cX4_signHere 36 = .ok (.bipush (-6), 2) := by decide +kernel
theorem dX4_signHere_38 : decode cX4_signHere 38 = .ok (.ireturn, 1) := by decide +kernel
theorem dX4_signHere_39 : decode cX4_signHere 39 = .ok (.bipush (-7), 2) := by decide +kernel
theorem dX4_signHere_41 : decode cX4_signHere 41 = .ok (.ireturn, 1) := by decide +kernel
theorem dX4_signHere_42 : decode cX4_signHere 42 = .ok (.bipush (-8), 2) := by decide +kernel
theorem dX4_signHere_44 : decode cX4_signHere 44 = .ok (.ireturn, 1) := by decide +kernel
theorem dX4_signHere_45 : decode cX4_signHere 45 = .ok (.iconst 0, 1) := by decide +kernel
theorem dX4_signHere_46 : decode cX4_signHere 46 = .ok (.ireturn, 1) := by decide +kernel
theorem dX4_readValue_0 : decode cX4_readValue 0 = .ok (.aload_n 0, 1) := by decide +kernel
theorem dX4_readValue_1 : decode cX4_readValue 1 = .ok (.getfield 15, 3) := by decide +kernel
theorem dX4_readValue_4 : decode cX4_readValue 4 = .ok (.aload_n 0, 1) := by decide +kernel
theorem dX4_readValue_5 : decode cX4_readValue 5 = .ok (.getfield 38, 3) := by decide +kernel
theorem dX4_readValue_8 : decode cX4_readValue 8 = .ok (.iaload, 1) := by decide +kernel
theorem dX4_readValue_9 : decode cX4_readValue 9 = .ok (.sipush 269, 3) := by decide +kernel
theorem dX4_readValue_12 : decode cX4_readValue 12 = .ok (.isub, 1) := by decide +kernel
theorem dX4_readValue_13 : decode cX4_readValue 13 = .ok (.istore_n 1, 1) := by decide +kernel
theorem dX4_readValue_14 : decode cX4_readValue 14 = .ok (.aload_n 0, 1) := by decide +kernel
theorem dX4_readValue_15 : decode cX4_readValue 15 = .ok (.getfield 15, 3) := by decide +kernel
theorem dX4_readValue_18 : decode cX4_readValue 18 = .ok (.aload_n 0, 1) := by decide +kernel
theorem dX4_readValue_19 : decode cX4_readValue 19 = .ok (.getfield 38, 3) := by decide +kernel
theorem dX4_readValue_22 : decode cX4_readValue 22 = .ok (.iaload, 1) := by decide +kernel
theorem dX4_readValue_23 : decode cX4_readValue 23 = .ok (.bipush (-2), 2) := by decide +kernel
theorem dX4_readValue_25 : decode cX4_readValue 25 = .ok (.if_icmp .ne 22, 3) := by decide +kernel
theorem dX4_readValue_28 : decode cX4_readValue 28 = .ok (.aload_n 0, 1) := by decide +kernel
theorem dX4_readValue_29 : decode cX4_readValue 29 = .ok (.getfield 27, 3) := by decide +kernel
theorem dX4_readValue_32 : decode cX4_readValue 32 = .ok (.aload_n 0, 1) := by decide +kernel
theorem dX4_readValue_33 : decode cX4_readValue 33 = .ok (.getfield 18, 3) := by decide +kernel
theorem dX4_readValue_36 : decode cX4_readValue 36 = .ok (.aload_n 0, 1) := by decide +kernel
theorem dX4_readValue_37 : decode cX4_readValue 37 = .ok (.getfield 38, 3) := by decide +kernel
theorem dX4_readValue_40 : decode cX4_readValue 40 = .ok (.iaload, 1) := by decide +kernel
theorem dX4_readValue_41 : decode cX4_readValue 41 = .ok (.invokevirtual 63, 3) := by decide +kernel
theorem dX4_readValue_44 : decode cX4_readValue 44 = .ok (.goto 27, 3) := by decide +kernel
theorem dX4_readValue_47 : decode cX4_readValue 47 = .ok (.iload_n 1, 1) := by decide +kernel
theorem dX4_readValue_48 : decode cX4_readValue 48 = .ok (.ifCond .lt 21, 3) := by decide +kernel
theorem dX4_readValue_51 : decode cX4_readValue 51 = .ok (.iload_n 1, 1) := by decide +kernel
theorem dX4_readValue_52 : decode cX4_readValue 52 = .ok (.iconst 5, 1) := by decide +kernel
theorem dX4_readValue_53 : decode cX4_readValue 53 = .ok (.if_icmp .ge 16, 3) := by decide +kernel
theorem dX4_readValue_56 : decode cX4_readValue 56 = .ok (.aload_n 0, 1) := by decide +kernel
theorem dX4_readValue_57 : decode cX4_readValue 57 = .ok (.getfield 27, 3) := by decide +kernel
theorem dX4_readValue_60 : decode cX4_readValue 60 = .ok (.iconst (-1), 1) := by decide +kernel
theorem dX4_readValue_61 : decode cX4_readValue 61 = .ok (.iload_n 1, 1) := by decide +kernel
theorem dX4_readValue_62 : decode cX4_readValue 62 = .ok (.isub, 1) := by decide +kernel
theorem dX4_readValue_63 : decode cX4_readValue 63 = .ok (.invokevirtual 63, 3) := by decide +kernel
theorem dX4_readValue_66 : decode cX4_readValue 66 = .ok (.goto 5, 3) := by decide +kernel
theorem dX4_readValue_69 : decode cX4_readValue 69 = .ok (.iconst 0, 1) := by decide +kernel
theorem dX4_readValue_70 : decode cX4_readValue 70 = .ok (.ireturn, 1) := by decide +kernel
theorem dX4_readValue_71 : decode cX4_readValue 71 = .ok (.aload_n 0, 1) := by decide +kernel
theorem dX4_readValue_72 : decode cX4_readValue 72 = .ok (.dup, 1) := by decide +kernel
theorem dX4_readValue_73 : decode cX4_readValue 73 = .ok (.getfield 38, 3) := by decide +kernel
theorem dX4_readValue_76 : decode cX4_readValue 76 = .ok (.iconst 1, 1) := by decide +kernel
theorem dX4_readValue_77 : decode cX4_readValue 77 = .ok (.iadd, 1) := by decide +kernel
theorem dX4_readValue_78 : decode cX4_readValue 78 = .ok (.putfield 38, 3) := by decide +kernel
theorem dX4_readValue_81 : decode cX4_readValue 81 = .ok (.iconst 1, 1) := by decide +kernel
theorem dX4_readValue_82 : decode cX4_readValue 82 = .ok (.ireturn, 1) := by decide +kernel
theorem dX4_scan_0 : decode cX4_scan 0 = .ok (.aload_n 0, 1) := by decide +kernel
theorem dX4_scan_1 : decode cX4_scan 1 = .ok (.iconst 0, 1) := by decide +kernel
theorem dX4_scan_2 : decode cX4_scan 2 = .ok (.putfield 77, 3) := by decide +kernel
theorem dX4_scan_5 : decode cX4_scan 5 = .ok (.iconst 0, 1) := by decide +kernel
theorem dX4_scan_6 : decode cX4_scan 6 = .ok (.istore_n 1, 1) := by decide +kernel
theorem dX4_scan_7 : decode cX4_scan 7 = .ok (.iconst 0, 1) := by decide +kernel
theorem dX4_scan_8 : decode cX4_scan 8 = .ok (.istore_n 2, 1) := by decide +kernel
theorem dX4_scan_9 : decode cX4_scan 9 = .ok (.iload_n 2, 1) := by decide +kernel
theorem dX4_scan_10 : decode cX4_scan 10 = .ok (.sipush 200, 3) := by decide +kernel
theorem dX4_scan_13 : decode cX4_scan 13 = .ok (.if_icmp .ge 78, 3) := by decide +kernel
theorem dX4_scan_16 : decode cX4_scan 16 = .ok (.aload_n 0, 1) := by decide +kernel
theorem dX4_scan_17 : decode cX4_scan 17 = .ok (.getfield 77, 3) := by decide +kernel
theorem dX4_scan_20 : decode cX4_scan 20 = .ok (.aload_n 0, 1) := by decide +kernel
theorem dX4_scan_21 : decode cX4_scan 21 = .ok (.getfield 31, 3) := by decide +kernel
theorem dX4_scan_24 : decode cX4_scan 24 = .ok (.if_icmp .ge 67, 3) := by decide +kernel
theorem dX4_scan_27 : decode cX4_scan 27 = .ok (.aload_n 0, 1) := by decide +kernel
theorem dX4_scan_28 : decode cX4_scan 28 = .ok (.getfield 11, 3) := by decide +kernel
theorem dX4_scan_31 : decode cX4_scan 31 = .ok (.aload_n 0, 1) := by decide +kernel
theorem dX4_scan_32 : decode cX4_scan 32 = .ok (.getfield 77, 3) := by decide +kernel
theorem dX4_scan_35 : decode cX4_scan 35 = .ok (.iaload, 1) := by decide +kernel
theorem dX4_scan_36 : decode cX4_scan 36 = .ok (.bipush 32, 2) := by decide +kernel
theorem dX4_scan_38 : decode cX4_scan 38 = .ok (.if_icmp .ne 16, 3) := by decide +kernel
theorem dX4_scan_41 : decode cX4_scan 41 = .ok (.aload_n 0, 1) := by decide +kernel
theorem dX4_scan_42 : decode cX4_scan 42 = .ok (.dup, 1) := by decide +kernel
theorem dX4_scan_43 : decode cX4_scan 43 = .ok (.getfield 77, 3) := by decide +kernel
theorem dX4_scan_46 : decode cX4_scan 46 = .ok (.iconst 1, 1) := by decide +kernel
theorem dX4_scan_47 : decode cX4_scan 47 = .ok (.iadd, 1) := by decide +kernel
theorem dX4_scan_48 : decode cX4_scan 48 = .ok (.putfield 77, 3) := by decide +kernel
theorem dX4_scan_51 : decode cX4_scan 51 = .ok (.goto 34, 3) := by decide +kernel
theorem dX4_scan_54 : decode cX4_scan 54 = .ok (.aload_n 0, 1) := by decide +kernel
theorem dX4_scan_55 : decode cX4_scan 55 = .ok (.getfield 21, 3) := by decide +kernel
theorem dX4_scan_58 : decode cX4_scan 58 = .ok (.iload_n 1, 1) := by decide +kernel
theorem dX4_scan_59 : decode cX4_scan 59 = .ok (.aload_n 0, 1) := by decide +kernel
theorem dX4_scan_60 : decode cX4_scan 60 = .ok (.getfield 77, 3) := by decide +kernel
theorem dX4_scan_63 : decode cX4_scan 63 = .ok (.iastore, 1) := by decide +kernel
theorem dX4_scan_64 : decode cX4_scan 64 = .ok (.aload_n 0, 1) := by decide +kernel
theorem dX4_scan_65 : decode cX4_scan 65 = .ok (.getfield 18, 3) := by decide +kernel
theorem dX4_scan_68 : decode cX4_scan 68 = .ok (.iload_n 1, 1) := by decide +kernel
theorem dX4_scan_69 : decode cX4_scan 69 = .ok (.iconst 0, 1) := by decide +kernel
theorem dX4_scan_70 : decode cX4_scan 70 = .ok (.iastore, 1) := by decide +kernel
theorem dX4_scan_71 : decode cX4_scan 71 = .ok (.aload_n 0, 1) := by decide +kernel
theorem dX4_scan_72 : decode cX4_scan 72 = .ok (.getfield 15, 3) := by decide +kernel
theorem dX4_scan_75 : decode cX4_scan 75 = .ok (.iload_n 1, 1) := by decide +kernel
theorem dX4_scan_76 : decode cX4_scan 76 = .ok (.aload_n 0, 1) := by decide +kernel
theorem dX4_scan_77 : decode cX4_scan 77 = .ok (.iload_n 1, 1) := by decide +kernel
theorem dX4_scan_78 : decode cX4_scan 78 = .ok (.invokevirtual 80, 3) := by decide +kernel
theorem dX4_scan_81 : decode cX4_scan 81 = .ok (.iastore, 1) := by decide +kernel
theorem dX4_scan_82 : decode cX4_scan 82 = .ok (.iinc 1 1, 3) := by decide +kernel
theorem dX4_scan_85 : decode cX4_scan 85 = .ok (.iinc 2 1, 3) := by decide +kernel
theorem dX4_scan_88 : decode cX4_scan 88 = .ok (.goto (-79), 3) := by decide +kernel
theorem dX4_scan_91 : decode cX4_scan 91 = .ok (.aload_n 0, 1) := by decide +kernel
theorem dX4_scan_92 : decode cX4_scan 92 = .ok (.getfield 21, 3) := by decide +kernel
theorem dX4_scan_95 : decode cX4_scan 95 = .ok (.iload_n 1, 1) := by decide +kernel
theorem dX4_scan_96 : decode cX4_scan 96 = .ok (.aload_n 0, 1) := by decide +kernel
theorem dX4_scan_97 : decode cX4_scan 97 = .ok (.getfield 31, 3) := by decide +kernel
theorem dX4_scan_100 : decode cX4_scan 100 = .ok (.iastore, 1) := by decide +kernel
theorem dX4_scan_101 : decode cX4_scan 101 = .ok (.aload_n 0, 1) := by decide +kernel
theorem dX4_scan_102 : decode cX4_scan 102 = .ok (.getfield 15, 3) := by decide +kernel
theorem dX4_scan_105 : decode cX4_scan 105 = .ok (.iload_n 1, 1) := by decide +kernel
theorem dX4_scan_106 : decode cX4_scan 106 = .ok (.iconst (-1), 1) := by decide +kernel
theorem dX4_scan_107 : decode cX4_scan 107 = .ok (.iastore, 1) := by decide +kernel
theorem dX4_scan_108 : decode cX4_scan 108 = .ok (.return_, 1) := by decide +kernel
theorem dX4_scanToken_0 : decode cX4_scanToken 0 = .ok (.aload_n 0, 1) := by decide +kernel
theorem dX4_scanToken_1 : decode cX4_scanToken 1 = .ok (.getfield 77, 3) := by decide +kernel
theorem dX4_scanToken_4 : decode cX4_scanToken 4 = .ok (.istore_n 2, 1) := by decide +kernel
theorem dX4_scanToken_5 : decode cX4_scanToken 5 = .ok (.aload_n 0, 1) := by decide +kernel
theorem dX4_scanToken_6 : decode cX4_scanToken 6 = .ok (.getfield 11, 3) := by decide +kernel
theorem dX4_scanToken_9 : decode cX4_scanToken 9 = .ok (.aload_n 0, 1) := by decide +kernel
theorem dX4_scanToken_10 : decode cX4_scanToken 10 = .ok (.getfield 77, 3) := by decide +kernel
theorem dX4_scanToken_13 : decode cX4_scanToken 13 = .ok (.iaload, 1) := by decide +kernel
theorem dX4_scanToken_14 : decode cX4_scanToken 14 = .ok (.invokestatic 84, 3) := by decide +kernel
theorem dX4_scanToken_17 : decode cX4_scanToken 17 = .ok (.ifCond .eq 48, 3) := by decide +kernel
theorem dX4_scanToken_20 : decode cX4_scanToken 20 = .ok (.aload_n 0, 1) := by decide +kernel
theorem dX4_scanToken_21 : decode cX4_scanToken 21 = .ok (.getfield 77, 3) := by decide +kernel
theorem dX4_scanToken_24 : decode cX4_scanToken 24 = .ok (.aload_n 0, 1) := by decide +kernel
theorem dX4_scanToken_25 : decode cX4_scanToken 25 = .ok (.getfield 31, 3) := by decide +kernel
theorem dX4_scanToken_28 : decode cX4_scanToken 28 = .ok (.if_icmp .ge 31, 3) := by decide +kernel
theorem dX4_scanToken_31 : decode cX4_scanToken 31 = .ok (.aload_n 0, 1) := by decide +kernel
theorem dX4_scanToken_32 : decode cX4_scanToken 32 = .ok (.getfield 11, 3) := by decide +kernel
theorem dX4_scanToken_35 : decode cX4_scanToken 35 = .ok (.aload_n 0, 1) := by decide +kernel
theorem dX4_scanToken_36 : decode cX4_scanToken 36 = .ok (.getfield 77, 3) := by decide +kernel
theorem dX4_scanToken_39 : decode cX4_scanToken 39 = .ok (.iaload, 1) := by decide +kernel
theorem dX4_scanToken_40 : decode cX4_scanToken 40 = .ok (.invokestatic 84, 3) := by decide +kernel
theorem dX4_scanToken_43 : decode cX4_scanToken 43 = .ok (.ifCond .eq 16, 3) := by decide +kernel
theorem dX4_scanToken_46 : decode cX4_scanToken 46 = .ok (.aload_n 0, 1) := by decide +kernel
theorem dX4_scanToken_47 : decode cX4_scanToken 47 = .ok (.dup, 1) := by decide +kernel
theorem dX4_scanToken_48 : decode cX4_scanToken 48 = .ok (.getfield 77, 3) := by decide +kernel
theorem dX4_scanToken_51 : decode cX4_scanToken 51 = .ok (.iconst 1, 1) := by decide +kernel
theorem dX4_scanToken_52 : decode cX4_scanToken 52 = .ok (.iadd, 1) := by decide +kernel
theorem dX4_scanToken_53 : decode cX4_scanToken 53 = .ok (.putfield 77, 3) := by decide +kernel
theorem dX4_scanToken_56 : decode cX4_scanToken 56 = .ok (.goto (-36), 3) := by decide +kernel
theorem dX4_scanToken_59 : decode cX4_scanToken 59 = .ok (.aload_n 0, 1) := by decide +kernel
theorem dX4_scanToken_60 : decode cX4_scanToken 60 = .ok (.iload_n 2, 1) := by decide +kernel
theorem dX4_scanToken_61 : decode cX4_scanToken 61 = .ok (.invokevirtual 87, 3) := by decide +kernel
theorem dX4_scanToken_64 : decode cX4_scanToken 64 = .ok (.ireturn, 1) := by decide +kernel
theorem dX4_scanToken_65 : decode cX4_scanToken 65 = .ok (.aload_n 0, 1) := by decide +kernel
theorem dX4_scanToken_66 : decode cX4_scanToken 66 = .ok (.getfield 11, 3) := by decide +kernel
theorem dX4_scanToken_69 : decode cX4_scanToken 69 = .ok (.aload_n 0, 1) := by decide +kernel
theorem dX4_scanToken_70 : decode cX4_scanToken 70 = .ok (.getfield 77, 3) := by decide +kernel
theorem dX4_scanToken_73 : decode cX4_scanToken 73 = .ok (.iaload, 1) := by decide +kernel
theorem dX4_scanToken_74 : decode cX4_scanToken 74 = .ok (.invokestatic 90, 3) := by decide +kernel
theorem dX4_scanToken_77 : decode cX4_scanToken 77 = .ok (.ifCond .ne 20, 3) := by decide +kernel
theorem dX4_scanToken_80 : decode cX4_scanToken 80 = .ok (.aload_n 0, 1) := by decide +kernel
theorem dX4_scanToken_81 : decode cX4_scanToken 81 = .ok (.dup, 1) := by decide +kernel
theorem dX4_scanToken_82 : decode cX4_scanToken 82 = .ok (.getfield 77, 3) := by decide +kernel
theorem dX4_scanToken_85 : decode cX4_scanToken 85 = .ok (.iconst 1, 1) := by decide +kernel
theorem dX4_scanToken_86 : decode cX4_scanToken 86 = .ok (.iadd, 1) := by decide +kernel
theorem dX4_scanToken_87 : decode cX4_scanToken 87 = .ok (.putfield 77, 3) := by decide +kernel
theorem dX4_scanToken_90 : decode cX4_scanToken 90 = .ok (.aload_n 0, 1) := by decide +kernel
theorem dX4_scanToken_91 : decode cX4_scanToken 91 = .ok (.getfield 11, 3) := by decide +kernel
theorem dX4_scanToken_94 : decode cX4_scanToken 94 = .ok (.iload_n 2, 1) := by decide +kernel
theorem dX4_scanToken_95 : decode cX4_scanToken 95 = .ok (.iaload, 1) := by decide +kernel
theorem dX4_scanToken_96 : decode cX4_scanToken 96 = .ok (.ireturn, 1) := by decide +kernel
theorem dX4_scanToken_97 : decode cX4_scanToken 97 = .ok (.aload_n 0, 1) := by decide +kernel
theorem dX4_scanToken_98 : decode cX4_scanToken 98 = .ok (.getfield 77, 3) := by decide +kernel
theorem dX4_scanToken_101 : decode cX4_scanToken 101 = .ok (.aload_n 0, 1) := by decide +kernel
theorem dX4_scanToken_102 : decode cX4_scanToken 102 = .ok (.getfield 31, 3) := by decide +kernel
theorem dX4_scanToken_105 : decode cX4_scanToken 105 = .ok (.if_icmp .ge 69, 3) := by decide +kernel
theorem dX4_scanToken_108 : decode cX4_scanToken 108 = .ok (.aload_n 0, 1) := by decide +kernel
theorem dX4_scanToken_109 : decode cX4_scanToken 109 = .ok (.getfield 11, 3) := by decide +kernel
theorem dX4_scanToken_112 : decode cX4_scanToken 112 = .ok (.aload_n 0, 1) := by decide +kernel
theorem dX4_scanToken_113 : decode cX4_scanToken 113 = .ok (.getfield 77, 3) := by decide +kernel
theorem dX4_scanToken_116 : decode cX4_scanToken 116 = .ok (.iaload, 1) := by decide +kernel
theorem dX4_scanToken_117 : decode cX4_scanToken 117 = .ok (.invokestatic 90, 3) := by decide +kernel
theorem dX4_scanToken_120 : decode cX4_scanToken 120 = .ok (.ifCond .eq 54, 3) := by decide +kernel
theorem dX4_scanToken_123 : decode cX4_scanToken 123 = .ok (.aload_n 0, 1) := by decide +kernel
theorem dX4_scanToken_124 : decode cX4_scanToken 124 = .ok (.getfield 77, 3) := by decide +kernel
theorem dX4_scanToken_127 : decode cX4_scanToken 127 = .ok (.iload_n 2, 1) := by decide +kernel
theorem dX4_scanToken_128 : decode cX4_scanToken 128 = .ok (.isub, 1) := by decide +kernel
theorem dX4_scanToken_129 : decode cX4_scanToken 129 = .ok (.iconst 4, 1) := by decide +kernel
theorem dX4_scanToken_130 : decode cX4_scanToken 130 = .ok (.if_icmp .ge 31, 3) := by decide +kernel
theorem dX4_scanToken_133 : decode cX4_scanToken 133 = .ok (.aload_n 0, 1) := by decide +kernel
theorem dX4_scanToken_134 : decode cX4_scanToken 134 = .ok (.getfield 18, 3) := by decide +kernel
theorem dX4_scanToken_137 : decode cX4_scanToken 137 = .ok (.iload_n 1, 1) := by decide +kernel
theorem dX4_scanToken_138 : decode cX4_scanToken 138 = .ok (.aload_n 0, 1) := by decide +kernel
theorem dX4_scanToken_139 : decode cX4_scanToken 139 = .ok (.getfield 18, 3) := by decide +kernel
theorem dX4_scanToken_142 : decode cX4_scanToken 142 = .ok (.iload_n 1, 1) := by decide +kernel
theorem dX4_scanToken_143 : decode cX4_scanToken 143 = .ok (.iaload, 1) := by decide +kernel
theorem dX4_scanToken_144 : decode cX4_scanToken 144 = .ok (.bipush 10, 2) := by decide +kernel
theorem dX4_scanToken_146 : decode cX4_scanToken 146 = .ok (.imul, 1) := by decide +kernel
theorem dX4_scanToken_147 : decode cX4_scanToken 147 = .ok (.aload_n 0, 1) := by decide +kernel
theorem dX4_scanToken_148 : decode cX4_scanToken 148 = .ok (.getfield 11, 3) := by decide +kernel
theorem dX4_scanToken_151 : decode cX4_scanToken 151 = .ok (.aload_n 0, 1) := by decide +kernel
theorem dX4_scanToken_152 : decode cX4_scanToken 152 = .ok (.getfield 77, 3) := by decide +kernel
theorem dX4_scanToken_155 : decode cX4_scanToken 155 = .ok (.iaload, 1) := by decide +kernel
theorem dX4_scanToken_156 : decode cX4_scanToken 156 = .ok (.iadd, 1) := by decide +kernel
theorem dX4_scanToken_157 : decode cX4_scanToken 157 = .ok (.bipush 48, 2) := by decide +kernel
theorem dX4_scanToken_159 : decode cX4_scanToken 159 = .ok (.isub, 1) := by decide +kernel
theorem dX4_scanToken_160 : decode cX4_scanToken 160 = .ok (.iastore, 1) := by decide +kernel
theorem dX4_scanToken_161 : decode cX4_scanToken 161 = .ok (.aload_n 0, 1) := by decide +kernel
theorem dX4_scanToken_162 : decode cX4_scanToken 162 = .ok (.dup, 1) := by decide +kernel
theorem dX4_scanToken_163 : decode cX4_scanToken 163 = .ok (.getfield 77, 3) := by decide +kernel
theorem dX4_scanToken_166 : decode cX4_scanToken 166 = .ok (.iconst 1, 1) := by decide +kernel
theorem dX4_scanToken_167 : decode cX4_scanToken 167 = .ok (.iadd, 1) := by decide +kernel
theorem dX4_scanToken_168 : decode cX4_scanToken 168 = .ok (.putfield 77, 3) := by decide +kernel
theorem dX4_scanToken_171 : decode cX4_scanToken 171 = .ok (.goto (-74), 3) := by decide +kernel
theorem dX4_scanToken_174 : decode cX4_scanToken 174 = .ok (.aload_n 0, 1) := by decide +kernel
theorem dX4_scanToken_175 : decode cX4_scanToken 175 = .ok (.getfield 77, 3) := by decide +kernel
theorem dX4_scanToken_178 : decode cX4_scanToken 178 = .ok (.iload_n 2, 1) := by decide +kernel
theorem dX4_scanToken_179 : decode cX4_scanToken 179 = .ok (.isub, 1) := by decide +kernel
theorem dX4_scanToken_180 : decode cX4_scanToken 180 = .ok (.iconst 4, 1) := by decide +kernel
theorem dX4_scanToken_181 : decode cX4_scanToken 181 = .ok (.if_icmp .le 8, 3) := by decide +kernel
theorem dX4_scanToken_184 : decode cX4_scanToken 184 = .ok (.bipush (-3), 2) := by decide +kernel
theorem dX4_scanToken_186 : decode cX4_scanToken 186 = .ok (.goto 5, 3) := by decide +kernel
theorem dX4_scanToken_189 : decode cX4_scanToken 189 = .ok (.bipush (-2), 2) := by decide +kernel
theorem dX4_scanToken_191 : decode cX4_scanToken 191 = .ok (.ireturn, 1) := by decide +kernel
theorem dX4_wordFrom_0 : decode cX4_wordFrom 0 = .ok (.iconst 0, 1) := by decide +kernel
theorem dX4_wordFrom_1 : decode cX4_wordFrom 1 = .ok (.istore_n 2, 1) := by decide +kernel
theorem dX4_wordFrom_2 : decode cX4_wordFrom 2 = .ok (.iload_n 2, 1) := by decide +kernel
theorem dX4_wordFrom_3 : decode cX4_wordFrom 3 = .ok (.bipush 18, 2) := by decide +kernel
theorem dX4_wordFrom_5 : decode cX4_wordFrom 5 = .ok (.if_icmp .ge 27, 3) := by decide +kernel
theorem dX4_wordFrom_8 : decode cX4_wordFrom 8 = .ok (.aload_n 0, 1) := by decide +kernel
theorem dX4_wordFrom_9 : decode cX4_wordFrom 9 = .ok (.iload_n 1, 1) := by decide +kernel
theorem dX4_wordFrom_10 : decode cX4_wordFrom 10 = .ok (.iload_n 2, 1) := by decide +kernel
theorem dX4_wordFrom_11 : decode cX4_wordFrom 11 = .ok (.invokestatic 93, 3) := by decide +kernel
theorem dX4_wordFrom_14 : decode cX4_wordFrom 14 = .ok (.invokevirtual 97, 3) := by decide +kernel
theorem dX4_wordFrom_17 : decode cX4_wordFrom 17 = .ok (.ifCond .eq 9, 3) := by decide +kernel
theorem dX4_wordFrom_20 : decode cX4_wordFrom 20 = .ok (.sipush 256, 3) := by decide +kernel
theorem dX4_wordFrom_23 : decode cX4_wordFrom 23 = .ok (.iload_n 2, 1) := by decide +kernel
theorem dX4_wordFrom_24 : decode cX4_wordFrom 24 = .ok (.iadd, 1) := by decide +kernel
theorem dX4_wordFrom_25 : decode cX4_wordFrom 25 = .ok (.ireturn, 1) := by decide +kernel
theorem dX4_wordFrom_26 : decode cX4_wordFrom 26 = .ok (.iinc 2 1, 3) := by decide +kernel
theorem dX4_wordFrom_29 : decode cX4_wordFrom 29 = .ok (.goto (-27), 3) := by decide +kernel
theorem dX4_wordFrom_32 : decode cX4_wordFrom 32 = .ok (.bipush (-3), 2) := by decide +kernel
theorem dX4_wordFrom_34 : decode cX4_wordFrom 34 = .ok (.ireturn, 1) := by decide +kernel
theorem dX4_isName_0 : decode cX4_isName 0 = .ok (.aload_n 0, 1) := by decide +kernel
theorem dX4_isName_1 : decode cX4_isName 1 = .ok (.getfield 77, 3) := by decide +kernel
theorem dX4_isName_4 : decode cX4_isName 4 = .ok (.iload_n 1, 1) := by decide +kernel
theorem dX4_isName_5 : decode cX4_isName 5 = .ok (.isub, 1) := by decide +kernel
theorem dX4_isName_6 : decode cX4_isName 6 = .ok (.aload_n 2, 1) := by decide +kernel
theorem dX4_isName_7 : decode cX4_isName 7 = .ok (.invokevirtual 101, 3) := by decide +kernel
theorem dX4_isName_10 : decode cX4_isName 10 = .ok (.if_icmp .eq 5, 3) := by decide +kernel
theorem dX4_isName_13 : decode cX4_isName 13 = .ok (.iconst 0, 1) := by decide +kernel
theorem dX4_isName_14 : decode cX4_isName 14 = .ok (.ireturn, 1) := by decide +kernel
theorem dX4_isName_15 : decode cX4_isName 15 = .ok (.iconst 0, 1) := by decide +kernel
theorem dX4_isName_16 : decode cX4_isName 16 = .ok (.istore_n 3, 1) := by decide +kernel
theorem dX4_isName_17 : decode cX4_isName 17 = .ok (.iload_n 3, 1) := by decide +kernel
theorem dX4_isName_18 : decode cX4_isName 18 = .ok (.aload_n 2, 1) := by decide +kernel
theorem dX4_isName_19 : decode cX4_isName 19 = .ok (.invokevirtual 101, 3) := by decide +kernel
theorem dX4_isName_22 : decode cX4_isName 22 = .ok (.if_icmp .ge 27, 3) := by decide +kernel
theorem dX4_isName_25 : decode cX4_isName 25 = .ok (.aload_n 0, 1) := by decide +kernel
theorem dX4_isName_26 : decode cX4_isName 26 = .ok (.getfield 11, 3) := by decide +kernel
theorem dX4_isName_29 : decode cX4_isName 29 = .ok (.iload_n 1, 1) := by decide +kernel
theorem dX4_isName_30 : decode cX4_isName 30 = .ok (.iload_n 3, 1) := by decide +kernel
theorem dX4_isName_31 : decode cX4_isName 31 = .ok (.iadd, 1) := by decide +kernel
theorem dX4_isName_32 : decode cX4_isName 32 = .ok (.iaload, 1) := by decide +kernel
theorem dX4_isName_33 : decode cX4_isName 33 = .ok (.aload_n 2, 1) := by decide +kernel
theorem dX4_isName_34 : decode cX4_isName 34 = .ok (.iload_n 3, 1) := by decide +kernel
theorem dX4_isName_35 : decode cX4_isName 35 = .ok (.invokevirtual 105, 3) := by decide +kernel
theorem dX4_isName_38 : decode cX4_isName 38 = .ok (.if_icmp .eq 5, 3) := by decide +kernel
theorem dX4_isName_41 : decode cX4_isName 41 = .ok (.iconst 0, 1) := by decide +kernel
theorem dX4_isName_42 : decode cX4_isName 42 = .ok (.ireturn, 1) := by decide +kernel
theorem dX4_isName_43 : decode cX4_isName 43 = .ok (.iinc 3 1, 3) := by decide +kernel
theorem dX4_isName_46 : decode cX4_isName 46 = .ok (.goto (-29), 3) := by decide +kernel
theorem dX4_isName_49 : decode cX4_isName 49 = .ok (.iconst 1, 1) := by decide +kernel
theorem dX4_isName_50 : decode cX4_isName 50 = .ok (.ireturn, 1) := by decide +kernel
theorem dX4_isLetter_0 : decode cX4_isLetter 0 = .ok (.iload_n 0, 1) := by decide +kernel
theorem dX4_isLetter_1 : decode cX4_isLetter 1 = .ok (.bipush 97, 2) := by decide +kernel
theorem dX4_isLetter_3 : decode cX4_isLetter 3 = .ok (.if_icmp .lt 13, 3) := by decide +kernel
theorem dX4_isLetter_6 : decode cX4_isLetter 6 = .ok (.iload_n 0, 1) := by decide +kernel
theorem dX4_isLetter_7 : decode cX4_isLetter 7 = .ok (.bipush 122, 2) := by decide +kernel
theorem dX4_isLetter_9 : decode cX4_isLetter 9 = .ok (.if_icmp .gt 7, 3) := by decide +kernel
theorem dX4_isLetter_12 : decode cX4_isLetter 12 = .ok (.iconst 1, 1) := by decide +kernel
theorem dX4_isLetter_13 : decode cX4_isLetter 13 = .ok (.goto 4, 3) := by decide +kernel
theorem dX4_isLetter_16 : decode cX4_isLetter 16 = .ok (.iconst 0, 1) := by decide +kernel
theorem dX4_isLetter_17 : decode cX4_isLetter 17 = .ok (.ireturn, 1) := by decide +kernel
theorem dX4_isDigit_0 : decode cX4_isDigit 0 = .ok (.iload_n 0, 1) := by decide +kernel
theorem dX4_isDigit_1 : decode cX4_isDigit 1 = .ok (.bipush 48, 2) := by decide +kernel
theorem dX4_isDigit_3 : decode cX4_isDigit 3 = .ok (.if_icmp .lt 13, 3) := by decide +kernel
theorem dX4_isDigit_6 : decode cX4_isDigit 6 = .ok (.iload_n 0, 1) := by decide +kernel
theorem dX4_isDigit_7 : decode cX4_isDigit 7 = .ok (.bipush 57, 2) := by decide +kernel
theorem dX4_isDigit_9 : decode cX4_isDigit 9 = .ok (.if_icmp .gt 7, 3) := by decide +kernel
theorem dX4_isDigit_12 : decode cX4_isDigit 12 = .ok (.iconst 1, 1) := by decide +kernel
theorem dX4_isDigit_13 : decode cX4_isDigit 13 = .ok (.goto 4, 3) := by decide +kernel
theorem dX4_isDigit_16 : decode cX4_isDigit 16 = .ok (.iconst 0, 1) := by decide +kernel
theorem dX4_isDigit_17 : decode cX4_isDigit 17 = .ok (.ireturn, 1) := by decide +kernel
theorem dX4_nameOf_0 : decode cX4_nameOf 0 = .ok (.iload_n 0, 1) := by decide +kernel
theorem dX4_nameOf_1 : decode cX4_nameOf 1 = .ok (.tableswitch 134 0 16 #[83, 86, 89, 92, 95, 98, 101, 104, 107, 110, 113, 116, 119, 122, 125, 128, 131], 83) := by decide +kernel
theorem dX4_nameOf_84 : decode cX4_nameOf 84 = .ok (.ldc 109, 2) := by decide +kernel
theorem dX4_nameOf_86 : decode cX4_nameOf 86 = .ok (.areturn, 1) := by decide +kernel
theorem dX4_nameOf_87 : decode cX4_nameOf 87 = .ok (.ldc 111, 2) := by decide +kernel
theorem dX4_nameOf_89 : decode cX4_nameOf 89 = .ok (.areturn, 1) := by decide +kernel
theorem dX4_nameOf_90 : decode cX4_nameOf 90 = .ok (.ldc 113, 2) := by decide +kernel
theorem dX4_nameOf_92 : decode cX4_nameOf 92 = .ok (.areturn, 1) := by decide +kernel
theorem dX4_nameOf_93 : decode cX4_nameOf 93 = .ok (.ldc 115, 2) := by decide +kernel
theorem dX4_nameOf_95 : decode cX4_nameOf 95 = .ok (.areturn, 1) := by decide +kernel
theorem dX4_nameOf_96 : decode cX4_nameOf 96 = .ok (.ldc 117, 2) := by decide +kernel
theorem dX4_nameOf_98 : decode cX4_nameOf 98 = .ok (.areturn, 1) := by decide +kernel
theorem dX4_nameOf_99 : decode cX4_nameOf 99 = .ok (.ldc 119, 2) := by decide +kernel
theorem dX4_nameOf_101 : decode cX4_nameOf 101 = .ok (.areturn, 1) := by decide +kernel
theorem dX4_nameOf_102 : decode cX4_nameOf 102 = .ok (.ldc 121, 2) := by decide +kernel
theorem dX4_nameOf_104 : decode cX4_nameOf 104 = .ok (.areturn, 1) := by decide +kernel
theorem dX4_nameOf_105 : decode cX4_nameOf 105 = .ok (.ldc 123, 2) := by decide +kernel
theorem dX4_nameOf_107 : decode cX4_nameOf 107 = .ok (.areturn, 1) := by decide +kernel
theorem dX4_nameOf_108 : decode cX4_nameOf 108 = .ok (.ldc 125, 2) := by decide +kernel
theorem dX4_nameOf_110 : decode cX4_nameOf 110 = .ok (.areturn, 1) := by decide +kernel
theorem dX4_nameOf_111 : decode cX4_nameOf 111 = .ok (.ldc 127, 2) := by decide +kernel
theorem dX4_nameOf_113 : decode cX4_nameOf 113 = .ok (.areturn, 1) := by decide +kernel
theorem dX4_nameOf_114 : decode cX4_nameOf 114 = .ok (.ldc 129, 2) := by decide +kernel
theorem dX4_nameOf_116 : decode cX4_nameOf 116 = .ok (.areturn, 1) := by decide +kernel
theorem dX4_nameOf_117 : decode cX4_nameOf 117 = .ok (.ldc 131, 2) := by decide +kernel
theorem dX4_nameOf_119 : decode cX4_nameOf 119 = .ok (.areturn, 1) := by decide +kernel
theorem dX4_nameOf_120 : decode cX4_nameOf 120 = .ok (.ldc 133, 2) := by decide +kernel
theorem dX4_nameOf_122 : decode cX4_nameOf 122 = .ok (.areturn, 1) := by decide +kernel
theorem dX4_nameOf_123 : decode cX4_nameOf 123 = .ok (.ldc 135, 2) := by decide +kernel
theorem dX4_nameOf_125 : decode cX4_nameOf 125 = .ok (.areturn, 1) := by decide +kernel
theorem dX4_nameOf_126 : decode cX4_nameOf 126 = .ok (.ldc 137, 2) := by decide +kernel
theorem dX4_nameOf_128 : decode cX4_nameOf 128 = .ok (.areturn, 1) := by decide +kernel
theorem dX4_nameOf_129 : decode cX4_nameOf 129 = .ok (.ldc 139, 2) := by decide +kernel
theorem dX4_nameOf_131 : decode cX4_nameOf 131 = .ok (.areturn, 1) := by decide +kernel
theorem dX4_nameOf_132 : decode cX4_nameOf 132 = .ok (.ldc 141, 2) := by decide +kernel
theorem dX4_nameOf_134 : decode cX4_nameOf 134 = .ok (.areturn, 1) := by decide +kernel
theorem dX4_nameOf_135 : decode cX4_nameOf 135 = .ok (.ldc 143, 2) := by decide +kernel
theorem dX4_nameOf_137 : decode cX4_nameOf 137 = .ok (.areturn, 1) := by decide +kernel
theorem dX5_init_0 : decode cX5_init 0 = .ok (.aload_n 0, 1) := by decide +kernel
theorem dX5_init_1 : decode cX5_init 1 = .ok (.invokespecial 3, 3) := by decide +kernel
theorem dX5_init_4 : decode cX5_init 4 = .ok (.aload_n 0, 1) := by decide +kernel
theorem dX5_init_5 : decode cX5_init 5 = .ok (.bipush 8, 2) := by decide +kernel
theorem dX5_init_7 : decode cX5_init 7 = .ok (.newarray .int, 2) := by decide +kernel
theorem dX5_init_9 : decode cX5_init 9 = .ok (.putfield 9, 3) := by decide +kernel
theorem dX5_init_12 : decode cX5_init 12 = .ok (.aload_n 0, 1) := by decide +kernel
theorem dX5_init_13 : decode cX5_init 13 = .ok (.bipush 8, 2) := by decide +kernel
theorem dX5_init_15 : decode cX5_init 15 = .ok (.newarray .int, 2) := by decide +kernel
theorem dX5_init_17 : decode cX5_init 17 = .ok (.putfield 15, 3) := by decide +kernel
theorem dX5_init_20 : decode cX5_init 20 = .ok (.aload_n 0, 1) := by decide +kernel
theorem dX5_init_21 : decode cX5_init 21 = .ok (.bipush 8, 2) := by decide +kernel
theorem dX5_init_23 : decode cX5_init 23 = .ok (.newarray .int, 2) := by decide +kernel
theorem dX5_init_25 : decode cX5_init 25 = .ok (.putfield 18, 3) := by decide +kernel
theorem dX5_init_28 : decode cX5_init 28 = .ok (.aload_n 0, 1) := by decide +kernel
theorem dX5_init_29 : decode cX5_init 29 = .ok (.sipush 200, 3) := by decide +kernel
theorem dX5_init_32 : decode cX5_init 32 = .ok (.newarray .int, 2) := by decide +kernel
theorem dX5_init_34 : decode cX5_init 34 = .ok (.putfield 21, 3) := by decide +kernel
theorem dX5_init_37 : decode cX5_init 37 = .ok (.aload_n 0, 1) := by decide +kernel
theorem dX5_init_38 : decode cX5_init 38 = .ok (.sipush 200, 3) := by decide +kernel
theorem dX5_init_41 : decode cX5_init 41 = .ok (.newarray .int, 2) := by decide +kernel
theorem dX5_init_43 : decode cX5_init 43 = .ok (.putfield 24, 3) := by decide +kernel
theorem dX5_init_46 : decode cX5_init 46 = .ok (.return_, 1) := by decide +kernel
theorem dX5_copyFrom_0 : decode cX5_copyFrom 0 = .ok (.aload_n 1, 1) := by decide +kernel
theorem dX5_copyFrom_1 : decode cX5_copyFrom 1 = .ok (.getfield 9, 3) := by decide +kernel
theorem dX5_copyFrom_4 : decode cX5_copyFrom 4 = .ok (.iconst 0, 1) := by decide +kernel
theorem dX5_copyFrom_5 : decode cX5_copyFrom 5 = .ok (.aload_n 0, 1) := by decide +kernel
theorem dX5_copyFrom_6 : decode cX5_copyFrom 6 = .ok (.getfield 9, 3) := by decide +kernel
theorem dX5_copyFrom_9 : decode cX5_copyFrom 9 = .ok (.iconst 0, 1) := by decide +kernel
theorem dX5_copyFrom_10 : decode cX5_copyFrom 10 = .ok (.bipush 8, 2) := by decide +kernel
theorem dX5_copyFrom_12 : decode cX5_copyFrom 12 = .ok (.invokestatic 27, 3) := by decide +kernel
theorem dX5_copyFrom_15 : decode cX5_copyFrom 15 = .ok (.aload_n 1, 1) := by decide +kernel
theorem dX5_copyFrom_16 : decode cX5_copyFrom 16 = .ok (.getfield 15, 3) := by decide +kernel
theorem dX5_copyFrom_19 : decode cX5_copyFrom 19 = .ok (.iconst 0, 1) := by decide +kernel
theorem dX5_copyFrom_20 : decode cX5_copyFrom 20 = .ok (.aload_n 0, 1) := by decide +kernel
theorem dX5_copyFrom_21 : decode cX5_copyFrom 21 = .ok (.getfield 15, 3) := by decide +kernel
theorem dX5_copyFrom_24 : decode cX5_copyFrom 24 = .ok (.iconst 0, 1) := by decide +kernel
theorem dX5_copyFrom_25 : decode cX5_copyFrom 25 = .ok (.bipush 8, 2) := by decide +kernel
theorem dX5_copyFrom_27 : decode cX5_copyFrom 27 = .ok (.invokestatic 27, 3) := by decide +kernel
theorem dX5_copyFrom_30 : decode cX5_copyFrom 30 = .ok (.aload_n 1, 1) := by decide +kernel
theorem dX5_copyFrom_31 : decode cX5_copyFrom 31 = .ok (.getfield 18, 3) := by decide +kernel
theorem dX5_copyFrom_34 : decode cX5_copyFrom 34 = .ok (.iconst 0, 1) := by decide +kernel
theorem dX5_copyFrom_35 : decode cX5_copyFrom 35 = .ok (.aload_n 0, 1) := by decide +kernel
theorem dX5_copyFrom_36 : decode cX5_copyFrom 36 = .ok (.getfield 18, 3) := by decide +kernel
theorem dX5_copyFrom_39 : decode cX5_copyFrom 39 = .ok (.iconst 0, 1) := by decide +kernel
theorem dX5_copyFrom_40 : decode cX5_copyFrom 40 = .ok (.bipush 8, 2) := by decide +kernel
theorem dX5_copyFrom_42 : decode cX5_copyFrom 42 = .ok (.invokestatic 27, 3) := by decide +kernel
theorem dX5_copyFrom_45 : decode cX5_copyFrom 45 = .ok (.aload_n 1, 1) := by decide +kernel
theorem dX5_copyFrom_46 : decode cX5_copyFrom 46 = .ok (.getfield 21, 3) := by decide +kernel
theorem dX5_copyFrom_49 : decode cX5_copyFrom 49 = .ok (.iconst 0, 1) := by decide +kernel
theorem dX5_copyFrom_50 : decode cX5_copyFrom 50 = .ok (.aload_n 0, 1) := by decide +kernel
theorem dX5_copyFrom_51 : decode cX5_copyFrom 51 = .ok (.getfield 21, 3) := by decide +kernel
theorem dX5_copyFrom_54 : decode cX5_copyFrom 54 = .ok (.iconst 0, 1) := by decide +kernel
theorem dX5_copyFrom_55 : decode cX5_copyFrom 55 = .ok (.sipush 200, 3) := by decide +kernel
theorem dX5_copyFrom_58 : decode cX5_copyFrom 58 = .ok (.invokestatic 27, 3) := by decide +kernel
theorem dX5_copyFrom_61 : decode cX5_copyFrom 61 = .ok (.aload_n 0, 1) := by decide +kernel
theorem dX5_copyFrom_62 : decode cX5_copyFrom 62 = .ok (.aload_n 1, 1) := by decide +kernel
theorem dX5_copyFrom_63 : decode cX5_copyFrom 63 = .ok (.getfield 33, 3) := by decide +kernel
theorem dX5_copyFrom_66 : decode cX5_copyFrom 66 = .ok (.putfield 33, 3) := by decide +kernel
theorem dX5_copyFrom_69 : decode cX5_copyFrom 69 = .ok (.aload_n 0, 1) := by decide +kernel
theorem dX5_copyFrom_70 : decode cX5_copyFrom 70 = .ok (.aload_n 1, 1) := by decide +kernel
theorem dX5_copyFrom_71 : decode cX5_copyFrom 71 = .ok (.getfield 37, 3) := by decide +kernel
theorem dX5_copyFrom_74 : decode cX5_copyFrom 74 = .ok (.putfield 37, 3) := by decide +kernel
theorem dX5_copyFrom_77 : decode cX5_copyFrom 77 = .ok (.return_, 1) := by decide +kernel
theorem dX5_clear_0 : decode cX5_clear 0 = .ok (.aload_n 0, 1) := by decide +kernel
theorem dX5_clear_1 : decode cX5_clear 1 = .ok (.iconst 0, 1) := by decide +kernel
theorem dX5_clear_2 : decode cX5_clear 2 = .ok (.putfield 33, 3) := by decide +kernel
theorem dX5_clear_5 : decode cX5_clear 5 = .ok (.aload_n 0, 1) := by decide +kernel
theorem dX5_clear_6 : decode cX5_clear 6 = .ok (.iconst 0, 1) := by decide +kernel
theorem dX5_clear_7 : decode cX5_clear 7 = .ok (.putfield 37, 3) := by decide +kernel
theorem dX5_clear_10 : decode cX5_clear 10 = .ok (.return_, 1) := by decide +kernel
theorem dX5_addCode_0 : decode cX5_addCode 0 = .ok (.aload_n 0, 1) := by decide +kernel
theorem dX5_addCode_1 : decode cX5_addCode 1 = .ok (.getfield 37, 3) := by decide +kernel
theorem dX5_addCode_4 : decode cX5_addCode 4 = .ok (.sipush 200, 3) := by decide +kernel
theorem dX5_addCode_7 : decode cX5_addCode 7 = .ok (.if_icmp .ge 23, 3) := by decide +kernel
theorem dX5_addCode_10 : decode cX5_addCode 10 = .ok (.aload_n 0, 1) := by decide +kernel
theorem dX5_addCode_11 : decode cX5_addCode 11 = .ok (.getfield 21, 3) := by decide +kernel
theorem dX5_addCode_14 : decode cX5_addCode 14 = .ok (.aload_n 0, 1) := by decide +kernel
theorem dX5_addCode_15 : decode cX5_addCode 15 = .ok (.getfield 37, 3) := by decide +kernel
theorem dX5_addCode_18 : decode cX5_addCode 18 = .ok (.iload_n 1, 1) := by decide +kernel
theorem dX5_addCode_19 : decode cX5_addCode 19 = .ok (.iastore, 1) := by decide +kernel
theorem dX5_addCode_20 : decode cX5_addCode 20 = .ok (.aload_n 0, 1) := by decide +kernel
theorem dX5_addCode_21 : decode cX5_addCode 21 = .ok (.dup, 1) := by decide +kernel
theorem dX5_addCode_22 : decode cX5_addCode 22 = .ok (.getfield 37, 3) := by decide +kernel
theorem dX5_addCode_25 : decode cX5_addCode 25 = .ok (.iconst 1, 1) := by decide +kernel
theorem dX5_addCode_26 : decode cX5_addCode 26 = .ok (.iadd, 1) := by decide +kernel
theorem dX5_addCode_27 : decode cX5_addCode 27 = .ok (.putfield 37, 3) := by decide +kernel
theorem dX5_addCode_30 : decode cX5_addCode 30 = .ok (.return_, 1) := by decide +kernel
theorem dX5_addRule_0 : decode cX5_addRule 0 = .ok (.aload_n 0, 1) := by decide +kernel
theorem dX5_addRule_1 : decode cX5_addRule 1 = .ok (.getfield 33, 3) := by decide +kernel
theorem dX5_addRule_4 : decode cX5_addRule 4 = .ok (.bipush 8, 2) := by decide +kernel
theorem dX5_addRule_6 : decode cX5_addRule 6 = .ok (.if_icmp .ge 46, 3) := by decide +kernel
theorem dX5_addRule_9 : decode cX5_addRule 9 = .ok (.aload_n 0, 1) := by decide +kernel
theorem dX5_addRule_10 : decode cX5_addRule 10 = .ok (.getfield 9, 3) := by decide +kernel
theorem dX5_addRule_13 : decode cX5_addRule 13 = .ok (.aload_n 0, 1) := by decide +kernel
theorem dX5_addRule_14 : decode cX5_addRule 14 = .ok (.getfield 33, 3) := by decide +kernel
theorem dX5_addRule_17 : decode cX5_addRule 17 = .ok (.iload_n 1, 1) := by decide +kernel
theorem dX5_addRule_18 : decode cX5_addRule 18 = .ok (.iastore, 1) := by decide +kernel
theorem dX5_addRule_19 : decode cX5_addRule 19 = .ok (.aload_n 0, 1) := by decide +kernel
theorem dX5_addRule_20 : decode cX5_addRule 20 = .ok (.getfield 15, 3) := by decide +kernel
theorem dX5_addRule_23 : decode cX5_addRule 23 = .ok (.aload_n 0, 1) := by decide +kernel
theorem dX5_addRule_24 : decode cX5_addRule 24 = .ok (.getfield 33, 3) := by decide +kernel
theorem dX5_addRule_27 : decode cX5_addRule 27 = .ok (.iload_n 2, 1) := by decide +kernel
theorem dX5_addRule_28 : decode cX5_addRule 28 = .ok (.iastore, 1) := by decide +kernel
theorem dX5_addRule_29 : decode cX5_addRule 29 = .ok (.aload_n 0, 1) := by decide +kernel
theorem dX5_addRule_30 : decode cX5_addRule 30 = .ok (.getfield 18, 3) := by decide +kernel
theorem dX5_addRule_33 : decode cX5_addRule 33 = .ok (.aload_n 0, 1) := by decide +kernel
theorem dX5_addRule_34 : decode cX5_addRule 34 = .ok (.getfield 33, 3) := by decide +kernel
theorem dX5_addRule_37 : decode cX5_addRule 37 = .ok (.aload_n 0, 1) := by decide +kernel
theorem dX5_addRule_38 : decode cX5_addRule 38 = .ok (.getfield 37, 3) := by decide +kernel
theorem dX5_addRule_41 : decode cX5_addRule 41 = .ok (.iastore, 1) := by decide +kernel
theorem dX5_addRule_42 : decode cX5_addRule 42 = .ok (.aload_n 0, 1) := by decide +kernel
theorem dX5_addRule_43 : decode cX5_addRule 43 = .ok (.dup, 1) := by decide +kernel
theorem dX5_addRule_44 : decode cX5_addRule 44 = .ok (.getfield 33, 3) := by decide +kernel
theorem dX5_addRule_47 : decode cX5_addRule 47 = .ok (.iconst 1, 1) := by decide +kernel
theorem dX5_addRule_48 : decode cX5_addRule 48 = .ok (.iadd, 1) := by decide +kernel
theorem dX5_addRule_49 : decode cX5_addRule 49 = .ok (.putfield 33, 3) := by decide +kernel
theorem dX5_addRule_52 : decode cX5_addRule 52 = .ok (.return_, 1) := by decide +kernel
theorem dX5_holds_0 : decode cX5_holds 0 = .ok (.iload_n 1, 1) := by decide +kernel
theorem dX5_holds_1 : decode cX5_holds 1 = .ok (.ifCond .le 14, 3) := by decide +kernel
theorem dX5_holds_4 : decode cX5_holds 4 = .ok (.aload_n 0, 1) := by decide +kernel
theorem dX5_holds_5 : decode cX5_holds 5 = .ok (.getfield 18, 3) := by decide +kernel
theorem dX5_holds_8 : decode cX5_holds 8 = .ok (.iload_n 1, 1) := by decide +kernel
theorem dX5_holds_9 : decode cX5_holds 9 = .ok (.iconst 1, 1) := by decide +kernel
theorem dX5_holds_10 : decode cX5_holds 10 = .ok (.isub, 1) := by decide +kernel
theorem dX5_holds_11 : decode cX5_holds 11 = .ok (.iaload, 1) := by decide +kernel
theorem dX5_holds_12 : decode cX5_holds 12 = .ok (.goto 4, 3) := by decide +kernel
theorem dX5_holds_15 : decode cX5_holds 15 = .ok (.iconst 0, 1) := by decide +kernel
theorem dX5_holds_16 : decode cX5_holds 16 = .ok (.istore_n 3, 1) := by decide +kernel
theorem dX5_holds_17 : decode cX5_holds 17 = .ok (.iconst 0, 1) := by decide +kernel
theorem dX5_holds_18 : decode cX5_holds 18 = .ok (.istore 4, 2) := by decide +kernel
theorem dX5_holds_20 : decode cX5_holds 20 = .ok (.iload_n 3, 1) := by decide +kernel
theorem dX5_holds_21 : decode cX5_holds 21 = .ok (.istore 5, 2) := by decide +kernel
theorem dX5_holds_23 : decode cX5_holds 23 = .ok (.iload 5, 2) := by decide +kernel
theorem dX5_holds_25 : decode cX5_holds 25 = .ok (.aload_n 0, 1) := by decide +kernel
theorem dX5_holds_26 : decode cX5_holds 26 = .ok (.getfield 18, 3) := by decide +kernel
theorem dX5_holds_29 : decode cX5_holds 29 = .ok (.iload_n 1, 1) := by decide +kernel
theorem dX5_holds_30 : decode cX5_holds 30 = .ok (.iaload, 1) := by decide +kernel
theorem dX5_holds_31 : decode cX5_holds 31 = .ok (.if_icmp .ge 127, 3) := by decide +kernel
theorem dX5_holds_34 : decode cX5_holds 34 = .ok (.aload_n 0, 1) := by decide +kernel
theorem dX5_holds_35 : decode cX5_holds 35 = .ok (.getfield 21, 3) := by decide +kernel
theorem dX5_holds_38 : decode cX5_holds 38 = .ok (.iload 5, 2) := by decide +kernel
theorem dX5_holds_40 : decode cX5_holds 40 = .ok (.iaload, 1) := by decide +kernel
theorem dX5_holds_41 : decode cX5_holds 41 = .ok (.istore 6, 2) := by decide +kernel
theorem dX5_holds_43 : decode cX5_holds 43 = .ok (.iload 6, 2) := by decide +kernel
theorem dX5_holds_45 : decode cX5_holds 45 = .ok (.bipush (-6), 2) := by decide +kernel
theorem dX5_holds_47 : decode cX5_holds 47 = .ok (.if_icmp .le 30, 3) := by decide +kernel
theorem dX5_holds_50 : decode cX5_holds 50 = .ok (.iload 4, 2) := by decide +kernel
theorem dX5_holds_52 : decode cX5_holds 52 = .ok (.sipush 200, 3) := by decide +kernel
theorem dX5_holds_55 : decode cX5_holds 55 = .ok (.if_icmp .ge 16, 3) := by decide +kernel
theorem dX5_holds_58 : decode cX5_holds 58 = .ok (.aload_n 0, 1) := by decide +kernel
theorem dX5_holds_59 : decode cX5_holds 59 = .ok (.getfield 24, 3) := by decide +kernel
theorem dX5_holds_62 : decode cX5_holds 62 = .ok (.iload 4, 2) := by decide +kernel
theorem dX5_holds_64 : decode cX5_holds 64 = .ok (.iload 6, 2) := by decide +kernel
theorem dX5_holds_66 : decode cX5_holds 66 = .ok (.aload_n 2, 1) := by decide +kernel
theorem dX5_holds_67 : decode cX5_holds 67 = .ok (.invokestatic 40, 3) := by decide +kernel
theorem dX5_holds_70 : decode cX5_holds 70 = .ok (.iastore, 1) := by decide +kernel
theorem dX5_holds_71 : decode cX5_holds 71 = .ok (.iinc 4 1, 3) := by decide +kernel
theorem dX5_holds_74 : decode cX5_holds 74 = .ok (.goto 78, 3) := by decide +kernel
theorem dX5_holds_77 : decode cX5_holds 77 = .ok (.iload 6, 2) := by decide +kernel
theorem dX5_holds_79 : decode cX5_holds 79 = .ok (.bipush (-9), 2) := by decide +kernel
theorem dX5_holds_81 : decode cX5_holds 81 = .ok (.if_icmp .ne 32, 3) := by decide +kernel
theorem dX5_holds_84 : decode cX5_holds 84 = .ok (.iload 4, 2) := by decide +kernel
theorem dX5_holds_86 : decode cX5_holds 86 = .ok (.iconst 1, 1) := by decide +kernel
theorem dX5_holds_87 : decode cX5_holds 87 = .ok (.if_icmp .lt 65, 3) := by decide +kernel
theorem dX5_holds_90 : decode cX5_holds 90 = .ok (.aload_n 0, 1) := by decide +kernel
theorem dX5_holds_91 : decode cX5_holds 91 = .ok (.getfield 24, 3) := by decide +kernel
theorem dX5_holds_94 : decode cX5_holds 94 = .ok (.iload 4, 2) := by decide +kernel
theorem dX5_holds_96 : decode cX5_holds 96 = .ok (.iconst 1, 1) := by decide +kernel
theorem dX5_holds_97 : decode cX5_holds 97 = .ok (.isub, 1) := by decide +kernel
theorem dX5_holds_98 : decode cX5_holds 98 = .ok (.iconst 1, 1) := by decide +kernel
theorem dX5_holds_99 : decode cX5_holds 99 = .ok (.aload_n 0, 1) := by decide +kernel
theorem dX5_holds_100 : decode cX5_holds 100 = .ok (.getfield 24, 3) := by decide +kernel
theorem dX5_holds_103 : decode cX5_holds 103 = .ok (.iload 4, 2) := by decide +kernel
theorem dX5_holds_105 : decode cX5_holds 105 = .ok (.iconst 1, 1) := by decide +kernel
theorem dX5_holds_106 : decode cX5_holds 106 = .ok (.isub, 1) := by decide +kernel
theorem dX5_holds_107 : decode cX5_holds 107 = .ok (.iaload, 1) := by decide +kernel
theorem dX5_holds_108 : decode cX5_holds 108 = .ok (.isub, 1) := by decide +kernel
theorem dX5_holds_109 : decode cX5_holds 109 = .ok (.iastore, 1) := by decide +kernel
theorem dX5_holds_110 : decode cX5_holds 110 = .ok (.goto 42, 3) := by decide +kernel
theorem dX5_holds_113 : decode cX5_holds 113 = .ok (.iload 4, 2) := by decide +kernel
theorem dX5_holds_115 : decode cX5_holds 115 = .ok (.iconst 2, 1) := by decide +kernel
theorem dX5_holds_116 : decode cX5_holds 116 = .ok (.if_icmp .lt 36, 3) := by decide +kernel
theorem dX5_holds_119 : decode cX5_holds 119 = .ok (.iinc 4 (-1), 3) := by decide +kernel
theorem dX5_holds_122 : decode cX5_holds 122 = .ok (.aload_n 0, 1) := by decide +kernel
theorem dX5_holds_123 : decode cX5_holds 123 = .ok (.getfield 24, 3) := by decide +kernel
theorem dX5_holds_126 : decode cX5_holds 126 = .ok (.iload 4, 2) := by decide +kernel
theorem dX5_holds_128 : decode cX5_holds 128 = .ok (.iconst 1, 1) := by decide +kernel
theorem dX5_holds_129 : decode cX5_holds 129 = .ok (.isub, 1) := by decide +kernel
theorem dX5_holds_130 : decode cX5_holds 130 = .ok (.iload 6, 2) := by decide +kernel
theorem dX5_holds_132 : decode cX5_holds 132 = .ok (.aload_n 0, 1) := by decide +kernel
theorem dX5_holds_133 : decode cX5_holds 133 = .ok (.getfield 24, 3) := by decide +kernel
theorem dX5_holds_136 : decode cX5_holds 136 = .ok (.iload 4, 2) := by decide +kernel
theorem dX5_holds_138 : decode cX5_holds 138 = .ok (.iconst 1, 1) := by decide +kernel
theorem dX5_holds_139 : decode cX5_holds 139 = .ok (.isub, 1) := by decide +kernel
theorem dX5_holds_140 : decode cX5_holds 140 = .ok (.iaload, 1) := by decide +kernel
theorem dX5_holds_141 : decode cX5_holds 141 = .ok (.aload_n 0, 1) := by decide +kernel
theorem dX5_holds_142 : decode cX5_holds 142 = .ok (.getfield 24, 3) := by decide +kernel
theorem dX5_holds_145 : decode cX5_holds 145 = .ok (.iload 4, 2) := by decide +kernel
theorem dX5_holds_147 : decode cX5_holds 147 = .ok (.iaload, 1) := by decide +kernel
theorem dX5_holds_148 : decode cX5_holds 148 = .ok (.invokestatic 44, 3) := by decide +kernel
theorem dX5_holds_151 : decode cX5_holds 151 = .ok (.iastore, 1) := by decide +kernel
theorem dX5_holds_152 : decode cX5_holds 152 = .ok (.iinc 5 1, 3) := by decide +kernel
theorem dX5_holds_155 : decode cX5_holds 155 = .ok (.goto (-132), 3) := by decide +kernel
theorem dX5_holds_158 : decode cX5_holds 158 = .ok (.iload 4, 2) := by decide +kernel
theorem dX5_holds_160 : decode cX5_holds 160 = .ok (.ifCond .eq 12, 3) := by decide +kernel
theorem dX5_holds_163 : decode cX5_holds 163 = .ok (.aload_n 0, 1) := by decide +kernel
theorem dX5_holds_164 : decode cX5_holds 164 = .ok (.getfield 24, 3) := by decide +kernel
theorem dX5_holds_167 : decode cX5_holds 167 = .ok (.iconst 0, 1) := by decide +kernel
theorem dX5_holds_168 : decode cX5_holds 168 = .ok (.iaload, 1) := by decide +kernel
theorem dX5_holds_169 : decode cX5_holds 169 = .ok (.ifCond .eq 7, 3) := by decide +kernel
theorem dX5_holds_172 : decode cX5_holds 172 = .ok (.iconst 1, 1) := by decide +kernel
theorem dX5_holds_173 : decode cX5_holds 173 = .ok (.goto 4, 3) := by decide +kernel
theorem dX5_holds_176 : decode cX5_holds 176 = .ok (.iconst 0, 1) := by decide +kernel
theorem dX5_holds_177 : decode cX5_holds 177 = .ok (.ireturn, 1) := by decide +kernel
theorem dX5_valueOf_0 : decode cX5_valueOf 0 = .ok (.iload_n 0, 1) := by decide +kernel
theorem dX5_valueOf_1 : decode cX5_valueOf 1 = .ok (.ifCond .lt 7, 3) := by decide +kernel
theorem dX5_valueOf_4 : decode cX5_valueOf 4 = .ok (.iload_n 0, 1) := by decide +kernel
theorem dX5_valueOf_5 : decode cX5_valueOf 5 = .ok (.goto 8, 3) := by decide +kernel
theorem dX5_valueOf_8 : decode cX5_valueOf 8 = .ok (.aload_n 1, 1) := by decide +kernel
theorem dX5_valueOf_9 : decode cX5_valueOf 9 = .ok (.iconst (-1), 1) := by decide +kernel
theorem dX5_valueOf_10 : decode cX5_valueOf 10 = .ok (.iload_n 0, 1) := by decide +kernel
theorem dX5_valueOf_11 : decode cX5_valueOf 11 = .ok (.isub, 1) := by decide +kernel
theorem dX5_valueOf_12 : decode cX5_valueOf 12 = .ok (.iaload, 1) := by decide +kernel
theorem dX5_valueOf_13 : decode cX5_valueOf 13 = .ok (.ireturn, 1) := by decide +kernel
theorem dX5_combine_0 : decode cX5_combine 0 = .ok (.iload_n 0, 1) := by decide +kernel
theorem dX5_combine_1 : decode cX5_combine 1 = .ok (.tableswitch 72 (-10) (-6) #[68, 72, 57, 46, 35], 35) := by decide +kernel
theorem dX5_combine_36 : decode cX5_combine 36 = .ok (.iload_n 1, 1) := by decide +kernel
theorem dX5_combine_37 : decode cX5_combine 37 = .ok (.iload_n 2, 1) := by decide +kernel
theorem dX5_combine_38 : decode cX5_combine 38 = .ok (.if_icmp .ge 7, 3) := by decide +kernel
theorem dX5_combine_41 : decode cX5_combine 41 = .ok (.iconst 1, 1) := by decide +kernel
theorem dX5_combine_42 : decode cX5_combine 42 = .ok (.goto 4, 3) := by decide +kernel
theorem dX5_combine_45 : decode cX5_combine 45 = .ok (.iconst 0, 1) := by decide +kernel
theorem dX5_combine_46 : decode cX5_combine 46 = .ok (.ireturn, 1) := by decide +kernel
theorem dX5_combine_47 : decode cX5_combine 47 = .ok (.iload_n 1, 1) := by decide +kernel
theorem dX5_combine_48 : decode cX5_combine 48 = .ok (.iload_n 2, 1) := by decide +kernel
theorem dX5_combine_49 : decode cX5_combine 49 = .ok (.if_icmp .ne 7, 3) := by decide +kernel
theorem dX5_combine_52 : decode cX5_combine 52 = .ok (.iconst 1, 1) := by decide +kernel
theorem dX5_combine_53 : decode cX5_combine 53 = .ok (.goto 4, 3) := by decide +kernel
theorem dX5_combine_56 : decode cX5_combine 56 = .ok (.iconst 0, 1) := by decide +kernel
theorem dX5_combine_57 : decode cX5_combine 57 = .ok (.ireturn, 1) := by decide +kernel
theorem dX5_combine_58 : decode cX5_combine 58 = .ok (.iload_n 1, 1) := by decide +kernel
theorem dX5_combine_59 : decode cX5_combine 59 = .ok (.iload_n 2, 1) := by decide +kernel
theorem dX5_combine_60 : decode cX5_combine 60 = .ok (.if_icmp .le 7, 3) := by decide +kernel
theorem dX5_combine_63 : decode cX5_combine 63 = .ok (.iconst 1, 1) := by decide +kernel
theorem dX5_combine_64 : decode cX5_combine 64 = .ok (.goto 4, 3) := by decide +kernel
theorem dX5_combine_67 : decode cX5_combine 67 = .ok (.iconst 0, 1) := by decide +kernel
theorem dX5_combine_68 : decode cX5_combine 68 = .ok (.ireturn, 1) := by decide +kernel
theorem dX5_combine_69 : decode cX5_combine 69 = .ok (.iload_n 1, 1) := by decide +kernel
theorem dX5_combine_70 : decode cX5_combine 70 = .ok (.iload_n 2, 1) := by decide +kernel
theorem dX5_combine_71 : decode cX5_combine 71 = .ok (.iand, 1) := by decide +kernel
theorem dX5_combine_72 : decode cX5_combine 72 = .ok (.ireturn, 1) := by decide +kernel
theorem dX5_combine_73 : decode cX5_combine 73 = .ok (.iload_n 1, 1) := by decide +kernel
theorem dX5_combine_74 : decode cX5_combine 74 = .ok (.iload_n 2, 1) := by decide +kernel
theorem dX5_combine_75 : decode cX5_combine 75 = .ok (.ior, 1) := by decide +kernel
theorem dX5_combine_76 : decode cX5_combine 76 = .ok (.ireturn, 1) := by decide +kernel
theorem dX6_init_0 : decode cX6_init 0 = .ok (.aload_n 0, 1) := by decide +kernel
theorem dX6_init_1 : decode cX6_init 1 = .ok (.invokespecial 3, 3) := by decide +kernel
theorem dX6_init_4 : decode cX6_init 4 = .ok (.aload_n 0, 1) := by decide +kernel
theorem dX6_init_5 : decode cX6_init 5 = .ok (.iconst 4, 1) := by decide +kernel
theorem dX6_init_6 : decode cX6_init 6 = .ok (.newarray .int, 2) := by decide +kernel
theorem dX6_init_8 : decode cX6_init 8 = .ok (.dup, 1) := by decide +kernel
theorem dX6_init_9 : decode cX6_init 9 = .ok (.iconst 0, 1) := by decide +kernel
theorem dX6_init_10 : decode cX6_init 10 = .ok (.iconst (-1), 1) := by decide +kernel
theorem dX6_init_11 : decode cX6_init 11 = .ok (.iastore, 1) := by decide +kernel
theorem dX6_init_12 : decode cX6_init 12 = .ok (.dup, 1) := by decide +kernel
theorem dX6_init_13 : decode cX6_init 13 = .ok (.iconst 1, 1) := by decide +kernel
theorem dX6_init_14 : decode cX6_init 14 = .ok (.iconst (-1), 1) := by decide +kernel
theorem dX6_init_15 : decode cX6_init 15 = .ok (.iastore, 1) := by decide +kernel
theorem dX6_init_16 : decode cX6_init 16 = .ok (.dup, 1) := by decide +kernel
theorem dX6_init_17 : decode cX6_init 17 = .ok (.iconst 2, 1) := by decide +kernel
theorem dX6_init_18 : decode cX6_init 18 = .ok (.iconst (-1), 1) := by decide +kernel
theorem dX6_init_19 : decode cX6_init 19 = .ok (.iastore, 1) := by decide +kernel
theorem dX6_init_20 : decode cX6_init 20 = .ok (.dup, 1) := by decide +kernel
theorem dX6_init_21 : decode cX6_init 21 = .ok (.iconst 3, 1) := by decide +kernel
theorem dX6_init_22 : decode cX6_init 22 = .ok (.iconst (-1), 1) := by decide +kernel
theorem dX6_init_23 : decode cX6_init 23 = .ok (.iastore, 1) := by decide +kernel
theorem dX6_init_24 : decode cX6_init 24 = .ok (.putfield 11, 3) := by decide +kernel
theorem dX6_init_27 : decode cX6_init 27 = .ok (.aload_n 0, 1) := by decide +kernel
theorem dX6_init_28 : decode cX6_init 28 = .ok (.iconst 4, 1) := by decide +kernel
theorem dX6_init_29 : decode cX6_init 29 = .ok (.newarray .int, 2) := by decide +kernel
theorem dX6_init_31 : decode cX6_init 31 = .ok (.putfield 15, 3) := by decide +kernel
theorem dX6_init_34 : decode cX6_init 34 = .ok (.aload_n 0, 1) := by decide +kernel
theorem dX6_init_35 : decode cX6_init 35 = .ok (.iconst 4, 1) := by decide +kernel
theorem dX6_init_36 : decode cX6_init 36 = .ok (.bipush 40, 2) := by decide +kernel
theorem dX6_init_38 : decode cX6_init 38 = .ok (.multianewarray 18 2, 4) := by decide +kernel
theorem dX6_init_42 : decode cX6_init 42 = .ok (.putfield 20, 3) := by decide +kernel
theorem dX6_init_45 : decode cX6_init 45 = .ok (.return_, 1) := by decide +kernel
theorem dX6_isSheet_0 : decode cX6_isSheet 0 = .ok (.iload_n 0, 1) := by decide +kernel
theorem dX6_isSheet_1 : decode cX6_isSheet 1 = .ok (.ifCond .lt 12, 3) := by decide +kernel
theorem dX6_isSheet_4 : decode cX6_isSheet 4 = .ok (.iload_n 0, 1) := by decide +kernel
theorem dX6_isSheet_5 : decode cX6_isSheet 5 = .ok (.iconst 4, 1) := by decide +kernel
theorem dX6_isSheet_6 : decode cX6_isSheet 6 = .ok (.if_icmp .ge 7, 3) := by decide +kernel
theorem dX6_isSheet_9 : decode cX6_isSheet 9 = .ok (.iconst 1, 1) := by decide +kernel
theorem dX6_isSheet_10 : decode cX6_isSheet 10 = .ok (.goto 4, 3) := by decide +kernel
theorem dX6_isSheet_13 : decode cX6_isSheet 13 = .ok (.iconst 0, 1) := by decide +kernel
theorem dX6_isSheet_14 : decode cX6_isSheet 14 = .ok (.ireturn, 1) := by decide +kernel
theorem dX6_isMissing_0 : decode cX6_isMissing 0 = .ok (.aload_n 0, 1) := by decide +kernel
theorem dX6_isMissing_1 : decode cX6_isMissing 1 = .ok (.getfield 11, 3) := by decide +kernel
theorem dX6_isMissing_4 : decode cX6_isMissing 4 = .ok (.iload_n 1, 1) := by decide +kernel
theorem dX6_isMissing_5 : decode cX6_isMissing 5 = .ok (.iaload, 1) := by decide +kernel
theorem dX6_isMissing_6 : decode cX6_isMissing 6 = .ok (.iconst (-1), 1) := by decide +kernel
theorem dX6_isMissing_7 : decode cX6_isMissing 7 = .ok (.if_icmp .ne 7, 3) := by decide +kernel
theorem dX6_isMissing_10 : decode cX6_isMissing 10 = .ok (.iconst 1, 1) := by decide +kernel
theorem dX6_isMissing_11 : decode cX6_isMissing 11 = .ok (.goto 4, 3) := by decide +kernel
theorem dX6_isMissing_14 : decode cX6_isMissing 14 = .ok (.iconst 0, 1) := by decide +kernel
theorem dX6_isMissing_15 : decode cX6_isMissing 15 = .ok (.ireturn, 1) := by decide +kernel
theorem dX6_hasItem_0 : decode cX6_hasItem 0 = .ok (.iload_n 2, 1) := by decide +kernel
theorem dX6_hasItem_1 : decode cX6_hasItem 1 = .ok (.ifCond .lt 17, 3) := by decide +kernel
theorem dX6_hasItem_4 : decode cX6_hasItem 4 = .ok (.iload_n 2, 1) := by decide +kernel
theorem dX6_hasItem_5 : decode cX6_hasItem 5 = .ok (.aload_n 0, 1) := by decide +kernel
theorem dX6_hasItem_6 : decode cX6_hasItem 6 = .ok (.getfield 15, 3) := by decide +kernel
theorem dX6_hasItem_9 : decode cX6_hasItem 9 = .ok (.iload_n 1, 1) := by decide +kernel
theorem dX6_hasItem_10 : decode cX6_hasItem 10 = .ok (.iaload, 1) := by decide +kernel
theorem dX6_hasItem_11 : decode cX6_hasItem 11 = .ok (.if_icmp .ge 7, 3) := by decide +kernel
theorem dX6_hasItem_14 : decode cX6_hasItem 14 = .ok (.iconst 1, 1) := by decide +kernel
theorem dX6_hasItem_15 : decode cX6_hasItem 15 = .ok (.goto 4, 3) := by decide +kernel
theorem dX6_hasItem_18 : decode cX6_hasItem 18 = .ok (.iconst 0, 1) := by decide +kernel
theorem dX6_hasItem_19 : decode cX6_hasItem 19 = .ok (.ireturn, 1) := by decide +kernel
theorem dX6_renew_0 : decode cX6_renew 0 = .ok (.aload_n 0, 1) := by decide +kernel
theorem dX6_renew_1 : decode cX6_renew 1 = .ok (.getfield 11, 3) := by decide +kernel
theorem dX6_renew_4 : decode cX6_renew 4 = .ok (.iload_n 1, 1) := by decide +kernel
theorem dX6_renew_5 : decode cX6_renew 5 = .ok (.iload_n 2, 1) := by decide +kernel
theorem dX6_renew_6 : decode cX6_renew 6 = .ok (.iastore, 1) := by decide +kernel
theorem dX6_renew_7 : decode cX6_renew 7 = .ok (.aload_n 0, 1) := by decide +kernel
theorem dX6_renew_8 : decode cX6_renew 8 = .ok (.getfield 15, 3) := by decide +kernel
theorem dX6_renew_11 : decode cX6_renew 11 = .ok (.iload_n 1, 1) := by decide +kernel
theorem dX6_renew_12 : decode cX6_renew 12 = .ok (.iload_n 3, 1) := by decide +kernel
theorem dX6_renew_13 : decode cX6_renew 13 = .ok (.iconst 0, 1) := by decide +kernel
theorem dX6_renew_14 : decode cX6_renew 14 = .ok (.bipush 40, 2) := by decide +kernel
theorem dX6_renew_16 : decode cX6_renew 16 = .ok (.invokestatic 23, 3) := by decide +kernel
theorem dX6_renew_19 : decode cX6_renew 19 = .ok (.iastore, 1) := by decide +kernel
theorem dX6_renew_20 : decode cX6_renew 20 = .ok (.iconst 0, 1) := by decide +kernel
theorem dX6_renew_21 : decode cX6_renew 21 = .ok (.istore 4, 2) := by decide +kernel
theorem dX6_renew_23 : decode cX6_renew 23 = .ok (.iload 4, 2) := by decide +kernel
theorem dX6_renew_25 : decode cX6_renew 25 = .ok (.bipush 40, 2) := by decide +kernel
theorem dX6_renew_27 : decode cX6_renew 27 = .ok (.if_icmp .ge 19, 3) := by decide +kernel
theorem dX6_renew_30 : decode cX6_renew 30 = .ok (.aload_n 0, 1) := by decide +kernel
theorem dX6_renew_31 : decode cX6_renew 31 = .ok (.getfield 20, 3) := by decide +kernel
theorem dX6_renew_34 : decode cX6_renew 34 = .ok (.iload_n 1, 1) := by decide +kernel
theorem dX6_renew_35 : decode cX6_renew 35 = .ok (.aaload, 1) := by decide +kernel
theorem dX6_renew_36 : decode cX6_renew 36 = .ok (.iload 4, 2) := by decide +kernel
theorem dX6_renew_38 : decode cX6_renew 38 = .ok (.iconst 0, 1) := by decide +kernel
theorem dX6_renew_39 : decode cX6_renew 39 = .ok (.iastore, 1) := by decide +kernel
theorem dX6_renew_40 : decode cX6_renew 40 = .ok (.iinc 4 1, 3) := by decide +kernel
theorem dX6_renew_43 : decode cX6_renew 43 = .ok (.goto (-20), 3) := by decide +kernel
theorem dX6_renew_46 : decode cX6_renew 46 = .ok (.iconst 1, 1) := by decide +kernel
theorem dX6_renew_47 : decode cX6_renew 47 = .ok (.ireturn, 1) := by decide +kernel
theorem dX6_put_0 : decode cX6_put 0 = .ok (.aload_n 0, 1) := by decide +kernel
theorem dX6_put_1 : decode cX6_put 1 = .ok (.getfield 20, 3) := by decide +kernel
theorem dX6_put_4 : decode cX6_put 4 = .ok (.iload_n 1, 1) := by decide +kernel
theorem dX6_put_5 : decode cX6_put 5 = .ok (.aaload, 1) := by decide +kernel
theorem dX6_put_6 : decode cX6_put 6 = .ok (.iload_n 2, 1) := by decide +kernel
theorem dX6_put_7 : decode cX6_put 7 = .ok (.aload_n 0, 1) := by decide +kernel
theorem dX6_put_8 : decode cX6_put 8 = .ok (.getfield 11, 3) := by decide +kernel
theorem dX6_put_11 : decode cX6_put 11 = .ok (.iload_n 1, 1) := by decide +kernel
theorem dX6_put_12 : decode cX6_put 12 = .ok (.iaload, 1) := by decide +kernel
theorem dX6_put_13 : decode cX6_put 13 = .ok (.iload_n 3, 1) := by decide +kernel
theorem dX6_put_14 : decode cX6_put 14 = .ok (.invokestatic 29, 3) := by decide +kernel
theorem dX6_put_17 : decode cX6_put 17 = .ok (.iastore, 1) := by decide +kernel
theorem dX6_put_18 : decode cX6_put 18 = .ok (.iconst 1, 1) := by decide +kernel
theorem dX6_put_19 : decode cX6_put 19 = .ok (.ireturn, 1) := by decide +kernel
theorem dX6_refusalAs_0 : decode cX6_refusalAs 0 = .ok (.aload_n 0, 1) := by decide +kernel
theorem dX6_refusalAs_1 : decode cX6_refusalAs 1 = .ok (.iload_n 1, 1) := by decide +kernel
theorem dX6_refusalAs_2 : decode cX6_refusalAs 2 = .ok (.invokevirtual 33, 3) := by decide +kernel
theorem dX6_refusalAs_5 : decode cX6_refusalAs 5 = .ok (.ifCond .eq 6, 3) := by decide +kernel
theorem dX6_refusalAs_8 : decode cX6_refusalAs 8 = .ok (.bipush (-11), 2) := by decide +kernel
theorem dX6_refusalAs_10 : decode cX6_refusalAs 10 = .ok (.ireturn, 1) := by decide +kernel
theorem dX6_refusalAs_11 : decode cX6_refusalAs 11 = .ok (.aload_n 0, 1) := by decide +kernel
theorem dX6_refusalAs_12 : decode cX6_refusalAs 12 = .ok (.getfield 11, 3) := by decide +kernel
theorem dX6_refusalAs_15 : decode cX6_refusalAs 15 = .ok (.iload_n 1, 1) := by decide +kernel
theorem dX6_refusalAs_16 : decode cX6_refusalAs 16 = .ok (.iaload, 1) := by decide +kernel
theorem dX6_refusalAs_17 : decode cX6_refusalAs 17 = .ok (.iload_n 2, 1) := by decide +kernel
theorem dX6_refusalAs_18 : decode cX6_refusalAs 18 = .ok (.if_icmp .ne 7, 3) := by decide +kernel
theorem dX6_refusalAs_21 : decode cX6_refusalAs 21 = .ok (.iconst 0, 1) := by decide +kernel
theorem dX6_refusalAs_22 : decode cX6_refusalAs 22 = .ok (.goto 5, 3) := by decide +kernel
theorem dX6_refusalAs_25 : decode cX6_refusalAs 25 = .ok (.bipush (-13), 2) := by decide +kernel
theorem dX6_refusalAs_27 : decode cX6_refusalAs 27 = .ok (.ireturn, 1) := by decide +kernel
theorem dX6_narrowed_0 : decode cX6_narrowed 0 = .ok (.iload_n 0, 1) := by decide +kernel
theorem dX6_narrowed_1 : decode cX6_narrowed 1 = .ok (.tableswitch 51 0 4 #[35, 38, 51, 51, 41], 35) := by decide +kernel
theorem dX6_narrowed_36 : decode cX6_narrowed 36 = .ok (.iload_n 1, 1) := by decide +kernel
theorem dX6_narrowed_37 : decode cX6_narrowed 37 = .ok (.i2b, 1) := by decide +kernel
theorem dX6_narrowed_38 : decode cX6_narrowed 38 = .ok (.ireturn, 1) := by decide +kernel
theorem dX6_narrowed_39 : decode cX6_narrowed 39 = .ok (.iload_n 1, 1) := by decide +kernel
theorem dX6_narrowed_40 : decode cX6_narrowed 40 = .ok (.i2s, 1) := by decide +kernel
theorem dX6_narrowed_41 : decode cX6_narrowed 41 = .ok (.ireturn, 1) := by decide +kernel
theorem dX6_narrowed_42 : decode cX6_narrowed 42 = .ok (.iload_n 1, 1) := by decide +kernel
theorem dX6_narrowed_43 : decode cX6_narrowed 43 = .ok (.ifCond .eq 7, 3) := by decide +kernel
theorem dX6_narrowed_46 : decode cX6_narrowed 46 = .ok (.iconst 1, 1) := by decide +kernel
theorem dX6_narrowed_47 : decode cX6_narrowed 47 = .ok (.goto 4, 3) := by decide +kernel
theorem dX6_narrowed_50 : decode cX6_narrowed 50 = .ok (.iconst 0, 1) := by decide +kernel
theorem dX6_narrowed_51 : decode cX6_narrowed 51 = .ok (.ireturn, 1) := by decide +kernel
theorem dX6_narrowed_52 : decode cX6_narrowed 52 = .ok (.iload_n 1, 1) := by decide +kernel
theorem dX6_narrowed_53 : decode cX6_narrowed 53 = .ok (.ireturn, 1) := by decide +kernel
theorem dX7_init_0 : decode cX7_init 0 = .ok (.aload_n 0, 1) := by decide +kernel
theorem dX7_init_1 : decode cX7_init 1 = .ok (.invokespecial 3, 3) := by decide +kernel
theorem dX7_init_4 : decode cX7_init 4 = .ok (.aload_n 0, 1) := by decide +kernel
theorem dX7_init_5 : decode cX7_init 5 = .ok (.iconst 4, 1) := by decide +kernel
theorem dX7_init_6 : decode cX7_init 6 = .ok (.newarray .int, 2) := by decide +kernel
theorem dX7_init_8 : decode cX7_init 8 = .ok (.putfield 9, 3) := by decide +kernel
theorem dX7_init_11 : decode cX7_init 11 = .ok (.aload_n 0, 1) := by decide +kernel
theorem dX7_init_12 : decode cX7_init 12 = .ok (.iconst 4, 1) := by decide +kernel
theorem dX7_init_13 : decode cX7_init 13 = .ok (.newarray .int, 2) := by decide +kernel
theorem dX7_init_15 : decode cX7_init 15 = .ok (.putfield 15, 3) := by decide +kernel
theorem dX7_init_18 : decode cX7_init 18 = .ok (.aload_n 0, 1) := by decide +kernel
theorem dX7_init_19 : decode cX7_init 19 = .ok (.iconst 4, 1) := by decide +kernel
theorem dX7_init_20 : decode cX7_init 20 = .ok (.newarray .int, 2) := by decide +kernel
theorem dX7_init_22 : decode cX7_init 22 = .ok (.putfield 18, 3) := by decide +kernel
theorem dX7_init_25 : decode cX7_init 25 = .ok (.aload_n 0, 1) := by decide +kernel
theorem dX7_init_26 : decode cX7_init 26 = .ok (.aload_n 1, 1) := by decide +kernel
theorem dX7_init_27 : decode cX7_init 27 = .ok (.putfield 21, 3) := by decide +kernel
theorem dX7_init_30 : decode cX7_init 30 = .ok (.aload_n 0, 1) := by decide +kernel
theorem dX7_init_31 : decode cX7_init 31 = .ok (.aload_n 2, 1) := by decide +kernel
theorem dX7_init_32 : decode cX7_init 32 = .ok (.putfield 25, 3) := by decide +kernel
theorem dX7_init_35 : decode cX7_init 35 = .ok (.return_, 1) := by decide +kernel
theorem dX7_isShelf_0 : decode cX7_isShelf 0 = .ok (.iload_n 0, 1) := by decide +kernel
theorem dX7_isShelf_1 : decode cX7_isShelf 1 = .ok (.ifCond .lt 12, 3) := by decide +kernel
theorem dX7_isShelf_4 : decode cX7_isShelf 4 = .ok (.iload_n 0, 1) := by decide +kernel
theorem dX7_isShelf_5 : decode cX7_isShelf 5 = .ok (.iconst 4, 1) := by decide +kernel
theorem dX7_isShelf_6 : decode cX7_isShelf 6 = .ok (.if_icmp .ge 7, 3) := by decide +kernel
theorem dX7_isShelf_9 : decode cX7_isShelf 9 = .ok (.iconst 1, 1) := by decide +kernel
theorem dX7_isShelf_10 : decode cX7_isShelf 10 = .ok (.goto 4, 3) := by decide +kernel
theorem dX7_isShelf_13 : decode cX7_isShelf 13 = .ok (.iconst 0, 1) := by decide +kernel
theorem dX7_isShelf_14 : decode cX7_isShelf 14 = .ok (.ireturn, 1) := by decide +kernel
theorem dX7_putLamp_0 : decode cX7_putLamp 0 = .ok (.aload_n 0, 1) := by decide +kernel
theorem dX7_putLamp_1 : decode cX7_putLamp 1 = .ok (.getfield 9, 3) := by decide +kernel
theorem dX7_putLamp_4 : decode cX7_putLamp 4 = .ok (.iload_n 1, 1) := by decide +kernel
theorem dX7_putLamp_5 : decode cX7_putLamp 5 = .ok (.iconst 1, 1) := by decide +kernel
theorem dX7_putLamp_6 : decode cX7_putLamp 6 = .ok (.iastore, 1) := by decide +kernel
theorem dX7_putLamp_7 : decode cX7_putLamp 7 = .ok (.aload_n 0, 1) := by decide +kernel
theorem dX7_putLamp_8 : decode cX7_putLamp 8 = .ok (.getfield 15, 3) := by decide +kernel
theorem dX7_putLamp_11 : decode cX7_putLamp 11 = .ok (.iload_n 1, 1) := by decide +kernel
theorem dX7_putLamp_12 : decode cX7_putLamp 12 = .ok (.iload_n 2, 1) := by decide +kernel
theorem dX7_putLamp_13 : decode cX7_putLamp 13 = .ok (.iastore, 1) := by decide +kernel
theorem dX7_putLamp_14 : decode cX7_putLamp 14 = .ok (.iconst 1, 1) := by decide +kernel
theorem dX7_putLamp_15 : decode cX7_putLamp 15 = .ok (.ireturn, 1) := by decide +kernel
theorem dX7_putRow_0 : decode cX7_putRow 0 = .ok (.aload_n 0, 1) := by decide +kernel
theorem dX7_putRow_1 : decode cX7_putRow 1 = .ok (.getfield 25, 3) := by decide +kernel
theorem dX7_putRow_4 : decode cX7_putRow 4 = .ok (.iload_n 2, 1) := by decide +kernel
theorem dX7_putRow_5 : decode cX7_putRow 5 = .ok (.invokevirtual 29, 3) := by decide +kernel
theorem dX7_putRow_8 : decode cX7_putRow 8 = .ok (.ifCond .eq 9, 3) := by decide +kernel
theorem dX7_putRow_11 : decode cX7_putRow 11 = .ok (.aload_n 0, 1) := by decide +kernel
theorem dX7_putRow_12 : decode cX7_putRow 12 = .ok (.iload_n 1, 1) := by decide +kernel
theorem dX7_putRow_13 : decode cX7_putRow 13 = .ok (.invokevirtual 35, 3) := by decide +kernel
theorem dX7_putRow_16 : decode cX7_putRow 16 = .ok (.ireturn, 1) := by decide +kernel
theorem dX7_putRow_17 : decode cX7_putRow 17 = .ok (.aload_n 0, 1) := by decide +kernel
theorem dX7_putRow_18 : decode cX7_putRow 18 = .ok (.getfield 9, 3) := by decide +kernel
theorem dX7_putRow_21 : decode cX7_putRow 21 = .ok (.iload_n 1, 1) := by decide +kernel
theorem dX7_putRow_22 : decode cX7_putRow 22 = .ok (.iconst 2, 1) := by decide +kernel
theorem dX7_putRow_23 : decode cX7_putRow 23 = .ok (.iastore, 1) := by decide +kernel
theorem dX7_putRow_24 : decode cX7_putRow 24 = .ok (.aload_n 0, 1) := by decide +kernel
theorem dX7_putRow_25 : decode cX7_putRow 25 = .ok (.getfield 15, 3) := by decide +kernel
theorem dX7_putRow_28 : decode cX7_putRow 28 = .ok (.iload_n 1, 1) := by decide +kernel
theorem dX7_putRow_29 : decode cX7_putRow 29 = .ok (.aload_n 0, 1) := by decide +kernel
theorem dX7_putRow_30 : decode cX7_putRow 30 = .ok (.getfield 25, 3) := by decide +kernel
theorem dX7_putRow_33 : decode cX7_putRow 33 = .ok (.getfield 39, 3) := by decide +kernel
theorem dX7_putRow_36 : decode cX7_putRow 36 = .ok (.iload_n 2, 1) := by decide +kernel
theorem dX7_putRow_37 : decode cX7_putRow 37 = .ok (.iaload, 1) := by decide +kernel
theorem dX7_putRow_38 : decode cX7_putRow 38 = .ok (.iastore, 1) := by decide +kernel
theorem dX7_putRow_39 : decode cX7_putRow 39 = .ok (.aload_n 0, 1) := by decide +kernel
theorem dX7_putRow_40 : decode cX7_putRow 40 = .ok (.getfield 18, 3) := by decide +kernel
theorem dX7_putRow_43 : decode cX7_putRow 43 = .ok (.iload_n 1, 1) := by decide +kernel
theorem dX7_putRow_44 : decode cX7_putRow 44 = .ok (.aload_n 0, 1) := by decide +kernel
theorem dX7_putRow_45 : decode cX7_putRow 45 = .ok (.getfield 25, 3) := by decide +kernel
theorem dX7_putRow_48 : decode cX7_putRow 48 = .ok (.getfield 42, 3) := by decide +kernel
theorem dX7_putRow_51 : decode cX7_putRow 51 = .ok (.iload_n 2, 1) := by decide +kernel
theorem dX7_putRow_52 : decode cX7_putRow 52 = .ok (.iaload, 1) := by decide +kernel
theorem dX7_putRow_53 : decode cX7_putRow 53 = .ok (.iastore, 1) := by decide +kernel
theorem dX7_putRow_54 : decode cX7_putRow 54 = .ok (.iconst 1, 1) := by decide +kernel
theorem dX7_putRow_55 : decode cX7_putRow 55 = .ok (.ireturn, 1) := by decide +kernel
theorem dX7_putNothing_0 : decode cX7_putNothing 0 = .ok (.aload_n 0, 1) := by decide +kernel
theorem dX7_putNothing_1 : decode cX7_putNothing 1 = .ok (.getfield 9, 3) := by decide +kernel
theorem dX7_putNothing_4 : decode cX7_putNothing 4 = .ok (.iload_n 1, 1) := by decide +kernel
theorem dX7_putNothing_5 : decode cX7_putNothing 5 = .ok (.iconst 0, 1) := by decide +kernel
theorem dX7_putNothing_6 : decode cX7_putNothing 6 = .ok (.iastore, 1) := by decide +kernel
theorem dX7_putNothing_7 : decode cX7_putNothing 7 = .ok (.iconst 1, 1) := by decide +kernel
theorem dX7_putNothing_8 : decode cX7_putNothing 8 = .ok (.ireturn, 1) := by decide +kernel
theorem dX7_holdsLamp_0 : decode cX7_holdsLamp 0 = .ok (.aload_n 0, 1) := by decide +kernel
theorem dX7_holdsLamp_1 : decode cX7_holdsLamp 1 = .ok (.getfield 9, 3) := by decide +kernel
theorem dX7_holdsLamp_4 : decode cX7_holdsLamp 4 = .ok (.iload_n 1, 1) := by decide +kernel
theorem dX7_holdsLamp_5 : decode cX7_holdsLamp 5 = .ok (.iaload, 1) := by decide +kernel
theorem dX7_holdsLamp_6 : decode cX7_holdsLamp 6 = .ok (.iconst 1, 1) := by decide +kernel
theorem dX7_holdsLamp_7 : decode cX7_holdsLamp 7 = .ok (.if_icmp .ne 23, 3) := by decide +kernel
theorem dX7_holdsLamp_10 : decode cX7_holdsLamp 10 = .ok (.aload_n 0, 1) := by decide +kernel
theorem dX7_holdsLamp_11 : decode cX7_holdsLamp 11 = .ok (.getfield 21, 3) := by decide +kernel
theorem dX7_holdsLamp_14 : decode cX7_holdsLamp 14 = .ok (.aload_n 0, 1) := by decide +kernel
theorem dX7_holdsLamp_15 : decode cX7_holdsLamp 15 = .ok (.getfield 15, 3) := by decide +kernel
theorem dX7_holdsLamp_18 : decode cX7_holdsLamp 18 = .ok (.iload_n 1, 1) := by decide +kernel
theorem dX7_holdsLamp_19 : decode cX7_holdsLamp 19 = .ok (.iaload, 1) := by decide +kernel
theorem dX7_holdsLamp_20 : decode cX7_holdsLamp 20 = .ok (.invokevirtual 43, 3) := by decide +kernel
theorem dX7_holdsLamp_23 : decode cX7_holdsLamp 23 = .ok (.ifCond .eq 7, 3) := by decide +kernel
theorem dX7_holdsLamp_26 : decode cX7_holdsLamp 26 = .ok (.iconst 1, 1) := by decide +kernel
theorem dX7_holdsLamp_27 : decode cX7_holdsLamp 27 = .ok (.goto 4, 3) := by decide +kernel
theorem dX7_holdsLamp_30 : decode cX7_holdsLamp 30 = .ok (.iconst 0, 1) := by decide +kernel
theorem dX7_holdsLamp_31 : decode cX7_holdsLamp 31 = .ok (.ireturn, 1) := by decide +kernel
theorem dX7_asLamp_0 : decode cX7_asLamp 0 = .ok (.aload_n 0, 1) := by decide +kernel
theorem dX7_asLamp_1 : decode cX7_asLamp 1 = .ok (.iload_n 1, 1) := by decide +kernel
theorem dX7_asLamp_2 : decode cX7_asLamp 2 = .ok (.invokevirtual 48, 3) := by decide +kernel
theorem dX7_asLamp_5 : decode cX7_asLamp 5 = .ok (.ifCond .eq 33, 3) := by decide +kernel
theorem dX7_asLamp_8 : decode cX7_asLamp 8 = .ok (.aload_n 0, 1) := by decide +kernel
theorem dX7_asLamp_9 : decode cX7_asLamp 9 = .ok (.getfield 15, 3) := by decide +kernel
theorem dX7_asLamp_12 : decode cX7_asLamp 12 = .ok (.iload_n 1, 1) := by decide +kernel
theorem dX7_asLamp_13 : decode cX7_asLamp 13 = .ok (.iaload, 1) := by decide +kernel
theorem dX7_asLamp_14 : decode cX7_asLamp 14 = .ok (.istore_n 3, 1) := by decide +kernel
theorem dX7_asLamp_15 : decode cX7_asLamp 15 = .ok (.aload_n 0, 1) := by decide +kernel
theorem dX7_asLamp_16 : decode cX7_asLamp 16 = .ok (.getfield 21, 3) := by decide +kernel
theorem dX7_asLamp_19 : decode cX7_asLamp 19 = .ok (.getfield 51, 3) := by decide +kernel
theorem dX7_asLamp_22 : decode cX7_asLamp 22 = .ok (.iload_n 3, 1) := by decide +kernel
theorem dX7_asLamp_23 : decode cX7_asLamp 23 = .ok (.iaload, 1) := by decide +kernel
theorem dX7_asLamp_24 : decode cX7_asLamp 24 = .ok (.iload_n 2, 1) := by decide +kernel
theorem dX7_asLamp_25 : decode cX7_asLamp 25 = .ok (.invokestatic 54, 3) := by decide +kernel
theorem dX7_asLamp_28 : decode cX7_asLamp 28 = .ok (.ifCond .eq 7, 3) := by decide +kernel
theorem dX7_asLamp_31 : decode cX7_asLamp 31 = .ok (.iload_n 3, 1) := by decide +kernel
theorem dX7_asLamp_32 : decode cX7_asLamp 32 = .ok (.goto 5, 3) := by decide +kernel
theorem dX7_asLamp_35 : decode cX7_asLamp 35 = .ok (.bipush (-13), 2) := by decide +kernel
theorem dX7_asLamp_37 : decode cX7_asLamp 37 = .ok (.ireturn, 1) := by decide +kernel
theorem dX7_asLamp_38 : decode cX7_asLamp 38 = .ok (.aload_n 0, 1) := by decide +kernel
theorem dX7_asLamp_39 : decode cX7_asLamp 39 = .ok (.getfield 9, 3) := by decide +kernel
theorem dX7_asLamp_42 : decode cX7_asLamp 42 = .ok (.iload_n 1, 1) := by decide +kernel
theorem dX7_asLamp_43 : decode cX7_asLamp 43 = .ok (.iaload, 1) := by decide +kernel
theorem dX7_asLamp_44 : decode cX7_asLamp 44 = .ok (.iconst 2, 1) := by decide +kernel
theorem dX7_asLamp_45 : decode cX7_asLamp 45 = .ok (.if_icmp .ne 8, 3) := by decide +kernel
theorem dX7_asLamp_48 : decode cX7_asLamp 48 = .ok (.bipush (-13), 2) := by decide +kernel
theorem dX7_asLamp_50 : decode cX7_asLamp 50 = .ok (.goto 5, 3) := by decide +kernel
theorem dX7_asLamp_53 : decode cX7_asLamp 53 = .ok (.bipush (-11), 2) := by decide +kernel
theorem dX7_asLamp_55 : decode cX7_asLamp 55 = .ok (.ireturn, 1) := by decide +kernel
theorem dX7_asRow_0 : decode cX7_asRow 0 = .ok (.aload_n 0, 1) := by decide +kernel
theorem dX7_asRow_1 : decode cX7_asRow 1 = .ok (.getfield 9, 3) := by decide +kernel
theorem dX7_asRow_4 : decode cX7_asRow 4 = .ok (.iload_n 1, 1) := by decide +kernel
theorem dX7_asRow_5 : decode cX7_asRow 5 = .ok (.iaload, 1) := by decide +kernel
theorem dX7_asRow_6 : decode cX7_asRow 6 = .ok (.iconst 2, 1) := by decide +kernel
theorem dX7_asRow_7 : decode cX7_asRow 7 = .ok (.if_icmp .ne 25, 3) := by decide +kernel
theorem dX7_asRow_10 : decode cX7_asRow 10 = .ok (.aload_n 0, 1) := by decide +kernel
theorem dX7_asRow_11 : decode cX7_asRow 11 = .ok (.getfield 15, 3) := by decide +kernel
theorem dX7_asRow_14 : decode cX7_asRow 14 = .ok (.iload_n 1, 1) := by decide +kernel
theorem dX7_asRow_15 : decode cX7_asRow 15 = .ok (.iaload, 1) := by decide +kernel
theorem dX7_asRow_16 : decode cX7_asRow 16 = .ok (.iload_n 2, 1) := by decide +kernel
theorem dX7_asRow_17 : decode cX7_asRow 17 = .ok (.if_icmp .ne 12, 3) := by decide +kernel
theorem dX7_asRow_20 : decode cX7_asRow 20 = .ok (.aload_n 0, 1) := by decide +kernel
theorem dX7_asRow_21 : decode cX7_asRow 21 = .ok (.getfield 18, 3) := by decide +kernel
theorem dX7_asRow_24 : decode cX7_asRow 24 = .ok (.iload_n 1, 1) := by decide +kernel
theorem dX7_asRow_25 : decode cX7_asRow 25 = .ok (.iaload, 1) := by decide +kernel
theorem dX7_asRow_26 : decode cX7_asRow 26 = .ok (.goto 5, 3) := by decide +kernel
theorem dX7_asRow_29 : decode cX7_asRow 29 = .ok (.bipush (-13), 2) := by decide +kernel
theorem dX7_asRow_31 : decode cX7_asRow 31 = .ok (.ireturn, 1) := by decide +kernel
theorem dX7_asRow_32 : decode cX7_asRow 32 = .ok (.aload_n 0, 1) := by decide +kernel
theorem dX7_asRow_33 : decode cX7_asRow 33 = .ok (.iload_n 1, 1) := by decide +kernel
theorem dX7_asRow_34 : decode cX7_asRow 34 = .ok (.invokevirtual 48, 3) := by decide +kernel
theorem dX7_asRow_37 : decode cX7_asRow 37 = .ok (.ifCond .eq 8, 3) := by decide +kernel
theorem dX7_asRow_40 : decode cX7_asRow 40 = .ok (.bipush (-13), 2) := by decide +kernel
theorem dX7_asRow_42 : decode cX7_asRow 42 = .ok (.goto 5, 3) := by decide +kernel
theorem dX7_asRow_45 : decode cX7_asRow 45 = .ok (.bipush (-11), 2) := by decide +kernel
theorem dX7_asRow_47 : decode cX7_asRow 47 = .ok (.ireturn, 1) := by decide +kernel
theorem dX8_init_0 : decode cX8_init 0 = .ok (.aload_n 0, 1) := by decide +kernel
theorem dX8_init_1 : decode cX8_init 1 = .ok (.invokespecial 3, 3) := by decide +kernel
theorem dX8_init_4 : decode cX8_init 4 = .ok (.aload_n 0, 1) := by decide +kernel
theorem dX8_init_5 : decode cX8_init 5 = .ok (.bipush 6, 2) := by decide +kernel
theorem dX8_init_7 : decode cX8_init 7 = .ok (.newarray .int, 2) := by decide +kernel
theorem dX8_init_9 : decode cX8_init 9 = .ok (.putfield 9, 3) := by decide +kernel
theorem dX8_init_12 : decode cX8_init 12 = .ok (.aload_n 0, 1) := by decide +kernel
theorem dX8_init_13 : decode cX8_init 13 = .ok (.bipush 6, 2) := by decide +kernel
theorem dX8_init_15 : decode cX8_init 15 = .ok (.newarray .int, 2) := by decide +kernel
theorem dX8_init_17 : decode cX8_init 17 = .ok (.putfield 15, 3) := by decide +kernel
theorem dX8_init_20 : decode cX8_init 20 = .ok (.aload_n 0, 1) := by decide +kernel
theorem dX8_init_21 : decode cX8_init 21 = .ok (.bipush 6, 2) := by decide +kernel
theorem dX8_init_23 : decode cX8_init 23 = .ok (.newarray .int, 2) := by decide +kernel
theorem dX8_init_25 : decode cX8_init 25 = .ok (.putfield 18, 3) := by decide +kernel
theorem dX8_init_28 : decode cX8_init 28 = .ok (.aload_n 0, 1) := by decide +kernel
theorem dX8_init_29 : decode cX8_init 29 = .ok (.bipush 6, 2) := by decide +kernel
theorem dX8_init_31 : decode cX8_init 31 = .ok (.newarray .int, 2) := by decide +kernel
theorem dX8_init_33 : decode cX8_init 33 = .ok (.putfield 21, 3) := by decide +kernel
theorem dX8_init_36 : decode cX8_init 36 = .ok (.aload_n 0, 1) := by decide +kernel
theorem dX8_init_37 : decode cX8_init 37 = .ok (.bipush 16, 2) := by decide +kernel
theorem dX8_init_39 : decode cX8_init 39 = .ok (.newarray .int, 2) := by decide +kernel
theorem dX8_init_41 : decode cX8_init 41 = .ok (.putfield 24, 3) := by decide +kernel
theorem dX8_init_44 : decode cX8_init 44 = .ok (.aload_n 0, 1) := by decide +kernel
theorem dX8_init_45 : decode cX8_init 45 = .ok (.iconst 5, 1) := by decide +kernel
theorem dX8_init_46 : decode cX8_init 46 = .ok (.newarray .int, 2) := by decide +kernel
theorem dX8_init_48 : decode cX8_init 48 = .ok (.putfield 29, 3) := by decide +kernel
theorem dX8_init_51 : decode cX8_init 51 = .ok (.aload_n 0, 1) := by decide +kernel
theorem dX8_init_52 : decode cX8_init 52 = .ok (.iconst 1, 1) := by decide +kernel
theorem dX8_init_53 : decode cX8_init 53 = .ok (.putfield 32, 3) := by decide +kernel
theorem dX8_init_56 : decode cX8_init 56 = .ok (.aload_n 0, 1) := by decide +kernel
theorem dX8_init_57 : decode cX8_init 57 = .ok (.aload_n 1, 1) := by decide +kernel
theorem dX8_init_58 : decode cX8_init 58 = .ok (.putfield 36, 3) := by decide +kernel
theorem dX8_init_61 : decode cX8_init 61 = .ok (.return_, 1) := by decide +kernel
theorem dX8_copyFrom_0 : decode cX8_copyFrom 0 = .ok (.aload_n 1, 1) := by decide +kernel
theorem dX8_copyFrom_1 : decode cX8_copyFrom 1 = .ok (.getfield 9, 3) := by decide +kernel
theorem dX8_copyFrom_4 : decode cX8_copyFrom 4 = .ok (.iconst 0, 1) := by decide +kernel
theorem dX8_copyFrom_5 : decode cX8_copyFrom 5 = .ok (.aload_n 0, 1) := by decide +kernel
theorem dX8_copyFrom_6 : decode cX8_copyFrom 6 = .ok (.getfield 9, 3) := by decide +kernel
theorem dX8_copyFrom_9 : decode cX8_copyFrom 9 = .ok (.iconst 0, 1) := by decide +kernel
theorem dX8_copyFrom_10 : decode cX8_copyFrom 10 = .ok (.bipush 6, 2) := by decide +kernel
theorem dX8_copyFrom_12 : decode cX8_copyFrom 12 = .ok (.invokestatic 40, 3) := by decide +kernel
theorem dX8_copyFrom_15 : decode cX8_copyFrom 15 = .ok (.aload_n 1, 1) := by decide +kernel
theorem dX8_copyFrom_16 : decode cX8_copyFrom 16 = .ok (.getfield 15, 3) := by decide +kernel
theorem dX8_copyFrom_19 : decode cX8_copyFrom 19 = .ok (.iconst 0, 1) := by decide +kernel
theorem dX8_copyFrom_20 : decode cX8_copyFrom 20 = .ok (.aload_n 0, 1) := by decide +kernel
theorem dX8_copyFrom_21 : decode cX8_copyFrom 21 = .ok (.getfield 15, 3) := by decide +kernel
theorem dX8_copyFrom_24 : decode cX8_copyFrom 24 = .ok (.iconst 0, 1) := by decide +kernel
theorem dX8_copyFrom_25 : decode cX8_copyFrom 25 = .ok (.bipush 6, 2) := by decide +kernel
theorem dX8_copyFrom_27 : decode cX8_copyFrom 27 = .ok (.invokestatic 40, 3) := by decide +kernel
theorem dX8_copyFrom_30 : decode cX8_copyFrom 30 = .ok (.aload_n 1, 1) := by decide +kernel
theorem dX8_copyFrom_31 : decode cX8_copyFrom 31 = .ok (.getfield 18, 3) := by decide +kernel
theorem dX8_copyFrom_34 : decode cX8_copyFrom 34 = .ok (.iconst 0, 1) := by decide +kernel
theorem dX8_copyFrom_35 : decode cX8_copyFrom 35 = .ok (.aload_n 0, 1) := by decide +kernel
theorem dX8_copyFrom_36 : decode cX8_copyFrom 36 = .ok (.getfield 18, 3) := by decide +kernel
theorem dX8_copyFrom_39 : decode cX8_copyFrom 39 = .ok (.iconst 0, 1) := by decide +kernel
theorem dX8_copyFrom_40 : decode cX8_copyFrom 40 = .ok (.bipush 6, 2) := by decide +kernel
theorem dX8_copyFrom_42 : decode cX8_copyFrom 42 = .ok (.invokestatic 40, 3) := by decide +kernel
theorem dX8_copyFrom_45 : decode cX8_copyFrom 45 = .ok (.aload_n 1, 1) := by decide +kernel
theorem dX8_copyFrom_46 : decode cX8_copyFrom 46 = .ok (.getfield 21, 3) := by decide +kernel
theorem dX8_copyFrom_49 : decode cX8_copyFrom 49 = .ok (.iconst 0, 1) := by decide +kernel
theorem dX8_copyFrom_50 : decode cX8_copyFrom 50 = .ok (.aload_n 0, 1) := by decide +kernel
theorem dX8_copyFrom_51 : decode cX8_copyFrom 51 = .ok (.getfield 21, 3) := by decide +kernel
theorem dX8_copyFrom_54 : decode cX8_copyFrom 54 = .ok (.iconst 0, 1) := by decide +kernel
theorem dX8_copyFrom_55 : decode cX8_copyFrom 55 = .ok (.bipush 6, 2) := by decide +kernel
theorem dX8_copyFrom_57 : decode cX8_copyFrom 57 = .ok (.invokestatic 40, 3) := by decide +kernel
theorem dX8_copyFrom_60 : decode cX8_copyFrom 60 = .ok (.aload_n 1, 1) := by decide +kernel
theorem dX8_copyFrom_61 : decode cX8_copyFrom 61 = .ok (.getfield 24, 3) := by decide +kernel
theorem dX8_copyFrom_64 : decode cX8_copyFrom 64 = .ok (.iconst 0, 1) := by decide +kernel
theorem dX8_copyFrom_65 : decode cX8_copyFrom 65 = .ok (.aload_n 0, 1) := by decide +kernel
theorem dX8_copyFrom_66 : decode cX8_copyFrom 66 = .ok (.getfield 24, 3) := by decide +kernel
theorem dX8_copyFrom_69 : decode cX8_copyFrom 69 = .ok (.iconst 0, 1) := by decide +kernel
theorem dX8_copyFrom_70 : decode cX8_copyFrom 70 = .ok (.bipush 16, 2) := by decide +kernel
theorem dX8_copyFrom_72 : decode cX8_copyFrom 72 = .ok (.invokestatic 40, 3) := by decide +kernel
theorem dX8_copyFrom_75 : decode cX8_copyFrom 75 = .ok (.aload_n 0, 1) := by decide +kernel
theorem dX8_copyFrom_76 : decode cX8_copyFrom 76 = .ok (.aload_n 1, 1) := by decide +kernel
theorem dX8_copyFrom_77 : decode cX8_copyFrom 77 = .ok (.getfield 46, 3) := by decide +kernel
theorem dX8_copyFrom_80 : decode cX8_copyFrom 80 = .ok (.putfield 46, 3) := by decide +kernel
theorem dX8_copyFrom_83 : decode cX8_copyFrom 83 = .ok (.aload_n 0, 1) := by decide +kernel
theorem dX8_copyFrom_84 : decode cX8_copyFrom 84 = .ok (.aload_n 1, 1) := by decide +kernel
theorem dX8_copyFrom_85 : decode cX8_copyFrom 85 = .ok (.getfield 49, 3) := by decide +kernel
theorem dX8_copyFrom_88 : decode cX8_copyFrom 88 = .ok (.putfield 49, 3) := by decide +kernel
theorem dX8_copyFrom_91 : decode cX8_copyFrom 91 = .ok (.aload_n 0, 1) := by decide +kernel
theorem dX8_copyFrom_92 : decode cX8_copyFrom 92 = .ok (.aload_n 1, 1) := by decide +kernel
theorem dX8_copyFrom_93 : decode cX8_copyFrom 93 = .ok (.getfield 52, 3) := by decide +kernel
theorem dX8_copyFrom_96 : decode cX8_copyFrom 96 = .ok (.putfield 52, 3) := by decide +kernel
theorem dX8_copyFrom_99 : decode cX8_copyFrom 99 = .ok (.aload_n 0, 1) := by decide +kernel
theorem dX8_copyFrom_100 : decode cX8_copyFrom 100 = .ok (.aload_n 1, 1) := by decide +kernel
theorem dX8_copyFrom_101 : decode cX8_copyFrom 101 = .ok (.getfield 55, 3) := by decide +kernel
theorem dX8_copyFrom_104 : decode cX8_copyFrom 104 = .ok (.putfield 55, 3) := by decide +kernel
theorem dX8_copyFrom_107 : decode cX8_copyFrom 107 = .ok (.aload_n 0, 1) := by decide +kernel
theorem dX8_copyFrom_108 : decode cX8_copyFrom 108 = .ok (.aload_n 1, 1) := by decide +kernel
theorem dX8_copyFrom_109 : decode cX8_copyFrom 109 = .ok (.getfield 32, 3) := by decide +kernel
theorem dX8_copyFrom_112 : decode cX8_copyFrom 112 = .ok (.putfield 32, 3) := by decide +kernel
theorem dX8_copyFrom_115 : decode cX8_copyFrom 115 = .ok (.return_, 1) := by decide +kernel
theorem dX8_hasLamp_0 : decode cX8_hasLamp 0 = .ok (.iload_n 1, 1) := by decide +kernel
theorem dX8_hasLamp_1 : decode cX8_hasLamp 1 = .ok (.ifCond .lt 15, 3) := by decide +kernel
theorem dX8_hasLamp_4 : decode cX8_hasLamp 4 = .ok (.iload_n 1, 1) := by decide +kernel
theorem dX8_hasLamp_5 : decode cX8_hasLamp 5 = .ok (.aload_n 0, 1) := by decide +kernel
theorem dX8_hasLamp_6 : decode cX8_hasLamp 6 = .ok (.getfield 46, 3) := by decide +kernel
theorem dX8_hasLamp_9 : decode cX8_hasLamp 9 = .ok (.if_icmp .ge 7, 3) := by decide +kernel
theorem dX8_hasLamp_12 : decode cX8_hasLamp 12 = .ok (.iconst 1, 1) := by decide +kernel
theorem dX8_hasLamp_13 : decode cX8_hasLamp 13 = .ok (.goto 4, 3) := by decide +kernel
theorem dX8_hasLamp_16 : decode cX8_hasLamp 16 = .ok (.iconst 0, 1) := by decide +kernel
theorem dX8_hasLamp_17 : decode cX8_hasLamp 17 = .ok (.ireturn, 1) := by decide +kernel
theorem dX8_hasBeat_0 : decode cX8_hasBeat 0 = .ok (.iload_n 1, 1) := by decide +kernel
theorem dX8_hasBeat_1 : decode cX8_hasBeat 1 = .ok (.ifCond .lt 15, 3) := by decide +kernel
theorem dX8_hasBeat_4 : decode cX8_hasBeat 4 = .ok (.iload_n 1, 1) := by decide +kernel
theorem dX8_hasBeat_5 : decode cX8_hasBeat 5 = .ok (.aload_n 0, 1) := by decide +kernel
theorem dX8_hasBeat_6 : decode cX8_hasBeat 6 = .ok (.getfield 49, 3) := by decide +kernel
theorem dX8_hasBeat_9 : decode cX8_hasBeat 9 = .ok (.if_icmp .ge 7, 3) := by decide +kernel
theorem dX8_hasBeat_12 : decode cX8_hasBeat 12 = .ok (.iconst 1, 1) := by decide +kernel
theorem dX8_hasBeat_13 : decode cX8_hasBeat 13 = .ok (.goto 4, 3) := by decide +kernel
theorem dX8_hasBeat_16 : decode cX8_hasBeat 16 = .ok (.iconst 0, 1) := by decide +kernel
theorem dX8_hasBeat_17 : decode cX8_hasBeat 17 = .ok (.ireturn, 1) := by decide +kernel
theorem dX8_isOver_0 : decode cX8_isOver 0 = .ok (.aload_n 0, 1) := by decide +kernel
theorem dX8_isOver_1 : decode cX8_isOver 1 = .ok (.getfield 52, 3) := by decide +kernel
theorem dX8_isOver_4 : decode cX8_isOver 4 = .ok (.aload_n 0, 1) := by decide +kernel
theorem dX8_isOver_5 : decode cX8_isOver 5 = .ok (.getfield 49, 3) := by decide +kernel
theorem dX8_isOver_8 : decode cX8_isOver 8 = .ok (.if_icmp .lt 7, 3) := by decide +kernel
theorem dX8_isOver_11 : decode cX8_isOver 11 = .ok (.iconst 1, 1) := by decide +kernel
theorem dX8_isOver_12 : decode cX8_isOver 12 = .ok (.goto 4, 3) := by decide +kernel
theorem dX8_isOver_15 : decode cX8_isOver 15 = .ok (.iconst 0, 1) := by decide +kernel
theorem dX8_isOver_16 : decode cX8_isOver 16 = .ok (.ireturn, 1) := by decide +kernel
theorem dX8_isAct_0 : decode cX8_isAct 0 = .ok (.iload_n 1, 1) := by decide +kernel
theorem dX8_isAct_1 : decode cX8_isAct 1 = .ok (.ifCond .eq 13, 3) := by decide +kernel
theorem dX8_isAct_4 : decode cX8_isAct 4 = .ok (.aload_n 0, 1) := by decide +kernel
theorem dX8_isAct_5 : decode cX8_isAct 5 = .ok (.iload_n 1, 1) := by decide +kernel
theorem dX8_isAct_6 : decode cX8_isAct 6 = .ok (.iconst 1, 1) := by decide +kernel
theorem dX8_isAct_7 : decode cX8_isAct 7 = .ok (.isub, 1) := by decide +kernel
theorem dX8_isAct_8 : decode cX8_isAct 8 = .ok (.invokevirtual 58, 3) := by decide +kernel
theorem dX8_isAct_11 : decode cX8_isAct 11 = .ok (.ifCond .eq 7, 3) := by decide +kernel
theorem dX8_isAct_14 : decode cX8_isAct 14 = .ok (.iconst 1, 1) := by decide +kernel
theorem dX8_isAct_15 : decode cX8_isAct 15 = .ok (.goto 4, 3) := by decide +kernel
theorem dX8_isAct_18 : decode cX8_isAct 18 = .ok (.iconst 0, 1) := by decide +kernel
theorem dX8_isAct_19 : decode cX8_isAct 19 = .ok (.ireturn, 1) := by decide +kernel
theorem dX8_addLamp_0 : decode cX8_addLamp 0 = .ok (.aload_n 0, 1) := by decide +kernel
theorem dX8_addLamp_1 : decode cX8_addLamp 1 = .ok (.getfield 46, 3) := by decide +kernel
theorem dX8_addLamp_4 : decode cX8_addLamp 4 = .ok (.istore 5, 2) := by decide +kernel
theorem dX8_addLamp_6 : decode cX8_addLamp 6 = .ok (.iload 5, 2) := by decide +kernel
theorem dX8_addLamp_8 : decode cX8_addLamp 8 = .ok (.bipush 6, 2) := by decide +kernel
theorem dX8_addLamp_10 : decode cX8_addLamp 10 = .ok (.if_icmp .lt 6, 3) := by decide +kernel
theorem dX8_addLamp_13 : decode cX8_addLamp 13 = .ok (.bipush (-2), 2) := by decide +kernel
theorem dX8_addLamp_15 : decode cX8_addLamp 15 = .ok (.ireturn, 1) := by decide +kernel
theorem dX8_addLamp_16 : decode cX8_addLamp 16 = .ok (.aload_n 0, 1) := by decide +kernel
theorem dX8_addLamp_17 : decode cX8_addLamp 17 = .ok (.getfield 9, 3) := by decide +kernel
theorem dX8_addLamp_20 : decode cX8_addLamp 20 = .ok (.iload 5, 2) := by decide +kernel
theorem dX8_addLamp_22 : decode cX8_addLamp 22 = .ok (.iload_n 1, 1) := by decide +kernel
theorem dX8_addLamp_23 : decode cX8_addLamp 23 = .ok (.iastore, 1) := by decide +kernel
theorem dX8_addLamp_24 : decode cX8_addLamp 24 = .ok (.aload_n 0, 1) := by decide +kernel
theorem dX8_addLamp_25 : decode cX8_addLamp 25 = .ok (.getfield 15, 3) := by decide +kernel
theorem dX8_addLamp_28 : decode cX8_addLamp 28 = .ok (.iload 5, 2) := by decide +kernel
theorem dX8_addLamp_30 : decode cX8_addLamp 30 = .ok (.iload_n 2, 1) := by decide +kernel
theorem dX8_addLamp_31 : decode cX8_addLamp 31 = .ok (.iastore, 1) := by decide +kernel
theorem dX8_addLamp_32 : decode cX8_addLamp 32 = .ok (.aload_n 0, 1) := by decide +kernel
theorem dX8_addLamp_33 : decode cX8_addLamp 33 = .ok (.getfield 18, 3) := by decide +kernel
theorem dX8_addLamp_36 : decode cX8_addLamp 36 = .ok (.iload 5, 2) := by decide +kernel
theorem dX8_addLamp_38 : decode cX8_addLamp 38 = .ok (.iload_n 3, 1) := by decide +kernel
theorem dX8_addLamp_39 : decode cX8_addLamp 39 = .ok (.iastore, 1) := by decide +kernel
theorem dX8_addLamp_40 : decode cX8_addLamp 40 = .ok (.aload_n 0, 1) := by decide +kernel
theorem dX8_addLamp_41 : decode cX8_addLamp 41 = .ok (.getfield 21, 3) := by decide +kernel
theorem dX8_addLamp_44 : decode cX8_addLamp 44 = .ok (.iload 5, 2) := by decide +kernel
theorem dX8_addLamp_46 : decode cX8_addLamp 46 = .ok (.iload 4, 2) := by decide +kernel
theorem dX8_addLamp_48 : decode cX8_addLamp 48 = .ok (.iastore, 1) := by decide +kernel
theorem dX8_addLamp_49 : decode cX8_addLamp 49 = .ok (.aload_n 0, 1) := by decide +kernel
theorem dX8_addLamp_50 : decode cX8_addLamp 50 = .ok (.iload 5, 2) := by decide +kernel
theorem dX8_addLamp_52 : decode cX8_addLamp 52 = .ok (.iconst 1, 1) := by decide +kernel
theorem dX8_addLamp_53 : decode cX8_addLamp 53 = .ok (.iadd, 1) := by decide +kernel
theorem dX8_addLamp_54 : decode cX8_addLamp 54 = .ok (.putfield 46, 3) := by decide +kernel
theorem dX8_addLamp_57 : decode cX8_addLamp 57 = .ok (.iload 5, 2) := by decide +kernel
theorem dX8_addLamp_59 : decode cX8_addLamp 59 = .ok (.ireturn, 1) := by decide +kernel
theorem dX8_addBeat_0 : decode cX8_addBeat 0 = .ok (.aload_n 0, 1) := by decide +kernel
theorem dX8_addBeat_1 : decode cX8_addBeat 1 = .ok (.getfield 49, 3) := by decide +kernel
theorem dX8_addBeat_4 : decode cX8_addBeat 4 = .ok (.istore_n 2, 1) := by decide +kernel
theorem dX8_addBeat_5 : decode cX8_addBeat 5 = .ok (.iload_n 2, 1) := by decide +kernel
theorem dX8_addBeat_6 : decode cX8_addBeat 6 = .ok (.bipush 16, 2) := by decide +kernel
theorem dX8_addBeat_8 : decode cX8_addBeat 8 = .ok (.if_icmp .lt 6, 3) := by decide +kernel
theorem dX8_addBeat_11 : decode cX8_addBeat 11 = .ok (.bipush (-2), 2) := by decide +kernel
theorem dX8_addBeat_13 : decode cX8_addBeat 13 = .ok (.ireturn, 1) := by decide +kernel
theorem dX8_addBeat_14 : decode cX8_addBeat 14 = .ok (.aload_n 0, 1) := by decide +kernel
theorem dX8_addBeat_15 : decode cX8_addBeat 15 = .ok (.getfield 24, 3) := by decide +kernel
theorem dX8_addBeat_18 : decode cX8_addBeat 18 = .ok (.iload_n 2, 1) := by decide +kernel
theorem dX8_addBeat_19 : decode cX8_addBeat 19 = .ok (.iload_n 1, 1) := by decide +kernel
theorem dX8_addBeat_20 : decode cX8_addBeat 20 = .ok (.iastore, 1) := by decide +kernel
theorem dX8_addBeat_21 : decode cX8_addBeat 21 = .ok (.aload_n 0, 1) := by decide +kernel
theorem dX8_addBeat_22 : decode cX8_addBeat 22 = .ok (.iload_n 2, 1) := by decide +kernel
theorem dX8_addBeat_23 : decode cX8_addBeat 23 = .ok (.iconst 1, 1) := by decide +kernel
theorem dX8_addBeat_24 : decode cX8_addBeat 24 = .ok (.iadd, 1) := by decide +kernel
theorem dX8_addBeat_25 : decode cX8_addBeat 25 = .ok (.putfield 49, 3) := by decide +kernel
theorem dX8_addBeat_28 : decode cX8_addBeat 28 = .ok (.iload_n 2, 1) := by decide +kernel
theorem dX8_addBeat_29 : decode cX8_addBeat 29 = .ok (.ireturn, 1) := by decide +kernel
theorem dX8_fieldOf_0 : decode cX8_fieldOf 0 = .ok (.iload_n 1, 1) := by decide +kernel
theorem dX8_fieldOf_1 : decode cX8_fieldOf 1 = .ok (.tableswitch 42 1 3 #[27, 32, 37], 27) := by decide +kernel
theorem dX8_fieldOf_28 : decode cX8_fieldOf 28 = .ok (.aload_n 0, 1) := by decide +kernel
theorem dX8_fieldOf_29 : decode cX8_fieldOf 29 = .ok (.getfield 15, 3) := by decide +kernel
theorem dX8_fieldOf_32 : decode cX8_fieldOf 32 = .ok (.areturn, 1) := by decide +kernel
theorem dX8_fieldOf_33 : decode cX8_fieldOf 33 = .ok (.aload_n 0, 1) := by decide +kernel
theorem dX8_fieldOf_34 : decode cX8_fieldOf 34 = .ok (.getfield 18, 3) := by decide +kernel
theorem dX8_fieldOf_37 : decode cX8_fieldOf 37 = .ok (.areturn, 1) := by decide +kernel
theorem dX8_fieldOf_38 : decode cX8_fieldOf 38 = .ok (.aload_n 0, 1) := by decide +kernel
theorem dX8_fieldOf_39 : decode cX8_fieldOf 39 = .ok (.getfield 21, 3) := by decide +kernel
theorem dX8_fieldOf_42 : decode cX8_fieldOf 42 = .ok (.areturn, 1) := by decide +kernel
theorem dX8_fieldOf_43 : decode cX8_fieldOf 43 = .ok (.aload_n 0, 1) := by decide +kernel
theorem dX8_fieldOf_44 : decode cX8_fieldOf 44 = .ok (.getfield 9, 3) := by decide +kernel
theorem dX8_fieldOf_47 : decode cX8_fieldOf 47 = .ok (.areturn, 1) := by decide +kernel
theorem dX8_exchange_0 : decode cX8_exchange 0 = .ok (.aload_n 0, 1) := by decide +kernel
theorem dX8_exchange_1 : decode cX8_exchange 1 = .ok (.iload_n 2, 1) := by decide +kernel
theorem dX8_exchange_2 : decode cX8_exchange 2 = .ok (.invokevirtual 62, 3) := by decide +kernel
theorem dX8_exchange_5 : decode cX8_exchange 5 = .ok (.astore 4, 2) := by decide +kernel
theorem dX8_exchange_7 : decode cX8_exchange 7 = .ok (.aload 4, 2) := by decide +kernel
theorem dX8_exchange_9 : decode cX8_exchange 9 = .ok (.iload_n 1, 1) := by decide +kernel
theorem dX8_exchange_10 : decode cX8_exchange 10 = .ok (.iaload, 1) := by decide +kernel
theorem dX8_exchange_11 : decode cX8_exchange 11 = .ok (.istore 5, 2) := by decide +kernel
theorem dX8_exchange_13 : decode cX8_exchange 13 = .ok (.aload 4, 2) := by decide +kernel
theorem dX8_exchange_15 : decode cX8_exchange 15 = .ok (.iload_n 1, 1) := by decide +kernel
theorem dX8_exchange_16 : decode cX8_exchange 16 = .ok (.iload_n 3, 1) := by decide +kernel
theorem dX8_exchange_17 : decode cX8_exchange 17 = .ok (.iastore, 1) := by decide +kernel
theorem dX8_exchange_18 : decode cX8_exchange 18 = .ok (.iload 5, 2) := by decide +kernel
theorem dX8_exchange_20 : decode cX8_exchange 20 = .ok (.ireturn, 1) := by decide +kernel
theorem dX8_placeNear_0 : decode cX8_placeNear 0 = .ok (.aload_n 0, 1) := by decide +kernel
theorem dX8_placeNear_1 : decode cX8_placeNear 1 = .ok (.getfield 49, 3) := by decide +kernel
theorem dX8_placeNear_4 : decode cX8_placeNear 4 = .ok (.ifCond .ne 5, 3) := by decide +kernel
theorem dX8_placeNear_7 : decode cX8_placeNear 7 = .ok (.iconst 0, 1) := by decide +kernel
theorem dX8_placeNear_8 : decode cX8_placeNear 8 = .ok (.ireturn, 1) := by decide +kernel
theorem dX8_placeNear_9 : decode cX8_placeNear 9 = .ok (.iload_n 1, 1) := by decide +kernel
theorem dX8_placeNear_10 : decode cX8_placeNear 10 = .ok (.ifCond .gt 10, 3) := by decide +kernel
theorem dX8_placeNear_13 : decode cX8_placeNear 13 = .ok (.aload_n 0, 1) := by decide +kernel
theorem dX8_placeNear_14 : decode cX8_placeNear 14 = .ok (.getfield 24, 3) := by decide +kernel
theorem dX8_placeNear_17 : decode cX8_placeNear 17 = .ok (.iconst 0, 1) := by decide +kernel
theorem dX8_placeNear_18 : decode cX8_placeNear 18 = .ok (.iaload, 1) := by decide +kernel
theorem dX8_placeNear_19 : decode cX8_placeNear 19 = .ok (.ireturn, 1) := by decide +kernel
theorem dX8_placeNear_20 : decode cX8_placeNear 20 = .ok (.iload_n 1, 1) := by decide +kernel
theorem dX8_placeNear_21 : decode cX8_placeNear 21 = .ok (.aload_n 0, 1) := by decide +kernel
theorem dX8_placeNear_22 : decode cX8_placeNear 22 = .ok (.getfield 49, 3) := by decide +kernel
theorem dX8_placeNear_25 : decode cX8_placeNear 25 = .ok (.if_icmp .ge 12, 3) := by decide +kernel
theorem dX8_placeNear_28 : decode cX8_placeNear 28 = .ok (.aload_n 0, 1) := by decide +kernel
theorem dX8_placeNear_29 : decode cX8_placeNear 29 = .ok (.getfield 24, 3) := by decide +kernel
theorem dX8_placeNear_32 : decode cX8_placeNear 32 = .ok (.iload_n 1, 1) := by decide +kernel
theorem dX8_placeNear_33 : decode cX8_placeNear 33 = .ok (.iaload, 1) := by decide +kernel
theorem dX8_placeNear_34 : decode cX8_placeNear 34 = .ok (.goto 14, 3) := by decide +kernel
theorem dX8_placeNear_37 : decode cX8_placeNear 37 = .ok (.aload_n 0, 1) := by decide +kernel
theorem dX8_placeNear_38 : decode cX8_placeNear 38 = .ok (.getfield 24, 3) := by decide +kernel
theorem dX8_placeNear_41 : decode cX8_placeNear 41 = .ok (.aload_n 0, 1) := by decide +kernel
theorem dX8_placeNear_42 : decode cX8_placeNear 42 = .ok (.getfield 49, 3) := by decide +kernel
theorem dX8_placeNear_45 : decode cX8_placeNear 45 = .ok (.iconst 1, 1) := by decide +kernel
theorem dX8_placeNear_46 : decode cX8_placeNear 46 = .ok (.isub, 1) := by decide +kernel
theorem dX8_placeNear_47 : decode cX8_placeNear 47 = .ok (.iaload, 1) := by decide +kernel
theorem dX8_placeNear_48 : decode cX8_placeNear 48 = .ok (.ireturn, 1) := by decide +kernel
theorem dX8_goalOf_0 : decode cX8_goalOf 0 = .ok (.aload_n 0, 1) := by decide +kernel
theorem dX8_goalOf_1 : decode cX8_goalOf 1 = .ok (.getfield 52, 3) := by decide +kernel
theorem dX8_goalOf_4 : decode cX8_goalOf 4 = .ok (.ifCond .le 12, 3) := by decide +kernel
theorem dX8_goalOf_7 : decode cX8_goalOf 7 = .ok (.aload_n 0, 1) := by decide +kernel
theorem dX8_goalOf_8 : decode cX8_goalOf 8 = .ok (.getfield 52, 3) := by decide +kernel
theorem dX8_goalOf_11 : decode cX8_goalOf 11 = .ok (.iconst 1, 1) := by decide +kernel
theorem dX8_goalOf_12 : decode cX8_goalOf 12 = .ok (.isub, 1) := by decide +kernel
theorem dX8_goalOf_13 : decode cX8_goalOf 13 = .ok (.goto 4, 3) := by decide +kernel
theorem dX8_goalOf_16 : decode cX8_goalOf 16 = .ok (.iconst 0, 1) := by decide +kernel
theorem dX8_goalOf_17 : decode cX8_goalOf 17 = .ok (.istore_n 2, 1) := by decide +kernel
theorem dX8_goalOf_18 : decode cX8_goalOf 18 = .ok (.aload_n 0, 1) := by decide +kernel
theorem dX8_goalOf_19 : decode cX8_goalOf 19 = .ok (.iload_n 1, 1) := by decide +kernel
theorem dX8_goalOf_20 : decode cX8_goalOf 20 = .ok (.aload_n 0, 1) := by decide +kernel
theorem dX8_goalOf_21 : decode cX8_goalOf 21 = .ok (.iload_n 2, 1) := by decide +kernel
theorem dX8_goalOf_22 : decode cX8_goalOf 22 = .ok (.invokevirtual 66, 3) := by decide +kernel
theorem dX8_goalOf_25 : decode cX8_goalOf 25 = .ok (.invokevirtual 70, 3) := by decide +kernel
theorem dX8_goalOf_28 : decode cX8_goalOf 28 = .ok (.iconst 0, 1) := by decide +kernel
theorem dX8_goalOf_29 : decode cX8_goalOf 29 = .ok (.istore_n 3, 1) := by decide +kernel
theorem dX8_goalOf_30 : decode cX8_goalOf 30 = .ok (.iload_n 3, 1) := by decide +kernel
theorem dX8_goalOf_31 : decode cX8_goalOf 31 = .ok (.aload_n 0, 1) := by decide +kernel
theorem dX8_goalOf_32 : decode cX8_goalOf 32 = .ok (.getfield 36, 3) := by decide +kernel
theorem dX8_goalOf_35 : decode cX8_goalOf 35 = .ok (.getfield 74, 3) := by decide +kernel
theorem dX8_goalOf_38 : decode cX8_goalOf 38 = .ok (.if_icmp .ge 78, 3) := by decide +kernel
theorem dX8_goalOf_41 : decode cX8_goalOf 41 = .ok (.aload_n 0, 1) := by decide +kernel
theorem dX8_goalOf_42 : decode cX8_goalOf 42 = .ok (.getfield 9, 3) := by decide +kernel
theorem dX8_goalOf_45 : decode cX8_goalOf 45 = .ok (.iload_n 1, 1) := by decide +kernel
theorem dX8_goalOf_46 : decode cX8_goalOf 46 = .ok (.iaload, 1) := by decide +kernel
theorem dX8_goalOf_47 : decode cX8_goalOf 47 = .ok (.aload_n 0, 1) := by decide +kernel
theorem dX8_goalOf_48 : decode cX8_goalOf 48 = .ok (.getfield 36, 3) := by decide +kernel
theorem dX8_goalOf_51 : decode cX8_goalOf 51 = .ok (.getfield 77, 3) := by decide +kernel
theorem dX8_goalOf_54 : decode cX8_goalOf 54 = .ok (.iload_n 3, 1) := by decide +kernel
theorem dX8_goalOf_55 : decode cX8_goalOf 55 = .ok (.iaload, 1) := by decide +kernel
theorem dX8_goalOf_56 : decode cX8_goalOf 56 = .ok (.invokestatic 78, 3) := by decide +kernel
theorem dX8_goalOf_59 : decode cX8_goalOf 59 = .ok (.ifCond .eq 51, 3) := by decide +kernel
theorem dX8_goalOf_62 : decode cX8_goalOf 62 = .ok (.aload_n 0, 1) := by decide +kernel
theorem dX8_goalOf_63 : decode cX8_goalOf 63 = .ok (.getfield 36, 3) := by decide +kernel
theorem dX8_goalOf_66 : decode cX8_goalOf 66 = .ok (.iload_n 3, 1) := by decide +kernel
theorem dX8_goalOf_67 : decode cX8_goalOf 67 = .ok (.aload_n 0, 1) := by decide +kernel
theorem dX8_goalOf_68 : decode cX8_goalOf 68 = .ok (.getfield 29, 3) := by decide +kernel
theorem dX8_goalOf_71 : decode cX8_goalOf 71 = .ok (.invokevirtual 82, 3) := by decide +kernel
theorem dX8_goalOf_74 : decode cX8_goalOf 74 = .ok (.ifCond .eq 36, 3) := by decide +kernel
theorem dX8_goalOf_77 : decode cX8_goalOf 77 = .ok (.aload_n 0, 1) := by decide +kernel
theorem dX8_goalOf_78 : decode cX8_goalOf 78 = .ok (.getfield 36, 3) := by decide +kernel
theorem dX8_goalOf_81 : decode cX8_goalOf 81 = .ok (.getfield 86, 3) := by decide +kernel
theorem dX8_goalOf_84 : decode cX8_goalOf 84 = .ok (.iload_n 3, 1) := by decide +kernel
theorem dX8_goalOf_85 : decode cX8_goalOf 85 = .ok (.iaload, 1) := by decide +kernel
theorem dX8_goalOf_86 : decode cX8_goalOf 86 = .ok (.istore 4, 2) := by decide +kernel
theorem dX8_goalOf_88 : decode cX8_goalOf 88 = .ok (.iload 4, 2) := by decide +kernel
theorem dX8_goalOf_90 : decode cX8_goalOf 90 = .ok (.sipush 1000, 3) := by decide +kernel
theorem dX8_goalOf_93 : decode cX8_goalOf 93 = .ok (.if_icmp .ne 8, 3) := by decide +kernel
theorem dX8_goalOf_96 : decode cX8_goalOf 96 = .ok (.bipush 41, 2) := by decide +kernel
theorem dX8_goalOf_98 : decode cX8_goalOf 98 = .ok (.goto 11, 3) := by decide +kernel
theorem dX8_goalOf_101 : decode cX8_goalOf 101 = .ok (.aload_n 0, 1) := by decide +kernel
theorem dX8_goalOf_102 : decode cX8_goalOf 102 = .ok (.iload_n 2, 1) := by decide +kernel
theorem dX8_goalOf_103 : decode cX8_goalOf 103 = .ok (.iload 4, 2) := by decide +kernel
theorem dX8_goalOf_105 : decode cX8_goalOf 105 = .ok (.iadd, 1) := by decide +kernel
theorem dX8_goalOf_106 : decode cX8_goalOf 106 = .ok (.invokevirtual 66, 3) := by decide +kernel
theorem dX8_goalOf_109 : decode cX8_goalOf 109 = .ok (.ireturn, 1) := by decide +kernel
theorem dX8_goalOf_110 : decode cX8_goalOf 110 = .ok (.iinc 3 1, 3) := by decide +kernel
theorem dX8_goalOf_113 : decode cX8_goalOf 113 = .ok (.goto (-83), 3) := by decide +kernel
theorem dX8_goalOf_116 : decode cX8_goalOf 116 = .ok (.aload_n 0, 1) := by decide +kernel
theorem dX8_goalOf_117 : decode cX8_goalOf 117 = .ok (.iload_n 2, 1) := by decide +kernel
theorem dX8_goalOf_118 : decode cX8_goalOf 118 = .ok (.invokevirtual 66, 3) := by decide +kernel
theorem dX8_goalOf_121 : decode cX8_goalOf 121 = .ok (.ireturn, 1) := by decide +kernel
theorem dX8_tellFacts_0 : decode cX8_tellFacts 0 = .ok (.aload_n 0, 1) := by decide +kernel
theorem dX8_tellFacts_1 : decode cX8_tellFacts 1 = .ok (.getfield 29, 3) := by decide +kernel
theorem dX8_tellFacts_4 : decode cX8_tellFacts 4 = .ok (.iconst 0, 1) := by decide +kernel
theorem dX8_tellFacts_5 : decode cX8_tellFacts 5 = .ok (.aload_n 0, 1) := by decide +kernel
theorem dX8_tellFacts_6 : decode cX8_tellFacts 6 = .ok (.getfield 52, 3) := by decide +kernel
theorem dX8_tellFacts_9 : decode cX8_tellFacts 9 = .ok (.iastore, 1) := by decide +kernel
theorem dX8_tellFacts_10 : decode cX8_tellFacts 10 = .ok (.aload_n 0, 1) := by decide +kernel
theorem dX8_tellFacts_11 : decode cX8_tellFacts 11 = .ok (.getfield 29, 3) := by decide +kernel
theorem dX8_tellFacts_14 : decode cX8_tellFacts 14 = .ok (.iconst 1, 1) := by decide +kernel
theorem dX8_tellFacts_15 : decode cX8_tellFacts 15 = .ok (.iload_n 2, 1) := by decide +kernel
theorem dX8_tellFacts_16 : decode cX8_tellFacts 16 = .ok (.iastore, 1) := by decide +kernel
theorem dX8_tellFacts_17 : decode cX8_tellFacts 17 = .ok (.aload_n 0, 1) := by decide +kernel
theorem dX8_tellFacts_18 : decode cX8_tellFacts 18 = .ok (.getfield 29, 3) := by decide +kernel
theorem dX8_tellFacts_21 : decode cX8_tellFacts 21 = .ok (.iconst 2, 1) := by decide +kernel
theorem dX8_tellFacts_22 : decode cX8_tellFacts 22 = .ok (.aload_n 0, 1) := by decide +kernel
theorem dX8_tellFacts_23 : decode cX8_tellFacts 23 = .ok (.getfield 15, 3) := by decide +kernel
theorem dX8_tellFacts_26 : decode cX8_tellFacts 26 = .ok (.iload_n 1, 1) := by decide +kernel
theorem dX8_tellFacts_27 : decode cX8_tellFacts 27 = .ok (.iaload, 1) := by decide +kernel
theorem dX8_tellFacts_28 : decode cX8_tellFacts 28 = .ok (.iastore, 1) := by decide +kernel
theorem dX8_tellFacts_29 : decode cX8_tellFacts 29 = .ok (.aload_n 0, 1) := by decide +kernel
theorem dX8_tellFacts_30 : decode cX8_tellFacts 30 = .ok (.getfield 29, 3) := by decide +kernel
theorem dX8_tellFacts_33 : decode cX8_tellFacts 33 = .ok (.iconst 3, 1) := by decide +kernel
theorem dX8_tellFacts_34 : decode cX8_tellFacts 34 = .ok (.aload_n 0, 1) := by decide +kernel
theorem dX8_tellFacts_35 : decode cX8_tellFacts 35 = .ok (.getfield 18, 3) := by decide +kernel
theorem dX8_tellFacts_38 : decode cX8_tellFacts 38 = .ok (.iload_n 1, 1) := by decide +kernel
theorem dX8_tellFacts_39 : decode cX8_tellFacts 39 = .ok (.iaload, 1) := by decide +kernel
theorem dX8_tellFacts_40 : decode cX8_tellFacts 40 = .ok (.iastore, 1) := by decide +kernel
theorem dX8_tellFacts_41 : decode cX8_tellFacts 41 = .ok (.aload_n 0, 1) := by decide +kernel
theorem dX8_tellFacts_42 : decode cX8_tellFacts 42 = .ok (.getfield 29, 3) := by decide +kernel
theorem dX8_tellFacts_45 : decode cX8_tellFacts 45 = .ok (.iconst 4, 1) := by decide +kernel
theorem dX8_tellFacts_46 : decode cX8_tellFacts 46 = .ok (.iload_n 1, 1) := by decide +kernel
theorem dX8_tellFacts_47 : decode cX8_tellFacts 47 = .ok (.iastore, 1) := by decide +kernel
theorem dX8_tellFacts_48 : decode cX8_tellFacts 48 = .ok (.return_, 1) := by decide +kernel
theorem dX8_aimBehind_0 : decode cX8_aimBehind 0 = .ok (.aload_n 0, 1) := by decide +kernel
theorem dX8_aimBehind_1 : decode cX8_aimBehind 1 = .ok (.iload_n 1, 1) := by decide +kernel
theorem dX8_aimBehind_2 : decode cX8_aimBehind 2 = .ok (.invokevirtual 89, 3) := by decide +kernel
theorem dX8_aimBehind_5 : decode cX8_aimBehind 5 = .ok (.istore_n 2, 1) := by decide +kernel
theorem dX8_aimBehind_6 : decode cX8_aimBehind 6 = .ok (.iload_n 2, 1) := by decide +kernel
theorem dX8_aimBehind_7 : decode cX8_aimBehind 7 = .ok (.bipush 41, 2) := by decide +kernel
theorem dX8_aimBehind_9 : decode cX8_aimBehind 9 = .ok (.if_icmp .ne 10, 3) := by decide +kernel
theorem dX8_aimBehind_12 : decode cX8_aimBehind 12 = .ok (.aload_n 0, 1) := by decide +kernel
theorem dX8_aimBehind_13 : decode cX8_aimBehind 13 = .ok (.getfield 15, 3) := by decide +kernel
theorem dX8_aimBehind_16 : decode cX8_aimBehind 16 = .ok (.iload_n 1, 1) := by decide +kernel
theorem dX8_aimBehind_17 : decode cX8_aimBehind 17 = .ok (.iaload, 1) := by decide +kernel
theorem dX8_aimBehind_18 : decode cX8_aimBehind 18 = .ok (.ireturn, 1) := by decide +kernel
theorem dX8_aimBehind_19 : decode cX8_aimBehind 19 = .ok (.aload_n 0, 1) := by decide +kernel
theorem dX8_aimBehind_20 : decode cX8_aimBehind 20 = .ok (.getfield 15, 3) := by decide +kernel
theorem dX8_aimBehind_23 : decode cX8_aimBehind 23 = .ok (.iload_n 1, 1) := by decide +kernel
theorem dX8_aimBehind_24 : decode cX8_aimBehind 24 = .ok (.iaload, 1) := by decide +kernel
theorem dX8_aimBehind_25 : decode cX8_aimBehind 25 = .ok (.aload_n 0, 1) := by decide +kernel
theorem dX8_aimBehind_26 : decode cX8_aimBehind 26 = .ok (.iload_n 1, 1) := by decide +kernel
theorem dX8_aimBehind_27 : decode cX8_aimBehind 27 = .ok (.iload_n 2, 1) := by decide +kernel
theorem dX8_aimBehind_28 : decode cX8_aimBehind 28 = .ok (.aload_n 0, 1) := by decide +kernel
theorem dX8_aimBehind_29 : decode cX8_aimBehind 29 = .ok (.getfield 15, 3) := by decide +kernel
theorem dX8_aimBehind_32 : decode cX8_aimBehind 32 = .ok (.iload_n 1, 1) := by decide +kernel
theorem dX8_aimBehind_33 : decode cX8_aimBehind 33 = .ok (.iaload, 1) := by decide +kernel
theorem dX8_aimBehind_34 : decode cX8_aimBehind 34 = .ok (.isub, 1) := by decide +kernel
theorem dX8_aimBehind_35 : decode cX8_aimBehind 35 = .ok (.invokevirtual 92, 3) := by decide +kernel
theorem dX8_aimBehind_38 : decode cX8_aimBehind 38 = .ok (.iadd, 1) := by decide +kernel
theorem dX8_aimBehind_39 : decode cX8_aimBehind 39 = .ok (.iconst 0, 1) := by decide +kernel
theorem dX8_aimBehind_40 : decode cX8_aimBehind 40 = .ok (.bipush 40, 2) := by decide +kernel
theorem dX8_aimBehind_42 : decode cX8_aimBehind 42 = .ok (.invokestatic 96, 3) := by decide +kernel
theorem dX8_aimBehind_45 : decode cX8_aimBehind 45 = .ok (.ireturn, 1) := by decide +kernel
theorem dX8_wayOf_0 : decode cX8_wayOf 0 = .ok (.aload_n 0, 1) := by decide +kernel
theorem dX8_wayOf_1 : decode cX8_wayOf 1 = .ok (.getfield 21, 3) := by decide +kernel
theorem dX8_wayOf_4 : decode cX8_wayOf 4 = .ok (.iload_n 1, 1) := by decide +kernel
theorem dX8_wayOf_5 : decode cX8_wayOf 5 = .ok (.iaload, 1) := by decide +kernel
theorem dX8_wayOf_6 : decode cX8_wayOf 6 = .ok (.istore_n 3, 1) := by decide +kernel
theorem dX8_wayOf_7 : decode cX8_wayOf 7 = .ok (.iload_n 2, 1) := by decide +kernel
theorem dX8_wayOf_8 : decode cX8_wayOf 8 = .ok (.bipush (-2), 2) := by decide +kernel
theorem dX8_wayOf_10 : decode cX8_wayOf 10 = .ok (.iload_n 3, 1) := by decide +kernel
theorem dX8_wayOf_11 : decode cX8_wayOf 11 = .ok (.imul, 1) := by decide +kernel
theorem dX8_wayOf_12 : decode cX8_wayOf 12 = .ok (.iconst 2, 1) := by decide +kernel
theorem dX8_wayOf_13 : decode cX8_wayOf 13 = .ok (.iload_n 3, 1) := by decide +kernel
theorem dX8_wayOf_14 : decode cX8_wayOf 14 = .ok (.imul, 1) := by decide +kernel
theorem dX8_wayOf_15 : decode cX8_wayOf 15 = .ok (.invokestatic 96, 3) := by decide +kernel
theorem dX8_wayOf_18 : decode cX8_wayOf 18 = .ok (.istore 4, 2) := by decide +kernel
theorem dX8_wayOf_20 : decode cX8_wayOf 20 = .ok (.aload_n 0, 1) := by decide +kernel
theorem dX8_wayOf_21 : decode cX8_wayOf 21 = .ok (.getfield 9, 3) := by decide +kernel
theorem dX8_wayOf_24 : decode cX8_wayOf 24 = .ok (.iload_n 1, 1) := by decide +kernel
theorem dX8_wayOf_25 : decode cX8_wayOf 25 = .ok (.iaload, 1) := by decide +kernel
theorem dX8_wayOf_26 : decode cX8_wayOf 26 = .ok (.tableswitch 77 2 5 #[30, 33, 43, 53], 30) := by decide +kernel
theorem dX8_wayOf_56 : decode cX8_wayOf 56 = .ok (.iload 4, 2) := by decide +kernel
theorem dX8_wayOf_58 : decode cX8_wayOf 58 = .ok (.ireturn, 1) := by decide +kernel
theorem dX8_wayOf_59 : decode cX8_wayOf 59 = .ok (.iload 4, 2) := by decide +kernel
theorem dX8_wayOf_61 : decode cX8_wayOf 61 = .ok (.iload 4, 2) := by decide +kernel
theorem dX8_wayOf_63 : decode cX8_wayOf 63 = .ok (.iconst 0, 1) := by decide +kernel
theorem dX8_wayOf_64 : decode cX8_wayOf 64 = .ok (.invokestatic 100, 3) := by decide +kernel
theorem dX8_wayOf_67 : decode cX8_wayOf 67 = .ok (.iadd, 1) := by decide +kernel
theorem dX8_wayOf_68 : decode cX8_wayOf 68 = .ok (.ireturn, 1) := by decide +kernel
theorem dX8_wayOf_69 : decode cX8_wayOf 69 = .ok (.iload_n 2, 1) := by decide +kernel
theorem dX8_wayOf_70 : decode cX8_wayOf 70 = .ok (.iconst 2, 1) := by decide +kernel
theorem dX8_wayOf_71 : decode cX8_wayOf 71 = .ok (.idiv, 1) := by decide +kernel
theorem dX8_wayOf_72 : decode cX8_wayOf 72 = .ok (.iload_n 3, 1) := by decide +kernel
theorem dX8_wayOf_73 : decode cX8_wayOf 73 = .ok (.ineg, 1) := by decide +kernel
theorem dX8_wayOf_74 : decode cX8_wayOf 74 = .ok (.iload_n 3, 1) := by decide +kernel
theorem dX8_wayOf_75 : decode cX8_wayOf 75 = .ok (.invokestatic 96, 3) := by decide +kernel
theorem dX8_wayOf_78 : decode cX8_wayOf 78 = .ok (.ireturn, 1) := by decide +kernel
theorem dX8_wayOf_79 : decode cX8_wayOf 79 = .ok (.aload_n 0, 1) := by decide +kernel
theorem dX8_wayOf_80 : decode cX8_wayOf 80 = .ok (.getfield 52, 3) := by decide +kernel
theorem dX8_wayOf_83 : decode cX8_wayOf 83 = .ok (.iconst 4, 1) := by decide +kernel
theorem dX8_wayOf_84 : decode cX8_wayOf 84 = .ok (.irem, 1) := by decide +kernel
theorem dX8_wayOf_85 : decode cX8_wayOf 85 = .ok (.iconst 3, 1) := by decide +kernel
theorem dX8_wayOf_86 : decode cX8_wayOf 86 = .ok (.if_icmp .ne 7, 3) := by decide +kernel
theorem dX8_wayOf_89 : decode cX8_wayOf 89 = .ok (.iconst 0, 1) := by decide +kernel
theorem dX8_wayOf_90 : decode cX8_wayOf 90 = .ok (.goto 12, 3) := by decide +kernel
theorem dX8_wayOf_93 : decode cX8_wayOf 93 = .ok (.iload_n 2, 1) := by decide +kernel
theorem dX8_wayOf_94 : decode cX8_wayOf 94 = .ok (.iconst 2, 1) := by decide +kernel
theorem dX8_wayOf_95 : decode cX8_wayOf 95 = .ok (.idiv, 1) := by decide +kernel
theorem dX8_wayOf_96 : decode cX8_wayOf 96 = .ok (.iload_n 3, 1) := by decide +kernel
theorem dX8_wayOf_97 : decode cX8_wayOf 97 = .ok (.ineg, 1) := by decide +kernel
theorem dX8_wayOf_98 : decode cX8_wayOf 98 = .ok (.iload_n 3, 1) := by decide +kernel
theorem dX8_wayOf_99 : decode cX8_wayOf 99 = .ok (.invokestatic 96, 3) := by decide +kernel
theorem dX8_wayOf_102 : decode cX8_wayOf 102 = .ok (.ireturn, 1) := by decide +kernel
theorem dX8_wayOf_103 : decode cX8_wayOf 103 = .ok (.iload_n 2, 1) := by decide +kernel
theorem dX8_wayOf_104 : decode cX8_wayOf 104 = .ok (.iload_n 3, 1) := by decide +kernel
theorem dX8_wayOf_105 : decode cX8_wayOf 105 = .ok (.ineg, 1) := by decide +kernel
theorem dX8_wayOf_106 : decode cX8_wayOf 106 = .ok (.iload_n 3, 1) := by decide +kernel
theorem dX8_wayOf_107 : decode cX8_wayOf 107 = .ok (.invokestatic 96, 3) := by decide +kernel
theorem dX8_wayOf_110 : decode cX8_wayOf 110 = .ok (.ireturn, 1) := by decide +kernel
theorem dX8_sightOf_0 : decode cX8_sightOf 0 = .ok (.aload_n 0, 1) := by decide +kernel
theorem dX8_sightOf_1 : decode cX8_sightOf 1 = .ok (.getfield 15, 3) := by decide +kernel
theorem dX8_sightOf_4 : decode cX8_sightOf 4 = .ok (.iload_n 1, 1) := by decide +kernel
theorem dX8_sightOf_5 : decode cX8_sightOf 5 = .ok (.iaload, 1) := by decide +kernel
theorem dX8_sightOf_6 : decode cX8_sightOf 6 = .ok (.aload_n 0, 1) := by decide +kernel
theorem dX8_sightOf_7 : decode cX8_sightOf 7 = .ok (.getfield 18, 3) := by decide +kernel
theorem dX8_sightOf_10 : decode cX8_sightOf 10 = .ok (.iload_n 1, 1) := by decide +kernel
theorem dX8_sightOf_11 : decode cX8_sightOf 11 = .ok (.iaload, 1) := by decide +kernel
theorem dX8_sightOf_12 : decode cX8_sightOf 12 = .ok (.aload_n 0, 1) := by decide +kernel
theorem dX8_sightOf_13 : decode cX8_sightOf 13 = .ok (.aload_n 0, 1) := by decide +kernel
theorem dX8_sightOf_14 : decode cX8_sightOf 14 = .ok (.getfield 52, 3) := by decide +kernel
theorem dX8_sightOf_17 : decode cX8_sightOf 17 = .ok (.iconst 1, 1) := by decide +kernel
theorem dX8_sightOf_18 : decode cX8_sightOf 18 = .ok (.isub, 1) := by decide +kernel
theorem dX8_sightOf_19 : decode cX8_sightOf 19 = .ok (.invokevirtual 66, 3) := by decide +kernel
theorem dX8_sightOf_22 : decode cX8_sightOf 22 = .ok (.invokestatic 105, 3) := by decide +kernel
theorem dX8_sightOf_25 : decode cX8_sightOf 25 = .ok (.ireturn, 1) := by decide +kernel
theorem dX8_worthOf_0 : decode cX8_worthOf 0 = .ok (.aload_n 0, 1) := by decide +kernel
theorem dX8_worthOf_1 : decode cX8_worthOf 1 = .ok (.iload_n 1, 1) := by decide +kernel
theorem dX8_worthOf_2 : decode cX8_worthOf 2 = .ok (.invokevirtual 108, 3) := by decide +kernel
theorem dX8_worthOf_5 : decode cX8_worthOf 5 = .ok (.istore_n 2, 1) := by decide +kernel
theorem dX8_worthOf_6 : decode cX8_worthOf 6 = .ok (.iload_n 2, 1) := by decide +kernel
theorem dX8_worthOf_7 : decode cX8_worthOf 7 = .ok (.iconst 2, 1) := by decide +kernel
theorem dX8_worthOf_8 : decode cX8_worthOf 8 = .ok (.if_icmp .ne 13, 3) := by decide +kernel
theorem dX8_worthOf_11 : decode cX8_worthOf 11 = .ok (.bipush 10, 2) := by decide +kernel
theorem dX8_worthOf_13 : decode cX8_worthOf 13 = .ok (.aload_n 0, 1) := by decide +kernel
theorem dX8_worthOf_14 : decode cX8_worthOf 14 = .ok (.getfield 18, 3) := by decide +kernel
theorem dX8_worthOf_17 : decode cX8_worthOf 17 = .ok (.iload_n 1, 1) := by decide +kernel
theorem dX8_worthOf_18 : decode cX8_worthOf 18 = .ok (.iaload, 1) := by decide +kernel
theorem dX8_worthOf_19 : decode cX8_worthOf 19 = .ok (.isub, 1) := by decide +kernel
theorem dX8_worthOf_20 : decode cX8_worthOf 20 = .ok (.ireturn, 1) := by decide +kernel
theorem dX8_worthOf_21 : decode cX8_worthOf 21 = .ok (.iload_n 2, 1) := by decide +kernel
theorem dX8_worthOf_22 : decode cX8_worthOf 22 = .ok (.iconst 1, 1) := by decide +kernel
theorem dX8_worthOf_23 : decode cX8_worthOf 23 = .ok (.if_icmp .ne 7, 3) := by decide +kernel
theorem dX8_worthOf_26 : decode cX8_worthOf 26 = .ok (.iconst 1, 1) := by decide +kernel
theorem dX8_worthOf_27 : decode cX8_worthOf 27 = .ok (.goto 4, 3) := by decide +kernel
theorem dX8_worthOf_30 : decode cX8_worthOf 30 = .ok (.iconst 0, 1) := by decide +kernel
theorem dX8_worthOf_31 : decode cX8_worthOf 31 = .ok (.ireturn, 1) := by decide +kernel
theorem dX8_setOf_0 : decode cX8_setOf 0 = .ok (.iconst 0, 1) := by decide +kernel
theorem dX8_setOf_1 : decode cX8_setOf 1 = .ok (.istore_n 2, 1) := by decide +kernel
theorem dX8_setOf_2 : decode cX8_setOf 2 = .ok (.iconst 0, 1) := by decide +kernel
theorem dX8_setOf_3 : decode cX8_setOf 3 = .ok (.istore_n 3, 1) := by decide +kernel
theorem dX8_setOf_4 : decode cX8_setOf 4 = .ok (.iload_n 3, 1) := by decide +kernel
theorem dX8_setOf_5 : decode cX8_setOf 5 = .ok (.aload_n 0, 1) := by decide +kernel
theorem dX8_setOf_6 : decode cX8_setOf 6 = .ok (.getfield 46, 3) := by decide +kernel
theorem dX8_setOf_9 : decode cX8_setOf 9 = .ok (.if_icmp .ge 24, 3) := by decide +kernel
theorem dX8_setOf_12 : decode cX8_setOf 12 = .ok (.aload_n 0, 1) := by decide +kernel
theorem dX8_setOf_13 : decode cX8_setOf 13 = .ok (.iload_n 3, 1) := by decide +kernel
theorem dX8_setOf_14 : decode cX8_setOf 14 = .ok (.invokevirtual 108, 3) := by decide +kernel
theorem dX8_setOf_17 : decode cX8_setOf 17 = .ok (.iload_n 1, 1) := by decide +kernel
theorem dX8_setOf_18 : decode cX8_setOf 18 = .ok (.if_icmp .ne 9, 3) := by decide +kernel
theorem dX8_setOf_21 : decode cX8_setOf 21 = .ok (.iload_n 2, 1) := by decide +kernel
theorem dX8_setOf_22 : decode cX8_setOf 22 = .ok (.iconst 1, 1) := by decide +kernel
theorem dX8_setOf_23 : decode cX8_setOf 23 = .ok (.iload_n 3, 1) := by decide +kernel
theorem dX8_setOf_24 : decode cX8_setOf 24 = .ok (.ishl, 1) := by decide +kernel
theorem dX8_setOf_25 : decode cX8_setOf 25 = .ok (.ior, 1) := by decide +kernel
theorem dX8_setOf_26 : decode cX8_setOf 26 = .ok (.istore_n 2, 1) := by decide +kernel
theorem dX8_setOf_27 : decode cX8_setOf 27 = .ok (.iinc 3 1, 3) := by decide +kernel
theorem dX8_setOf_30 : decode cX8_setOf 30 = .ok (.goto (-26), 3) := by decide +kernel
theorem dX8_setOf_33 : decode cX8_setOf 33 = .ok (.iload_n 2, 1) := by decide +kernel
theorem dX8_setOf_34 : decode cX8_setOf 34 = .ok (.ireturn, 1) := by decide +kernel
theorem dX8_goBy_0 : decode cX8_goBy 0 = .ok (.iconst 0, 1) := by decide +kernel
theorem dX8_goBy_1 : decode cX8_goBy 1 = .ok (.istore_n 2, 1) := by decide +kernel
theorem dX8_goBy_2 : decode cX8_goBy 2 = .ok (.iload_n 2, 1) := by decide +kernel
theorem dX8_goBy_3 : decode cX8_goBy 3 = .ok (.aload_n 0, 1) := by decide +kernel
theorem dX8_goBy_4 : decode cX8_goBy 4 = .ok (.getfield 46, 3) := by decide +kernel
theorem dX8_goBy_7 : decode cX8_goBy 7 = .ok (.if_icmp .ge 25, 3) := by decide +kernel
theorem dX8_goBy_10 : decode cX8_goBy 10 = .ok (.iload_n 2, 1) := by decide +kernel
theorem dX8_goBy_11 : decode cX8_goBy 11 = .ok (.iload_n 1, 1) := by decide +kernel
theorem dX8_goBy_12 : decode cX8_goBy 12 = .ok (.if_icmp .eq 14, 3) := by decide +kernel
theorem dX8_goBy_15 : decode cX8_goBy 15 = .ok (.aload_n 0, 1) := by decide +kernel
theorem dX8_goBy_16 : decode cX8_goBy 16 = .ok (.getfield 15, 3) := by decide +kernel
theorem dX8_goBy_19 : decode cX8_goBy 19 = .ok (.iload_n 2, 1) := by decide +kernel
theorem dX8_goBy_20 : decode cX8_goBy 20 = .ok (.aload_n 0, 1) := by decide +kernel
theorem dX8_goBy_21 : decode cX8_goBy 21 = .ok (.iload_n 2, 1) := by decide +kernel
theorem dX8_goBy_22 : decode cX8_goBy 22 = .ok (.invokevirtual 111, 3) := by decide +kernel
theorem dX8_goBy_25 : decode cX8_goBy 25 = .ok (.iastore, 1) := by decide +kernel
theorem dX8_goBy_26 : decode cX8_goBy 26 = .ok (.iinc 2 1, 3) := by decide +kernel
theorem dX8_goBy_29 : decode cX8_goBy 29 = .ok (.goto (-27), 3) := by decide +kernel
theorem dX8_goBy_32 : decode cX8_goBy 32 = .ok (.aload_n 0, 1) := by decide +kernel
theorem dX8_goBy_33 : decode cX8_goBy 33 = .ok (.dup, 1) := by decide +kernel
theorem dX8_goBy_34 : decode cX8_goBy 34 = .ok (.getfield 52, 3) := by decide +kernel
theorem dX8_goBy_37 : decode cX8_goBy 37 = .ok (.iconst 1, 1) := by decide +kernel
theorem dX8_goBy_38 : decode cX8_goBy 38 = .ok (.iadd, 1) := by decide +kernel
theorem dX8_goBy_39 : decode cX8_goBy 39 = .ok (.putfield 52, 3) := by decide +kernel
theorem dX8_goBy_42 : decode cX8_goBy 42 = .ok (.iconst 0, 1) := by decide +kernel
theorem dX8_goBy_43 : decode cX8_goBy 43 = .ok (.istore_n 2, 1) := by decide +kernel
theorem dX8_goBy_44 : decode cX8_goBy 44 = .ok (.iconst 0, 1) := by decide +kernel
theorem dX8_goBy_45 : decode cX8_goBy 45 = .ok (.istore_n 3, 1) := by decide +kernel
theorem dX8_goBy_46 : decode cX8_goBy 46 = .ok (.iload_n 3, 1) := by decide +kernel
theorem dX8_goBy_47 : decode cX8_goBy 47 = .ok (.aload_n 0, 1) := by decide +kernel
theorem dX8_goBy_48 : decode cX8_goBy 48 = .ok (.getfield 46, 3) := by decide +kernel
theorem dX8_goBy_51 : decode cX8_goBy 51 = .ok (.if_icmp .ge 17, 3) := by decide +kernel
theorem dX8_goBy_54 : decode cX8_goBy 54 = .ok (.iload_n 2, 1) := by decide +kernel
theorem dX8_goBy_55 : decode cX8_goBy 55 = .ok (.aload_n 0, 1) := by decide +kernel
theorem dX8_goBy_56 : decode cX8_goBy 56 = .ok (.iload_n 3, 1) := by decide +kernel
theorem dX8_goBy_57 : decode cX8_goBy 57 = .ok (.invokevirtual 114, 3) := by decide +kernel
theorem dX8_goBy_60 : decode cX8_goBy 60 = .ok (.iadd, 1) := by decide +kernel
theorem dX8_goBy_61 : decode cX8_goBy 61 = .ok (.istore_n 2, 1) := by decide +kernel
theorem dX8_goBy_62 : decode cX8_goBy 62 = .ok (.iinc 3 1, 3) := by decide +kernel
theorem dX8_goBy_65 : decode cX8_goBy 65 = .ok (.goto (-19), 3) := by decide +kernel
theorem dX8_goBy_68 : decode cX8_goBy 68 = .ok (.aload_n 0, 1) := by decide +kernel
theorem dX8_goBy_69 : decode cX8_goBy 69 = .ok (.dup, 1) := by decide +kernel
theorem dX8_goBy_70 : decode cX8_goBy 70 = .ok (.getfield 55, 3) := by decide +kernel
theorem dX8_goBy_73 : decode cX8_goBy 73 = .ok (.iload_n 2, 1) := by decide +kernel
theorem dX8_goBy_74 : decode cX8_goBy 74 = .ok (.iadd, 1) := by decide +kernel
theorem dX8_goBy_75 : decode cX8_goBy 75 = .ok (.putfield 55, 3) := by decide +kernel
theorem dX8_goBy_78 : decode cX8_goBy 78 = .ok (.iload_n 2, 1) := by decide +kernel
theorem dX8_goBy_79 : decode cX8_goBy 79 = .ok (.ireturn, 1) := by decide +kernel
theorem dX8_goByLot_0 : decode cX8_goByLot 0 = .ok (.aload_n 0, 1) := by decide +kernel
theorem dX8_goByLot_1 : decode cX8_goByLot 1 = .ok (.aload_n 0, 1) := by decide +kernel
theorem dX8_goByLot_2 : decode cX8_goByLot 2 = .ok (.getfield 52, 3) := by decide +kernel
theorem dX8_goByLot_5 : decode cX8_goByLot 5 = .ok (.invokevirtual 117, 3) := by decide +kernel
theorem dX8_goByLot_8 : decode cX8_goByLot 8 = .ok (.ifCond .ne 6, 3) := by decide +kernel
theorem dX8_goByLot_11 : decode cX8_goByLot 11 = .ok (.bipush (-4), 2) := by decide +kernel
theorem dX8_goByLot_13 : decode cX8_goByLot 13 = .ok (.ireturn, 1) := by decide +kernel
theorem dX8_goByLot_14 : decode cX8_goByLot 14 = .ok (.aload_n 0, 1) := by decide +kernel
theorem dX8_goByLot_15 : decode cX8_goByLot 15 = .ok (.aload_n 0, 1) := by decide +kernel
theorem dX8_goByLot_16 : decode cX8_goByLot 16 = .ok (.getfield 32, 3) := by decide +kernel
theorem dX8_goByLot_19 : decode cX8_goByLot 19 = .ok (.ldc 120, 2) := by decide +kernel
theorem dX8_goByLot_21 : decode cX8_goByLot 21 = .ok (.imul, 1) := by decide +kernel
theorem dX8_goByLot_22 : decode cX8_goByLot 22 = .ok (.sipush 12345, 3) := by decide +kernel
theorem dX8_goByLot_25 : decode cX8_goByLot 25 = .ok (.iadd, 1) := by decide +kernel
theorem dX8_goByLot_26 : decode cX8_goByLot 26 = .ok (.putfield 32, 3) := by decide +kernel
theorem dX8_goByLot_29 : decode cX8_goByLot 29 = .ok (.aload_n 0, 1) := by decide +kernel
theorem dX8_goByLot_30 : decode cX8_goByLot 30 = .ok (.getfield 24, 3) := by decide +kernel
theorem dX8_goByLot_33 : decode cX8_goByLot 33 = .ok (.aload_n 0, 1) := by decide +kernel
theorem dX8_goByLot_34 : decode cX8_goByLot 34 = .ok (.getfield 52, 3) := by decide +kernel
theorem dX8_goByLot_37 : decode cX8_goByLot 37 = .ok (.aload_n 0, 1) := by decide +kernel
theorem dX8_goByLot_38 : decode cX8_goByLot 38 = .ok (.getfield 24, 3) := by decide +kernel
theorem dX8_goByLot_41 : decode cX8_goByLot 41 = .ok (.aload_n 0, 1) := by decide +kernel
theorem dX8_goByLot_42 : decode cX8_goByLot 42 = .ok (.getfield 52, 3) := by decide +kernel
theorem dX8_goByLot_45 : decode cX8_goByLot 45 = .ok (.iaload, 1) := by decide +kernel
theorem dX8_goByLot_46 : decode cX8_goByLot 46 = .ok (.aload_n 0, 1) := by decide +kernel
theorem dX8_goByLot_47 : decode cX8_goByLot 47 = .ok (.getfield 32, 3) := by decide +kernel
theorem dX8_goByLot_50 : decode cX8_goByLot 50 = .ok (.bipush 16, 2) := by decide +kernel
theorem dX8_goByLot_52 : decode cX8_goByLot 52 = .ok (.iushr, 1) := by decide +kernel
theorem dX8_goByLot_53 : decode cX8_goByLot 53 = .ok (.iconst 5, 1) := by decide +kernel
theorem dX8_goByLot_54 : decode cX8_goByLot 54 = .ok (.irem, 1) := by decide +kernel
theorem dX8_goByLot_55 : decode cX8_goByLot 55 = .ok (.iadd, 1) := by decide +kernel
theorem dX8_goByLot_56 : decode cX8_goByLot 56 = .ok (.iconst 2, 1) := by decide +kernel
theorem dX8_goByLot_57 : decode cX8_goByLot 57 = .ok (.isub, 1) := by decide +kernel
theorem dX8_goByLot_58 : decode cX8_goByLot 58 = .ok (.iconst 0, 1) := by decide +kernel
theorem dX8_goByLot_59 : decode cX8_goByLot 59 = .ok (.bipush 40, 2) := by decide +kernel
theorem dX8_goByLot_61 : decode cX8_goByLot 61 = .ok (.invokestatic 96, 3) := by decide +kernel
theorem dX8_goByLot_64 : decode cX8_goByLot 64 = .ok (.iastore, 1) := by decide +kernel
theorem dX8_goByLot_65 : decode cX8_goByLot 65 = .ok (.aload_n 0, 1) := by decide +kernel
theorem dX8_goByLot_66 : decode cX8_goByLot 66 = .ok (.iconst (-1), 1) := by decide +kernel
theorem dX8_goByLot_67 : decode cX8_goByLot 67 = .ok (.invokevirtual 121, 3) := by decide +kernel
theorem dX8_goByLot_70 : decode cX8_goByLot 70 = .ok (.ireturn, 1) := by decide +kernel
theorem dX8_held_0 : decode cX8_held 0 = .ok (.iload_n 1, 1) := by decide +kernel
theorem dX8_held_1 : decode cX8_held 1 = .ok (.iload_n 2, 1) := by decide +kernel
theorem dX8_held_2 : decode cX8_held 2 = .ok (.iload_n 0, 1) := by decide +kernel
theorem dX8_held_3 : decode cX8_held 3 = .ok (.invokestatic 124, 3) := by decide +kernel
theorem dX8_held_6 : decode cX8_held 6 = .ok (.invokestatic 129, 3) := by decide +kernel
theorem dX8_held_9 : decode cX8_held 9 = .ok (.ireturn, 1) := by decide +kernel
theorem dX8_sightFor_0 : decode cX8_sightFor 0 = .ok (.iload_n 2, 1) := by decide +kernel
theorem dX8_sightFor_1 : decode cX8_sightFor 1 = .ok (.iload_n 0, 1) := by decide +kernel
theorem dX8_sightFor_2 : decode cX8_sightFor 2 = .ok (.isub, 1) := by decide +kernel
theorem dX8_sightFor_3 : decode cX8_sightFor 3 = .ok (.invokestatic 132, 3) := by decide +kernel
theorem dX8_sightFor_6 : decode cX8_sightFor 6 = .ok (.iload_n 1, 1) := by decide +kernel
theorem dX8_sightFor_7 : decode cX8_sightFor 7 = .ok (.isub, 1) := by decide +kernel
theorem dX8_sightFor_8 : decode cX8_sightFor 8 = .ok (.istore_n 3, 1) := by decide +kernel
theorem dX8_sightFor_9 : decode cX8_sightFor 9 = .ok (.iload_n 3, 1) := by decide +kernel
theorem dX8_sightFor_10 : decode cX8_sightFor 10 = .ok (.ifCond .gt 5, 3) := by decide +kernel
theorem dX8_sightFor_13 : decode cX8_sightFor 13 = .ok (.iconst 2, 1) := by decide +kernel
theorem dX8_sightFor_14 : decode cX8_sightFor 14 = .ok (.ireturn, 1) := by decide +kernel
theorem dX8_sightFor_15 : decode cX8_sightFor 15 = .ok (.iload_n 3, 1) := by decide +kernel
theorem dX8_sightFor_16 : decode cX8_sightFor 16 = .ok (.iconst 1, 1) := by decide +kernel
theorem dX8_sightFor_17 : decode cX8_sightFor 17 = .ok (.if_icmp .ne 7, 3) := by decide +kernel
theorem dX8_sightFor_20 : decode cX8_sightFor 20 = .ok (.iconst 1, 1) := by decide +kernel
theorem dX8_sightFor_21 : decode cX8_sightFor 21 = .ok (.goto 4, 3) := by decide +kernel
theorem dX8_sightFor_24 : decode cX8_sightFor 24 = .ok (.iconst 0, 1) := by decide +kernel
theorem dX8_sightFor_25 : decode cX8_sightFor 25 = .ok (.ireturn, 1) := by decide +kernel
theorem dX8_isUnder_0 : decode cX8_isUnder 0 = .ok (.iload_n 0, 1) := by decide +kernel
theorem dX8_isUnder_1 : decode cX8_isUnder 1 = .ok (.istore_n 2, 1) := by decide +kernel
theorem dX8_isUnder_2 : decode cX8_isUnder 2 = .ok (.iconst 0, 1) := by decide +kernel
theorem dX8_isUnder_3 : decode cX8_isUnder 3 = .ok (.istore_n 3, 1) := by decide +kernel
theorem dX8_isUnder_4 : decode cX8_isUnder 4 = .ok (.iload_n 3, 1) := by decide +kernel
theorem dX8_isUnder_5 : decode cX8_isUnder 5 = .ok (.iconst 5, 1) := by decide +kernel
theorem dX8_isUnder_6 : decode cX8_isUnder 6 = .ok (.if_icmp .gt 31, 3) := by decide +kernel
theorem dX8_isUnder_9 : decode cX8_isUnder 9 = .ok (.iload_n 2, 1) := by decide +kernel
theorem dX8_isUnder_10 : decode cX8_isUnder 10 = .ok (.ifCond .lt 27, 3) := by decide +kernel
theorem dX8_isUnder_13 : decode cX8_isUnder 13 = .ok (.iload_n 2, 1) := by decide +kernel
theorem dX8_isUnder_14 : decode cX8_isUnder 14 = .ok (.iconst 5, 1) := by decide +kernel
theorem dX8_isUnder_15 : decode cX8_isUnder 15 = .ok (.if_icmp .gt 22, 3) := by decide +kernel
theorem dX8_isUnder_18 : decode cX8_isUnder 18 = .ok (.iload_n 2, 1) := by decide +kernel
theorem dX8_isUnder_19 : decode cX8_isUnder 19 = .ok (.iload_n 1, 1) := by decide +kernel
theorem dX8_isUnder_20 : decode cX8_isUnder 20 = .ok (.if_icmp .ne 5, 3) := by decide +kernel
theorem dX8_isUnder_23 : decode cX8_isUnder 23 = .ok (.iconst 1, 1) := by decide +kernel
theorem dX8_isUnder_24 : decode cX8_isUnder 24 = .ok (.ireturn, 1) := by decide +kernel
theorem dX8_isUnder_25 : decode cX8_isUnder 25 = .ok (.getstatic 135, 3) := by decide +kernel
theorem dX8_isUnder_28 : decode cX8_isUnder 28 = .ok (.iload_n 2, 1) := by decide +kernel
theorem dX8_isUnder_29 : decode cX8_isUnder 29 = .ok (.iaload, 1) := by decide +kernel
theorem dX8_isUnder_30 : decode cX8_isUnder 30 = .ok (.istore_n 2, 1) := by decide +kernel
theorem dX8_isUnder_31 : decode cX8_isUnder 31 = .ok (.iinc 3 1, 3) := by decide +kernel
theorem dX8_isUnder_34 : decode cX8_isUnder 34 = .ok (.goto (-30), 3) := by decide +kernel
theorem dX8_isUnder_37 : decode cX8_isUnder 37 = .ok (.iconst 0, 1) := by decide +kernel
theorem dX8_isUnder_38 : decode cX8_isUnder 38 = .ok (.ireturn, 1) := by decide +kernel
theorem dX9_init_0 : decode cX9_init 0 = .ok (.aload_n 0, 1) := by decide +kernel
theorem dX9_init_1 : decode cX9_init 1 = .ok (.invokespecial 3, 3) := by decide +kernel
theorem dX9_init_4 : decode cX9_init 4 = .ok (.aload_n 0, 1) := by decide +kernel
theorem dX9_init_5 : decode cX9_init 5 = .ok (.bipush 30, 2) := by decide +kernel
theorem dX9_init_7 : decode cX9_init 7 = .ok (.newarray .int, 2) := by decide +kernel
theorem dX9_init_9 : decode cX9_init 9 = .ok (.putfield 9, 3) := by decide +kernel
theorem dX9_init_12 : decode cX9_init 12 = .ok (.return_, 1) := by decide +kernel
theorem dX9_become_0 : decode cX9_become 0 = .ok (.aload_n 0, 1) := by decide +kernel
theorem dX9_become_1 : decode cX9_become 1 = .ok (.iload_n 1, 1) := by decide +kernel
theorem dX9_become_2 : decode cX9_become 2 = .ok (.putfield 15, 3) := by decide +kernel
theorem dX9_become_5 : decode cX9_become 5 = .ok (.aload_n 0, 1) := by decide +kernel
theorem dX9_become_6 : decode cX9_become 6 = .ok (.iload_n 2, 1) := by decide +kernel
theorem dX9_become_7 : decode cX9_become 7 = .ok (.putfield 19, 3) := by decide +kernel
theorem dX9_become_10 : decode cX9_become 10 = .ok (.aload_n 0, 1) := by decide +kernel
theorem dX9_become_11 : decode cX9_become 11 = .ok (.iload_n 3, 1) := by decide +kernel
theorem dX9_become_12 : decode cX9_become 12 = .ok (.putfield 22, 3) := by decide +kernel
theorem dX9_become_15 : decode cX9_become 15 = .ok (.aload_n 0, 1) := by decide +kernel
theorem dX9_become_16 : decode cX9_become 16 = .ok (.iconst 0, 1) := by decide +kernel
theorem dX9_become_17 : decode cX9_become 17 = .ok (.putfield 25, 3) := by decide +kernel
theorem dX9_become_20 : decode cX9_become 20 = .ok (.return_, 1) := by decide +kernel
theorem dX9_answer_0 : decode cX9_answer 0 = .ok (.iload_n 1, 1) := by decide +kernel
theorem dX9_answer_1 : decode cX9_answer 1 = .ok (.tableswitch 54 0 2 #[27, 36, 45], 27) := by decide +kernel
theorem dX9_answer_28 : decode cX9_answer 28 = .ok (.aload_n 0, 1) := by decide +kernel
theorem dX9_answer_29 : decode cX9_answer 29 = .ok (.iload_n 2, 1) := by decide +kernel
theorem dX9_answer_30 : decode cX9_answer 30 = .ok (.invokevirtual 29, 3) := by decide +kernel
theorem dX9_answer_33 : decode cX9_answer 33 = .ok (.istore_n 3, 1) := by decide +kernel
theorem dX9_answer_34 : decode cX9_answer 34 = .ok (.goto 27, 3) := by decide +kernel
theorem dX9_answer_37 : decode cX9_answer 37 = .ok (.aload_n 0, 1) := by decide +kernel
theorem dX9_answer_38 : decode cX9_answer 38 = .ok (.iload_n 2, 1) := by decide +kernel
theorem dX9_answer_39 : decode cX9_answer 39 = .ok (.invokevirtual 33, 3) := by decide +kernel
theorem dX9_answer_42 : decode cX9_answer 42 = .ok (.istore_n 3, 1) := by decide +kernel
theorem dX9_answer_43 : decode cX9_answer 43 = .ok (.goto 18, 3) := by decide +kernel
theorem dX9_answer_46 : decode cX9_answer 46 = .ok (.aload_n 0, 1) := by decide +kernel
theorem dX9_answer_47 : decode cX9_answer 47 = .ok (.iload_n 2, 1) := by decide +kernel
theorem dX9_answer_48 : decode cX9_answer 48 = .ok (.invokevirtual 36, 3) := by decide +kernel
theorem dX9_answer_51 : decode cX9_answer 51 = .ok (.istore_n 3, 1) := by decide +kernel
theorem dX9_answer_52 : decode cX9_answer 52 = .ok (.goto 9, 3) := by decide +kernel
theorem dX9_answer_55 : decode cX9_answer 55 = .ok (.aload_n 0, 1) := by decide +kernel
theorem dX9_answer_56 : decode cX9_answer 56 = .ok (.iload_n 2, 1) := by decide +kernel
theorem dX9_answer_57 : decode cX9_answer 57 = .ok (.invokevirtual 39, 3) := by decide +kernel
theorem dX9_answer_60 : decode cX9_answer 60 = .ok (.istore_n 3, 1) := by decide +kernel
theorem dX9_answer_61 : decode cX9_answer 61 = .ok (.aload_n 0, 1) := by decide +kernel
theorem dX9_answer_62 : decode cX9_answer 62 = .ok (.getfield 25, 3) := by decide +kernel
theorem dX9_answer_65 : decode cX9_answer 65 = .ok (.ifCond .eq 8, 3) := by decide +kernel
theorem dX9_answer_68 : decode cX9_answer 68 = .ok (.bipush (-15), 2) := by decide +kernel
theorem dX9_answer_70 : decode cX9_answer 70 = .ok (.goto 4, 3) := by decide +kernel
theorem dX9_answer_73 : decode cX9_answer 73 = .ok (.iload_n 3, 1) := by decide +kernel
theorem dX9_answer_74 : decode cX9_answer 74 = .ok (.ireturn, 1) := by decide +kernel
theorem dX9_begin_0 : decode cX9_begin 0 = .ok (.aload_n 0, 1) := by decide +kernel
theorem dX9_begin_1 : decode cX9_begin 1 = .ok (.getfield 42, 3) := by decide +kernel
theorem dX9_begin_4 : decode cX9_begin 4 = .ok (.bipush 30, 2) := by decide +kernel
theorem dX9_begin_6 : decode cX9_begin 6 = .ok (.if_icmp .ge 23, 3) := by decide +kernel
theorem dX9_begin_9 : decode cX9_begin 9 = .ok (.aload_n 0, 1) := by decide +kernel
theorem dX9_begin_10 : decode cX9_begin 10 = .ok (.getfield 9, 3) := by decide +kernel
theorem dX9_begin_13 : decode cX9_begin 13 = .ok (.aload_n 0, 1) := by decide +kernel
theorem dX9_begin_14 : decode cX9_begin 14 = .ok (.getfield 42, 3) := by decide +kernel
theorem dX9_begin_17 : decode cX9_begin 17 = .ok (.iload_n 1, 1) := by decide +kernel
theorem dX9_begin_18 : decode cX9_begin 18 = .ok (.iastore, 1) := by decide +kernel
theorem dX9_begin_19 : decode cX9_begin 19 = .ok (.aload_n 0, 1) := by decide +kernel
theorem dX9_begin_20 : decode cX9_begin 20 = .ok (.dup, 1) := by decide +kernel
theorem dX9_begin_21 : decode cX9_begin 21 = .ok (.getfield 42, 3) := by decide +kernel
theorem dX9_begin_24 : decode cX9_begin 24 = .ok (.iconst 1, 1) := by decide +kernel
theorem dX9_begin_25 : decode cX9_begin 25 = .ok (.iadd, 1) := by decide +kernel
theorem dX9_begin_26 : decode cX9_begin 26 = .ok (.putfield 42, 3) := by decide +kernel
theorem dX9_begin_29 : decode cX9_begin 29 = .ok (.return_, 1) := by decide +kernel
theorem dX9_aims_0 : decode cX9_aims 0 = .ok (.aload_n 0, 1) := by decide +kernel
theorem dX9_aims_1 : decode cX9_aims 1 = .ok (.getfield 15, 3) := by decide +kernel
theorem dX9_aims_4 : decode cX9_aims 4 = .ok (.iconst 1, 1) := by decide +kernel
theorem dX9_aims_5 : decode cX9_aims 5 = .ok (.if_icmp .ne 9, 3) := by decide +kernel
theorem dX9_aims_8 : decode cX9_aims 8 = .ok (.aload_n 0, 1) := by decide +kernel
theorem dX9_aims_9 : decode cX9_aims 9 = .ok (.bipush 20, 2) := by decide +kernel
theorem dX9_aims_11 : decode cX9_aims 11 = .ok (.invokevirtual 45, 3) := by decide +kernel
theorem dX9_aims_14 : decode cX9_aims 14 = .ok (.aload_n 0, 1) := by decide +kernel
theorem dX9_aims_15 : decode cX9_aims 15 = .ok (.getfield 15, 3) := by decide +kernel
theorem dX9_aims_18 : decode cX9_aims 18 = .ok (.iconst 3, 1) := by decide +kernel
theorem dX9_aims_19 : decode cX9_aims 19 = .ok (.if_icmp .ne 9, 3) := by decide +kernel
theorem dX9_aims_22 : decode cX9_aims 22 = .ok (.aload_n 0, 1) := by decide +kernel
theorem dX9_aims_23 : decode cX9_aims 23 = .ok (.bipush 50, 2) := by decide +kernel
theorem dX9_aims_25 : decode cX9_aims 25 = .ok (.invokevirtual 45, 3) := by decide +kernel
theorem dX9_aims_28 : decode cX9_aims 28 = .ok (.aload_n 0, 1) := by decide +kernel
theorem dX9_aims_29 : decode cX9_aims 29 = .ok (.bipush 10, 2) := by decide +kernel
theorem dX9_aims_31 : decode cX9_aims 31 = .ok (.invokevirtual 45, 3) := by decide +kernel
theorem dX9_aims_34 : decode cX9_aims 34 = .ok (.iload_n 1, 1) := by decide +kernel
theorem dX9_aims_35 : decode cX9_aims 35 = .ok (.aload_n 0, 1) := by decide +kernel
theorem dX9_aims_36 : decode cX9_aims 36 = .ok (.getfield 22, 3) := by decide +kernel
theorem dX9_aims_39 : decode cX9_aims 39 = .ok (.iadd, 1) := by decide +kernel
theorem dX9_aims_40 : decode cX9_aims 40 = .ok (.istore_n 2, 1) := by decide +kernel
theorem dX9_aims_41 : decode cX9_aims 41 = .ok (.aload_n 0, 1) := by decide +kernel
theorem dX9_aims_42 : decode cX9_aims 42 = .ok (.getfield 15, 3) := by decide +kernel
theorem dX9_aims_45 : decode cX9_aims 45 = .ok (.iconst 1, 1) := by decide +kernel
theorem dX9_aims_46 : decode cX9_aims 46 = .ok (.if_icmp .ne 7, 3) := by decide +kernel
theorem dX9_aims_49 : decode cX9_aims 49 = .ok (.iload_n 2, 1) := by decide +kernel
theorem dX9_aims_50 : decode cX9_aims 50 = .ok (.iconst 2, 1) := by decide +kernel
theorem dX9_aims_51 : decode cX9_aims 51 = .ok (.imul, 1) := by decide +kernel
theorem dX9_aims_52 : decode cX9_aims 52 = .ok (.ireturn, 1) := by decide +kernel
theorem dX9_aims_53 : decode cX9_aims 53 = .ok (.aload_n 0, 1) := by decide +kernel
theorem dX9_aims_54 : decode cX9_aims 54 = .ok (.getfield 15, 3) := by decide +kernel
theorem dX9_aims_57 : decode cX9_aims 57 = .ok (.iconst 3, 1) := by decide +kernel
theorem dX9_aims_58 : decode cX9_aims 58 = .ok (.if_icmp .ne 9, 3) := by decide +kernel
theorem dX9_aims_61 : decode cX9_aims 61 = .ok (.iload_n 2, 1) := by decide +kernel
theorem dX9_aims_62 : decode cX9_aims 62 = .ok (.iconst 1, 1) := by decide +kernel
theorem dX9_aims_63 : decode cX9_aims 63 = .ok (.isub, 1) := by decide +kernel
theorem dX9_aims_64 : decode cX9_aims 64 = .ok (.goto 4, 3) := by decide +kernel
theorem dX9_aims_67 : decode cX9_aims 67 = .ok (.iload_n 2, 1) := by decide +kernel
theorem dX9_aims_68 : decode cX9_aims 68 = .ok (.ireturn, 1) := by decide +kernel
theorem dX9_swings_0 : decode cX9_swings 0 = .ok (.aload_n 0, 1) := by decide +kernel
theorem dX9_swings_1 : decode cX9_swings 1 = .ok (.getfield 15, 3) := by decide +kernel
theorem dX9_swings_4 : decode cX9_swings 4 = .ok (.iconst 2, 1) := by decide +kernel
theorem dX9_swings_5 : decode cX9_swings 5 = .ok (.if_icmp .eq 11, 3) := by decide +kernel
theorem dX9_swings_8 : decode cX9_swings 8 = .ok (.aload_n 0, 1) := by decide +kernel
theorem dX9_swings_9 : decode cX9_swings 9 = .ok (.getfield 15, 3) := by decide +kernel
theorem dX9_swings_12 : decode cX9_swings 12 = .ok (.iconst 3, 1) := by decide +kernel
theorem dX9_swings_13 : decode cX9_swings 13 = .ok (.if_icmp .ne 7, 3) := by decide +kernel
theorem dX9_swings_16 : decode cX9_swings 16 = .ok (.iconst 1, 1) := by decide +kernel
theorem dX9_swings_17 : decode cX9_swings 17 = .ok (.goto 4, 3) := by decide +kernel
theorem dX9_swings_20 : decode cX9_swings 20 = .ok (.iconst 0, 1) := by decide +kernel
theorem dX9_swings_21 : decode cX9_swings 21 = .ok (.istore_n 2, 1) := by decide +kernel
theorem dX9_swings_22 : decode cX9_swings 22 = .ok (.iload_n 2, 1) := by decide +kernel
theorem dX9_swings_23 : decode cX9_swings 23 = .ok (.ifCond .eq 9, 3) := by decide +kernel
theorem dX9_swings_26 : decode cX9_swings 26 = .ok (.aload_n 0, 1) := by decide +kernel
theorem dX9_swings_27 : decode cX9_swings 27 = .ok (.bipush 30, 2) := by decide +kernel
theorem dX9_swings_29 : decode cX9_swings 29 = .ok (.invokevirtual 45, 3) := by decide +kernel
theorem dX9_swings_32 : decode cX9_swings 32 = .ok (.aload_n 0, 1) := by decide +kernel
theorem dX9_swings_33 : decode cX9_swings 33 = .ok (.getfield 15, 3) := by decide +kernel
theorem dX9_swings_36 : decode cX9_swings 36 = .ok (.iconst 5, 1) := by decide +kernel
theorem dX9_swings_37 : decode cX9_swings 37 = .ok (.if_icmp .ne 9, 3) := by decide +kernel
theorem dX9_swings_40 : decode cX9_swings 40 = .ok (.aload_n 0, 1) := by decide +kernel
theorem dX9_swings_41 : decode cX9_swings 41 = .ok (.bipush 60, 2) := by decide +kernel
theorem dX9_swings_43 : decode cX9_swings 43 = .ok (.invokevirtual 45, 3) := by decide +kernel
theorem dX9_swings_46 : decode cX9_swings 46 = .ok (.aload_n 0, 1) := by decide +kernel
theorem dX9_swings_47 : decode cX9_swings 47 = .ok (.bipush 11, 2) := by decide +kernel
theorem dX9_swings_49 : decode cX9_swings 49 = .ok (.invokevirtual 45, 3) := by decide +kernel
theorem dX9_swings_52 : decode cX9_swings 52 = .ok (.aload_n 0, 1) := by decide +kernel
theorem dX9_swings_53 : decode cX9_swings 53 = .ok (.iload_n 1, 1) := by decide +kernel
theorem dX9_swings_54 : decode cX9_swings 54 = .ok (.invokevirtual 29, 3) := by decide +kernel
theorem dX9_swings_57 : decode cX9_swings 57 = .ok (.aload_n 0, 1) := by decide +kernel
theorem dX9_swings_58 : decode cX9_swings 58 = .ok (.getfield 19, 3) := by decide +kernel
theorem dX9_swings_61 : decode cX9_swings 61 = .ok (.isub, 1) := by decide +kernel
theorem dX9_swings_62 : decode cX9_swings 62 = .ok (.istore_n 3, 1) := by decide +kernel
theorem dX9_swings_63 : decode cX9_swings 63 = .ok (.iload_n 2, 1) := by decide +kernel
theorem dX9_swings_64 : decode cX9_swings 64 = .ok (.ifCond .eq 10, 3) := by decide +kernel
theorem dX9_swings_67 : decode cX9_swings 67 = .ok (.iload_n 3, 1) := by decide +kernel
theorem dX9_swings_68 : decode cX9_swings 68 = .ok (.aload_n 0, 1) := by decide +kernel
theorem dX9_swings_69 : decode cX9_swings 69 = .ok (.getfield 19, 3) := by decide +kernel
theorem dX9_swings_72 : decode cX9_swings 72 = .ok (.ixor, 1) := by decide +kernel
theorem dX9_swings_73 : decode cX9_swings 73 = .ok (.ireturn, 1) := by decide +kernel
theorem dX9_swings_74 : decode cX9_swings 74 = .ok (.aload_n 0, 1) := by decide +kernel
theorem dX9_swings_75 : decode cX9_swings 75 = .ok (.getfield 15, 3) := by decide +kernel
theorem dX9_swings_78 : decode cX9_swings 78 = .ok (.iconst 5, 1) := by decide +kernel
theorem dX9_swings_79 : decode cX9_swings 79 = .ok (.if_icmp .ne 9, 3) := by decide +kernel
theorem dX9_swings_82 : decode cX9_swings 82 = .ok (.iconst 0, 1) := by decide +kernel
theorem dX9_swings_83 : decode cX9_swings 83 = .ok (.iload_n 3, 1) := by decide +kernel
theorem dX9_swings_84 : decode cX9_swings 84 = .ok (.isub, 1) := by decide +kernel
theorem dX9_swings_85 : decode cX9_swings 85 = .ok (.goto 4, 3) := by decide +kernel
theorem dX9_swings_88 : decode cX9_swings 88 = .ok (.iload_n 3, 1) := by decide +kernel
theorem dX9_swings_89 : decode cX9_swings 89 = .ok (.ireturn, 1) := by decide +kernel
theorem dX9_dims_0 : decode cX9_dims 0 = .ok (.aload_n 0, 1) := by decide +kernel
theorem dX9_dims_1 : decode cX9_dims 1 = .ok (.getfield 15, 3) := by decide +kernel
theorem dX9_dims_4 : decode cX9_dims 4 = .ok (.iconst 4, 1) := by decide +kernel
theorem dX9_dims_5 : decode cX9_dims 5 = .ok (.if_icmp .eq 11, 3) := by decide +kernel
theorem dX9_dims_8 : decode cX9_dims 8 = .ok (.aload_n 0, 1) := by decide +kernel
theorem dX9_dims_9 : decode cX9_dims 9 = .ok (.getfield 15, 3) := by decide +kernel
theorem dX9_dims_12 : decode cX9_dims 12 = .ok (.iconst 5, 1) := by decide +kernel
theorem dX9_dims_13 : decode cX9_dims 13 = .ok (.if_icmp .ne 7, 3) := by decide +kernel
theorem dX9_dims_16 : decode cX9_dims 16 = .ok (.iconst 1, 1) := by decide +kernel
theorem dX9_dims_17 : decode cX9_dims 17 = .ok (.goto 4, 3) := by decide +kernel
theorem dX9_dims_20 : decode cX9_dims 20 = .ok (.iconst 0, 1) := by decide +kernel
theorem dX9_dims_21 : decode cX9_dims 21 = .ok (.istore_n 2, 1) := by decide +kernel
theorem dX9_dims_22 : decode cX9_dims 22 = .ok (.aload_n 0, 1) := by decide +kernel
theorem dX9_dims_23 : decode cX9_dims 23 = .ok (.getfield 15, 3) := by decide +kernel
theorem dX9_dims_26 : decode cX9_dims 26 = .ok (.iconst 5, 1) := by decide +kernel
theorem dX9_dims_27 : decode cX9_dims 27 = .ok (.if_icmp .ne 9, 3) := by decide +kernel
theorem dX9_dims_30 : decode cX9_dims 30 = .ok (.aload_n 0, 1) := by decide +kernel
theorem dX9_dims_31 : decode cX9_dims 31 = .ok (.bipush 61, 2) := by decide +kernel
theorem dX9_dims_33 : decode cX9_dims 33 = .ok (.invokevirtual 45, 3) := by decide +kernel
theorem dX9_dims_36 : decode cX9_dims 36 = .ok (.iload_n 2, 1) := by decide +kernel
theorem dX9_dims_37 : decode cX9_dims 37 = .ok (.ifCond .eq 9, 3) := by decide +kernel
theorem dX9_dims_40 : decode cX9_dims 40 = .ok (.aload_n 0, 1) := by decide +kernel
theorem dX9_dims_41 : decode cX9_dims 41 = .ok (.bipush 40, 2) := by decide +kernel
theorem dX9_dims_43 : decode cX9_dims 43 = .ok (.invokevirtual 45, 3) := by decide +kernel
theorem dX9_dims_46 : decode cX9_dims 46 = .ok (.aload_n 0, 1) := by decide +kernel
theorem dX9_dims_47 : decode cX9_dims 47 = .ok (.bipush 12, 2) := by decide +kernel
theorem dX9_dims_49 : decode cX9_dims 49 = .ok (.invokevirtual 45, 3) := by decide +kernel
theorem dX9_dims_52 : decode cX9_dims 52 = .ok (.aload_n 0, 1) := by decide +kernel
theorem dX9_dims_53 : decode cX9_dims 53 = .ok (.getfield 22, 3) := by decide +kernel
theorem dX9_dims_56 : decode cX9_dims 56 = .ok (.aload_n 0, 1) := by decide +kernel
theorem dX9_dims_57 : decode cX9_dims 57 = .ok (.getfield 19, 3) := by decide +kernel
theorem dX9_dims_60 : decode cX9_dims 60 = .ok (.if_icmp .ne 10, 3) := by decide +kernel
theorem dX9_dims_63 : decode cX9_dims 63 = .ok (.aload_n 0, 1) := by decide +kernel
theorem dX9_dims_64 : decode cX9_dims 64 = .ok (.iconst 1, 1) := by decide +kernel
theorem dX9_dims_65 : decode cX9_dims 65 = .ok (.putfield 25, 3) := by decide +kernel
theorem dX9_dims_68 : decode cX9_dims 68 = .ok (.iconst 0, 1) := by decide +kernel
theorem dX9_dims_69 : decode cX9_dims 69 = .ok (.ireturn, 1) := by decide +kernel
theorem dX9_dims_70 : decode cX9_dims 70 = .ok (.iload_n 2, 1) := by decide +kernel
theorem dX9_dims_71 : decode cX9_dims 71 = .ok (.ifCond .eq 9, 3) := by decide +kernel
theorem dX9_dims_74 : decode cX9_dims 74 = .ok (.iload_n 1, 1) := by decide +kernel
theorem dX9_dims_75 : decode cX9_dims 75 = .ok (.iconst 3, 1) := by decide +kernel
theorem dX9_dims_76 : decode cX9_dims 76 = .ok (.isub, 1) := by decide +kernel
theorem dX9_dims_77 : decode cX9_dims 77 = .ok (.goto 4, 3) := by decide +kernel
theorem dX9_dims_80 : decode cX9_dims 80 = .ok (.iload_n 1, 1) := by decide +kernel
theorem dX9_dims_81 : decode cX9_dims 81 = .ok (.aload_n 0, 1) := by decide +kernel
theorem dX9_dims_82 : decode cX9_dims 82 = .ok (.getfield 22, 3) := by decide +kernel
theorem dX9_dims_85 : decode cX9_dims 85 = .ok (.aload_n 0, 1) := by decide +kernel
theorem dX9_dims_86 : decode cX9_dims 86 = .ok (.getfield 19, 3) := by decide +kernel
theorem dX9_dims_89 : decode cX9_dims 89 = .ok (.isub, 1) := by decide +kernel
theorem dX9_dims_90 : decode cX9_dims 90 = .ok (.idiv, 1) := by decide +kernel
theorem dX9_dims_91 : decode cX9_dims 91 = .ok (.istore_n 3, 1) := by decide +kernel
theorem dX9_dims_92 : decode cX9_dims 92 = .ok (.aload_n 0, 1) := by decide +kernel
theorem dX9_dims_93 : decode cX9_dims 93 = .ok (.getfield 15, 3) := by decide +kernel
theorem dX9_dims_96 : decode cX9_dims 96 = .ok (.iconst 5, 1) := by decide +kernel
theorem dX9_dims_97 : decode cX9_dims 97 = .ok (.if_icmp .ne 16, 3) := by decide +kernel
theorem dX9_dims_100 : decode cX9_dims 100 = .ok (.iload_n 3, 1) := by decide +kernel
theorem dX9_dims_101 : decode cX9_dims 101 = .ok (.aload_n 0, 1) := by decide +kernel
theorem dX9_dims_102 : decode cX9_dims 102 = .ok (.aload_n 0, 1) := by decide +kernel
theorem dX9_dims_103 : decode cX9_dims 103 = .ok (.getfield 19, 3) := by decide +kernel
theorem dX9_dims_106 : decode cX9_dims 106 = .ok (.invokevirtual 29, 3) := by decide +kernel
theorem dX9_dims_109 : decode cX9_dims 109 = .ok (.isub, 1) := by decide +kernel
theorem dX9_dims_110 : decode cX9_dims 110 = .ok (.goto 4, 3) := by decide +kernel
theorem dX9_dims_113 : decode cX9_dims 113 = .ok (.iload_n 3, 1) := by decide +kernel
theorem dX9_dims_114 : decode cX9_dims 114 = .ok (.ireturn, 1) := by decide +kernel
theorem dX9_follows_0 : decode cX9_follows 0 = .ok (.aload_n 0, 1) := by decide +kernel
theorem dX9_follows_1 : decode cX9_follows 1 = .ok (.getfield 15, 3) := by decide +kernel
theorem dX9_follows_4 : decode cX9_follows 4 = .ok (.iconst 3, 1) := by decide +kernel
theorem dX9_follows_5 : decode cX9_follows 5 = .ok (.if_icmp .ne 9, 3) := by decide +kernel
theorem dX9_follows_8 : decode cX9_follows 8 = .ok (.aload_n 0, 1) := by decide +kernel
theorem dX9_follows_9 : decode cX9_follows 9 = .ok (.bipush 51, 2) := by decide +kernel
theorem dX9_follows_11 : decode cX9_follows 11 = .ok (.invokevirtual 45, 3) := by decide +kernel
theorem dX9_follows_14 : decode cX9_follows 14 = .ok (.aload_n 0, 1) := by decide +kernel
theorem dX9_follows_15 : decode cX9_follows 15 = .ok (.bipush 13, 2) := by decide +kernel
theorem dX9_follows_17 : decode cX9_follows 17 = .ok (.invokevirtual 45, 3) := by decide +kernel
theorem dX9_follows_20 : decode cX9_follows 20 = .ok (.aload_n 0, 1) := by decide +kernel
theorem dX9_follows_21 : decode cX9_follows 21 = .ok (.iload_n 1, 1) := by decide +kernel
theorem dX9_follows_22 : decode cX9_follows 22 = .ok (.invokevirtual 33, 3) := by decide +kernel
theorem dX9_follows_25 : decode cX9_follows 25 = .ok (.aload_n 0, 1) := by decide +kernel
theorem dX9_follows_26 : decode cX9_follows 26 = .ok (.getfield 22, 3) := by decide +kernel
theorem dX9_follows_29 : decode cX9_follows 29 = .ok (.ixor, 1) := by decide +kernel
theorem dX9_follows_30 : decode cX9_follows 30 = .ok (.istore_n 2, 1) := by decide +kernel
theorem dX9_follows_31 : decode cX9_follows 31 = .ok (.aload_n 0, 1) := by decide +kernel
theorem dX9_follows_32 : decode cX9_follows 32 = .ok (.getfield 15, 3) := by decide +kernel
theorem dX9_follows_35 : decode cX9_follows 35 = .ok (.iconst 3, 1) := by decide +kernel
theorem dX9_follows_36 : decode cX9_follows 36 = .ok (.if_icmp .ne 16, 3) := by decide +kernel
theorem dX9_follows_39 : decode cX9_follows 39 = .ok (.iload_n 2, 1) := by decide +kernel
theorem dX9_follows_40 : decode cX9_follows 40 = .ok (.aload_n 0, 1) := by decide +kernel
theorem dX9_follows_41 : decode cX9_follows 41 = .ok (.aload_n 0, 1) := by decide +kernel
theorem dX9_follows_42 : decode cX9_follows 42 = .ok (.getfield 22, 3) := by decide +kernel
theorem dX9_follows_45 : decode cX9_follows 45 = .ok (.invokevirtual 36, 3) := by decide +kernel
theorem dX9_follows_48 : decode cX9_follows 48 = .ok (.iadd, 1) := by decide +kernel
theorem dX9_follows_49 : decode cX9_follows 49 = .ok (.goto 4, 3) := by decide +kernel
theorem dX9_follows_52 : decode cX9_follows 52 = .ok (.iload_n 2, 1) := by decide +kernel
theorem dX9_follows_53 : decode cX9_follows 53 = .ok (.ireturn, 1) := by decide +kernel
theorem dX10_init_0 : decode cX10_init 0 = .ok (.aload_n 0, 1) := by decide +kernel
theorem dX10_init_1 : decode cX10_init 1 = .ok (.invokespecial 1, 3) := by decide +kernel
theorem dX10_init_4 : decode cX10_init 4 = .ok (.aload_n 0, 1) := by decide +kernel
theorem dX10_init_5 : decode cX10_init 5 = .ok (.new 7, 3) := by decide +kernel
theorem dX10_init_8 : decode cX10_init 8 = .ok (.dup, 1) := by decide +kernel
theorem dX10_init_9 : decode cX10_init 9 = .ok (.invokespecial 9, 3) := by decide +kernel
theorem dX10_init_12 : decode cX10_init 12 = .ok (.putfield 10, 3) := by decide +kernel
theorem dX10_init_15 : decode cX10_init 15 = .ok (.aload_n 0, 1) := by decide +kernel
theorem dX10_init_16 : decode cX10_init 16 = .ok (.new 16, 3) := by decide +kernel
theorem dX10_init_19 : decode cX10_init 19 = .ok (.dup, 1) := by decide +kernel
theorem dX10_init_20 : decode cX10_init 20 = .ok (.invokespecial 18, 3) := by decide +kernel
theorem dX10_init_23 : decode cX10_init 23 = .ok (.putfield 19, 3) := by decide +kernel
theorem dX10_init_26 : decode cX10_init 26 = .ok (.aload_n 0, 1) := by decide +kernel
theorem dX10_init_27 : decode cX10_init 27 = .ok (.new 23, 3) := by decide +kernel
theorem dX10_init_30 : decode cX10_init 30 = .ok (.dup, 1) := by decide +kernel
theorem dX10_init_31 : decode cX10_init 31 = .ok (.aload_n 0, 1) := by decide +kernel
theorem dX10_init_32 : decode cX10_init 32 = .ok (.getfield 10, 3) := by decide +kernel
theorem dX10_init_35 : decode cX10_init 35 = .ok (.invokespecial 25, 3) := by decide +kernel
theorem dX10_init_38 : decode cX10_init 38 = .ok (.putfield 28, 3) := by decide +kernel
theorem dX10_init_41 : decode cX10_init 41 = .ok (.aload_n 0, 1) := by decide +kernel
theorem dX10_init_42 : decode cX10_init 42 = .ok (.new 23, 3) := by decide +kernel
theorem dX10_init_45 : decode cX10_init 45 = .ok (.dup, 1) := by decide +kernel
theorem dX10_init_46 : decode cX10_init 46 = .ok (.aload_n 0, 1) := by decide +kernel
theorem dX10_init_47 : decode cX10_init 47 = .ok (.getfield 10, 3) := by decide +kernel
theorem dX10_init_50 : decode cX10_init 50 = .ok (.invokespecial 25, 3) := by decide +kernel
theorem dX10_init_53 : decode cX10_init 53 = .ok (.putfield 32, 3) := by decide +kernel
theorem dX10_init_56 : decode cX10_init 56 = .ok (.aload_n 0, 1) := by decide +kernel
theorem dX10_init_57 : decode cX10_init 57 = .ok (.new 35, 3) := by decide +kernel
theorem dX10_init_60 : decode cX10_init 60 = .ok (.dup, 1) := by decide +kernel
theorem dX10_init_61 : decode cX10_init 61 = .ok (.invokespecial 37, 3) := by decide +kernel
theorem dX10_init_64 : decode cX10_init 64 = .ok (.putfield 38, 3) := by decide +kernel
theorem dX10_init_67 : decode cX10_init 67 = .ok (.aload_n 0, 1) := by decide +kernel
theorem dX10_init_68 : decode cX10_init 68 = .ok (.new 42, 3) := by decide +kernel
theorem dX10_init_71 : decode cX10_init 71 = .ok (.dup, 1) := by decide +kernel
theorem dX10_init_72 : decode cX10_init 72 = .ok (.aload_n 0, 1) := by decide +kernel
theorem dX10_init_73 : decode cX10_init 73 = .ok (.getfield 28, 3) := by decide +kernel
theorem dX10_init_76 : decode cX10_init 76 = .ok (.aload_n 0, 1) := by decide +kernel
theorem dX10_init_77 : decode cX10_init 77 = .ok (.getfield 32, 3) := by decide +kernel
theorem dX10_init_80 : decode cX10_init 80 = .ok (.invokespecial 44, 3) := by decide +kernel
theorem dX10_init_83 : decode cX10_init 83 = .ok (.putfield 47, 3) := by decide +kernel
theorem dX10_init_86 : decode cX10_init 86 = .ok (.aload_n 0, 1) := by decide +kernel
theorem dX10_init_87 : decode cX10_init 87 = .ok (.new 51, 3) := by decide +kernel
theorem dX10_init_90 : decode cX10_init 90 = .ok (.dup, 1) := by decide +kernel
theorem dX10_init_91 : decode cX10_init 91 = .ok (.aload_n 0, 1) := by decide +kernel
theorem dX10_init_92 : decode cX10_init 92 = .ok (.getfield 28, 3) := by decide +kernel
theorem dX10_init_95 : decode cX10_init 95 = .ok (.aload_n 0, 1) := by decide +kernel
theorem dX10_init_96 : decode cX10_init 96 = .ok (.getfield 32, 3) := by decide +kernel
theorem dX10_init_99 : decode cX10_init 99 = .ok (.invokespecial 53, 3) := by decide +kernel
theorem dX10_init_102 : decode cX10_init 102 = .ok (.putfield 54, 3) := by decide +kernel
theorem dX10_init_105 : decode cX10_init 105 = .ok (.aload_n 0, 1) := by decide +kernel
theorem dX10_init_106 : decode cX10_init 106 = .ok (.new 58, 3) := by decide +kernel
theorem dX10_init_109 : decode cX10_init 109 = .ok (.dup, 1) := by decide +kernel
theorem dX10_init_110 : decode cX10_init 110 = .ok (.aload_n 0, 1) := by decide +kernel
theorem dX10_init_111 : decode cX10_init 111 = .ok (.getfield 28, 3) := by decide +kernel
theorem dX10_init_114 : decode cX10_init 114 = .ok (.aload_n 0, 1) := by decide +kernel
theorem dX10_init_115 : decode cX10_init 115 = .ok (.getfield 32, 3) := by decide +kernel
theorem dX10_init_118 : decode cX10_init 118 = .ok (.invokespecial 60, 3) := by decide +kernel
theorem dX10_init_121 : decode cX10_init 121 = .ok (.putfield 61, 3) := by decide +kernel
theorem dX10_init_124 : decode cX10_init 124 = .ok (.aload_n 0, 1) := by decide +kernel
theorem dX10_init_125 : decode cX10_init 125 = .ok (.new 65, 3) := by decide +kernel
theorem dX10_init_128 : decode cX10_init 128 = .ok (.dup, 1) := by decide +kernel
theorem dX10_init_129 : decode cX10_init 129 = .ok (.invokespecial 67, 3) := by decide +kernel
theorem dX10_init_132 : decode cX10_init 132 = .ok (.putfield 68, 3) := by decide +kernel
theorem dX10_init_135 : decode cX10_init 135 = .ok (.aload_n 0, 1) := by decide +kernel
theorem dX10_init_136 : decode cX10_init 136 = .ok (.new 72, 3) := by decide +kernel
theorem dX10_init_139 : decode cX10_init 139 = .ok (.dup, 1) := by decide +kernel
theorem dX10_init_140 : decode cX10_init 140 = .ok (.aload_n 0, 1) := by decide +kernel
theorem dX10_init_141 : decode cX10_init 141 = .ok (.getfield 28, 3) := by decide +kernel
theorem dX10_init_144 : decode cX10_init 144 = .ok (.aload_n 0, 1) := by decide +kernel
theorem dX10_init_145 : decode cX10_init 145 = .ok (.getfield 68, 3) := by decide +kernel
theorem dX10_init_148 : decode cX10_init 148 = .ok (.invokespecial 74, 3) := by decide +kernel
theorem dX10_init_151 : decode cX10_init 151 = .ok (.putfield 77, 3) := by decide +kernel
theorem dX10_init_154 : decode cX10_init 154 = .ok (.aload_n 0, 1) := by decide +kernel
theorem dX10_init_155 : decode cX10_init 155 = .ok (.new 81, 3) := by decide +kernel
theorem dX10_init_158 : decode cX10_init 158 = .ok (.dup, 1) := by decide +kernel
theorem dX10_init_159 : decode cX10_init 159 = .ok (.invokespecial 83, 3) := by decide +kernel
theorem dX10_init_162 : decode cX10_init 162 = .ok (.putfield 84, 3) := by decide +kernel
theorem dX10_init_165 : decode cX10_init 165 = .ok (.aload_n 0, 1) := by decide +kernel
theorem dX10_init_166 : decode cX10_init 166 = .ok (.new 7, 3) := by decide +kernel
theorem dX10_init_169 : decode cX10_init 169 = .ok (.dup, 1) := by decide +kernel
theorem dX10_init_170 : decode cX10_init 170 = .ok (.invokespecial 9, 3) := by decide +kernel
theorem dX10_init_173 : decode cX10_init 173 = .ok (.putfield 88, 3) := by decide +kernel
theorem dX10_init_176 : decode cX10_init 176 = .ok (.aload_n 0, 1) := by decide +kernel
theorem dX10_init_177 : decode cX10_init 177 = .ok (.new 23, 3) := by decide +kernel
theorem dX10_init_180 : decode cX10_init 180 = .ok (.dup, 1) := by decide +kernel
theorem dX10_init_181 : decode cX10_init 181 = .ok (.aload_n 0, 1) := by decide +kernel
theorem dX10_init_182 : decode cX10_init 182 = .ok (.getfield 88, 3) := by decide +kernel
theorem dX10_init_185 : decode cX10_init 185 = .ok (.invokespecial 25, 3) := by decide +kernel
theorem dX10_init_188 : decode cX10_init 188 = .ok (.putfield 91, 3) := by decide +kernel
theorem dX10_init_191 : decode cX10_init 191 = .ok (.aload_n 0, 1) := by decide +kernel
theorem dX10_init_192 : decode cX10_init 192 = .ok (.new 35, 3) := by decide +kernel
theorem dX10_init_195 : decode cX10_init 195 = .ok (.dup, 1) := by decide +kernel
theorem dX10_init_196 : decode cX10_init 196 = .ok (.invokespecial 37, 3) := by decide +kernel
theorem dX10_init_199 : decode cX10_init 199 = .ok (.putfield 94, 3) := by decide +kernel
theorem dX10_init_202 : decode cX10_init 202 = .ok (.aload_n 0, 1) := by decide +kernel
theorem dX10_init_203 : decode cX10_init 203 = .ok (.iconst 0, 1) := by decide +kernel
theorem dX10_init_204 : decode cX10_init 204 = .ok (.putfield 97, 3) := by decide +kernel
theorem dX10_init_207 : decode cX10_init 207 = .ok (.return_, 1) := by decide +kernel
theorem dX10_lamp_0 : decode cX10_lamp 0 = .ok (.iload_n 1, 1) := by decide +kernel
theorem dX10_lamp_1 : decode cX10_lamp 1 = .ok (.invokestatic 101, 3) := by decide +kernel
theorem dX10_lamp_4 : decode cX10_lamp 4 = .ok (.ifCond .eq 28, 3) := by decide +kernel
theorem dX10_lamp_7 : decode cX10_lamp 7 = .ok (.iconst 1, 1) := by decide +kernel
theorem dX10_lamp_8 : decode cX10_lamp 8 = .ok (.iload_n 2, 1) := by decide +kernel
theorem dX10_lamp_9 : decode cX10_lamp 9 = .ok (.invokestatic 105, 3) := by decide +kernel
theorem dX10_lamp_12 : decode cX10_lamp 12 = .ok (.ifCond .eq 20, 3) := by decide +kernel
theorem dX10_lamp_15 : decode cX10_lamp 15 = .ok (.iconst 2, 1) := by decide +kernel
theorem dX10_lamp_16 : decode cX10_lamp 16 = .ok (.iload_n 3, 1) := by decide +kernel
theorem dX10_lamp_17 : decode cX10_lamp 17 = .ok (.invokestatic 105, 3) := by decide +kernel
theorem dX10_lamp_20 : decode cX10_lamp 20 = .ok (.ifCond .eq 12, 3) := by decide +kernel
theorem dX10_lamp_23 : decode cX10_lamp 23 = .ok (.iconst 3, 1) := by decide +kernel
theorem dX10_lamp_24 : decode cX10_lamp 24 = .ok (.iload 4, 2) := by decide +kernel
theorem dX10_lamp_26 : decode cX10_lamp 26 = .ok (.invokestatic 105, 3) := by decide +kernel
theorem dX10_lamp_29 : decode cX10_lamp 29 = .ok (.ifCond .ne 5, 3) := by decide +kernel
theorem dX10_lamp_32 : decode cX10_lamp 32 = .ok (.iconst (-1), 1) := by decide +kernel
theorem dX10_lamp_33 : decode cX10_lamp 33 = .ok (.ireturn, 1) := by decide +kernel
theorem dX10_lamp_34 : decode cX10_lamp 34 = .ok (.aload_n 0, 1) := by decide +kernel
theorem dX10_lamp_35 : decode cX10_lamp 35 = .ok (.getfield 28, 3) := by decide +kernel
theorem dX10_lamp_38 : decode cX10_lamp 38 = .ok (.iload_n 1, 1) := by decide +kernel
theorem dX10_lamp_39 : decode cX10_lamp 39 = .ok (.iload_n 2, 1) := by decide +kernel
theorem dX10_lamp_40 : decode cX10_lamp 40 = .ok (.iload_n 3, 1) := by decide +kernel
theorem dX10_lamp_41 : decode cX10_lamp 41 = .ok (.iload 4, 2) := by decide +kernel
theorem dX10_lamp_43 : decode cX10_lamp 43 = .ok (.invokevirtual 109, 3) := by decide +kernel
theorem dX10_lamp_46 : decode cX10_lamp 46 = .ok (.ireturn, 1) := by decide +kernel
theorem dX10_lampOf_0 : decode cX10_lampOf 0 = .ok (.aload_n 0, 1) := by decide +kernel
theorem dX10_lampOf_1 : decode cX10_lampOf 1 = .ok (.getfield 28, 3) := by decide +kernel
theorem dX10_lampOf_4 : decode cX10_lampOf 4 = .ok (.iload_n 1, 1) := by decide +kernel
theorem dX10_lampOf_5 : decode cX10_lampOf 5 = .ok (.invokevirtual 113, 3) := by decide +kernel
theorem dX10_lampOf_8 : decode cX10_lampOf 8 = .ok (.ifCond .ne 5, 3) := by decide +kernel
theorem dX10_lampOf_11 : decode cX10_lampOf 11 = .ok (.iconst (-1), 1) := by decide +kernel
theorem dX10_lampOf_12 : decode cX10_lampOf 12 = .ok (.ireturn, 1) := by decide +kernel
theorem dX10_lampOf_13 : decode cX10_lampOf 13 = .ok (.iload_n 2, 1) := by decide +kernel
theorem dX10_lampOf_14 : decode cX10_lampOf 14 = .ok (.ifCond .lt 19, 3) := by decide +kernel
theorem dX10_lampOf_17 : decode cX10_lampOf 17 = .ok (.iload_n 2, 1) := by decide +kernel
theorem dX10_lampOf_18 : decode cX10_lampOf 18 = .ok (.iconst 3, 1) := by decide +kernel
theorem dX10_lampOf_19 : decode cX10_lampOf 19 = .ok (.if_icmp .gt 14, 3) := by decide +kernel
theorem dX10_lampOf_22 : decode cX10_lampOf 22 = .ok (.aload_n 0, 1) := by decide +kernel
theorem dX10_lampOf_23 : decode cX10_lampOf 23 = .ok (.getfield 28, 3) := by decide +kernel
theorem dX10_lampOf_26 : decode cX10_lampOf 26 = .ok (.iload_n 2, 1) := by decide +kernel
theorem dX10_lampOf_27 : decode cX10_lampOf 27 = .ok (.invokevirtual 116, 3) := by decide +kernel
theorem dX10_lampOf_30 : decode cX10_lampOf 30 = .ok (.iload_n 1, 1) := by decide +kernel
theorem dX10_lampOf_31 : decode cX10_lampOf 31 = .ok (.iaload, 1) := by decide +kernel
theorem dX10_lampOf_32 : decode cX10_lampOf 32 = .ok (.ireturn, 1) := by decide +kernel
theorem dX10_lampOf_33 : decode cX10_lampOf 33 = .ok (.iload_n 2, 1) := by decide +kernel
theorem dX10_lampOf_34 : decode cX10_lampOf 34 = .ok (.iconst 4, 1) := by decide +kernel
theorem dX10_lampOf_35 : decode cX10_lampOf 35 = .ok (.if_icmp .ne 12, 3) := by decide +kernel
theorem dX10_lampOf_38 : decode cX10_lampOf 38 = .ok (.aload_n 0, 1) := by decide +kernel
theorem dX10_lampOf_39 : decode cX10_lampOf 39 = .ok (.getfield 28, 3) := by decide +kernel
theorem dX10_lampOf_42 : decode cX10_lampOf 42 = .ok (.iload_n 1, 1) := by decide +kernel
theorem dX10_lampOf_43 : decode cX10_lampOf 43 = .ok (.invokevirtual 120, 3) := by decide +kernel
theorem dX10_lampOf_46 : decode cX10_lampOf 46 = .ok (.ireturn, 1) := by decide +kernel
theorem dX10_lampOf_47 : decode cX10_lampOf 47 = .ok (.iload_n 2, 1) := by decide +kernel
theorem dX10_lampOf_48 : decode cX10_lampOf 48 = .ok (.iconst 5, 1) := by decide +kernel
theorem dX10_lampOf_49 : decode cX10_lampOf 49 = .ok (.if_icmp .eq 5, 3) := by decide +kernel
theorem dX10_lampOf_52 : decode cX10_lampOf 52 = .ok (.iconst (-1), 1) := by decide +kernel
theorem dX10_lampOf_53 : decode cX10_lampOf 53 = .ok (.ireturn, 1) := by decide +kernel
theorem dX10_lampOf_54 : decode cX10_lampOf 54 = .ok (.aload_n 0, 1) := by decide +kernel
theorem dX10_lampOf_55 : decode cX10_lampOf 55 = .ok (.getfield 28, 3) := by decide +kernel
theorem dX10_lampOf_58 : decode cX10_lampOf 58 = .ok (.invokevirtual 124, 3) := by decide +kernel
theorem dX10_lampOf_61 : decode cX10_lampOf 61 = .ok (.ifCond .eq 8, 3) := by decide +kernel
theorem dX10_lampOf_64 : decode cX10_lampOf 64 = .ok (.bipush 41, 2) := by decide +kernel
theorem dX10_lampOf_66 : decode cX10_lampOf 66 = .ok (.goto 11, 3) := by decide +kernel
theorem dX10_lampOf_69 : decode cX10_lampOf 69 = .ok (.aload_n 0, 1) := by decide +kernel
theorem dX10_lampOf_70 : decode cX10_lampOf 70 = .ok (.getfield 28, 3) := by decide +kernel
theorem dX10_lampOf_73 : decode cX10_lampOf 73 = .ok (.iload_n 1, 1) := by decide +kernel
theorem dX10_lampOf_74 : decode cX10_lampOf 74 = .ok (.invokevirtual 128, 3) := by decide +kernel
theorem dX10_lampOf_77 : decode cX10_lampOf 77 = .ok (.ireturn, 1) := by decide +kernel
theorem dX10_change_0 : decode cX10_change 0 = .ok (.aload_n 0, 1) := by decide +kernel
theorem dX10_change_1 : decode cX10_change 1 = .ok (.getfield 28, 3) := by decide +kernel
theorem dX10_change_4 : decode cX10_change 4 = .ok (.iload_n 1, 1) := by decide +kernel
theorem dX10_change_5 : decode cX10_change 5 = .ok (.invokevirtual 113, 3) := by decide +kernel
theorem dX10_change_8 : decode cX10_change 8 = .ok (.ifCond .eq 11, 3) := by decide +kernel
theorem dX10_change_11 : decode cX10_change 11 = .ok (.iload_n 2, 1) := by decide +kernel
theorem dX10_change_12 : decode cX10_change 12 = .ok (.iload_n 3, 1) := by decide +kernel
theorem dX10_change_13 : decode cX10_change 13 = .ok (.invokestatic 105, 3) := by decide +kernel
theorem dX10_change_16 : decode cX10_change 16 = .ok (.ifCond .ne 5, 3) := by decide +kernel
theorem dX10_change_19 : decode cX10_change 19 = .ok (.iconst (-1), 1) := by decide +kernel
theorem dX10_change_20 : decode cX10_change 20 = .ok (.ireturn, 1) := by decide +kernel
theorem dX10_change_21 : decode cX10_change 21 = .ok (.aload_n 0, 1) := by decide +kernel
theorem dX10_change_22 : decode cX10_change 22 = .ok (.getfield 28, 3) := by decide +kernel
theorem dX10_change_25 : decode cX10_change 25 = .ok (.iload_n 1, 1) := by decide +kernel
theorem dX10_change_26 : decode cX10_change 26 = .ok (.iload_n 2, 1) := by decide +kernel
theorem dX10_change_27 : decode cX10_change 27 = .ok (.iload_n 3, 1) := by decide +kernel
theorem dX10_change_28 : decode cX10_change 28 = .ok (.invokevirtual 131, 3) := by decide +kernel
theorem dX10_change_31 : decode cX10_change 31 = .ok (.ireturn, 1) := by decide +kernel
theorem dX10_remake_0 : decode cX10_remake 0 = .ok (.aload_n 0, 1) := by decide +kernel
theorem dX10_remake_1 : decode cX10_remake 1 = .ok (.getfield 28, 3) := by decide +kernel
theorem dX10_remake_4 : decode cX10_remake 4 = .ok (.iload_n 1, 1) := by decide +kernel
theorem dX10_remake_5 : decode cX10_remake 5 = .ok (.invokevirtual 113, 3) := by decide +kernel
theorem dX10_remake_8 : decode cX10_remake 8 = .ok (.ifCond .eq 10, 3) := by decide +kernel
theorem dX10_remake_11 : decode cX10_remake 11 = .ok (.iload_n 2, 1) := by decide +kernel
theorem dX10_remake_12 : decode cX10_remake 12 = .ok (.invokestatic 101, 3) := by decide +kernel
theorem dX10_remake_15 : decode cX10_remake 15 = .ok (.ifCond .ne 5, 3) := by decide +kernel
theorem dX10_remake_18 : decode cX10_remake 18 = .ok (.iconst (-1), 1) := by decide +kernel
theorem dX10_remake_19 : decode cX10_remake 19 = .ok (.ireturn, 1) := by decide +kernel
theorem dX10_remake_20 : decode cX10_remake 20 = .ok (.aload_n 0, 1) := by decide +kernel
theorem dX10_remake_21 : decode cX10_remake 21 = .ok (.getfield 28, 3) := by decide +kernel
theorem dX10_remake_24 : decode cX10_remake 24 = .ok (.iload_n 1, 1) := by decide +kernel
theorem dX10_remake_25 : decode cX10_remake 25 = .ok (.iconst 0, 1) := by decide +kernel
theorem dX10_remake_26 : decode cX10_remake 26 = .ok (.iload_n 2, 1) := by decide +kernel
theorem dX10_remake_27 : decode cX10_remake 27 = .ok (.invokevirtual 131, 3) := by decide +kernel
theorem dX10_remake_30 : decode cX10_remake 30 = .ok (.ireturn, 1) := by decide +kernel
theorem dX10_dance_0 : decode cX10_dance 0 = .ok (.iload_n 1, 1) := by decide +kernel
theorem dX10_dance_1 : decode cX10_dance 1 = .ok (.iconst 0, 1) := by decide +kernel
theorem dX10_dance_2 : decode cX10_dance 2 = .ok (.bipush 40, 2) := by decide +kernel
theorem dX10_dance_4 : decode cX10_dance 4 = .ok (.invokestatic 135, 3) := by decide +kernel
theorem dX10_dance_7 : decode cX10_dance 7 = .ok (.ifCond .eq 14, 3) := by decide +kernel
theorem dX10_dance_10 : decode cX10_dance 10 = .ok (.aload_n 0, 1) := by decide +kernel
theorem dX10_dance_11 : decode cX10_dance 11 = .ok (.getfield 28, 3) := by decide +kernel
theorem dX10_dance_14 : decode cX10_dance 14 = .ok (.iload_n 1, 1) := by decide +kernel
theorem dX10_dance_15 : decode cX10_dance 15 = .ok (.invokevirtual 139, 3) := by decide +kernel
theorem dX10_dance_18 : decode cX10_dance 18 = .ok (.goto 4, 3) := by decide +kernel
theorem dX10_dance_21 : decode cX10_dance 21 = .ok (.iconst (-1), 1) := by decide +kernel
theorem dX10_dance_22 : decode cX10_dance 22 = .ok (.ireturn, 1) := by decide +kernel
theorem dX10_danceOf_0 : decode cX10_danceOf 0 = .ok (.aload_n 0, 1) := by decide +kernel
theorem dX10_danceOf_1 : decode cX10_danceOf 1 = .ok (.getfield 28, 3) := by decide +kernel
theorem dX10_danceOf_4 : decode cX10_danceOf 4 = .ok (.iload_n 1, 1) := by decide +kernel
theorem dX10_danceOf_5 : decode cX10_danceOf 5 = .ok (.invokevirtual 142, 3) := by decide +kernel
theorem dX10_danceOf_8 : decode cX10_danceOf 8 = .ok (.ifCond .eq 15, 3) := by decide +kernel
theorem dX10_danceOf_11 : decode cX10_danceOf 11 = .ok (.aload_n 0, 1) := by decide +kernel
theorem dX10_danceOf_12 : decode cX10_danceOf 12 = .ok (.getfield 28, 3) := by decide +kernel
theorem dX10_danceOf_15 : decode cX10_danceOf 15 = .ok (.getfield 145, 3) := by decide +kernel
theorem dX10_danceOf_18 : decode cX10_danceOf 18 = .ok (.iload_n 1, 1) := by decide +kernel
theorem dX10_danceOf_19 : decode cX10_danceOf 19 = .ok (.iaload, 1) := by decide +kernel
theorem dX10_danceOf_20 : decode cX10_danceOf 20 = .ok (.goto 4, 3) := by decide +kernel
theorem dX10_danceOf_23 : decode cX10_danceOf 23 = .ok (.iconst (-1), 1) := by decide +kernel
theorem dX10_danceOf_24 : decode cX10_danceOf 24 = .ok (.ireturn, 1) := by decide +kernel
theorem dX10_steps_0 : decode cX10_steps 0 = .ok (.aload_n 0, 1) := by decide +kernel
theorem dX10_steps_1 : decode cX10_steps 1 = .ok (.getfield 28, 3) := by decide +kernel
theorem dX10_steps_4 : decode cX10_steps 4 = .ok (.iload_n 1, 1) := by decide +kernel
theorem dX10_steps_5 : decode cX10_steps 5 = .ok (.invokevirtual 142, 3) := by decide +kernel
theorem dX10_steps_8 : decode cX10_steps 8 = .ok (.ifCond .eq 13, 3) := by decide +kernel
theorem dX10_steps_11 : decode cX10_steps 11 = .ok (.iload_n 2, 1) := by decide +kernel
theorem dX10_steps_12 : decode cX10_steps 12 = .ok (.iconst 0, 1) := by decide +kernel
theorem dX10_steps_13 : decode cX10_steps 13 = .ok (.bipush 40, 2) := by decide +kernel
theorem dX10_steps_15 : decode cX10_steps 15 = .ok (.invokestatic 135, 3) := by decide +kernel
theorem dX10_steps_18 : decode cX10_steps 18 = .ok (.ifCond .ne 5, 3) := by decide +kernel
theorem dX10_steps_21 : decode cX10_steps 21 = .ok (.iconst (-1), 1) := by decide +kernel
theorem dX10_steps_22 : decode cX10_steps 22 = .ok (.ireturn, 1) := by decide +kernel
theorem dX10_steps_23 : decode cX10_steps 23 = .ok (.iload_n 1, 1) := by decide +kernel
theorem dX10_steps_24 : decode cX10_steps 24 = .ok (.aload_n 0, 1) := by decide +kernel
theorem dX10_steps_25 : decode cX10_steps 25 = .ok (.getfield 28, 3) := by decide +kernel
theorem dX10_steps_28 : decode cX10_steps 28 = .ok (.getfield 149, 3) := by decide +kernel
theorem dX10_steps_31 : decode cX10_steps 31 = .ok (.if_icmp .ge 6, 3) := by decide +kernel
theorem dX10_steps_34 : decode cX10_steps 34 = .ok (.bipush (-4), 2) := by decide +kernel
theorem dX10_steps_36 : decode cX10_steps 36 = .ok (.ireturn, 1) := by decide +kernel
theorem dX10_steps_37 : decode cX10_steps 37 = .ok (.aload_n 0, 1) := by decide +kernel
theorem dX10_steps_38 : decode cX10_steps 38 = .ok (.getfield 28, 3) := by decide +kernel
theorem dX10_steps_41 : decode cX10_steps 41 = .ok (.getfield 145, 3) := by decide +kernel
theorem dX10_steps_44 : decode cX10_steps 44 = .ok (.iload_n 1, 1) := by decide +kernel
theorem dX10_steps_45 : decode cX10_steps 45 = .ok (.iaload, 1) := by decide +kernel
theorem dX10_steps_46 : decode cX10_steps 46 = .ok (.istore_n 3, 1) := by decide +kernel
theorem dX10_steps_47 : decode cX10_steps 47 = .ok (.aload_n 0, 1) := by decide +kernel
theorem dX10_steps_48 : decode cX10_steps 48 = .ok (.getfield 28, 3) := by decide +kernel
theorem dX10_steps_51 : decode cX10_steps 51 = .ok (.getfield 145, 3) := by decide +kernel
theorem dX10_steps_54 : decode cX10_steps 54 = .ok (.iload_n 1, 1) := by decide +kernel
theorem dX10_steps_55 : decode cX10_steps 55 = .ok (.iload_n 2, 1) := by decide +kernel
theorem dX10_steps_56 : decode cX10_steps 56 = .ok (.iastore, 1) := by decide +kernel
theorem dX10_steps_57 : decode cX10_steps 57 = .ok (.iload_n 3, 1) := by decide +kernel
theorem dX10_steps_58 : decode cX10_steps 58 = .ok (.ireturn, 1) := by decide +kernel
theorem dX10_anew_0 : decode cX10_anew 0 = .ok (.aload_n 0, 1) := by decide +kernel
theorem dX10_anew_1 : decode cX10_anew 1 = .ok (.getfield 28, 3) := by decide +kernel
theorem dX10_anew_4 : decode cX10_anew 4 = .ok (.getfield 149, 3) := by decide +kernel
theorem dX10_anew_7 : decode cX10_anew 7 = .ok (.istore_n 1, 1) := by decide +kernel
theorem dX10_anew_8 : decode cX10_anew 8 = .ok (.aload_n 0, 1) := by decide +kernel
theorem dX10_anew_9 : decode cX10_anew 9 = .ok (.getfield 28, 3) := by decide +kernel
theorem dX10_anew_12 : decode cX10_anew 12 = .ok (.iconst 0, 1) := by decide +kernel
theorem dX10_anew_13 : decode cX10_anew 13 = .ok (.putfield 149, 3) := by decide +kernel
theorem dX10_anew_16 : decode cX10_anew 16 = .ok (.aload_n 0, 1) := by decide +kernel
theorem dX10_anew_17 : decode cX10_anew 17 = .ok (.getfield 28, 3) := by decide +kernel
theorem dX10_anew_20 : decode cX10_anew 20 = .ok (.iconst 0, 1) := by decide +kernel
theorem dX10_anew_21 : decode cX10_anew 21 = .ok (.putfield 153, 3) := by decide +kernel
theorem dX10_anew_24 : decode cX10_anew 24 = .ok (.iload_n 1, 1) := by decide +kernel
theorem dX10_anew_25 : decode cX10_anew 25 = .ok (.ireturn, 1) := by decide +kernel
theorem dX10_state_0 : decode cX10_state 0 = .ok (.iload_n 1, 1) := by decide +kernel
theorem dX10_state_1 : decode cX10_state 1 = .ok (.tableswitch 71 0 3 #[31, 39, 47, 55], 31) := by decide +kernel
theorem dX10_state_32 : decode cX10_state 32 = .ok (.aload_n 0, 1) := by decide +kernel
theorem dX10_state_33 : decode cX10_state 33 = .ok (.getfield 28, 3) := by decide +kernel
theorem dX10_state_36 : decode cX10_state 36 = .ok (.getfield 149, 3) := by decide +kernel
theorem dX10_state_39 : decode cX10_state 39 = .ok (.ireturn, 1) := by decide +kernel
theorem dX10_state_40 : decode cX10_state 40 = .ok (.aload_n 0, 1) := by decide +kernel
theorem dX10_state_41 : decode cX10_state 41 = .ok (.getfield 28, 3) := by decide +kernel
theorem dX10_state_44 : decode cX10_state 44 = .ok (.getfield 156, 3) := by decide +kernel
theorem dX10_state_47 : decode cX10_state 47 = .ok (.ireturn, 1) := by decide +kernel
theorem dX10_state_48 : decode cX10_state 48 = .ok (.aload_n 0, 1) := by decide +kernel
theorem dX10_state_49 : decode cX10_state 49 = .ok (.getfield 28, 3) := by decide +kernel
theorem dX10_state_52 : decode cX10_state 52 = .ok (.getfield 153, 3) := by decide +kernel
theorem dX10_state_55 : decode cX10_state 55 = .ok (.ireturn, 1) := by decide +kernel
theorem dX10_state_56 : decode cX10_state 56 = .ok (.aload_n 0, 1) := by decide +kernel
theorem dX10_state_57 : decode cX10_state 57 = .ok (.getfield 28, 3) := by decide +kernel
theorem dX10_state_60 : decode cX10_state 60 = .ok (.invokevirtual 124, 3) := by decide +kernel
theorem dX10_state_63 : decode cX10_state 63 = .ok (.ifCond .eq 7, 3) := by decide +kernel
theorem dX10_state_66 : decode cX10_state 66 = .ok (.iconst 1, 1) := by decide +kernel
theorem dX10_state_67 : decode cX10_state 67 = .ok (.goto 4, 3) := by decide +kernel
theorem dX10_state_70 : decode cX10_state 70 = .ok (.iconst 0, 1) := by decide +kernel
theorem dX10_state_71 : decode cX10_state 71 = .ok (.ireturn, 1) := by decide +kernel
theorem dX10_state_72 : decode cX10_state 72 = .ok (.iconst (-1), 1) := by decide +kernel
theorem dX10_state_73 : decode cX10_state 73 = .ok (.ireturn, 1) := by decide +kernel
theorem dX10_feed_0 : decode cX10_feed 0 = .ok (.iload_n 3, 1) := by decide +kernel
theorem dX10_feed_1 : decode cX10_feed 1 = .ok (.iconst 1, 1) := by decide +kernel
theorem dX10_feed_2 : decode cX10_feed 2 = .ok (.bipush 8, 2) := by decide +kernel
theorem dX10_feed_4 : decode cX10_feed 4 = .ok (.invokestatic 135, 3) := by decide +kernel
theorem dX10_feed_7 : decode cX10_feed 7 = .ok (.ifCond .ne 5, 3) := by decide +kernel
theorem dX10_feed_10 : decode cX10_feed 10 = .ok (.iconst (-1), 1) := by decide +kernel
theorem dX10_feed_11 : decode cX10_feed 11 = .ok (.ireturn, 1) := by decide +kernel
theorem dX10_feed_12 : decode cX10_feed 12 = .ok (.aload_n 0, 1) := by decide +kernel
theorem dX10_feed_13 : decode cX10_feed 13 = .ok (.getfield 19, 3) := by decide +kernel
theorem dX10_feed_16 : decode cX10_feed 16 = .ok (.getfield 159, 3) := by decide +kernel
theorem dX10_feed_19 : decode cX10_feed 19 = .ok (.iload_n 3, 1) := by decide +kernel
theorem dX10_feed_20 : decode cX10_feed 20 = .ok (.iadd, 1) := by decide +kernel
theorem dX10_feed_21 : decode cX10_feed 21 = .ok (.sipush 200, 3) := by decide +kernel
theorem dX10_feed_24 : decode cX10_feed 24 = .ok (.if_icmp .le 6, 3) := by decide +kernel
theorem dX10_feed_27 : decode cX10_feed 27 = .ok (.bipush (-2), 2) := by decide +kernel
theorem dX10_feed_29 : decode cX10_feed 29 = .ok (.ireturn, 1) := by decide +kernel
theorem dX10_feed_30 : decode cX10_feed 30 = .ok (.aload_n 0, 1) := by decide +kernel
theorem dX10_feed_31 : decode cX10_feed 31 = .ok (.getfield 19, 3) := by decide +kernel
theorem dX10_feed_34 : decode cX10_feed 34 = .ok (.lload_n 1, 1) := by decide +kernel
theorem dX10_feed_35 : decode cX10_feed 35 = .ok (.iload_n 3, 1) := by decide +kernel
theorem dX10_feed_36 : decode cX10_feed 36 = .ok (.invokevirtual 162, 3) := by decide +kernel
theorem dX10_feed_39 : decode cX10_feed 39 = .ok (.ireturn, 1) := by decide +kernel
theorem dX10_rules_0 : decode cX10_rules 0 = .ok (.aload_n 0, 1) := by decide +kernel
theorem dX10_rules_1 : decode cX10_rules 1 = .ok (.getfield 19, 3) := by decide +kernel
theorem dX10_rules_4 : decode cX10_rules 4 = .ok (.aload_n 0, 1) := by decide +kernel
theorem dX10_rules_5 : decode cX10_rules 5 = .ok (.getfield 10, 3) := by decide +kernel
theorem dX10_rules_8 : decode cX10_rules 8 = .ok (.invokevirtual 166, 3) := by decide +kernel
theorem dX10_rules_11 : decode cX10_rules 11 = .ok (.istore_n 1, 1) := by decide +kernel
theorem dX10_rules_12 : decode cX10_rules 12 = .ok (.iload_n 1, 1) := by decide +kernel
theorem dX10_rules_13 : decode cX10_rules 13 = .ok (.iconst (-1), 1) := by decide +kernel
theorem dX10_rules_14 : decode cX10_rules 14 = .ok (.if_icmp .ne 13, 3) := by decide +kernel
theorem dX10_rules_17 : decode cX10_rules 17 = .ok (.aload_n 0, 1) := by decide +kernel
theorem dX10_rules_18 : decode cX10_rules 18 = .ok (.getfield 10, 3) := by decide +kernel
theorem dX10_rules_21 : decode cX10_rules 21 = .ok (.getfield 170, 3) := by decide +kernel
theorem dX10_rules_24 : decode cX10_rules 24 = .ok (.goto 7, 3) := by decide +kernel
theorem dX10_rules_27 : decode cX10_rules 27 = .ok (.bipush (-100), 2) := by decide +kernel
theorem dX10_rules_29 : decode cX10_rules 29 = .ok (.iload_n 1, 1) := by decide +kernel
theorem dX10_rules_30 : decode cX10_rules 30 = .ok (.isub, 1) := by decide +kernel
theorem dX10_rules_31 : decode cX10_rules 31 = .ok (.ireturn, 1) := by decide +kernel
theorem dX10_beat_0 : decode cX10_beat 0 = .ok (.aload_n 0, 1) := by decide +kernel
theorem dX10_beat_1 : decode cX10_beat 1 = .ok (.getfield 28, 3) := by decide +kernel
theorem dX10_beat_4 : decode cX10_beat 4 = .ok (.invokevirtual 124, 3) := by decide +kernel
theorem dX10_beat_7 : decode cX10_beat 7 = .ok (.ifCond .eq 8, 3) := by decide +kernel
theorem dX10_beat_10 : decode cX10_beat 10 = .ok (.bipush (-4), 2) := by decide +kernel
theorem dX10_beat_12 : decode cX10_beat 12 = .ok (.goto 11, 3) := by decide +kernel
theorem dX10_beat_15 : decode cX10_beat 15 = .ok (.aload_n 0, 1) := by decide +kernel
theorem dX10_beat_16 : decode cX10_beat 16 = .ok (.getfield 28, 3) := by decide +kernel
theorem dX10_beat_19 : decode cX10_beat 19 = .ok (.iconst (-1), 1) := by decide +kernel
theorem dX10_beat_20 : decode cX10_beat 20 = .ok (.invokevirtual 173, 3) := by decide +kernel
theorem dX10_beat_23 : decode cX10_beat 23 = .ok (.ireturn, 1) := by decide +kernel
theorem dX10_in_0 : decode cX10_in 0 = .ok (.iload_n 1, 1) := by decide +kernel
theorem dX10_in_1 : decode cX10_in 1 = .ok (.iconst 0, 1) := by decide +kernel
theorem dX10_in_2 : decode cX10_in 2 = .ok (.iconst 2, 1) := by decide +kernel
theorem dX10_in_3 : decode cX10_in 3 = .ok (.invokestatic 135, 3) := by decide +kernel
theorem dX10_in_6 : decode cX10_in 6 = .ok (.ifCond .eq 14, 3) := by decide +kernel
theorem dX10_in_9 : decode cX10_in 9 = .ok (.aload_n 0, 1) := by decide +kernel
theorem dX10_in_10 : decode cX10_in 10 = .ok (.getfield 28, 3) := by decide +kernel
theorem dX10_in_13 : decode cX10_in 13 = .ok (.iload_n 1, 1) := by decide +kernel
theorem dX10_in_14 : decode cX10_in 14 = .ok (.invokevirtual 176, 3) := by decide +kernel
theorem dX10_in_17 : decode cX10_in 17 = .ok (.goto 4, 3) := by decide +kernel
theorem dX10_in_20 : decode cX10_in 20 = .ok (.iconst (-1), 1) := by decide +kernel
theorem dX10_in_21 : decode cX10_in 21 = .ok (.ireturn, 1) := by decide +kernel
theorem dX10_shows_0 : decode cX10_shows 0 = .ok (.aload_n 0, 1) := by decide +kernel
theorem dX10_shows_1 : decode cX10_shows 1 = .ok (.getfield 28, 3) := by decide +kernel
theorem dX10_shows_4 : decode cX10_shows 4 = .ok (.iload_n 1, 1) := by decide +kernel
theorem dX10_shows_5 : decode cX10_shows 5 = .ok (.invokevirtual 113, 3) := by decide +kernel
theorem dX10_shows_8 : decode cX10_shows 8 = .ok (.ifCond .eq 24, 3) := by decide +kernel
theorem dX10_shows_11 : decode cX10_shows 11 = .ok (.aload_n 0, 1) := by decide +kernel
theorem dX10_shows_12 : decode cX10_shows 12 = .ok (.getfield 47, 3) := by decide +kernel
theorem dX10_shows_15 : decode cX10_shows 15 = .ok (.iload_n 1, 1) := by decide +kernel
theorem dX10_shows_16 : decode cX10_shows 16 = .ok (.iconst 1, 1) := by decide +kernel
theorem dX10_shows_17 : decode cX10_shows 17 = .ok (.aload_n 0, 1) := by decide +kernel
theorem dX10_shows_18 : decode cX10_shows 18 = .ok (.getfield 28, 3) := by decide +kernel
theorem dX10_shows_21 : decode cX10_shows 21 = .ok (.getfield 179, 3) := by decide +kernel
theorem dX10_shows_24 : decode cX10_shows 24 = .ok (.iload_n 1, 1) := by decide +kernel
theorem dX10_shows_25 : decode cX10_shows 25 = .ok (.iaload, 1) := by decide +kernel
theorem dX10_shows_26 : decode cX10_shows 26 = .ok (.invokevirtual 182, 3) := by decide +kernel
theorem dX10_shows_29 : decode cX10_shows 29 = .ok (.goto 4, 3) := by decide +kernel
theorem dX10_shows_32 : decode cX10_shows 32 = .ok (.iconst (-1), 1) := by decide +kernel
theorem dX10_shows_33 : decode cX10_shows 33 = .ok (.ireturn, 1) := by decide +kernel
theorem dX10_on_0 : decode cX10_on 0 = .ok (.iload_n 1, 1) := by decide +kernel
theorem dX10_on_1 : decode cX10_on 1 = .ok (.iconst 0, 1) := by decide +kernel
theorem dX10_on_2 : decode cX10_on 2 = .ok (.bipush 16, 2) := by decide +kernel
theorem dX10_on_4 : decode cX10_on 4 = .ok (.invokestatic 135, 3) := by decide +kernel
theorem dX10_on_7 : decode cX10_on 7 = .ok (.ifCond .eq 14, 3) := by decide +kernel
theorem dX10_on_10 : decode cX10_on 10 = .ok (.aload_n 0, 1) := by decide +kernel
theorem dX10_on_11 : decode cX10_on 11 = .ok (.getfield 47, 3) := by decide +kernel
theorem dX10_on_14 : decode cX10_on 14 = .ok (.iload_n 1, 1) := by decide +kernel
theorem dX10_on_15 : decode cX10_on 15 = .ok (.invokevirtual 185, 3) := by decide +kernel
theorem dX10_on_18 : decode cX10_on 18 = .ok (.goto 4, 3) := by decide +kernel
theorem dX10_on_21 : decode cX10_on 21 = .ok (.iconst (-1), 1) := by decide +kernel
theorem dX10_on_22 : decode cX10_on 22 = .ok (.ireturn, 1) := by decide +kernel
theorem dX10_lost_0 : decode cX10_lost 0 = .ok (.aload_n 0, 1) := by decide +kernel
theorem dX10_lost_1 : decode cX10_lost 1 = .ok (.getfield 28, 3) := by decide +kernel
theorem dX10_lost_4 : decode cX10_lost 4 = .ok (.iload_n 1, 1) := by decide +kernel
theorem dX10_lost_5 : decode cX10_lost 5 = .ok (.invokevirtual 113, 3) := by decide +kernel
theorem dX10_lost_8 : decode cX10_lost 8 = .ok (.ifCond .eq 23, 3) := by decide +kernel
theorem dX10_lost_11 : decode cX10_lost 11 = .ok (.aload_n 0, 1) := by decide +kernel
theorem dX10_lost_12 : decode cX10_lost 12 = .ok (.getfield 47, 3) := by decide +kernel
theorem dX10_lost_15 : decode cX10_lost 15 = .ok (.iload_n 1, 1) := by decide +kernel
theorem dX10_lost_16 : decode cX10_lost 16 = .ok (.aload_n 0, 1) := by decide +kernel
theorem dX10_lost_17 : decode cX10_lost 17 = .ok (.getfield 28, 3) := by decide +kernel
theorem dX10_lost_20 : decode cX10_lost 20 = .ok (.getfield 188, 3) := by decide +kernel
theorem dX10_lost_23 : decode cX10_lost 23 = .ok (.iload_n 1, 1) := by decide +kernel
theorem dX10_lost_24 : decode cX10_lost 24 = .ok (.iaload, 1) := by decide +kernel
theorem dX10_lost_25 : decode cX10_lost 25 = .ok (.invokevirtual 191, 3) := by decide +kernel
theorem dX10_lost_28 : decode cX10_lost 28 = .ok (.goto 4, 3) := by decide +kernel
theorem dX10_lost_31 : decode cX10_lost 31 = .ok (.iconst (-1), 1) := by decide +kernel
theorem dX10_lost_32 : decode cX10_lost 32 = .ok (.ireturn, 1) := by decide +kernel
theorem dX10_crosses_0 : decode cX10_crosses 0 = .ok (.aload_n 0, 1) := by decide +kernel
theorem dX10_crosses_1 : decode cX10_crosses 1 = .ok (.getfield 28, 3) := by decide +kernel
theorem dX10_crosses_4 : decode cX10_crosses 4 = .ok (.iload_n 1, 1) := by decide +kernel
theorem dX10_crosses_5 : decode cX10_crosses 5 = .ok (.invokevirtual 113, 3) := by decide +kernel
theorem dX10_crosses_8 : decode cX10_crosses 8 = .ok (.ifCond .eq 19, 3) := by decide +kernel
theorem dX10_crosses_11 : decode cX10_crosses 11 = .ok (.aload_n 0, 1) := by decide +kernel
theorem dX10_crosses_12 : decode cX10_crosses 12 = .ok (.getfield 28, 3) := by decide +kernel
theorem dX10_crosses_15 : decode cX10_crosses 15 = .ok (.iload_n 2, 1) := by decide +kernel
theorem dX10_crosses_16 : decode cX10_crosses 16 = .ok (.invokevirtual 113, 3) := by decide +kernel
theorem dX10_crosses_19 : decode cX10_crosses 19 = .ok (.ifCond .eq 8, 3) := by decide +kernel
theorem dX10_crosses_22 : decode cX10_crosses 22 = .ok (.iload_n 1, 1) := by decide +kernel
theorem dX10_crosses_23 : decode cX10_crosses 23 = .ok (.iload_n 2, 1) := by decide +kernel
theorem dX10_crosses_24 : decode cX10_crosses 24 = .ok (.if_icmp .ne 5, 3) := by decide +kernel
theorem dX10_crosses_27 : decode cX10_crosses 27 = .ok (.iconst (-1), 1) := by decide +kernel
theorem dX10_crosses_28 : decode cX10_crosses 28 = .ok (.ireturn, 1) := by decide +kernel
theorem dX10_crosses_29 : decode cX10_crosses 29 = .ok (.aload_n 0, 1) := by decide +kernel
theorem dX10_crosses_30 : decode cX10_crosses 30 = .ok (.getfield 47, 3) := by decide +kernel
theorem dX10_crosses_33 : decode cX10_crosses 33 = .ok (.iload_n 1, 1) := by decide +kernel
theorem dX10_crosses_34 : decode cX10_crosses 34 = .ok (.iload_n 2, 1) := by decide +kernel
theorem dX10_crosses_35 : decode cX10_crosses 35 = .ok (.invokevirtual 195, 3) := by decide +kernel
theorem dX10_crosses_38 : decode cX10_crosses 38 = .ok (.ireturn, 1) := by decide +kernel
theorem dX10_sized_0 : decode cX10_sized 0 = .ok (.aload_n 0, 1) := by decide +kernel
theorem dX10_sized_1 : decode cX10_sized 1 = .ok (.getfield 28, 3) := by decide +kernel
theorem dX10_sized_4 : decode cX10_sized 4 = .ok (.iload_n 1, 1) := by decide +kernel
theorem dX10_sized_5 : decode cX10_sized 5 = .ok (.invokevirtual 113, 3) := by decide +kernel
theorem dX10_sized_8 : decode cX10_sized 8 = .ok (.ifCond .eq 17, 3) := by decide +kernel
theorem dX10_sized_11 : decode cX10_sized 11 = .ok (.aload_n 0, 1) := by decide +kernel
theorem dX10_sized_12 : decode cX10_sized 12 = .ok (.getfield 47, 3) := by decide +kernel
theorem dX10_sized_15 : decode cX10_sized 15 = .ok (.iload_n 1, 1) := by decide +kernel
theorem dX10_sized_16 : decode cX10_sized 16 = .ok (.iconst 2, 1) := by decide +kernel
theorem dX10_sized_17 : decode cX10_sized 17 = .ok (.bipush 9, 2) := by decide +kernel
theorem dX10_sized_19 : decode cX10_sized 19 = .ok (.invokevirtual 198, 3) := by decide +kernel
theorem dX10_sized_22 : decode cX10_sized 22 = .ok (.goto 4, 3) := by decide +kernel
theorem dX10_sized_25 : decode cX10_sized 25 = .ok (.iconst (-1), 1) := by decide +kernel
theorem dX10_sized_26 : decode cX10_sized 26 = .ok (.ireturn, 1) := by decide +kernel
theorem dX10_aimed_0 : decode cX10_aimed 0 = .ok (.aload_n 0, 1) := by decide +kernel
theorem dX10_aimed_1 : decode cX10_aimed 1 = .ok (.getfield 28, 3) := by decide +kernel
theorem dX10_aimed_4 : decode cX10_aimed 4 = .ok (.iload_n 1, 1) := by decide +kernel
theorem dX10_aimed_5 : decode cX10_aimed 5 = .ok (.invokevirtual 113, 3) := by decide +kernel
theorem dX10_aimed_8 : decode cX10_aimed 8 = .ok (.ifCond .eq 17, 3) := by decide +kernel
theorem dX10_aimed_11 : decode cX10_aimed 11 = .ok (.aload_n 0, 1) := by decide +kernel
theorem dX10_aimed_12 : decode cX10_aimed 12 = .ok (.getfield 47, 3) := by decide +kernel
theorem dX10_aimed_15 : decode cX10_aimed 15 = .ok (.iload_n 1, 1) := by decide +kernel
theorem dX10_aimed_16 : decode cX10_aimed 16 = .ok (.iconst 1, 1) := by decide +kernel
theorem dX10_aimed_17 : decode cX10_aimed 17 = .ok (.bipush 40, 2) := by decide +kernel
theorem dX10_aimed_19 : decode cX10_aimed 19 = .ok (.invokevirtual 198, 3) := by decide +kernel
theorem dX10_aimed_22 : decode cX10_aimed 22 = .ok (.goto 4, 3) := by decide +kernel
theorem dX10_aimed_25 : decode cX10_aimed 25 = .ok (.iconst (-1), 1) := by decide +kernel
theorem dX10_aimed_26 : decode cX10_aimed 26 = .ok (.ireturn, 1) := by decide +kernel
theorem dX10_stepFor_0 : decode cX10_stepFor 0 = .ok (.aload_n 0, 1) := by decide +kernel
theorem dX10_stepFor_1 : decode cX10_stepFor 1 = .ok (.getfield 28, 3) := by decide +kernel
theorem dX10_stepFor_4 : decode cX10_stepFor 4 = .ok (.iload_n 1, 1) := by decide +kernel
theorem dX10_stepFor_5 : decode cX10_stepFor 5 = .ok (.invokevirtual 113, 3) := by decide +kernel
theorem dX10_stepFor_8 : decode cX10_stepFor 8 = .ok (.ifCond .eq 14, 3) := by decide +kernel
theorem dX10_stepFor_11 : decode cX10_stepFor 11 = .ok (.aload_n 0, 1) := by decide +kernel
theorem dX10_stepFor_12 : decode cX10_stepFor 12 = .ok (.getfield 47, 3) := by decide +kernel
theorem dX10_stepFor_15 : decode cX10_stepFor 15 = .ok (.iload_n 1, 1) := by decide +kernel
theorem dX10_stepFor_16 : decode cX10_stepFor 16 = .ok (.invokevirtual 201, 3) := by decide +kernel
theorem dX10_stepFor_19 : decode cX10_stepFor 19 = .ok (.goto 4, 3) := by decide +kernel
theorem dX10_stepFor_22 : decode cX10_stepFor 22 = .ok (.iconst (-1), 1) := by decide +kernel
theorem dX10_stepFor_23 : decode cX10_stepFor 23 = .ok (.ireturn, 1) := by decide +kernel
theorem dX10_who_0 : decode cX10_who 0 = .ok (.aload_n 0, 1) := by decide +kernel
theorem dX10_who_1 : decode cX10_who 1 = .ok (.getfield 47, 3) := by decide +kernel
theorem dX10_who_4 : decode cX10_who 4 = .ok (.invokevirtual 204, 3) := by decide +kernel
theorem dX10_who_7 : decode cX10_who 7 = .ok (.ireturn, 1) := by decide +kernel
theorem dX10_best_0 : decode cX10_best 0 = .ok (.iload_n 1, 1) := by decide +kernel
theorem dX10_best_1 : decode cX10_best 1 = .ok (.iconst 0, 1) := by decide +kernel
theorem dX10_best_2 : decode cX10_best 2 = .ok (.iconst 4, 1) := by decide +kernel
theorem dX10_best_3 : decode cX10_best 3 = .ok (.invokestatic 135, 3) := by decide +kernel
theorem dX10_best_6 : decode cX10_best 6 = .ok (.ifCond .ne 5, 3) := by decide +kernel
theorem dX10_best_9 : decode cX10_best 9 = .ok (.iconst (-1), 1) := by decide +kernel
theorem dX10_best_10 : decode cX10_best 10 = .ok (.ireturn, 1) := by decide +kernel
theorem dX10_best_11 : decode cX10_best 11 = .ok (.aload_n 0, 1) := by decide +kernel
theorem dX10_best_12 : decode cX10_best 12 = .ok (.getfield 54, 3) := by decide +kernel
theorem dX10_best_15 : decode cX10_best 15 = .ok (.iload_n 1, 1) := by decide +kernel
theorem dX10_best_16 : decode cX10_best 16 = .ok (.invokevirtual 208, 3) := by decide +kernel
theorem dX10_best_19 : decode cX10_best 19 = .ok (.aload_n 0, 1) := by decide +kernel
theorem dX10_best_20 : decode cX10_best 20 = .ok (.getfield 54, 3) := by decide +kernel
theorem dX10_best_23 : decode cX10_best 23 = .ok (.getfield 212, 3) := by decide +kernel
theorem dX10_best_26 : decode cX10_best 26 = .ok (.ireturn, 1) := by decide +kernel
theorem dX10_ith_0 : decode cX10_ith 0 = .ok (.iload_n 1, 1) := by decide +kernel
theorem dX10_ith_1 : decode cX10_ith 1 = .ok (.iconst 0, 1) := by decide +kernel
theorem dX10_ith_2 : decode cX10_ith 2 = .ok (.iconst 4, 1) := by decide +kernel
theorem dX10_ith_3 : decode cX10_ith 3 = .ok (.invokestatic 135, 3) := by decide +kernel
theorem dX10_ith_6 : decode cX10_ith 6 = .ok (.ifCond .eq 12, 3) := by decide +kernel
theorem dX10_ith_9 : decode cX10_ith 9 = .ok (.iload_n 2, 1) := by decide +kernel
theorem dX10_ith_10 : decode cX10_ith 10 = .ok (.iconst 0, 1) := by decide +kernel
theorem dX10_ith_11 : decode cX10_ith 11 = .ok (.iconst 3, 1) := by decide +kernel
theorem dX10_ith_12 : decode cX10_ith 12 = .ok (.invokestatic 135, 3) := by decide +kernel
theorem dX10_ith_15 : decode cX10_ith 15 = .ok (.ifCond .ne 5, 3) := by decide +kernel
theorem dX10_ith_18 : decode cX10_ith 18 = .ok (.iconst (-1), 1) := by decide +kernel
theorem dX10_ith_19 : decode cX10_ith 19 = .ok (.ireturn, 1) := by decide +kernel
theorem dX10_ith_20 : decode cX10_ith 20 = .ok (.aload_n 0, 1) := by decide +kernel
theorem dX10_ith_21 : decode cX10_ith 21 = .ok (.getfield 54, 3) := by decide +kernel
theorem dX10_ith_24 : decode cX10_ith 24 = .ok (.iload_n 1, 1) := by decide +kernel
theorem dX10_ith_25 : decode cX10_ith 25 = .ok (.invokevirtual 208, 3) := by decide +kernel
theorem dX10_ith_28 : decode cX10_ith 28 = .ok (.iload_n 2, 1) := by decide +kernel
theorem dX10_ith_29 : decode cX10_ith 29 = .ok (.aload_n 0, 1) := by decide +kernel
theorem dX10_ith_30 : decode cX10_ith 30 = .ok (.getfield 54, 3) := by decide +kernel
theorem dX10_ith_33 : decode cX10_ith 33 = .ok (.getfield 215, 3) := by decide +kernel
theorem dX10_ith_36 : decode cX10_ith 36 = .ok (.if_icmp .ge 15, 3) := by decide +kernel
theorem dX10_ith_39 : decode cX10_ith 39 = .ok (.aload_n 0, 1) := by decide +kernel
theorem dX10_ith_40 : decode cX10_ith 40 = .ok (.getfield 54, 3) := by decide +kernel
theorem dX10_ith_43 : decode cX10_ith 43 = .ok (.getfield 216, 3) := by decide +kernel
theorem dX10_ith_46 : decode cX10_ith 46 = .ok (.iload_n 2, 1) := by decide +kernel
theorem dX10_ith_47 : decode cX10_ith 47 = .ok (.iaload, 1) := by decide +kernel
theorem dX10_ith_48 : decode cX10_ith 48 = .ok (.goto 5, 3) := by decide +kernel
theorem dX10_ith_51 : decode cX10_ith 51 = .ok (.bipush (-3), 2) := by decide +kernel
theorem dX10_ith_53 : decode cX10_ith 53 = .ok (.ireturn, 1) := by decide +kernel
theorem dX10_ways_0 : decode cX10_ways 0 = .ok (.iload_n 1, 1) := by decide +kernel
theorem dX10_ways_1 : decode cX10_ways 1 = .ok (.iconst 0, 1) := by decide +kernel
theorem dX10_ways_2 : decode cX10_ways 2 = .ok (.iconst 4, 1) := by decide +kernel
theorem dX10_ways_3 : decode cX10_ways 3 = .ok (.invokestatic 135, 3) := by decide +kernel
theorem dX10_ways_6 : decode cX10_ways 6 = .ok (.ifCond .ne 5, 3) := by decide +kernel
theorem dX10_ways_9 : decode cX10_ways 9 = .ok (.iconst (-1), 1) := by decide +kernel
theorem dX10_ways_10 : decode cX10_ways 10 = .ok (.ireturn, 1) := by decide +kernel
theorem dX10_ways_11 : decode cX10_ways 11 = .ok (.aload_n 0, 1) := by decide +kernel
theorem dX10_ways_12 : decode cX10_ways 12 = .ok (.getfield 54, 3) := by decide +kernel
theorem dX10_ways_15 : decode cX10_ways 15 = .ok (.iload_n 1, 1) := by decide +kernel
theorem dX10_ways_16 : decode cX10_ways 16 = .ok (.invokevirtual 208, 3) := by decide +kernel
theorem dX10_ways_19 : decode cX10_ways 19 = .ok (.aload_n 0, 1) := by decide +kernel
theorem dX10_ways_20 : decode cX10_ways 20 = .ok (.getfield 54, 3) := by decide +kernel
theorem dX10_ways_23 : decode cX10_ways 23 = .ok (.getfield 219, 3) := by decide +kernel
theorem dX10_ways_26 : decode cX10_ways 26 = .ok (.ireturn, 1) := by decide +kernel
theorem dX10_game_0 : decode cX10_game 0 = .ok (.iload_n 1, 1) := by decide +kernel
theorem dX10_game_1 : decode cX10_game 1 = .ok (.iconst 1, 1) := by decide +kernel
theorem dX10_game_2 : decode cX10_game 2 = .ok (.iconst 4, 1) := by decide +kernel
theorem dX10_game_3 : decode cX10_game 3 = .ok (.invokestatic 135, 3) := by decide +kernel
theorem dX10_game_6 : decode cX10_game 6 = .ok (.ifCond .eq 14, 3) := by decide +kernel
theorem dX10_game_9 : decode cX10_game 9 = .ok (.aload_n 0, 1) := by decide +kernel
theorem dX10_game_10 : decode cX10_game 10 = .ok (.getfield 54, 3) := by decide +kernel
theorem dX10_game_13 : decode cX10_game 13 = .ok (.iload_n 1, 1) := by decide +kernel
theorem dX10_game_14 : decode cX10_game 14 = .ok (.invokevirtual 222, 3) := by decide +kernel
theorem dX10_game_17 : decode cX10_game 17 = .ok (.goto 4, 3) := by decide +kernel
theorem dX10_game_20 : decode cX10_game 20 = .ok (.iconst (-1), 1) := by decide +kernel
theorem dX10_game_21 : decode cX10_game 21 = .ok (.ireturn, 1) := by decide +kernel
theorem dX10_play_0 : decode cX10_play 0 = .ok (.iload_n 1, 1) := by decide +kernel
theorem dX10_play_1 : decode cX10_play 1 = .ok (.iconst 1, 1) := by decide +kernel
theorem dX10_play_2 : decode cX10_play 2 = .ok (.iconst 4, 1) := by decide +kernel
theorem dX10_play_3 : decode cX10_play 3 = .ok (.invokestatic 135, 3) := by decide +kernel
theorem dX10_play_6 : decode cX10_play 6 = .ok (.ifCond .ne 5, 3) := by decide +kernel
theorem dX10_play_9 : decode cX10_play 9 = .ok (.iconst (-1), 1) := by decide +kernel
theorem dX10_play_10 : decode cX10_play 10 = .ok (.ireturn, 1) := by decide +kernel
theorem dX10_play_11 : decode cX10_play 11 = .ok (.aload_n 0, 1) := by decide +kernel
theorem dX10_play_12 : decode cX10_play 12 = .ok (.getfield 28, 3) := by decide +kernel
theorem dX10_play_15 : decode cX10_play 15 = .ok (.invokevirtual 124, 3) := by decide +kernel
theorem dX10_play_18 : decode cX10_play 18 = .ok (.ifCond .eq 6, 3) := by decide +kernel
theorem dX10_play_21 : decode cX10_play 21 = .ok (.bipush (-3), 2) := by decide +kernel
theorem dX10_play_23 : decode cX10_play 23 = .ok (.ireturn, 1) := by decide +kernel
theorem dX10_play_24 : decode cX10_play 24 = .ok (.aload_n 0, 1) := by decide +kernel
theorem dX10_play_25 : decode cX10_play 25 = .ok (.getfield 54, 3) := by decide +kernel
theorem dX10_play_28 : decode cX10_play 28 = .ok (.iload_n 1, 1) := by decide +kernel
theorem dX10_play_29 : decode cX10_play 29 = .ok (.invokevirtual 222, 3) := by decide +kernel
theorem dX10_play_32 : decode cX10_play 32 = .ok (.pop, 1) := by decide +kernel
theorem dX10_play_33 : decode cX10_play 33 = .ok (.aload_n 0, 1) := by decide +kernel
theorem dX10_play_34 : decode cX10_play 34 = .ok (.getfield 54, 3) := by decide +kernel
theorem dX10_play_37 : decode cX10_play 37 = .ok (.getfield 225, 3) := by decide +kernel
theorem dX10_play_40 : decode cX10_play 40 = .ok (.ireturn, 1) := by decide +kernel
theorem dX10_report_0 : decode cX10_report 0 = .ok (.iload_n 1, 1) := by decide +kernel
theorem dX10_report_1 : decode cX10_report 1 = .ok (.iconst 0, 1) := by decide +kernel
theorem dX10_report_2 : decode cX10_report 2 = .ok (.bipush 15, 2) := by decide +kernel
theorem dX10_report_4 : decode cX10_report 4 = .ok (.invokestatic 135, 3) := by decide +kernel
theorem dX10_report_7 : decode cX10_report 7 = .ok (.ifCond .eq 13, 3) := by decide +kernel
theorem dX10_report_10 : decode cX10_report 10 = .ok (.iload 4, 2) := by decide +kernel
theorem dX10_report_12 : decode cX10_report 12 = .ok (.iconst 0, 1) := by decide +kernel
theorem dX10_report_13 : decode cX10_report 13 = .ok (.iconst 2, 1) := by decide +kernel
theorem dX10_report_14 : decode cX10_report 14 = .ok (.invokestatic 135, 3) := by decide +kernel
theorem dX10_report_17 : decode cX10_report 17 = .ok (.ifCond .ne 5, 3) := by decide +kernel
theorem dX10_report_20 : decode cX10_report 20 = .ok (.iconst (-1), 1) := by decide +kernel
theorem dX10_report_21 : decode cX10_report 21 = .ok (.ireturn, 1) := by decide +kernel
theorem dX10_report_22 : decode cX10_report 22 = .ok (.iconst 1, 1) := by decide +kernel
theorem dX10_report_23 : decode cX10_report 23 = .ok (.iload_n 2, 1) := by decide +kernel
theorem dX10_report_24 : decode cX10_report 24 = .ok (.invokestatic 105, 3) := by decide +kernel
theorem dX10_report_27 : decode cX10_report 27 = .ok (.ifCond .eq 11, 3) := by decide +kernel
theorem dX10_report_30 : decode cX10_report 30 = .ok (.iconst 2, 1) := by decide +kernel
theorem dX10_report_31 : decode cX10_report 31 = .ok (.iload_n 3, 1) := by decide +kernel
theorem dX10_report_32 : decode cX10_report 32 = .ok (.invokestatic 105, 3) := by decide +kernel
theorem dX10_report_35 : decode cX10_report 35 = .ok (.ifCond .ne 5, 3) := by decide +kernel
theorem dX10_report_38 : decode cX10_report 38 = .ok (.iconst (-1), 1) := by decide +kernel
theorem dX10_report_39 : decode cX10_report 39 = .ok (.ireturn, 1) := by decide +kernel
theorem dX10_report_40 : decode cX10_report 40 = .ok (.aload_n 0, 1) := by decide +kernel
theorem dX10_report_41 : decode cX10_report 41 = .ok (.getfield 38, 3) := by decide +kernel
theorem dX10_report_44 : decode cX10_report 44 = .ok (.iload_n 1, 1) := by decide +kernel
theorem dX10_report_45 : decode cX10_report 45 = .ok (.iload_n 2, 1) := by decide +kernel
theorem dX10_report_46 : decode cX10_report 46 = .ok (.iload_n 3, 1) := by decide +kernel
theorem dX10_report_47 : decode cX10_report 47 = .ok (.iload 4, 2) := by decide +kernel
theorem dX10_report_49 : decode cX10_report 49 = .ok (.invokevirtual 228, 3) := by decide +kernel
theorem dX10_report_52 : decode cX10_report 52 = .ok (.ireturn, 1) := by decide +kernel
theorem dX10_forget_0 : decode cX10_forget 0 = .ok (.aload_n 0, 1) := by decide +kernel
theorem dX10_forget_1 : decode cX10_forget 1 = .ok (.getfield 38, 3) := by decide +kernel
theorem dX10_forget_4 : decode cX10_forget 4 = .ok (.getfield 231, 3) := by decide +kernel
theorem dX10_forget_7 : decode cX10_forget 7 = .ok (.istore_n 1, 1) := by decide +kernel
theorem dX10_forget_8 : decode cX10_forget 8 = .ok (.aload_n 0, 1) := by decide +kernel
theorem dX10_forget_9 : decode cX10_forget 9 = .ok (.getfield 38, 3) := by decide +kernel
theorem dX10_forget_12 : decode cX10_forget 12 = .ok (.iconst 0, 1) := by decide +kernel
theorem dX10_forget_13 : decode cX10_forget 13 = .ok (.putfield 231, 3) := by decide +kernel
theorem dX10_forget_16 : decode cX10_forget 16 = .ok (.iload_n 1, 1) := by decide +kernel
theorem dX10_forget_17 : decode cX10_forget 17 = .ok (.ireturn, 1) := by decide +kernel
theorem dX10_span_0 : decode cX10_span 0 = .ok (.iload_n 1, 1) := by decide +kernel
theorem dX10_span_1 : decode cX10_span 1 = .ok (.iconst 0, 1) := by decide +kernel
theorem dX10_span_2 : decode cX10_span 2 = .ok (.iconst 2, 1) := by decide +kernel
theorem dX10_span_3 : decode cX10_span 3 = .ok (.invokestatic 135, 3) := by decide +kernel
theorem dX10_span_6 : decode cX10_span 6 = .ok (.ifCond .ne 5, 3) := by decide +kernel
theorem dX10_span_9 : decode cX10_span 9 = .ok (.iconst (-1), 1) := by decide +kernel
theorem dX10_span_10 : decode cX10_span 10 = .ok (.ireturn, 1) := by decide +kernel
theorem dX10_span_11 : decode cX10_span 11 = .ok (.aload_n 0, 1) := by decide +kernel
theorem dX10_span_12 : decode cX10_span 12 = .ok (.getfield 38, 3) := by decide +kernel
theorem dX10_span_15 : decode cX10_span 15 = .ok (.bipush (-3), 2) := by decide +kernel
theorem dX10_span_17 : decode cX10_span 17 = .ok (.invokevirtual 232, 3) := by decide +kernel
theorem dX10_span_20 : decode cX10_span 20 = .ok (.istore_n 2, 1) := by decide +kernel
theorem dX10_span_21 : decode cX10_span 21 = .ok (.iload_n 1, 1) := by decide +kernel
theorem dX10_span_22 : decode cX10_span 22 = .ok (.ifCond .ne 5, 3) := by decide +kernel
theorem dX10_span_25 : decode cX10_span 25 = .ok (.iload_n 2, 1) := by decide +kernel
theorem dX10_span_26 : decode cX10_span 26 = .ok (.ireturn, 1) := by decide +kernel
theorem dX10_span_27 : decode cX10_span 27 = .ok (.iload_n 2, 1) := by decide +kernel
theorem dX10_span_28 : decode cX10_span 28 = .ok (.ifCond .ne 6, 3) := by decide +kernel
theorem dX10_span_31 : decode cX10_span 31 = .ok (.bipush (-3), 2) := by decide +kernel
theorem dX10_span_33 : decode cX10_span 33 = .ok (.ireturn, 1) := by decide +kernel
theorem dX10_span_34 : decode cX10_span 34 = .ok (.iload_n 1, 1) := by decide +kernel
theorem dX10_span_35 : decode cX10_span 35 = .ok (.iconst 1, 1) := by decide +kernel
theorem dX10_span_36 : decode cX10_span 36 = .ok (.if_icmp .ne 13, 3) := by decide +kernel
theorem dX10_span_39 : decode cX10_span 39 = .ok (.aload_n 0, 1) := by decide +kernel
theorem dX10_span_40 : decode cX10_span 40 = .ok (.getfield 38, 3) := by decide +kernel
theorem dX10_span_43 : decode cX10_span 43 = .ok (.getfield 235, 3) := by decide +kernel
theorem dX10_span_46 : decode cX10_span 46 = .ok (.goto 12, 3) := by decide +kernel
theorem dX10_span_49 : decode cX10_span 49 = .ok (.aload_n 0, 1) := by decide +kernel
theorem dX10_span_50 : decode cX10_span 50 = .ok (.getfield 38, 3) := by decide +kernel
theorem dX10_span_53 : decode cX10_span 53 = .ok (.getfield 238, 3) := by decide +kernel
theorem dX10_span_56 : decode cX10_span 56 = .ok (.iconst 2, 1) := by decide +kernel
theorem dX10_span_57 : decode cX10_span 57 = .ok (.iadd, 1) := by decide +kernel
theorem dX10_span_58 : decode cX10_span 58 = .ok (.ireturn, 1) := by decide +kernel
theorem dX10_liar_0 : decode cX10_liar 0 = .ok (.aload_n 0, 1) := by decide +kernel
theorem dX10_liar_1 : decode cX10_liar 1 = .ok (.getfield 38, 3) := by decide +kernel
theorem dX10_liar_4 : decode cX10_liar 4 = .ok (.invokevirtual 241, 3) := by decide +kernel
theorem dX10_liar_7 : decode cX10_liar 7 = .ok (.ireturn, 1) := by decide +kernel
theorem dX10_seed_0 : decode cX10_seed 0 = .ok (.aload_n 0, 1) := by decide +kernel
theorem dX10_seed_1 : decode cX10_seed 1 = .ok (.getfield 28, 3) := by decide +kernel
theorem dX10_seed_4 : decode cX10_seed 4 = .ok (.getfield 244, 3) := by decide +kernel
theorem dX10_seed_7 : decode cX10_seed 7 = .ok (.istore_n 2, 1) := by decide +kernel
theorem dX10_seed_8 : decode cX10_seed 8 = .ok (.aload_n 0, 1) := by decide +kernel
theorem dX10_seed_9 : decode cX10_seed 9 = .ok (.getfield 28, 3) := by decide +kernel
theorem dX10_seed_12 : decode cX10_seed 12 = .ok (.iload_n 1, 1) := by decide +kernel
theorem dX10_seed_13 : decode cX10_seed 13 = .ok (.putfield 244, 3) := by decide +kernel
theorem dX10_seed_16 : decode cX10_seed 16 = .ok (.iload_n 2, 1) := by decide +kernel
theorem dX10_seed_17 : decode cX10_seed 17 = .ok (.ireturn, 1) := by decide +kernel
theorem dX10_lot_0 : decode cX10_lot 0 = .ok (.aload_n 0, 1) := by decide +kernel
theorem dX10_lot_1 : decode cX10_lot 1 = .ok (.getfield 28, 3) := by decide +kernel
theorem dX10_lot_4 : decode cX10_lot 4 = .ok (.invokevirtual 124, 3) := by decide +kernel
theorem dX10_lot_7 : decode cX10_lot 7 = .ok (.ifCond .eq 8, 3) := by decide +kernel
theorem dX10_lot_10 : decode cX10_lot 10 = .ok (.bipush (-4), 2) := by decide +kernel
theorem dX10_lot_12 : decode cX10_lot 12 = .ok (.goto 10, 3) := by decide +kernel
theorem dX10_lot_15 : decode cX10_lot 15 = .ok (.aload_n 0, 1) := by decide +kernel
theorem dX10_lot_16 : decode cX10_lot 16 = .ok (.getfield 28, 3) := by decide +kernel
theorem dX10_lot_19 : decode cX10_lot 19 = .ok (.invokevirtual 247, 3) := by decide +kernel
theorem dX10_lot_22 : decode cX10_lot 22 = .ok (.ireturn, 1) := by decide +kernel
theorem dX10_often_0 : decode cX10_often 0 = .ok (.iload_n 1, 1) := by decide +kernel
theorem dX10_often_1 : decode cX10_often 1 = .ok (.iconst 1, 1) := by decide +kernel
theorem dX10_often_2 : decode cX10_often 2 = .ok (.bipush 40, 2) := by decide +kernel
theorem dX10_often_4 : decode cX10_often 4 = .ok (.invokestatic 135, 3) := by decide +kernel
theorem dX10_often_7 : decode cX10_often 7 = .ok (.ifCond .eq 14, 3) := by decide +kernel
theorem dX10_often_10 : decode cX10_often 10 = .ok (.iload_n 2, 1) := by decide +kernel
theorem dX10_often_11 : decode cX10_often 11 = .ok (.iconst 0, 1) := by decide +kernel
theorem dX10_often_12 : decode cX10_often 12 = .ok (.sipush 999, 3) := by decide +kernel
theorem dX10_often_15 : decode cX10_often 15 = .ok (.invokestatic 135, 3) := by decide +kernel
theorem dX10_often_18 : decode cX10_often 18 = .ok (.ifCond .ne 5, 3) := by decide +kernel
theorem dX10_often_21 : decode cX10_often 21 = .ok (.iconst (-1), 1) := by decide +kernel
theorem dX10_often_22 : decode cX10_often 22 = .ok (.ireturn, 1) := by decide +kernel
theorem dX10_often_23 : decode cX10_often 23 = .ok (.aload_n 0, 1) := by decide +kernel
theorem dX10_often_24 : decode cX10_often 24 = .ok (.getfield 47, 3) := by decide +kernel
theorem dX10_often_27 : decode cX10_often 27 = .ok (.iload_n 1, 1) := by decide +kernel
theorem dX10_often_28 : decode cX10_often 28 = .ok (.iload_n 2, 1) := by decide +kernel
theorem dX10_often_29 : decode cX10_often 29 = .ok (.invokevirtual 250, 3) := by decide +kernel
theorem dX10_often_32 : decode cX10_often 32 = .ok (.ireturn, 1) := by decide +kernel
theorem dX10_prove_0 : decode cX10_prove 0 = .ok (.iload_n 1, 1) := by decide +kernel
theorem dX10_prove_1 : decode cX10_prove 1 = .ok (.iconst 0, 1) := by decide +kernel
theorem dX10_prove_2 : decode cX10_prove 2 = .ok (.iconst 4, 1) := by decide +kernel
theorem dX10_prove_3 : decode cX10_prove 3 = .ok (.invokestatic 135, 3) := by decide +kernel
theorem dX10_prove_6 : decode cX10_prove 6 = .ok (.ifCond .ne 5, 3) := by decide +kernel
theorem dX10_prove_9 : decode cX10_prove 9 = .ok (.iconst (-1), 1) := by decide +kernel
theorem dX10_prove_10 : decode cX10_prove 10 = .ok (.ireturn, 1) := by decide +kernel
theorem dX10_prove_11 : decode cX10_prove 11 = .ok (.aload_n 0, 1) := by decide +kernel
theorem dX10_prove_12 : decode cX10_prove 12 = .ok (.getfield 54, 3) := by decide +kernel
theorem dX10_prove_15 : decode cX10_prove 15 = .ok (.iload_n 1, 1) := by decide +kernel
theorem dX10_prove_16 : decode cX10_prove 16 = .ok (.invokevirtual 208, 3) := by decide +kernel
theorem dX10_prove_19 : decode cX10_prove 19 = .ok (.aload_n 0, 1) := by decide +kernel
theorem dX10_prove_20 : decode cX10_prove 20 = .ok (.getfield 61, 3) := by decide +kernel
theorem dX10_prove_23 : decode cX10_prove 23 = .ok (.aload_n 0, 1) := by decide +kernel
theorem dX10_prove_24 : decode cX10_prove 24 = .ok (.getfield 54, 3) := by decide +kernel
theorem dX10_prove_27 : decode cX10_prove 27 = .ok (.getfield 216, 3) := by decide +kernel
theorem dX10_prove_30 : decode cX10_prove 30 = .ok (.aload_n 0, 1) := by decide +kernel
theorem dX10_prove_31 : decode cX10_prove 31 = .ok (.getfield 54, 3) := by decide +kernel
theorem dX10_prove_34 : decode cX10_prove 34 = .ok (.getfield 215, 3) := by decide +kernel
theorem dX10_prove_37 : decode cX10_prove 37 = .ok (.invokevirtual 253, 3) := by decide +kernel
theorem dX10_prove_40 : decode cX10_prove 40 = .ok (.aload_n 0, 1) := by decide +kernel
theorem dX10_prove_41 : decode cX10_prove 41 = .ok (.getfield 61, 3) := by decide +kernel
theorem dX10_prove_44 : decode cX10_prove 44 = .ok (.getfield 257, 3) := by decide +kernel
theorem dX10_prove_47 : decode cX10_prove 47 = .ok (.ireturn, 1) := by decide +kernel
theorem dX10_row_0 : decode cX10_row 0 = .ok (.aload_n 0, 1) := by decide +kernel
theorem dX10_row_1 : decode cX10_row 1 = .ok (.getfield 61, 3) := by decide +kernel
theorem dX10_row_4 : decode cX10_row 4 = .ok (.iload_n 1, 1) := by decide +kernel
theorem dX10_row_5 : decode cX10_row 5 = .ok (.iload_n 2, 1) := by decide +kernel
theorem dX10_row_6 : decode cX10_row 6 = .ok (.invokevirtual 258, 3) := by decide +kernel
theorem dX10_row_9 : decode cX10_row 9 = .ok (.ifCond .eq 17, 3) := by decide +kernel
theorem dX10_row_12 : decode cX10_row 12 = .ok (.aload_n 0, 1) := by decide +kernel
theorem dX10_row_13 : decode cX10_row 13 = .ok (.getfield 61, 3) := by decide +kernel
theorem dX10_row_16 : decode cX10_row 16 = .ok (.getfield 261, 3) := by decide +kernel
theorem dX10_row_19 : decode cX10_row 19 = .ok (.iload_n 1, 1) := by decide +kernel
theorem dX10_row_20 : decode cX10_row 20 = .ok (.aaload, 1) := by decide +kernel
theorem dX10_row_21 : decode cX10_row 21 = .ok (.iload_n 2, 1) := by decide +kernel
theorem dX10_row_22 : decode cX10_row 22 = .ok (.iaload, 1) := by decide +kernel
theorem dX10_row_23 : decode cX10_row 23 = .ok (.goto 5, 3) := by decide +kernel
theorem dX10_row_26 : decode cX10_row 26 = .ok (.bipush (-9), 2) := by decide +kernel
theorem dX10_row_28 : decode cX10_row 28 = .ok (.ireturn, 1) := by decide +kernel
theorem dX10_alterRow_0 : decode cX10_alterRow 0 = .ok (.aload_n 0, 1) := by decide +kernel
theorem dX10_alterRow_1 : decode cX10_alterRow 1 = .ok (.getfield 61, 3) := by decide +kernel
theorem dX10_alterRow_4 : decode cX10_alterRow 4 = .ok (.iload_n 1, 1) := by decide +kernel
theorem dX10_alterRow_5 : decode cX10_alterRow 5 = .ok (.iload_n 2, 1) := by decide +kernel
theorem dX10_alterRow_6 : decode cX10_alterRow 6 = .ok (.invokevirtual 258, 3) := by decide +kernel
theorem dX10_alterRow_9 : decode cX10_alterRow 9 = .ok (.ifCond .ne 6, 3) := by decide +kernel
theorem dX10_alterRow_12 : decode cX10_alterRow 12 = .ok (.bipush (-9), 2) := by decide +kernel
theorem dX10_alterRow_14 : decode cX10_alterRow 14 = .ok (.ireturn, 1) := by decide +kernel
theorem dX10_alterRow_15 : decode cX10_alterRow 15 = .ok (.aload_n 0, 1) := by decide +kernel
theorem dX10_alterRow_16 : decode cX10_alterRow 16 = .ok (.getfield 61, 3) := by decide +kernel
theorem dX10_alterRow_19 : decode cX10_alterRow 19 = .ok (.getfield 261, 3) := by decide +kernel
theorem dX10_alterRow_22 : decode cX10_alterRow 22 = .ok (.iload_n 1, 1) := by decide +kernel
theorem dX10_alterRow_23 : decode cX10_alterRow 23 = .ok (.aaload, 1) := by decide +kernel
theorem dX10_alterRow_24 : decode cX10_alterRow 24 = .ok (.iload_n 2, 1) := by decide +kernel
theorem dX10_alterRow_25 : decode cX10_alterRow 25 = .ok (.iaload, 1) := by decide +kernel
theorem dX10_alterRow_26 : decode cX10_alterRow 26 = .ok (.istore 4, 2) := by decide +kernel
theorem dX10_alterRow_28 : decode cX10_alterRow 28 = .ok (.aload_n 0, 1) := by decide +kernel
theorem dX10_alterRow_29 : decode cX10_alterRow 29 = .ok (.getfield 61, 3) := by decide +kernel
theorem dX10_alterRow_32 : decode cX10_alterRow 32 = .ok (.getfield 261, 3) := by decide +kernel
theorem dX10_alterRow_35 : decode cX10_alterRow 35 = .ok (.iload_n 1, 1) := by decide +kernel
theorem dX10_alterRow_36 : decode cX10_alterRow 36 = .ok (.aaload, 1) := by decide +kernel
theorem dX10_alterRow_37 : decode cX10_alterRow 37 = .ok (.iload_n 2, 1) := by decide +kernel
theorem dX10_alterRow_38 : decode cX10_alterRow 38 = .ok (.iload_n 3, 1) := by decide +kernel
theorem dX10_alterRow_39 : decode cX10_alterRow 39 = .ok (.iastore, 1) := by decide +kernel
theorem dX10_alterRow_40 : decode cX10_alterRow 40 = .ok (.iload 4, 2) := by decide +kernel
theorem dX10_alterRow_42 : decode cX10_alterRow 42 = .ok (.ireturn, 1) := by decide +kernel
theorem dX10_judge_0 : decode cX10_judge 0 = .ok (.aload_n 0, 1) := by decide +kernel
theorem dX10_judge_1 : decode cX10_judge 1 = .ok (.getfield 61, 3) := by decide +kernel
theorem dX10_judge_4 : decode cX10_judge 4 = .ok (.invokevirtual 265, 3) := by decide +kernel
theorem dX10_judge_7 : decode cX10_judge 7 = .ok (.ireturn, 1) := by decide +kernel
theorem dX10_sheet_0 : decode cX10_sheet 0 = .ok (.iload_n 1, 1) := by decide +kernel
theorem dX10_sheet_1 : decode cX10_sheet 1 = .ok (.invokestatic 268, 3) := by decide +kernel
theorem dX10_sheet_4 : decode cX10_sheet 4 = .ok (.ifCond .eq 12, 3) := by decide +kernel
theorem dX10_sheet_7 : decode cX10_sheet 7 = .ok (.iload_n 2, 1) := by decide +kernel
theorem dX10_sheet_8 : decode cX10_sheet 8 = .ok (.iconst (-1), 1) := by decide +kernel
theorem dX10_sheet_9 : decode cX10_sheet 9 = .ok (.iconst 4, 1) := by decide +kernel
theorem dX10_sheet_10 : decode cX10_sheet 10 = .ok (.invokestatic 135, 3) := by decide +kernel
theorem dX10_sheet_13 : decode cX10_sheet 13 = .ok (.ifCond .ne 5, 3) := by decide +kernel
theorem dX10_sheet_16 : decode cX10_sheet 16 = .ok (.iconst (-1), 1) := by decide +kernel
theorem dX10_sheet_17 : decode cX10_sheet 17 = .ok (.ireturn, 1) := by decide +kernel
theorem dX10_sheet_18 : decode cX10_sheet 18 = .ok (.iload_n 2, 1) := by decide +kernel
theorem dX10_sheet_19 : decode cX10_sheet 19 = .ok (.iconst (-1), 1) := by decide +kernel
theorem dX10_sheet_20 : decode cX10_sheet 20 = .ok (.if_icmp .ne 14, 3) := by decide +kernel
theorem dX10_sheet_23 : decode cX10_sheet 23 = .ok (.aload_n 0, 1) := by decide +kernel
theorem dX10_sheet_24 : decode cX10_sheet 24 = .ok (.getfield 68, 3) := by decide +kernel
theorem dX10_sheet_27 : decode cX10_sheet 27 = .ok (.iload_n 1, 1) := by decide +kernel
theorem dX10_sheet_28 : decode cX10_sheet 28 = .ok (.iload_n 2, 1) := by decide +kernel
theorem dX10_sheet_29 : decode cX10_sheet 29 = .ok (.iconst 0, 1) := by decide +kernel
theorem dX10_sheet_30 : decode cX10_sheet 30 = .ok (.invokevirtual 271, 3) := by decide +kernel
theorem dX10_sheet_33 : decode cX10_sheet 33 = .ok (.ireturn, 1) := by decide +kernel
theorem dX10_sheet_34 : decode cX10_sheet 34 = .ok (.iload_n 3, 1) := by decide +kernel
theorem dX10_sheet_35 : decode cX10_sheet 35 = .ok (.bipush 40, 2) := by decide +kernel
theorem dX10_sheet_37 : decode cX10_sheet 37 = .ok (.if_icmp .le 5, 3) := by decide +kernel
theorem dX10_sheet_40 : decode cX10_sheet 40 = .ok (.iconst (-1), 1) := by decide +kernel
theorem dX10_sheet_41 : decode cX10_sheet 41 = .ok (.ireturn, 1) := by decide +kernel
theorem dX10_sheet_42 : decode cX10_sheet 42 = .ok (.iload_n 3, 1) := by decide +kernel
theorem dX10_sheet_43 : decode cX10_sheet 43 = .ok (.ifCond .ge 8, 3) := by decide +kernel
theorem dX10_sheet_46 : decode cX10_sheet 46 = .ok (.bipush (-14), 2) := by decide +kernel
theorem dX10_sheet_48 : decode cX10_sheet 48 = .ok (.goto 13, 3) := by decide +kernel
theorem dX10_sheet_51 : decode cX10_sheet 51 = .ok (.aload_n 0, 1) := by decide +kernel
theorem dX10_sheet_52 : decode cX10_sheet 52 = .ok (.getfield 68, 3) := by decide +kernel
theorem dX10_sheet_55 : decode cX10_sheet 55 = .ok (.iload_n 1, 1) := by decide +kernel
theorem dX10_sheet_56 : decode cX10_sheet 56 = .ok (.iload_n 2, 1) := by decide +kernel
theorem dX10_sheet_57 : decode cX10_sheet 57 = .ok (.iload_n 3, 1) := by decide +kernel
theorem dX10_sheet_58 : decode cX10_sheet 58 = .ok (.invokevirtual 271, 3) := by decide +kernel
theorem dX10_sheet_61 : decode cX10_sheet 61 = .ok (.ireturn, 1) := by decide +kernel
theorem dX10_write_0 : decode cX10_write 0 = .ok (.iload_n 1, 1) := by decide +kernel
theorem dX10_write_1 : decode cX10_write 1 = .ok (.invokestatic 268, 3) := by decide +kernel
theorem dX10_write_4 : decode cX10_write 4 = .ok (.ifCond .ne 5, 3) := by decide +kernel
theorem dX10_write_7 : decode cX10_write 7 = .ok (.iconst (-1), 1) := by decide +kernel
theorem dX10_write_8 : decode cX10_write 8 = .ok (.ireturn, 1) := by decide +kernel
theorem dX10_write_9 : decode cX10_write 9 = .ok (.aload_n 0, 1) := by decide +kernel
theorem dX10_write_10 : decode cX10_write 10 = .ok (.getfield 68, 3) := by decide +kernel
theorem dX10_write_13 : decode cX10_write 13 = .ok (.iload_n 1, 1) := by decide +kernel
theorem dX10_write_14 : decode cX10_write 14 = .ok (.invokevirtual 274, 3) := by decide +kernel
theorem dX10_write_17 : decode cX10_write 17 = .ok (.ifCond .eq 6, 3) := by decide +kernel
theorem dX10_write_20 : decode cX10_write 20 = .ok (.bipush (-11), 2) := by decide +kernel
theorem dX10_write_22 : decode cX10_write 22 = .ok (.ireturn, 1) := by decide +kernel
theorem dX10_write_23 : decode cX10_write 23 = .ok (.aload_n 0, 1) := by decide +kernel
theorem dX10_write_24 : decode cX10_write 24 = .ok (.getfield 68, 3) := by decide +kernel
theorem dX10_write_27 : decode cX10_write 27 = .ok (.iload_n 1, 1) := by decide +kernel
theorem dX10_write_28 : decode cX10_write 28 = .ok (.iload_n 2, 1) := by decide +kernel
theorem dX10_write_29 : decode cX10_write 29 = .ok (.invokevirtual 277, 3) := by decide +kernel
theorem dX10_write_32 : decode cX10_write 32 = .ok (.ifCond .eq 16, 3) := by decide +kernel
theorem dX10_write_35 : decode cX10_write 35 = .ok (.aload_n 0, 1) := by decide +kernel
theorem dX10_write_36 : decode cX10_write 36 = .ok (.getfield 68, 3) := by decide +kernel
theorem dX10_write_39 : decode cX10_write 39 = .ok (.iload_n 1, 1) := by decide +kernel
theorem dX10_write_40 : decode cX10_write 40 = .ok (.iload_n 2, 1) := by decide +kernel
theorem dX10_write_41 : decode cX10_write 41 = .ok (.iload_n 3, 1) := by decide +kernel
theorem dX10_write_42 : decode cX10_write 42 = .ok (.invokevirtual 280, 3) := by decide +kernel
theorem dX10_write_45 : decode cX10_write 45 = .ok (.goto 5, 3) := by decide +kernel
theorem dX10_write_48 : decode cX10_write 48 = .ok (.bipush (-12), 2) := by decide +kernel
theorem dX10_write_50 : decode cX10_write 50 = .ok (.ireturn, 1) := by decide +kernel
theorem dX10_item_0 : decode cX10_item 0 = .ok (.iload_n 1, 1) := by decide +kernel
theorem dX10_item_1 : decode cX10_item 1 = .ok (.invokestatic 268, 3) := by decide +kernel
theorem dX10_item_4 : decode cX10_item 4 = .ok (.ifCond .eq 12, 3) := by decide +kernel
theorem dX10_item_7 : decode cX10_item 7 = .ok (.iload_n 2, 1) := by decide +kernel
theorem dX10_item_8 : decode cX10_item 8 = .ok (.iconst 0, 1) := by decide +kernel
theorem dX10_item_9 : decode cX10_item 9 = .ok (.iconst 4, 1) := by decide +kernel
theorem dX10_item_10 : decode cX10_item 10 = .ok (.invokestatic 135, 3) := by decide +kernel
theorem dX10_item_13 : decode cX10_item 13 = .ok (.ifCond .ne 5, 3) := by decide +kernel
theorem dX10_item_16 : decode cX10_item 16 = .ok (.iconst (-1), 1) := by decide +kernel
theorem dX10_item_17 : decode cX10_item 17 = .ok (.ireturn, 1) := by decide +kernel
theorem dX10_item_18 : decode cX10_item 18 = .ok (.aload_n 0, 1) := by decide +kernel
theorem dX10_item_19 : decode cX10_item 19 = .ok (.getfield 68, 3) := by decide +kernel
theorem dX10_item_22 : decode cX10_item 22 = .ok (.iload_n 1, 1) := by decide +kernel
theorem dX10_item_23 : decode cX10_item 23 = .ok (.iload_n 2, 1) := by decide +kernel
theorem dX10_item_24 : decode cX10_item 24 = .ok (.invokevirtual 283, 3) := by decide +kernel
theorem dX10_item_27 : decode cX10_item 27 = .ok (.istore 4, 2) := by decide +kernel
theorem dX10_item_29 : decode cX10_item 29 = .ok (.iload 4, 2) := by decide +kernel
theorem dX10_item_31 : decode cX10_item 31 = .ok (.ifCond .eq 6, 3) := by decide +kernel
theorem dX10_item_34 : decode cX10_item 34 = .ok (.iload 4, 2) := by decide +kernel
theorem dX10_item_36 : decode cX10_item 36 = .ok (.ireturn, 1) := by decide +kernel
theorem dX10_item_37 : decode cX10_item 37 = .ok (.aload_n 0, 1) := by decide +kernel
theorem dX10_item_38 : decode cX10_item 38 = .ok (.getfield 68, 3) := by decide +kernel
theorem dX10_item_41 : decode cX10_item 41 = .ok (.iload_n 1, 1) := by decide +kernel
theorem dX10_item_42 : decode cX10_item 42 = .ok (.iload_n 3, 1) := by decide +kernel
theorem dX10_item_43 : decode cX10_item 43 = .ok (.invokevirtual 277, 3) := by decide +kernel
theorem dX10_item_46 : decode cX10_item 46 = .ok (.ifCond .eq 17, 3) := by decide +kernel
theorem dX10_item_49 : decode cX10_item 49 = .ok (.aload_n 0, 1) := by decide +kernel
theorem dX10_item_50 : decode cX10_item 50 = .ok (.getfield 68, 3) := by decide +kernel
theorem dX10_item_53 : decode cX10_item 53 = .ok (.getfield 286, 3) := by decide +kernel
theorem dX10_item_56 : decode cX10_item 56 = .ok (.iload_n 1, 1) := by decide +kernel
theorem dX10_item_57 : decode cX10_item 57 = .ok (.aaload, 1) := by decide +kernel
theorem dX10_item_58 : decode cX10_item 58 = .ok (.iload_n 3, 1) := by decide +kernel
theorem dX10_item_59 : decode cX10_item 59 = .ok (.iaload, 1) := by decide +kernel
theorem dX10_item_60 : decode cX10_item 60 = .ok (.goto 5, 3) := by decide +kernel
theorem dX10_item_63 : decode cX10_item 63 = .ok (.bipush (-12), 2) := by decide +kernel
theorem dX10_item_65 : decode cX10_item 65 = .ok (.ireturn, 1) := by decide +kernel
theorem dX10_goAll_0 : decode cX10_goAll 0 = .ok (.iload_n 1, 1) := by decide +kernel
theorem dX10_goAll_1 : decode cX10_goAll 1 = .ok (.invokestatic 268, 3) := by decide +kernel
theorem dX10_goAll_4 : decode cX10_goAll 4 = .ok (.ifCond .eq 13, 3) := by decide +kernel
theorem dX10_goAll_7 : decode cX10_goAll 7 = .ok (.iload_n 3, 1) := by decide +kernel
theorem dX10_goAll_8 : decode cX10_goAll 8 = .ok (.iconst 0, 1) := by decide +kernel
theorem dX10_goAll_9 : decode cX10_goAll 9 = .ok (.bipush 20, 2) := by decide +kernel
theorem dX10_goAll_11 : decode cX10_goAll 11 = .ok (.invokestatic 135, 3) := by decide +kernel
theorem dX10_goAll_14 : decode cX10_goAll 14 = .ok (.ifCond .ne 5, 3) := by decide +kernel
theorem dX10_goAll_17 : decode cX10_goAll 17 = .ok (.iconst (-1), 1) := by decide +kernel
theorem dX10_goAll_18 : decode cX10_goAll 18 = .ok (.ireturn, 1) := by decide +kernel
theorem dX10_goAll_19 : decode cX10_goAll 19 = .ok (.aload_n 0, 1) := by decide +kernel
theorem dX10_goAll_20 : decode cX10_goAll 20 = .ok (.getfield 68, 3) := by decide +kernel
theorem dX10_goAll_23 : decode cX10_goAll 23 = .ok (.iload_n 1, 1) := by decide +kernel
theorem dX10_goAll_24 : decode cX10_goAll 24 = .ok (.iconst 0, 1) := by decide +kernel
theorem dX10_goAll_25 : decode cX10_goAll 25 = .ok (.invokevirtual 283, 3) := by decide +kernel
theorem dX10_goAll_28 : decode cX10_goAll 28 = .ok (.istore 4, 2) := by decide +kernel
theorem dX10_goAll_30 : decode cX10_goAll 30 = .ok (.iload 4, 2) := by decide +kernel
theorem dX10_goAll_32 : decode cX10_goAll 32 = .ok (.ifCond .eq 8, 3) := by decide +kernel
theorem dX10_goAll_35 : decode cX10_goAll 35 = .ok (.iload 4, 2) := by decide +kernel
theorem dX10_goAll_37 : decode cX10_goAll 37 = .ok (.goto 10, 3) := by decide +kernel
theorem dX10_goAll_40 : decode cX10_goAll 40 = .ok (.aload_n 0, 1) := by decide +kernel
theorem dX10_goAll_41 : decode cX10_goAll 41 = .ok (.iload_n 1, 1) := by decide +kernel
theorem dX10_goAll_42 : decode cX10_goAll 42 = .ok (.iload_n 2, 1) := by decide +kernel
theorem dX10_goAll_43 : decode cX10_goAll 43 = .ok (.iload_n 3, 1) := by decide +kernel
theorem dX10_goAll_44 : decode cX10_goAll 44 = .ok (.invokevirtual 289, 3) := by decide +kernel
theorem dX10_goAll_47 : decode cX10_goAll 47 = .ok (.ireturn, 1) := by decide +kernel
theorem dX10_wouldBe_0 : decode cX10_wouldBe 0 = .ok (.iload_n 1, 1) := by decide +kernel
theorem dX10_wouldBe_1 : decode cX10_wouldBe 1 = .ok (.invokestatic 268, 3) := by decide +kernel
theorem dX10_wouldBe_4 : decode cX10_wouldBe 4 = .ok (.ifCond .eq 13, 3) := by decide +kernel
theorem dX10_wouldBe_7 : decode cX10_wouldBe 7 = .ok (.iload_n 3, 1) := by decide +kernel
theorem dX10_wouldBe_8 : decode cX10_wouldBe 8 = .ok (.iconst 0, 1) := by decide +kernel
theorem dX10_wouldBe_9 : decode cX10_wouldBe 9 = .ok (.bipush 20, 2) := by decide +kernel
theorem dX10_wouldBe_11 : decode cX10_wouldBe 11 = .ok (.invokestatic 135, 3) := by decide +kernel
theorem dX10_wouldBe_14 : decode cX10_wouldBe 14 = .ok (.ifCond .ne 5, 3) := by decide +kernel
theorem dX10_wouldBe_17 : decode cX10_wouldBe 17 = .ok (.iconst (-1), 1) := by decide +kernel
theorem dX10_wouldBe_18 : decode cX10_wouldBe 18 = .ok (.ireturn, 1) := by decide +kernel
theorem dX10_wouldBe_19 : decode cX10_wouldBe 19 = .ok (.aload_n 0, 1) := by decide +kernel
theorem dX10_wouldBe_20 : decode cX10_wouldBe 20 = .ok (.getfield 68, 3) := by decide +kernel
theorem dX10_wouldBe_23 : decode cX10_wouldBe 23 = .ok (.iload_n 1, 1) := by decide +kernel
theorem dX10_wouldBe_24 : decode cX10_wouldBe 24 = .ok (.iconst 0, 1) := by decide +kernel
theorem dX10_wouldBe_25 : decode cX10_wouldBe 25 = .ok (.invokevirtual 283, 3) := by decide +kernel
theorem dX10_wouldBe_28 : decode cX10_wouldBe 28 = .ok (.istore 4, 2) := by decide +kernel
theorem dX10_wouldBe_30 : decode cX10_wouldBe 30 = .ok (.iload 4, 2) := by decide +kernel
theorem dX10_wouldBe_32 : decode cX10_wouldBe 32 = .ok (.ifCond .eq 8, 3) := by decide +kernel
theorem dX10_wouldBe_35 : decode cX10_wouldBe 35 = .ok (.iload 4, 2) := by decide +kernel
theorem dX10_wouldBe_37 : decode cX10_wouldBe 37 = .ok (.goto 10, 3) := by decide +kernel
theorem dX10_wouldBe_40 : decode cX10_wouldBe 40 = .ok (.aload_n 0, 1) := by decide +kernel
theorem dX10_wouldBe_41 : decode cX10_wouldBe 41 = .ok (.iload_n 1, 1) := by decide +kernel
theorem dX10_wouldBe_42 : decode cX10_wouldBe 42 = .ok (.iload_n 2, 1) := by decide +kernel
theorem dX10_wouldBe_43 : decode cX10_wouldBe 43 = .ok (.iload_n 3, 1) := by decide +kernel
theorem dX10_wouldBe_44 : decode cX10_wouldBe 44 = .ok (.invokevirtual 292, 3) := by decide +kernel
theorem dX10_wouldBe_47 : decode cX10_wouldBe 47 = .ok (.ireturn, 1) := by decide +kernel
theorem dX10_shelf_0 : decode cX10_shelf 0 = .ok (.iload_n 1, 1) := by decide +kernel
theorem dX10_shelf_1 : decode cX10_shelf 1 = .ok (.invokestatic 295, 3) := by decide +kernel
theorem dX10_shelf_4 : decode cX10_shelf 4 = .ok (.ifCond .ne 5, 3) := by decide +kernel
theorem dX10_shelf_7 : decode cX10_shelf 7 = .ok (.iconst (-1), 1) := by decide +kernel
theorem dX10_shelf_8 : decode cX10_shelf 8 = .ok (.ireturn, 1) := by decide +kernel
theorem dX10_shelf_9 : decode cX10_shelf 9 = .ok (.iload_n 2, 1) := by decide +kernel
theorem dX10_shelf_10 : decode cX10_shelf 10 = .ok (.tableswitch 81 0 2 #[26, 51, 72], 26) := by decide +kernel
theorem dX10_shelf_36 : decode cX10_shelf 36 = .ok (.aload_n 0, 1) := by decide +kernel
theorem dX10_shelf_37 : decode cX10_shelf 37 = .ok (.getfield 28, 3) := by decide +kernel
theorem dX10_shelf_40 : decode cX10_shelf 40 = .ok (.iload_n 3, 1) := by decide +kernel
theorem dX10_shelf_41 : decode cX10_shelf 41 = .ok (.invokevirtual 113, 3) := by decide +kernel
theorem dX10_shelf_44 : decode cX10_shelf 44 = .ok (.ifCond .eq 15, 3) := by decide +kernel
theorem dX10_shelf_47 : decode cX10_shelf 47 = .ok (.aload_n 0, 1) := by decide +kernel
theorem dX10_shelf_48 : decode cX10_shelf 48 = .ok (.getfield 77, 3) := by decide +kernel
theorem dX10_shelf_51 : decode cX10_shelf 51 = .ok (.iload_n 1, 1) := by decide +kernel
theorem dX10_shelf_52 : decode cX10_shelf 52 = .ok (.iload_n 3, 1) := by decide +kernel
theorem dX10_shelf_53 : decode cX10_shelf 53 = .ok (.invokevirtual 298, 3) := by decide +kernel
theorem dX10_shelf_56 : decode cX10_shelf 56 = .ok (.goto 4, 3) := by decide +kernel
theorem dX10_shelf_59 : decode cX10_shelf 59 = .ok (.iconst (-1), 1) := by decide +kernel
theorem dX10_shelf_60 : decode cX10_shelf 60 = .ok (.ireturn, 1) := by decide +kernel
theorem dX10_shelf_61 : decode cX10_shelf 61 = .ok (.iload_n 3, 1) := by decide +kernel
theorem dX10_shelf_62 : decode cX10_shelf 62 = .ok (.invokestatic 268, 3) := by decide +kernel
theorem dX10_shelf_65 : decode cX10_shelf 65 = .ok (.ifCond .eq 15, 3) := by decide +kernel
theorem dX10_shelf_68 : decode cX10_shelf 68 = .ok (.aload_n 0, 1) := by decide +kernel
theorem dX10_shelf_69 : decode cX10_shelf 69 = .ok (.getfield 77, 3) := by decide +kernel
theorem dX10_shelf_72 : decode cX10_shelf 72 = .ok (.iload_n 1, 1) := by decide +kernel
theorem dX10_shelf_73 : decode cX10_shelf 73 = .ok (.iload_n 3, 1) := by decide +kernel
theorem dX10_shelf_74 : decode cX10_shelf 74 = .ok (.invokevirtual 301, 3) := by decide +kernel
theorem dX10_shelf_77 : decode cX10_shelf 77 = .ok (.goto 4, 3) := by decide +kernel
theorem dX10_shelf_80 : decode cX10_shelf 80 = .ok (.iconst (-1), 1) := by decide +kernel
theorem dX10_shelf_81 : decode cX10_shelf 81 = .ok (.ireturn, 1) := by decide +kernel
theorem dX10_shelf_82 : decode cX10_shelf 82 = .ok (.aload_n 0, 1) := by decide +kernel
theorem dX10_shelf_83 : decode cX10_shelf 83 = .ok (.getfield 77, 3) := by decide +kernel
theorem dX10_shelf_86 : decode cX10_shelf 86 = .ok (.iload_n 1, 1) := by decide +kernel
theorem dX10_shelf_87 : decode cX10_shelf 87 = .ok (.invokevirtual 304, 3) := by decide +kernel
theorem dX10_shelf_90 : decode cX10_shelf 90 = .ok (.ireturn, 1) := by decide +kernel
theorem dX10_shelf_91 : decode cX10_shelf 91 = .ok (.iconst (-1), 1) := by decide +kernel
theorem dX10_shelf_92 : decode cX10_shelf 92 = .ok (.ireturn, 1) := by decide +kernel
theorem dX10_taken_0 : decode cX10_taken 0 = .ok (.iload_n 1, 1) := by decide +kernel
theorem dX10_taken_1 : decode cX10_taken 1 = .ok (.invokestatic 295, 3) := by decide +kernel
theorem dX10_taken_4 : decode cX10_taken 4 = .ok (.ifCond .ne 5, 3) := by decide +kernel
theorem dX10_taken_7 : decode cX10_taken 7 = .ok (.iconst (-1), 1) := by decide +kernel
theorem dX10_taken_8 : decode cX10_taken 8 = .ok (.ireturn, 1) := by decide +kernel
theorem dX10_taken_9 : decode cX10_taken 9 = .ok (.iload_n 2, 1) := by decide +kernel
theorem dX10_taken_10 : decode cX10_taken 10 = .ok (.iconst 0, 1) := by decide +kernel
theorem dX10_taken_11 : decode cX10_taken 11 = .ok (.iconst 5, 1) := by decide +kernel
theorem dX10_taken_12 : decode cX10_taken 12 = .ok (.invokestatic 135, 3) := by decide +kernel
theorem dX10_taken_15 : decode cX10_taken 15 = .ok (.ifCond .eq 13, 3) := by decide +kernel
theorem dX10_taken_18 : decode cX10_taken 18 = .ok (.aload_n 0, 1) := by decide +kernel
theorem dX10_taken_19 : decode cX10_taken 19 = .ok (.getfield 77, 3) := by decide +kernel
theorem dX10_taken_22 : decode cX10_taken 22 = .ok (.iload_n 1, 1) := by decide +kernel
theorem dX10_taken_23 : decode cX10_taken 23 = .ok (.iload_n 2, 1) := by decide +kernel
theorem dX10_taken_24 : decode cX10_taken 24 = .ok (.invokevirtual 307, 3) := by decide +kernel
theorem dX10_taken_27 : decode cX10_taken 27 = .ok (.ireturn, 1) := by decide +kernel
theorem dX10_taken_28 : decode cX10_taken 28 = .ok (.iload_n 2, 1) := by decide +kernel
theorem dX10_taken_29 : decode cX10_taken 29 = .ok (.bipush 10, 2) := by decide +kernel
theorem dX10_taken_31 : decode cX10_taken 31 = .ok (.bipush 14, 2) := by decide +kernel
theorem dX10_taken_33 : decode cX10_taken 33 = .ok (.invokestatic 135, 3) := by decide +kernel
theorem dX10_taken_36 : decode cX10_taken 36 = .ok (.ifCond .eq 18, 3) := by decide +kernel
theorem dX10_taken_39 : decode cX10_taken 39 = .ok (.aload_n 0, 1) := by decide +kernel
theorem dX10_taken_40 : decode cX10_taken 40 = .ok (.getfield 77, 3) := by decide +kernel
theorem dX10_taken_43 : decode cX10_taken 43 = .ok (.iload_n 1, 1) := by decide +kernel
theorem dX10_taken_44 : decode cX10_taken 44 = .ok (.iload_n 2, 1) := by decide +kernel
theorem dX10_taken_45 : decode cX10_taken 45 = .ok (.bipush 10, 2) := by decide +kernel
theorem dX10_taken_47 : decode cX10_taken 47 = .ok (.isub, 1) := by decide +kernel
theorem dX10_taken_48 : decode cX10_taken 48 = .ok (.invokevirtual 310, 3) := by decide +kernel
theorem dX10_taken_51 : decode cX10_taken 51 = .ok (.goto 4, 3) := by decide +kernel
theorem dX10_taken_54 : decode cX10_taken 54 = .ok (.iconst (-1), 1) := by decide +kernel
theorem dX10_taken_55 : decode cX10_taken 55 = .ok (.ireturn, 1) := by decide +kernel
theorem dX10_act_0 : decode cX10_act 0 = .ok (.aload_n 0, 1) := by decide +kernel
theorem dX10_act_1 : decode cX10_act 1 = .ok (.getfield 84, 3) := by decide +kernel
theorem dX10_act_4 : decode cX10_act 4 = .ok (.iconst 0, 1) := by decide +kernel
theorem dX10_act_5 : decode cX10_act 5 = .ok (.putfield 313, 3) := by decide +kernel
theorem dX10_act_8 : decode cX10_act 8 = .ok (.iload_n 1, 1) := by decide +kernel
theorem dX10_act_9 : decode cX10_act 9 = .ok (.invokestatic 295, 3) := by decide +kernel
theorem dX10_act_12 : decode cX10_act 12 = .ok (.ifCond .eq 23, 3) := by decide +kernel
theorem dX10_act_15 : decode cX10_act 15 = .ok (.iload_n 2, 1) := by decide +kernel
theorem dX10_act_16 : decode cX10_act 16 = .ok (.iconst 0, 1) := by decide +kernel
theorem dX10_act_17 : decode cX10_act 17 = .ok (.iconst 3, 1) := by decide +kernel
theorem dX10_act_18 : decode cX10_act 18 = .ok (.invokestatic 135, 3) := by decide +kernel
theorem dX10_act_21 : decode cX10_act 21 = .ok (.ifCond .eq 14, 3) := by decide +kernel
theorem dX10_act_24 : decode cX10_act 24 = .ok (.aload_n 0, 1) := by decide +kernel
theorem dX10_act_25 : decode cX10_act 25 = .ok (.getfield 77, 3) := by decide +kernel
theorem dX10_act_28 : decode cX10_act 28 = .ok (.iload_n 1, 1) := by decide +kernel
theorem dX10_act_29 : decode cX10_act 29 = .ok (.invokevirtual 316, 3) := by decide +kernel
theorem dX10_act_32 : decode cX10_act 32 = .ok (.ifCond .ne 5, 3) := by decide +kernel
theorem dX10_act_35 : decode cX10_act 35 = .ok (.iconst 0, 1) := by decide +kernel
theorem dX10_act_36 : decode cX10_act 36 = .ok (.ireturn, 1) := by decide +kernel
theorem dX10_act_37 : decode cX10_act 37 = .ok (.aload_n 0, 1) := by decide +kernel
theorem dX10_act_38 : decode cX10_act 38 = .ok (.getfield 77, 3) := by decide +kernel
theorem dX10_act_41 : decode cX10_act 41 = .ok (.getfield 319, 3) := by decide +kernel
theorem dX10_act_44 : decode cX10_act 44 = .ok (.iload_n 1, 1) := by decide +kernel
theorem dX10_act_45 : decode cX10_act 45 = .ok (.iaload, 1) := by decide +kernel
theorem dX10_act_46 : decode cX10_act 46 = .ok (.istore 4, 2) := by decide +kernel
theorem dX10_act_48 : decode cX10_act 48 = .ok (.aload_n 0, 1) := by decide +kernel
theorem dX10_act_49 : decode cX10_act 49 = .ok (.getfield 84, 3) := by decide +kernel
theorem dX10_act_52 : decode cX10_act 52 = .ok (.aload_n 0, 1) := by decide +kernel
theorem dX10_act_53 : decode cX10_act 53 = .ok (.getfield 28, 3) := by decide +kernel
theorem dX10_act_56 : decode cX10_act 56 = .ok (.getfield 321, 3) := by decide +kernel
theorem dX10_act_59 : decode cX10_act 59 = .ok (.iload 4, 2) := by decide +kernel
theorem dX10_act_61 : decode cX10_act 61 = .ok (.iaload, 1) := by decide +kernel
theorem dX10_act_62 : decode cX10_act 62 = .ok (.iload 4, 2) := by decide +kernel
theorem dX10_act_64 : decode cX10_act 64 = .ok (.aload_n 0, 1) := by decide +kernel
theorem dX10_act_65 : decode cX10_act 65 = .ok (.getfield 28, 3) := by decide +kernel
theorem dX10_act_68 : decode cX10_act 68 = .ok (.getfield 324, 3) := by decide +kernel
theorem dX10_act_71 : decode cX10_act 71 = .ok (.iload 4, 2) := by decide +kernel
theorem dX10_act_73 : decode cX10_act 73 = .ok (.iaload, 1) := by decide +kernel
theorem dX10_act_74 : decode cX10_act 74 = .ok (.invokevirtual 327, 3) := by decide +kernel
theorem dX10_act_77 : decode cX10_act 77 = .ok (.aload_n 0, 1) := by decide +kernel
theorem dX10_act_78 : decode cX10_act 78 = .ok (.getfield 84, 3) := by decide +kernel
theorem dX10_act_81 : decode cX10_act 81 = .ok (.iload_n 2, 1) := by decide +kernel
theorem dX10_act_82 : decode cX10_act 82 = .ok (.iload_n 3, 1) := by decide +kernel
theorem dX10_act_83 : decode cX10_act 83 = .ok (.invokevirtual 331, 3) := by decide +kernel
theorem dX10_act_86 : decode cX10_act 86 = .ok (.ireturn, 1) := by decide +kernel
theorem dX10_trace_0 : decode cX10_trace 0 = .ok (.iload_n 1, 1) := by decide +kernel
theorem dX10_trace_1 : decode cX10_trace 1 = .ok (.ifCond .lt 26, 3) := by decide +kernel
theorem dX10_trace_4 : decode cX10_trace 4 = .ok (.iload_n 1, 1) := by decide +kernel
theorem dX10_trace_5 : decode cX10_trace 5 = .ok (.aload_n 0, 1) := by decide +kernel
theorem dX10_trace_6 : decode cX10_trace 6 = .ok (.getfield 84, 3) := by decide +kernel
theorem dX10_trace_9 : decode cX10_trace 9 = .ok (.getfield 313, 3) := by decide +kernel
theorem dX10_trace_12 : decode cX10_trace 12 = .ok (.if_icmp .ge 15, 3) := by decide +kernel
theorem dX10_trace_15 : decode cX10_trace 15 = .ok (.aload_n 0, 1) := by decide +kernel
theorem dX10_trace_16 : decode cX10_trace 16 = .ok (.getfield 84, 3) := by decide +kernel
theorem dX10_trace_19 : decode cX10_trace 19 = .ok (.getfield 334, 3) := by decide +kernel
theorem dX10_trace_22 : decode cX10_trace 22 = .ok (.iload_n 1, 1) := by decide +kernel
theorem dX10_trace_23 : decode cX10_trace 23 = .ok (.iaload, 1) := by decide +kernel
theorem dX10_trace_24 : decode cX10_trace 24 = .ok (.goto 5, 3) := by decide +kernel
theorem dX10_trace_27 : decode cX10_trace 27 = .ok (.bipush (-3), 2) := by decide +kernel
theorem dX10_trace_29 : decode cX10_trace 29 = .ok (.ireturn, 1) := by decide +kernel
theorem dX10_many_0 : decode cX10_many 0 = .ok (.iload_n 1, 1) := by decide +kernel
theorem dX10_many_1 : decode cX10_many 1 = .ok (.tableswitch 99 0 6 #[43, 51, 59, 67, 75, 83, 91], 43) := by decide +kernel
theorem dX10_many_44 : decode cX10_many 44 = .ok (.aload_n 0, 1) := by decide +kernel
theorem dX10_many_45 : decode cX10_many 45 = .ok (.getfield 28, 3) := by decide +kernel
theorem dX10_many_48 : decode cX10_many 48 = .ok (.getfield 337, 3) := by decide +kernel
theorem dX10_many_51 : decode cX10_many 51 = .ok (.ireturn, 1) := by decide +kernel
theorem dX10_many_52 : decode cX10_many 52 = .ok (.aload_n 0, 1) := by decide +kernel
theorem dX10_many_53 : decode cX10_many 53 = .ok (.getfield 10, 3) := by decide +kernel
theorem dX10_many_56 : decode cX10_many 56 = .ok (.getfield 170, 3) := by decide +kernel
theorem dX10_many_59 : decode cX10_many 59 = .ok (.ireturn, 1) := by decide +kernel
theorem dX10_many_60 : decode cX10_many 60 = .ok (.aload_n 0, 1) := by decide +kernel
theorem dX10_many_61 : decode cX10_many 61 = .ok (.getfield 28, 3) := by decide +kernel
theorem dX10_many_64 : decode cX10_many 64 = .ok (.getfield 156, 3) := by decide +kernel
theorem dX10_many_67 : decode cX10_many 67 = .ok (.ireturn, 1) := by decide +kernel
theorem dX10_many_68 : decode cX10_many 68 = .ok (.aload_n 0, 1) := by decide +kernel
theorem dX10_many_69 : decode cX10_many 69 = .ok (.getfield 38, 3) := by decide +kernel
theorem dX10_many_72 : decode cX10_many 72 = .ok (.getfield 231, 3) := by decide +kernel
theorem dX10_many_75 : decode cX10_many 75 = .ok (.ireturn, 1) := by decide +kernel
theorem dX10_many_76 : decode cX10_many 76 = .ok (.aload_n 0, 1) := by decide +kernel
theorem dX10_many_77 : decode cX10_many 77 = .ok (.getfield 61, 3) := by decide +kernel
theorem dX10_many_80 : decode cX10_many 80 = .ok (.getfield 257, 3) := by decide +kernel
theorem dX10_many_83 : decode cX10_many 83 = .ok (.ireturn, 1) := by decide +kernel
theorem dX10_many_84 : decode cX10_many 84 = .ok (.aload_n 0, 1) := by decide +kernel
theorem dX10_many_85 : decode cX10_many 85 = .ok (.getfield 19, 3) := by decide +kernel
theorem dX10_many_88 : decode cX10_many 88 = .ok (.getfield 159, 3) := by decide +kernel
theorem dX10_many_91 : decode cX10_many 91 = .ok (.ireturn, 1) := by decide +kernel
theorem dX10_many_92 : decode cX10_many 92 = .ok (.aload_n 0, 1) := by decide +kernel
theorem dX10_many_93 : decode cX10_many 93 = .ok (.getfield 84, 3) := by decide +kernel
theorem dX10_many_96 : decode cX10_many 96 = .ok (.getfield 313, 3) := by decide +kernel
theorem dX10_many_99 : decode cX10_many 99 = .ok (.ireturn, 1) := by decide +kernel
theorem dX10_many_100 : decode cX10_many 100 = .ok (.iconst (-1), 1) := by decide +kernel
theorem dX10_many_101 : decode cX10_many 101 = .ok (.ireturn, 1) := by decide +kernel
theorem dX10_keep_0 : decode cX10_keep 0 = .ok (.aload_n 0, 1) := by decide +kernel
theorem dX10_keep_1 : decode cX10_keep 1 = .ok (.getfield 91, 3) := by decide +kernel
theorem dX10_keep_4 : decode cX10_keep 4 = .ok (.aload_n 0, 1) := by decide +kernel
theorem dX10_keep_5 : decode cX10_keep 5 = .ok (.getfield 28, 3) := by decide +kernel
theorem dX10_keep_8 : decode cX10_keep 8 = .ok (.invokevirtual 340, 3) := by decide +kernel
theorem dX10_keep_11 : decode cX10_keep 11 = .ok (.aload_n 0, 1) := by decide +kernel
theorem dX10_keep_12 : decode cX10_keep 12 = .ok (.getfield 88, 3) := by decide +kernel
theorem dX10_keep_15 : decode cX10_keep 15 = .ok (.aload_n 0, 1) := by decide +kernel
theorem dX10_keep_16 : decode cX10_keep 16 = .ok (.getfield 10, 3) := by decide +kernel
theorem dX10_keep_19 : decode cX10_keep 19 = .ok (.invokevirtual 344, 3) := by decide +kernel
theorem dX10_keep_22 : decode cX10_keep 22 = .ok (.aload_n 0, 1) := by decide +kernel
theorem dX10_keep_23 : decode cX10_keep 23 = .ok (.getfield 94, 3) := by decide +kernel
theorem dX10_keep_26 : decode cX10_keep 26 = .ok (.aload_n 0, 1) := by decide +kernel
theorem dX10_keep_27 : decode cX10_keep 27 = .ok (.getfield 38, 3) := by decide +kernel
theorem dX10_keep_30 : decode cX10_keep 30 = .ok (.invokevirtual 346, 3) := by decide +kernel
theorem dX10_keep_33 : decode cX10_keep 33 = .ok (.aload_n 0, 1) := by decide +kernel
theorem dX10_keep_34 : decode cX10_keep 34 = .ok (.iconst 1, 1) := by decide +kernel
theorem dX10_keep_35 : decode cX10_keep 35 = .ok (.putfield 97, 3) := by decide +kernel
theorem dX10_keep_38 : decode cX10_keep 38 = .ok (.iconst 1, 1) := by decide +kernel
theorem dX10_keep_39 : decode cX10_keep 39 = .ok (.ireturn, 1) := by decide +kernel
theorem dX10_again_0 : decode cX10_again 0 = .ok (.aload_n 0, 1) := by decide +kernel
theorem dX10_again_1 : decode cX10_again 1 = .ok (.getfield 97, 3) := by decide +kernel
theorem dX10_again_4 : decode cX10_again 4 = .ok (.ifCond .ne 6, 3) := by decide +kernel
theorem dX10_again_7 : decode cX10_again 7 = .ok (.bipush (-3), 2) := by decide +kernel
theorem dX10_again_9 : decode cX10_again 9 = .ok (.ireturn, 1) := by decide +kernel
theorem dX10_again_10 : decode cX10_again 10 = .ok (.aload_n 0, 1) := by decide +kernel
theorem dX10_again_11 : decode cX10_again 11 = .ok (.getfield 28, 3) := by decide +kernel
theorem dX10_again_14 : decode cX10_again 14 = .ok (.aload_n 0, 1) := by decide +kernel
theorem dX10_again_15 : decode cX10_again 15 = .ok (.getfield 91, 3) := by decide +kernel
theorem dX10_again_18 : decode cX10_again 18 = .ok (.invokevirtual 340, 3) := by decide +kernel
theorem dX10_again_21 : decode cX10_again 21 = .ok (.aload_n 0, 1) := by decide +kernel
theorem dX10_again_22 : decode cX10_again 22 = .ok (.getfield 10, 3) := by decide +kernel
theorem dX10_again_25 : decode cX10_again 25 = .ok (.aload_n 0, 1) := by decide +kernel
theorem dX10_again_26 : decode cX10_again 26 = .ok (.getfield 88, 3) := by decide +kernel
theorem dX10_again_29 : decode cX10_again 29 = .ok (.invokevirtual 344, 3) := by decide +kernel
theorem dX10_again_32 : decode cX10_again 32 = .ok (.aload_n 0, 1) := by decide +kernel
theorem dX10_again_33 : decode cX10_again 33 = .ok (.getfield 38, 3) := by decide +kernel
theorem dX10_again_36 : decode cX10_again 36 = .ok (.aload_n 0, 1) := by decide +kernel
theorem dX10_again_37 : decode cX10_again 37 = .ok (.getfield 94, 3) := by decide +kernel
theorem dX10_again_40 : decode cX10_again 40 = .ok (.invokevirtual 346, 3) := by decide +kernel
theorem dX10_again_43 : decode cX10_again 43 = .ok (.aload_n 0, 1) := by decide +kernel
theorem dX10_again_44 : decode cX10_again 44 = .ok (.getfield 28, 3) := by decide +kernel
theorem dX10_again_47 : decode cX10_again 47 = .ok (.getfield 337, 3) := by decide +kernel
theorem dX10_again_50 : decode cX10_again 50 = .ok (.ireturn, 1) := by decide +kernel
theorem dX10_goByItems_0 : decode cX10_goByItems 0 = .ok (.iconst 0, 1) := by decide +kernel
theorem dX10_goByItems_1 : decode cX10_goByItems 1 = .ok (.istore 4, 2) := by decide +kernel
theorem dX10_goByItems_3 : decode cX10_goByItems 3 = .ok (.iconst 0, 1) := by decide +kernel
theorem dX10_goByItems_4 : decode cX10_goByItems 4 = .ok (.istore 5, 2) := by decide +kernel
theorem dX10_goByItems_6 : decode cX10_goByItems 6 = .ok (.iload 5, 2) := by decide +kernel
theorem dX10_goByItems_8 : decode cX10_goByItems 8 = .ok (.iload_n 3, 1) := by decide +kernel
theorem dX10_goByItems_9 : decode cX10_goByItems 9 = .ok (.if_icmp .ge 81, 3) := by decide +kernel
theorem dX10_goByItems_12 : decode cX10_goByItems 12 = .ok (.aload_n 0, 1) := by decide +kernel
theorem dX10_goByItems_13 : decode cX10_goByItems 13 = .ok (.getfield 68, 3) := by decide +kernel
theorem dX10_goByItems_16 : decode cX10_goByItems 16 = .ok (.iload_n 1, 1) := by decide +kernel
theorem dX10_goByItems_17 : decode cX10_goByItems 17 = .ok (.iload_n 2, 1) := by decide +kernel
theorem dX10_goByItems_18 : decode cX10_goByItems 18 = .ok (.iload 5, 2) := by decide +kernel
theorem dX10_goByItems_20 : decode cX10_goByItems 20 = .ok (.iadd, 1) := by decide +kernel
theorem dX10_goByItems_21 : decode cX10_goByItems 21 = .ok (.invokevirtual 277, 3) := by decide +kernel
theorem dX10_goByItems_24 : decode cX10_goByItems 24 = .ok (.ifCond .ne 6, 3) := by decide +kernel
theorem dX10_goByItems_27 : decode cX10_goByItems 27 = .ok (.bipush (-12), 2) := by decide +kernel
theorem dX10_goByItems_29 : decode cX10_goByItems 29 = .ok (.ireturn, 1) := by decide +kernel
theorem dX10_goByItems_30 : decode cX10_goByItems 30 = .ok (.aload_n 0, 1) := by decide +kernel
theorem dX10_goByItems_31 : decode cX10_goByItems 31 = .ok (.getfield 68, 3) := by decide +kernel
theorem dX10_goByItems_34 : decode cX10_goByItems 34 = .ok (.getfield 286, 3) := by decide +kernel
theorem dX10_goByItems_37 : decode cX10_goByItems 37 = .ok (.iload_n 1, 1) := by decide +kernel
theorem dX10_goByItems_38 : decode cX10_goByItems 38 = .ok (.aaload, 1) := by decide +kernel
theorem dX10_goByItems_39 : decode cX10_goByItems 39 = .ok (.iload_n 2, 1) := by decide +kernel
theorem dX10_goByItems_40 : decode cX10_goByItems 40 = .ok (.iload 5, 2) := by decide +kernel
theorem dX10_goByItems_42 : decode cX10_goByItems 42 = .ok (.iadd, 1) := by decide +kernel
theorem dX10_goByItems_43 : decode cX10_goByItems 43 = .ok (.iaload, 1) := by decide +kernel
theorem dX10_goByItems_44 : decode cX10_goByItems 44 = .ok (.istore 6, 2) := by decide +kernel
theorem dX10_goByItems_46 : decode cX10_goByItems 46 = .ok (.aload_n 0, 1) := by decide +kernel
theorem dX10_goByItems_47 : decode cX10_goByItems 47 = .ok (.getfield 28, 3) := by decide +kernel
theorem dX10_goByItems_50 : decode cX10_goByItems 50 = .ok (.iload 6, 2) := by decide +kernel
theorem dX10_goByItems_52 : decode cX10_goByItems 52 = .ok (.invokevirtual 349, 3) := by decide +kernel
theorem dX10_goByItems_55 : decode cX10_goByItems 55 = .ok (.ifCond .eq 29, 3) := by decide +kernel
theorem dX10_goByItems_58 : decode cX10_goByItems 58 = .ok (.aload_n 0, 1) := by decide +kernel
theorem dX10_goByItems_59 : decode cX10_goByItems 59 = .ok (.getfield 28, 3) := by decide +kernel
theorem dX10_goByItems_62 : decode cX10_goByItems 62 = .ok (.invokevirtual 124, 3) := by decide +kernel
theorem dX10_goByItems_65 : decode cX10_goByItems 65 = .ok (.ifCond .ne 19, 3) := by decide +kernel
theorem dX10_goByItems_68 : decode cX10_goByItems 68 = .ok (.iload 4, 2) := by decide +kernel
theorem dX10_goByItems_70 : decode cX10_goByItems 70 = .ok (.aload_n 0, 1) := by decide +kernel
theorem dX10_goByItems_71 : decode cX10_goByItems 71 = .ok (.getfield 28, 3) := by decide +kernel
theorem dX10_goByItems_74 : decode cX10_goByItems 74 = .ok (.iload 6, 2) := by decide +kernel
theorem dX10_goByItems_76 : decode cX10_goByItems 76 = .ok (.iconst 1, 1) := by decide +kernel
theorem dX10_goByItems_77 : decode cX10_goByItems 77 = .ok (.isub, 1) := by decide +kernel
theorem dX10_goByItems_78 : decode cX10_goByItems 78 = .ok (.invokevirtual 173, 3) := by decide +kernel
theorem dX10_goByItems_81 : decode cX10_goByItems 81 = .ok (.iadd, 1) := by decide +kernel
theorem dX10_goByItems_82 : decode cX10_goByItems 82 = .ok (.istore 4, 2) := by decide +kernel
theorem dX10_goByItems_84 : decode cX10_goByItems 84 = .ok (.iinc 5 1, 3) := by decide +kernel
theorem dX10_goByItems_87 : decode cX10_goByItems 87 = .ok (.goto (-81), 3) := by decide +kernel
theorem dX10_goByItems_90 : decode cX10_goByItems 90 = .ok (.iload 4, 2) := by decide +kernel
theorem dX10_goByItems_92 : decode cX10_goByItems 92 = .ok (.ireturn, 1) := by decide +kernel
theorem dX10_worthOfItems_0 : decode cX10_worthOfItems 0 = .ok (.iconst 0, 1) := by decide +kernel
theorem dX10_worthOfItems_1 : decode cX10_worthOfItems 1 = .ok (.istore 4, 2) := by decide +kernel
theorem dX10_worthOfItems_3 : decode cX10_worthOfItems 3 = .ok (.aload_n 0, 1) := by decide +kernel
theorem dX10_worthOfItems_4 : decode cX10_worthOfItems 4 = .ok (.getfield 32, 3) := by decide +kernel
theorem dX10_worthOfItems_7 : decode cX10_worthOfItems 7 = .ok (.aload_n 0, 1) := by decide +kernel
theorem dX10_worthOfItems_8 : decode cX10_worthOfItems 8 = .ok (.getfield 28, 3) := by decide +kernel
theorem dX10_worthOfItems_11 : decode cX10_worthOfItems 11 = .ok (.invokevirtual 340, 3) := by decide +kernel
theorem dX10_worthOfItems_14 : decode cX10_worthOfItems 14 = .ok (.iconst 0, 1) := by decide +kernel
theorem dX10_worthOfItems_15 : decode cX10_worthOfItems 15 = .ok (.istore 5, 2) := by decide +kernel
theorem dX10_worthOfItems_17 : decode cX10_worthOfItems 17 = .ok (.iload 5, 2) := by decide +kernel
theorem dX10_worthOfItems_19 : decode cX10_worthOfItems 19 = .ok (.iload_n 3, 1) := by decide +kernel
theorem dX10_worthOfItems_20 : decode cX10_worthOfItems 20 = .ok (.if_icmp .ge 84, 3) := by decide +kernel
theorem dX10_worthOfItems_23 : decode cX10_worthOfItems 23 = .ok (.aload_n 0, 1) := by decide +kernel
theorem dX10_worthOfItems_24 : decode cX10_worthOfItems 24 = .ok (.getfield 68, 3) := by decide +kernel
theorem dX10_worthOfItems_27 : decode cX10_worthOfItems 27 = .ok (.iload_n 1, 1) := by decide +kernel
theorem dX10_worthOfItems_28 : decode cX10_worthOfItems 28 = .ok (.iload_n 2, 1) := by decide +kernel
theorem dX10_worthOfItems_29 : decode cX10_worthOfItems 29 = .ok (.iload 5, 2) := by decide +kernel
theorem dX10_worthOfItems_31 : decode cX10_worthOfItems 31 = .ok (.iadd, 1) := by decide +kernel
theorem dX10_worthOfItems_32 : decode cX10_worthOfItems 32 = .ok (.invokevirtual 277, 3) := by decide +kernel
theorem dX10_worthOfItems_35 : decode cX10_worthOfItems 35 = .ok (.ifCond .ne 6, 3) := by decide +kernel
theorem dX10_worthOfItems_38 : decode cX10_worthOfItems 38 = .ok (.bipush (-12), 2) := by decide +kernel
theorem dX10_worthOfItems_40 : decode cX10_worthOfItems 40 = .ok (.ireturn, 1) := by decide +kernel
theorem dX10_worthOfItems_41 : decode cX10_worthOfItems 41 = .ok (.aload_n 0, 1) := by decide +kernel
theorem dX10_worthOfItems_42 : decode cX10_worthOfItems 42 = .ok (.getfield 68, 3) := by decide +kernel
theorem dX10_worthOfItems_45 : decode cX10_worthOfItems 45 = .ok (.getfield 286, 3) := by decide +kernel
theorem dX10_worthOfItems_48 : decode cX10_worthOfItems 48 = .ok (.iload_n 1, 1) := by decide +kernel
theorem dX10_worthOfItems_49 : decode cX10_worthOfItems 49 = .ok (.aaload, 1) := by decide +kernel
theorem dX10_worthOfItems_50 : decode cX10_worthOfItems 50 = .ok (.iload_n 2, 1) := by decide +kernel
theorem dX10_worthOfItems_51 : decode cX10_worthOfItems 51 = .ok (.iload 5, 2) := by decide +kernel
theorem dX10_worthOfItems_53 : decode cX10_worthOfItems 53 = .ok (.iadd, 1) := by decide +kernel
theorem dX10_worthOfItems_54 : decode cX10_worthOfItems 54 = .ok (.iaload, 1) := by decide +kernel
theorem dX10_worthOfItems_55 : decode cX10_worthOfItems 55 = .ok (.istore 6, 2) := by decide +kernel
theorem dX10_worthOfItems_57 : decode cX10_worthOfItems 57 = .ok (.aload_n 0, 1) := by decide +kernel
theorem dX10_worthOfItems_58 : decode cX10_worthOfItems 58 = .ok (.getfield 32, 3) := by decide +kernel
theorem dX10_worthOfItems_61 : decode cX10_worthOfItems 61 = .ok (.iload 6, 2) := by decide +kernel
theorem dX10_worthOfItems_63 : decode cX10_worthOfItems 63 = .ok (.invokevirtual 349, 3) := by decide +kernel
theorem dX10_worthOfItems_66 : decode cX10_worthOfItems 66 = .ok (.ifCond .eq 13, 3) := by decide +kernel
theorem dX10_worthOfItems_69 : decode cX10_worthOfItems 69 = .ok (.aload_n 0, 1) := by decide +kernel
theorem dX10_worthOfItems_70 : decode cX10_worthOfItems 70 = .ok (.getfield 32, 3) := by decide +kernel
theorem dX10_worthOfItems_73 : decode cX10_worthOfItems 73 = .ok (.invokevirtual 124, 3) := by decide +kernel
theorem dX10_worthOfItems_76 : decode cX10_worthOfItems 76 = .ok (.ifCond .eq 6, 3) := by decide +kernel
theorem dX10_worthOfItems_79 : decode cX10_worthOfItems 79 = .ok (.bipush (-4), 2) := by decide +kernel
theorem dX10_worthOfItems_81 : decode cX10_worthOfItems 81 = .ok (.ireturn, 1) := by decide +kernel
theorem dX10_worthOfItems_82 : decode cX10_worthOfItems 82 = .ok (.iload 4, 2) := by decide +kernel
theorem dX10_worthOfItems_84 : decode cX10_worthOfItems 84 = .ok (.aload_n 0, 1) := by decide +kernel
theorem dX10_worthOfItems_85 : decode cX10_worthOfItems 85 = .ok (.getfield 32, 3) := by decide +kernel
theorem dX10_worthOfItems_88 : decode cX10_worthOfItems 88 = .ok (.iload 6, 2) := by decide +kernel
theorem dX10_worthOfItems_90 : decode cX10_worthOfItems 90 = .ok (.iconst 1, 1) := by decide +kernel
theorem dX10_worthOfItems_91 : decode cX10_worthOfItems 91 = .ok (.isub, 1) := by decide +kernel
theorem dX10_worthOfItems_92 : decode cX10_worthOfItems 92 = .ok (.invokevirtual 173, 3) := by decide +kernel
theorem dX10_worthOfItems_95 : decode cX10_worthOfItems 95 = .ok (.iadd, 1) := by decide +kernel
theorem dX10_worthOfItems_96 : decode cX10_worthOfItems 96 = .ok (.istore 4, 2) := by decide +kernel
theorem dX10_worthOfItems_98 : decode cX10_worthOfItems 98 = .ok (.iinc 5 1, 3) := by decide +kernel
theorem dX10_worthOfItems_101 : decode cX10_worthOfItems 101 = .ok (.goto (-84), 3) := by decide +kernel
theorem dX10_worthOfItems_104 : decode cX10_worthOfItems 104 = .ok (.iload 4, 2) := by decide +kernel
theorem dX10_worthOfItems_106 : decode cX10_worthOfItems 106 = .ok (.ireturn, 1) := by decide +kernel
theorem dX10_isIn_0 : decode cX10_isIn 0 = .ok (.iload_n 0, 1) := by decide +kernel
theorem dX10_isIn_1 : decode cX10_isIn 1 = .ok (.iload_n 1, 1) := by decide +kernel
theorem dX10_isIn_2 : decode cX10_isIn 2 = .ok (.if_icmp .lt 12, 3) := by decide +kernel
theorem dX10_isIn_5 : decode cX10_isIn 5 = .ok (.iload_n 0, 1) := by decide +kernel
theorem dX10_isIn_6 : decode cX10_isIn 6 = .ok (.iload_n 2, 1) := by decide +kernel
theorem dX10_isIn_7 : decode cX10_isIn 7 = .ok (.if_icmp .gt 7, 3) := by decide +kernel
theorem dX10_isIn_10 : decode cX10_isIn 10 = .ok (.iconst 1, 1) := by decide +kernel
theorem dX10_isIn_11 : decode cX10_isIn 11 = .ok (.goto 4, 3) := by decide +kernel
theorem dX10_isIn_14 : decode cX10_isIn 14 = .ok (.iconst 0, 1) := by decide +kernel
theorem dX10_isIn_15 : decode cX10_isIn 15 = .ok (.ireturn, 1) := by decide +kernel
theorem dX10_isLampKind_0 : decode cX10_isLampKind 0 = .ok (.iload_n 0, 1) := by decide +kernel
theorem dX10_isLampKind_1 : decode cX10_isLampKind 1 = .ok (.iconst 1, 1) := by decide +kernel
theorem dX10_isLampKind_2 : decode cX10_isLampKind 2 = .ok (.iconst 5, 1) := by decide +kernel
theorem dX10_isLampKind_3 : decode cX10_isLampKind 3 = .ok (.invokestatic 135, 3) := by decide +kernel
theorem dX10_isLampKind_6 : decode cX10_isLampKind 6 = .ok (.ireturn, 1) := by decide +kernel
theorem dX10_fits_0 : decode cX10_fits 0 = .ok (.iload_n 0, 1) := by decide +kernel
theorem dX10_fits_1 : decode cX10_fits 1 = .ok (.tableswitch 51 1 3 #[27, 35, 43], 27) := by decide +kernel
theorem dX10_fits_28 : decode cX10_fits 28 = .ok (.iload_n 1, 1) := by decide +kernel
theorem dX10_fits_29 : decode cX10_fits 29 = .ok (.iconst 0, 1) := by decide +kernel
theorem dX10_fits_30 : decode cX10_fits 30 = .ok (.bipush 40, 2) := by decide +kernel
theorem dX10_fits_32 : decode cX10_fits 32 = .ok (.invokestatic 135, 3) := by decide +kernel
theorem dX10_fits_35 : decode cX10_fits 35 = .ok (.ireturn, 1) := by decide +kernel
theorem dX10_fits_36 : decode cX10_fits 36 = .ok (.iload_n 1, 1) := by decide +kernel
theorem dX10_fits_37 : decode cX10_fits 37 = .ok (.iconst 0, 1) := by decide +kernel
theorem dX10_fits_38 : decode cX10_fits 38 = .ok (.bipush 9, 2) := by decide +kernel
theorem dX10_fits_40 : decode cX10_fits 40 = .ok (.invokestatic 135, 3) := by decide +kernel
theorem dX10_fits_43 : decode cX10_fits 43 = .ok (.ireturn, 1) := by decide +kernel
theorem dX10_fits_44 : decode cX10_fits 44 = .ok (.iload_n 1, 1) := by decide +kernel
theorem dX10_fits_45 : decode cX10_fits 45 = .ok (.iconst 1, 1) := by decide +kernel
theorem dX10_fits_46 : decode cX10_fits 46 = .ok (.bipush 9, 2) := by decide +kernel
theorem dX10_fits_48 : decode cX10_fits 48 = .ok (.invokestatic 135, 3) := by decide +kernel
theorem dX10_fits_51 : decode cX10_fits 51 = .ok (.ireturn, 1) := by decide +kernel
theorem dX10_fits_52 : decode cX10_fits 52 = .ok (.iconst 0, 1) := by decide +kernel
theorem dX10_fits_53 : decode cX10_fits 53 = .ok (.ireturn, 1) := by decide +kernel
theorem dX11_init_0 : decode cX11_init 0 = .ok (.aload_n 0, 1) := by decide +kernel
theorem dX11_init_1 : decode cX11_init 1 = .ok (.invokespecial 1, 3) := by decide +kernel
theorem dX11_init_4 : decode cX11_init 4 = .ok (.aload_n 0, 1) := by decide +kernel
theorem dX11_init_5 : decode cX11_init 5 = .ok (.sipush 521, 3) := by decide +kernel
theorem dX11_init_8 : decode cX11_init 8 = .ok (.newarray .int, 2) := by decide +kernel
theorem dX11_init_10 : decode cX11_init 10 = .ok (.putfield 9, 3) := by decide +kernel
theorem dX11_init_13 : decode cX11_init 13 = .ok (.aload_n 0, 1) := by decide +kernel
theorem dX11_init_14 : decode cX11_init 14 = .ok (.sipush 521, 3) := by decide +kernel
theorem dX11_init_17 : decode cX11_init 17 = .ok (.newarray .int, 2) := by decide +kernel
theorem dX11_init_19 : decode cX11_init 19 = .ok (.putfield 13, 3) := by decide +kernel
theorem dX11_init_22 : decode cX11_init 22 = .ok (.aload_n 0, 1) := by decide +kernel
theorem dX11_init_23 : decode cX11_init 23 = .ok (.sipush 521, 3) := by decide +kernel
theorem dX11_init_26 : decode cX11_init 26 = .ok (.newarray .int, 2) := by decide +kernel
theorem dX11_init_28 : decode cX11_init 28 = .ok (.putfield 16, 3) := by decide +kernel
theorem dX11_init_31 : decode cX11_init 31 = .ok (.aload_n 0, 1) := by decide +kernel
theorem dX11_init_32 : decode cX11_init 32 = .ok (.bipush 6, 2) := by decide +kernel
theorem dX11_init_34 : decode cX11_init 34 = .ok (.newarray .int, 2) := by decide +kernel
theorem dX11_init_36 : decode cX11_init 36 = .ok (.putfield 19, 3) := by decide +kernel
theorem dX11_init_39 : decode cX11_init 39 = .ok (.aload_n 0, 1) := by decide +kernel
theorem dX11_init_40 : decode cX11_init 40 = .ok (.sipush 200, 3) := by decide +kernel
theorem dX11_init_43 : decode cX11_init 43 = .ok (.newarray .int, 2) := by decide +kernel
theorem dX11_init_45 : decode cX11_init 45 = .ok (.putfield 22, 3) := by decide +kernel
theorem dX11_init_48 : decode cX11_init 48 = .ok (.aload_n 0, 1) := by decide +kernel
theorem dX11_init_49 : decode cX11_init 49 = .ok (.sipush 200, 3) := by decide +kernel
theorem dX11_init_52 : decode cX11_init 52 = .ok (.newarray .int, 2) := by decide +kernel
theorem dX11_init_54 : decode cX11_init 54 = .ok (.putfield 25, 3) := by decide +kernel
theorem dX11_init_57 : decode cX11_init 57 = .ok (.aload_n 0, 1) := by decide +kernel
theorem dX11_init_58 : decode cX11_init 58 = .ok (.bipush 8, 2) := by decide +kernel
theorem dX11_init_60 : decode cX11_init 60 = .ok (.newarray .int, 2) := by decide +kernel
theorem dX11_init_62 : decode cX11_init 62 = .ok (.putfield 28, 3) := by decide +kernel
theorem dX11_init_65 : decode cX11_init 65 = .ok (.aload_n 0, 1) := by decide +kernel
theorem dX11_init_66 : decode cX11_init 66 = .ok (.bipush 16, 2) := by decide +kernel
theorem dX11_init_68 : decode cX11_init 68 = .ok (.newarray .int, 2) := by decide +kernel
theorem dX11_init_70 : decode cX11_init 70 = .ok (.putfield 31, 3) := by decide +kernel
theorem dX11_init_73 : decode cX11_init 73 = .ok (.aload_n 0, 1) := by decide +kernel
theorem dX11_init_74 : decode cX11_init 74 = .ok (.iconst 5, 1) := by decide +kernel
theorem dX11_init_75 : decode cX11_init 75 = .ok (.bipush 8, 2) := by decide +kernel
theorem dX11_init_77 : decode cX11_init 77 = .ok (.multianewarray 34 2, 4) := by decide +kernel
theorem dX11_init_81 : decode cX11_init 81 = .ok (.putfield 36, 3) := by decide +kernel
theorem dX11_init_84 : decode cX11_init 84 = .ok (.aload_n 0, 1) := by decide +kernel
theorem dX11_init_85 : decode cX11_init 85 = .ok (.iconst 4, 1) := by decide +kernel
theorem dX11_init_86 : decode cX11_init 86 = .ok (.newarray .int, 2) := by decide +kernel
theorem dX11_init_88 : decode cX11_init 88 = .ok (.putfield 39, 3) := by decide +kernel
theorem dX11_init_91 : decode cX11_init 91 = .ok (.aload_n 0, 1) := by decide +kernel
theorem dX11_init_92 : decode cX11_init 92 = .ok (.iconst 4, 1) := by decide +kernel
theorem dX11_init_93 : decode cX11_init 93 = .ok (.newarray .int, 2) := by decide +kernel
theorem dX11_init_95 : decode cX11_init 95 = .ok (.putfield 42, 3) := by decide +kernel
theorem dX11_init_98 : decode cX11_init 98 = .ok (.aload_n 0, 1) := by decide +kernel
theorem dX11_init_99 : decode cX11_init 99 = .ok (.bipush 12, 2) := by decide +kernel
theorem dX11_init_101 : decode cX11_init 101 = .ok (.newarray .int, 2) := by decide +kernel
theorem dX11_init_103 : decode cX11_init 103 = .ok (.putfield 45, 3) := by decide +kernel
theorem dX11_init_106 : decode cX11_init 106 = .ok (.aload_n 0, 1) := by decide +kernel
theorem dX11_init_107 : decode cX11_init 107 = .ok (.iconst 4, 1) := by decide +kernel
theorem dX11_init_108 : decode cX11_init 108 = .ok (.newarray .int, 2) := by decide +kernel
theorem dX11_init_110 : decode cX11_init 110 = .ok (.dup, 1) := by decide +kernel
theorem dX11_init_111 : decode cX11_init 111 = .ok (.iconst 0, 1) := by decide +kernel
theorem dX11_init_112 : decode cX11_init 112 = .ok (.iconst (-1), 1) := by decide +kernel
theorem dX11_init_113 : decode cX11_init 113 = .ok (.iastore, 1) := by decide +kernel
theorem dX11_init_114 : decode cX11_init 114 = .ok (.dup, 1) := by decide +kernel
theorem dX11_init_115 : decode cX11_init 115 = .ok (.iconst 1, 1) := by decide +kernel
theorem dX11_init_116 : decode cX11_init 116 = .ok (.iconst (-1), 1) := by decide +kernel
theorem dX11_init_117 : decode cX11_init 117 = .ok (.iastore, 1) := by decide +kernel
theorem dX11_init_118 : decode cX11_init 118 = .ok (.dup, 1) := by decide +kernel
theorem dX11_init_119 : decode cX11_init 119 = .ok (.iconst 2, 1) := by decide +kernel
theorem dX11_init_120 : decode cX11_init 120 = .ok (.iconst (-1), 1) := by decide +kernel
theorem dX11_init_121 : decode cX11_init 121 = .ok (.iastore, 1) := by decide +kernel
theorem dX11_init_122 : decode cX11_init 122 = .ok (.dup, 1) := by decide +kernel
theorem dX11_init_123 : decode cX11_init 123 = .ok (.iconst 3, 1) := by decide +kernel
theorem dX11_init_124 : decode cX11_init 124 = .ok (.iconst (-1), 1) := by decide +kernel
theorem dX11_init_125 : decode cX11_init 125 = .ok (.iastore, 1) := by decide +kernel
theorem dX11_init_126 : decode cX11_init 126 = .ok (.putfield 48, 3) := by decide +kernel
theorem dX11_init_129 : decode cX11_init 129 = .ok (.aload_n 0, 1) := by decide +kernel
theorem dX11_init_130 : decode cX11_init 130 = .ok (.iconst 4, 1) := by decide +kernel
theorem dX11_init_131 : decode cX11_init 131 = .ok (.newarray .int, 2) := by decide +kernel
theorem dX11_init_133 : decode cX11_init 133 = .ok (.putfield 51, 3) := by decide +kernel
theorem dX11_init_136 : decode cX11_init 136 = .ok (.aload_n 0, 1) := by decide +kernel
theorem dX11_init_137 : decode cX11_init 137 = .ok (.sipush 160, 3) := by decide +kernel
theorem dX11_init_140 : decode cX11_init 140 = .ok (.newarray .long, 2) := by decide +kernel
theorem dX11_init_142 : decode cX11_init 142 = .ok (.putfield 54, 3) := by decide +kernel
theorem dX11_init_145 : decode cX11_init 145 = .ok (.aload_n 0, 1) := by decide +kernel
theorem dX11_init_146 : decode cX11_init 146 = .ok (.iconst 4, 1) := by decide +kernel
theorem dX11_init_147 : decode cX11_init 147 = .ok (.newarray .int, 2) := by decide +kernel
theorem dX11_init_149 : decode cX11_init 149 = .ok (.putfield 58, 3) := by decide +kernel
theorem dX11_init_152 : decode cX11_init 152 = .ok (.aload_n 0, 1) := by decide +kernel
theorem dX11_init_153 : decode cX11_init 153 = .ok (.iconst 4, 1) := by decide +kernel
theorem dX11_init_154 : decode cX11_init 154 = .ok (.newarray .int, 2) := by decide +kernel
theorem dX11_init_156 : decode cX11_init 156 = .ok (.putfield 61, 3) := by decide +kernel
theorem dX11_init_159 : decode cX11_init 159 = .ok (.aload_n 0, 1) := by decide +kernel
theorem dX11_init_160 : decode cX11_init 160 = .ok (.iconst 4, 1) := by decide +kernel
theorem dX11_init_161 : decode cX11_init 161 = .ok (.newarray .int, 2) := by decide +kernel
theorem dX11_init_163 : decode cX11_init 163 = .ok (.putfield 64, 3) := by decide +kernel
theorem dX11_init_166 : decode cX11_init 166 = .ok (.aload_n 0, 1) := by decide +kernel
theorem dX11_init_167 : decode cX11_init 167 = .ok (.bipush 30, 2) := by decide +kernel
theorem dX11_init_169 : decode cX11_init 169 = .ok (.newarray .int, 2) := by decide +kernel
theorem dX11_init_171 : decode cX11_init 171 = .ok (.putfield 67, 3) := by decide +kernel
theorem dX11_init_174 : decode cX11_init 174 = .ok (.aload_n 0, 1) := by decide +kernel
theorem dX11_init_175 : decode cX11_init 175 = .ok (.getfield 9, 3) := by decide +kernel
theorem dX11_init_178 : decode cX11_init 178 = .ok (.iconst 4, 1) := by decide +kernel
theorem dX11_init_179 : decode cX11_init 179 = .ok (.iconst 1, 1) := by decide +kernel
theorem dX11_init_180 : decode cX11_init 180 = .ok (.iastore, 1) := by decide +kernel
theorem dX11_init_181 : decode cX11_init 181 = .ok (.return_, 1) := by decide +kernel
theorem dX11_isIn_0 : decode cX11_isIn 0 = .ok (.lload_n 0, 1) := by decide +kernel
theorem dX11_isIn_1 : decode cX11_isIn 1 = .ok (.lload_n 2, 1) := by decide +kernel
theorem dX11_isIn_2 : decode cX11_isIn 2 = .ok (.lcmp, 1) := by decide +kernel
theorem dX11_isIn_3 : decode cX11_isIn 3 = .ok (.ifCond .lt 14, 3) := by decide +kernel
theorem dX11_isIn_6 : decode cX11_isIn 6 = .ok (.lload_n 0, 1) := by decide +kernel
theorem dX11_isIn_7 : decode cX11_isIn 7 = .ok (.lload 4, 2) := by decide +kernel
theorem dX11_isIn_9 : decode cX11_isIn 9 = .ok (.lcmp, 1) := by decide +kernel
theorem dX11_isIn_10 : decode cX11_isIn 10 = .ok (.ifCond .gt 7, 3) := by decide +kernel
theorem dX11_isIn_13 : decode cX11_isIn 13 = .ok (.iconst 1, 1) := by decide +kernel
theorem dX11_isIn_14 : decode cX11_isIn 14 = .ok (.goto 4, 3) := by decide +kernel
theorem dX11_isIn_17 : decode cX11_isIn 17 = .ok (.iconst 0, 1) := by decide +kernel
theorem dX11_isIn_18 : decode cX11_isIn 18 = .ok (.ireturn, 1) := by decide +kernel
theorem dX11_within_0 : decode cX11_within 0 = .ok (.iload_n 0, 1) := by decide +kernel
theorem dX11_within_1 : decode cX11_within 1 = .ok (.iload_n 1, 1) := by decide +kernel
theorem dX11_within_2 : decode cX11_within 2 = .ok (.if_icmp .ge 7, 3) := by decide +kernel
theorem dX11_within_5 : decode cX11_within 5 = .ok (.iload_n 1, 1) := by decide +kernel
theorem dX11_within_6 : decode cX11_within 6 = .ok (.goto 13, 3) := by decide +kernel
theorem dX11_within_9 : decode cX11_within 9 = .ok (.iload_n 0, 1) := by decide +kernel
theorem dX11_within_10 : decode cX11_within 10 = .ok (.iload_n 2, 1) := by decide +kernel
theorem dX11_within_11 : decode cX11_within 11 = .ok (.if_icmp .le 7, 3) := by decide +kernel
theorem dX11_within_14 : decode cX11_within 14 = .ok (.iload_n 2, 1) := by decide +kernel
theorem dX11_within_15 : decode cX11_within 15 = .ok (.goto 4, 3) := by decide +kernel
theorem dX11_within_18 : decode cX11_within 18 = .ok (.iload_n 0, 1) := by decide +kernel
theorem dX11_within_19 : decode cX11_within 19 = .ok (.ireturn, 1) := by decide +kernel
theorem dX11_far_0 : decode cX11_far 0 = .ok (.iload_n 0, 1) := by decide +kernel
theorem dX11_far_1 : decode cX11_far 1 = .ok (.ifCond .ge 8, 3) := by decide +kernel
theorem dX11_far_4 : decode cX11_far 4 = .ok (.iload_n 0, 1) := by decide +kernel
theorem dX11_far_5 : decode cX11_far 5 = .ok (.ineg, 1) := by decide +kernel
theorem dX11_far_6 : decode cX11_far 6 = .ok (.goto 4, 3) := by decide +kernel
theorem dX11_far_9 : decode cX11_far 9 = .ok (.iload_n 0, 1) := by decide +kernel
theorem dX11_far_10 : decode cX11_far 10 = .ok (.ireturn, 1) := by decide +kernel
theorem dX11_over_0 : decode cX11_over 0 = .ok (.iconst 0, 1) := by decide +kernel
theorem dX11_over_1 : decode cX11_over 1 = .ok (.istore_n 2, 1) := by decide +kernel
theorem dX11_over_2 : decode cX11_over 2 = .ok (.iload_n 2, 1) := by decide +kernel
theorem dX11_over_3 : decode cX11_over 3 = .ok (.sipush 521, 3) := by decide +kernel
theorem dX11_over_6 : decode cX11_over 6 = .ok (.if_icmp .ge 15, 3) := by decide +kernel
theorem dX11_over_9 : decode cX11_over 9 = .ok (.aload_n 1, 1) := by decide +kernel
theorem dX11_over_10 : decode cX11_over 10 = .ok (.iload_n 2, 1) := by decide +kernel
theorem dX11_over_11 : decode cX11_over 11 = .ok (.aload_n 0, 1) := by decide +kernel
theorem dX11_over_12 : decode cX11_over 12 = .ok (.iload_n 2, 1) := by decide +kernel
theorem dX11_over_13 : decode cX11_over 13 = .ok (.iaload, 1) := by decide +kernel
theorem dX11_over_14 : decode cX11_over 14 = .ok (.iastore, 1) := by decide +kernel
theorem dX11_over_15 : decode cX11_over 15 = .ok (.iinc 2 1, 3) := by decide +kernel
theorem dX11_over_18 : decode cX11_over 18 = .ok (.goto (-16), 3) := by decide +kernel
theorem dX11_over_21 : decode cX11_over 21 = .ok (.return_, 1) := by decide +kernel
theorem dX11_becomes_0 : decode cX11_becomes 0 = .ok (.aload_n 0, 1) := by decide +kernel
theorem dX11_becomes_1 : decode cX11_becomes 1 = .ok (.getfield 9, 3) := by decide +kernel
theorem dX11_becomes_4 : decode cX11_becomes 4 = .ok (.iload_n 1, 1) := by decide +kernel
theorem dX11_becomes_5 : decode cX11_becomes 5 = .ok (.iaload, 1) := by decide +kernel
theorem dX11_becomes_6 : decode cX11_becomes 6 = .ok (.istore_n 3, 1) := by decide +kernel
theorem dX11_becomes_7 : decode cX11_becomes 7 = .ok (.aload_n 0, 1) := by decide +kernel
theorem dX11_becomes_8 : decode cX11_becomes 8 = .ok (.getfield 9, 3) := by decide +kernel
theorem dX11_becomes_11 : decode cX11_becomes 11 = .ok (.iload_n 1, 1) := by decide +kernel
theorem dX11_becomes_12 : decode cX11_becomes 12 = .ok (.iload_n 2, 1) := by decide +kernel
theorem dX11_becomes_13 : decode cX11_becomes 13 = .ok (.iastore, 1) := by decide +kernel
theorem dX11_becomes_14 : decode cX11_becomes 14 = .ok (.iload_n 3, 1) := by decide +kernel
theorem dX11_becomes_15 : decode cX11_becomes 15 = .ok (.ireturn, 1) := by decide +kernel
theorem dX11_isLamp_0 : decode cX11_isLamp 0 = .ok (.iload_n 1, 1) := by decide +kernel
theorem dX11_isLamp_1 : decode cX11_isLamp 1 = .ok (.i2l, 1) := by decide +kernel
theorem dX11_isLamp_2 : decode cX11_isLamp 2 = .ok (.lconst 0, 1) := by decide +kernel
theorem dX11_isLamp_3 : decode cX11_isLamp 3 = .ok (.aload_n 0, 1) := by decide +kernel
theorem dX11_isLamp_4 : decode cX11_isLamp 4 = .ok (.getfield 9, 3) := by decide +kernel
theorem dX11_isLamp_7 : decode cX11_isLamp 7 = .ok (.iconst 0, 1) := by decide +kernel
theorem dX11_isLamp_8 : decode cX11_isLamp 8 = .ok (.iaload, 1) := by decide +kernel
theorem dX11_isLamp_9 : decode cX11_isLamp 9 = .ok (.iconst 1, 1) := by decide +kernel
theorem dX11_isLamp_10 : decode cX11_isLamp 10 = .ok (.isub, 1) := by decide +kernel
theorem dX11_isLamp_11 : decode cX11_isLamp 11 = .ok (.i2l, 1) := by decide +kernel
theorem dX11_isLamp_12 : decode cX11_isLamp 12 = .ok (.invokestatic 70, 3) := by decide +kernel
theorem dX11_isLamp_15 : decode cX11_isLamp 15 = .ok (.ireturn, 1) := by decide +kernel
theorem dX11_of_0 : decode cX11_of 0 = .ok (.aload_n 0, 1) := by decide +kernel
theorem dX11_of_1 : decode cX11_of 1 = .ok (.getfield 9, 3) := by decide +kernel
theorem dX11_of_4 : decode cX11_of 4 = .ok (.bipush 7, 2) := by decide +kernel
theorem dX11_of_6 : decode cX11_of 6 = .ok (.iconst 4, 1) := by decide +kernel
theorem dX11_of_7 : decode cX11_of 7 = .ok (.iload_n 1, 1) := by decide +kernel
theorem dX11_of_8 : decode cX11_of 8 = .ok (.imul, 1) := by decide +kernel
theorem dX11_of_9 : decode cX11_of 9 = .ok (.iadd, 1) := by decide +kernel
theorem dX11_of_10 : decode cX11_of 10 = .ok (.iload_n 2, 1) := by decide +kernel
theorem dX11_of_11 : decode cX11_of 11 = .ok (.iadd, 1) := by decide +kernel
theorem dX11_of_12 : decode cX11_of 12 = .ok (.iaload, 1) := by decide +kernel
theorem dX11_of_13 : decode cX11_of 13 = .ok (.ireturn, 1) := by decide +kernel
theorem dX11_isOver_0 : decode cX11_isOver 0 = .ok (.aload_n 0, 1) := by decide +kernel
theorem dX11_isOver_1 : decode cX11_isOver 1 = .ok (.getfield 9, 3) := by decide +kernel
theorem dX11_isOver_4 : decode cX11_isOver 4 = .ok (.iconst 2, 1) := by decide +kernel
theorem dX11_isOver_5 : decode cX11_isOver 5 = .ok (.iaload, 1) := by decide +kernel
theorem dX11_isOver_6 : decode cX11_isOver 6 = .ok (.aload_n 0, 1) := by decide +kernel
theorem dX11_isOver_7 : decode cX11_isOver 7 = .ok (.getfield 9, 3) := by decide +kernel
theorem dX11_isOver_10 : decode cX11_isOver 10 = .ok (.iconst 1, 1) := by decide +kernel
theorem dX11_isOver_11 : decode cX11_isOver 11 = .ok (.iaload, 1) := by decide +kernel
theorem dX11_isOver_12 : decode cX11_isOver 12 = .ok (.if_icmp .lt 7, 3) := by decide +kernel
theorem dX11_isOver_15 : decode cX11_isOver 15 = .ok (.iconst 1, 1) := by decide +kernel
theorem dX11_isOver_16 : decode cX11_isOver 16 = .ok (.goto 4, 3) := by decide +kernel
theorem dX11_isOver_19 : decode cX11_isOver 19 = .ok (.iconst 0, 1) := by decide +kernel
theorem dX11_isOver_20 : decode cX11_isOver 20 = .ok (.ireturn, 1) := by decide +kernel
theorem dX11_isUnder_0 : decode cX11_isUnder 0 = .ok (.iload_n 1, 1) := by decide +kernel
theorem dX11_isUnder_1 : decode cX11_isUnder 1 = .ok (.ifCond .eq 28, 3) := by decide +kernel
theorem dX11_isUnder_4 : decode cX11_isUnder 4 = .ok (.iload_n 0, 1) := by decide +kernel
theorem dX11_isUnder_5 : decode cX11_isUnder 5 = .ok (.iload_n 1, 1) := by decide +kernel
theorem dX11_isUnder_6 : decode cX11_isUnder 6 = .ok (.if_icmp .eq 23, 3) := by decide +kernel
theorem dX11_isUnder_9 : decode cX11_isUnder 9 = .ok (.iload_n 1, 1) := by decide +kernel
theorem dX11_isUnder_10 : decode cX11_isUnder 10 = .ok (.iconst 2, 1) := by decide +kernel
theorem dX11_isUnder_11 : decode cX11_isUnder 11 = .ok (.if_icmp .ne 8, 3) := by decide +kernel
theorem dX11_isUnder_14 : decode cX11_isUnder 14 = .ok (.iload_n 0, 1) := by decide +kernel
theorem dX11_isUnder_15 : decode cX11_isUnder 15 = .ok (.iconst 3, 1) := by decide +kernel
theorem dX11_isUnder_16 : decode cX11_isUnder 16 = .ok (.if_icmp .eq 13, 3) := by decide +kernel
theorem dX11_isUnder_19 : decode cX11_isUnder 19 = .ok (.iload_n 1, 1) := by decide +kernel
theorem dX11_isUnder_20 : decode cX11_isUnder 20 = .ok (.iconst 4, 1) := by decide +kernel
theorem dX11_isUnder_21 : decode cX11_isUnder 21 = .ok (.if_icmp .ne 12, 3) := by decide +kernel
theorem dX11_isUnder_24 : decode cX11_isUnder 24 = .ok (.iload_n 0, 1) := by decide +kernel
theorem dX11_isUnder_25 : decode cX11_isUnder 25 = .ok (.iconst 5, 1) := by decide +kernel
theorem dX11_isUnder_26 : decode cX11_isUnder 26 = .ok (.if_icmp .ne 7, 3) := by decide +kernel
theorem dX11_isUnder_29 : decode cX11_isUnder 29 = .ok (.iconst 1, 1) := by decide +kernel
theorem dX11_isUnder_30 : decode cX11_isUnder 30 = .ok (.goto 4, 3) := by decide +kernel
theorem dX11_isUnder_33 : decode cX11_isUnder 33 = .ok (.iconst 0, 1) := by decide +kernel
theorem dX11_isUnder_34 : decode cX11_isUnder 34 = .ok (.ireturn, 1) := by decide +kernel
theorem dX11_isTold_0 : decode cX11_isTold 0 = .ok (.iload_n 0, 1) := by decide +kernel
theorem dX11_isTold_1 : decode cX11_isTold 1 = .ok (.iconst 1, 1) := by decide +kernel
theorem dX11_isTold_2 : decode cX11_isTold 2 = .ok (.if_icmp .ne 15, 3) := by decide +kernel
theorem dX11_isTold_5 : decode cX11_isTold 5 = .ok (.iload_n 1, 1) := by decide +kernel
theorem dX11_isTold_6 : decode cX11_isTold 6 = .ok (.i2l, 1) := by decide +kernel
theorem dX11_isTold_7 : decode cX11_isTold 7 = .ok (.lconst 0, 1) := by decide +kernel
theorem dX11_isTold_8 : decode cX11_isTold 8 = .ok (.ldc2_w 74, 3) := by decide +kernel
theorem dX11_isTold_11 : decode cX11_isTold 11 = .ok (.invokestatic 70, 3) := by decide +kernel
theorem dX11_isTold_14 : decode cX11_isTold 14 = .ok (.goto 42, 3) := by decide +kernel
theorem dX11_isTold_17 : decode cX11_isTold 17 = .ok (.iload_n 0, 1) := by decide +kernel
theorem dX11_isTold_18 : decode cX11_isTold 18 = .ok (.iconst 2, 1) := by decide +kernel
theorem dX11_isTold_19 : decode cX11_isTold 19 = .ok (.if_icmp .ne 15, 3) := by decide +kernel
theorem dX11_isTold_22 : decode cX11_isTold 22 = .ok (.iload_n 1, 1) := by decide +kernel
theorem dX11_isTold_23 : decode cX11_isTold 23 = .ok (.i2l, 1) := by decide +kernel
theorem dX11_isTold_24 : decode cX11_isTold 24 = .ok (.lconst 0, 1) := by decide +kernel
theorem dX11_isTold_25 : decode cX11_isTold 25 = .ok (.ldc2_w 76, 3) := by decide +kernel
theorem dX11_isTold_28 : decode cX11_isTold 28 = .ok (.invokestatic 70, 3) := by decide +kernel
theorem dX11_isTold_31 : decode cX11_isTold 31 = .ok (.goto 25, 3) := by decide +kernel
theorem dX11_isTold_34 : decode cX11_isTold 34 = .ok (.iload_n 0, 1) := by decide +kernel
theorem dX11_isTold_35 : decode cX11_isTold 35 = .ok (.iconst 3, 1) := by decide +kernel
theorem dX11_isTold_36 : decode cX11_isTold 36 = .ok (.if_icmp .ne 19, 3) := by decide +kernel
theorem dX11_isTold_39 : decode cX11_isTold 39 = .ok (.iload_n 1, 1) := by decide +kernel
theorem dX11_isTold_40 : decode cX11_isTold 40 = .ok (.i2l, 1) := by decide +kernel
theorem dX11_isTold_41 : decode cX11_isTold 41 = .ok (.lconst 1, 1) := by decide +kernel
theorem dX11_isTold_42 : decode cX11_isTold 42 = .ok (.ldc2_w 76, 3) := by decide +kernel
theorem dX11_isTold_45 : decode cX11_isTold 45 = .ok (.invokestatic 70, 3) := by decide +kernel
theorem dX11_isTold_48 : decode cX11_isTold 48 = .ok (.ifCond .eq 7, 3) := by decide +kernel
theorem dX11_isTold_51 : decode cX11_isTold 51 = .ok (.iconst 1, 1) := by decide +kernel
theorem dX11_isTold_52 : decode cX11_isTold 52 = .ok (.goto 4, 3) := by decide +kernel
theorem dX11_isTold_55 : decode cX11_isTold 55 = .ok (.iconst 0, 1) := by decide +kernel
theorem dX11_isTold_56 : decode cX11_isTold 56 = .ok (.ireturn, 1) := by decide +kernel
theorem dX11_lamp_0 : decode cX11_lamp 0 = .ok (.iload_n 1, 1) := by decide +kernel
theorem dX11_lamp_1 : decode cX11_lamp 1 = .ok (.i2l, 1) := by decide +kernel
theorem dX11_lamp_2 : decode cX11_lamp 2 = .ok (.lconst 1, 1) := by decide +kernel
theorem dX11_lamp_3 : decode cX11_lamp 3 = .ok (.ldc2_w 78, 3) := by decide +kernel
theorem dX11_lamp_6 : decode cX11_lamp 6 = .ok (.invokestatic 70, 3) := by decide +kernel
theorem dX11_lamp_9 : decode cX11_lamp 9 = .ok (.ifCond .eq 28, 3) := by decide +kernel
theorem dX11_lamp_12 : decode cX11_lamp 12 = .ok (.iconst 1, 1) := by decide +kernel
theorem dX11_lamp_13 : decode cX11_lamp 13 = .ok (.iload_n 2, 1) := by decide +kernel
theorem dX11_lamp_14 : decode cX11_lamp 14 = .ok (.invokestatic 80, 3) := by decide +kernel
theorem dX11_lamp_17 : decode cX11_lamp 17 = .ok (.ifCond .eq 20, 3) := by decide +kernel
theorem dX11_lamp_20 : decode cX11_lamp 20 = .ok (.iconst 2, 1) := by decide +kernel
theorem dX11_lamp_21 : decode cX11_lamp 21 = .ok (.iload_n 3, 1) := by decide +kernel
theorem dX11_lamp_22 : decode cX11_lamp 22 = .ok (.invokestatic 80, 3) := by decide +kernel
theorem dX11_lamp_25 : decode cX11_lamp 25 = .ok (.ifCond .eq 12, 3) := by decide +kernel
theorem dX11_lamp_28 : decode cX11_lamp 28 = .ok (.iconst 3, 1) := by decide +kernel
theorem dX11_lamp_29 : decode cX11_lamp 29 = .ok (.iload 4, 2) := by decide +kernel
theorem dX11_lamp_31 : decode cX11_lamp 31 = .ok (.invokestatic 80, 3) := by decide +kernel
theorem dX11_lamp_34 : decode cX11_lamp 34 = .ok (.ifCond .ne 5, 3) := by decide +kernel
theorem dX11_lamp_37 : decode cX11_lamp 37 = .ok (.iconst (-1), 1) := by decide +kernel
theorem dX11_lamp_38 : decode cX11_lamp 38 = .ok (.ireturn, 1) := by decide +kernel
theorem dX11_lamp_39 : decode cX11_lamp 39 = .ok (.aload_n 0, 1) := by decide +kernel
theorem dX11_lamp_40 : decode cX11_lamp 40 = .ok (.getfield 9, 3) := by decide +kernel
theorem dX11_lamp_43 : decode cX11_lamp 43 = .ok (.iconst 0, 1) := by decide +kernel
theorem dX11_lamp_44 : decode cX11_lamp 44 = .ok (.iaload, 1) := by decide +kernel
theorem dX11_lamp_45 : decode cX11_lamp 45 = .ok (.bipush 6, 2) := by decide +kernel
theorem dX11_lamp_47 : decode cX11_lamp 47 = .ok (.if_icmp .ne 6, 3) := by decide +kernel
theorem dX11_lamp_50 : decode cX11_lamp 50 = .ok (.bipush (-2), 2) := by decide +kernel
theorem dX11_lamp_52 : decode cX11_lamp 52 = .ok (.ireturn, 1) := by decide +kernel
theorem dX11_lamp_53 : decode cX11_lamp 53 = .ok (.bipush 7, 2) := by decide +kernel
theorem dX11_lamp_55 : decode cX11_lamp 55 = .ok (.iconst 4, 1) := by decide +kernel
theorem dX11_lamp_56 : decode cX11_lamp 56 = .ok (.aload_n 0, 1) := by decide +kernel
theorem dX11_lamp_57 : decode cX11_lamp 57 = .ok (.getfield 9, 3) := by decide +kernel
theorem dX11_lamp_60 : decode cX11_lamp 60 = .ok (.iconst 0, 1) := by decide +kernel
theorem dX11_lamp_61 : decode cX11_lamp 61 = .ok (.iaload, 1) := by decide +kernel
theorem dX11_lamp_62 : decode cX11_lamp 62 = .ok (.imul, 1) := by decide +kernel
theorem dX11_lamp_63 : decode cX11_lamp 63 = .ok (.iadd, 1) := by decide +kernel
theorem dX11_lamp_64 : decode cX11_lamp 64 = .ok (.istore 5, 2) := by decide +kernel
theorem dX11_lamp_66 : decode cX11_lamp 66 = .ok (.aload_n 0, 1) := by decide +kernel
theorem dX11_lamp_67 : decode cX11_lamp 67 = .ok (.getfield 9, 3) := by decide +kernel
theorem dX11_lamp_70 : decode cX11_lamp 70 = .ok (.iload 5, 2) := by decide +kernel
theorem dX11_lamp_72 : decode cX11_lamp 72 = .ok (.iload_n 1, 1) := by decide +kernel
theorem dX11_lamp_73 : decode cX11_lamp 73 = .ok (.iastore, 1) := by decide +kernel
theorem dX11_lamp_74 : decode cX11_lamp 74 = .ok (.aload_n 0, 1) := by decide +kernel
theorem dX11_lamp_75 : decode cX11_lamp 75 = .ok (.getfield 9, 3) := by decide +kernel
theorem dX11_lamp_78 : decode cX11_lamp 78 = .ok (.iload 5, 2) := by decide +kernel
theorem dX11_lamp_80 : decode cX11_lamp 80 = .ok (.iconst 1, 1) := by decide +kernel
theorem dX11_lamp_81 : decode cX11_lamp 81 = .ok (.iadd, 1) := by decide +kernel
theorem dX11_lamp_82 : decode cX11_lamp 82 = .ok (.iload_n 2, 1) := by decide +kernel
theorem dX11_lamp_83 : decode cX11_lamp 83 = .ok (.iastore, 1) := by decide +kernel
theorem dX11_lamp_84 : decode cX11_lamp 84 = .ok (.aload_n 0, 1) := by decide +kernel
theorem dX11_lamp_85 : decode cX11_lamp 85 = .ok (.getfield 9, 3) := by decide +kernel
theorem dX11_lamp_88 : decode cX11_lamp 88 = .ok (.iload 5, 2) := by decide +kernel
theorem dX11_lamp_90 : decode cX11_lamp 90 = .ok (.iconst 2, 1) := by decide +kernel
theorem dX11_lamp_91 : decode cX11_lamp 91 = .ok (.iadd, 1) := by decide +kernel
theorem dX11_lamp_92 : decode cX11_lamp 92 = .ok (.iload_n 3, 1) := by decide +kernel
theorem dX11_lamp_93 : decode cX11_lamp 93 = .ok (.iastore, 1) := by decide +kernel
theorem dX11_lamp_94 : decode cX11_lamp 94 = .ok (.aload_n 0, 1) := by decide +kernel
theorem dX11_lamp_95 : decode cX11_lamp 95 = .ok (.getfield 9, 3) := by decide +kernel
theorem dX11_lamp_98 : decode cX11_lamp 98 = .ok (.iload 5, 2) := by decide +kernel
theorem dX11_lamp_100 : decode cX11_lamp 100 = .ok (.iconst 3, 1) := by decide +kernel
theorem dX11_lamp_101 : decode cX11_lamp 101 = .ok (.iadd, 1) := by decide +kernel
theorem dX11_lamp_102 : decode cX11_lamp 102 = .ok (.iload 4, 2) := by decide +kernel
theorem dX11_lamp_104 : decode cX11_lamp 104 = .ok (.iastore, 1) := by decide +kernel
theorem dX11_lamp_105 : decode cX11_lamp 105 = .ok (.aload_n 0, 1) := by decide +kernel
theorem dX11_lamp_106 : decode cX11_lamp 106 = .ok (.getfield 9, 3) := by decide +kernel
theorem dX11_lamp_109 : decode cX11_lamp 109 = .ok (.iconst 0, 1) := by decide +kernel
theorem dX11_lamp_110 : decode cX11_lamp 110 = .ok (.dup2, 1) := by decide +kernel
theorem dX11_lamp_111 : decode cX11_lamp 111 = .ok (.iaload, 1) := by decide +kernel
theorem dX11_lamp_112 : decode cX11_lamp 112 = .ok (.iconst 1, 1) := by decide +kernel
theorem dX11_lamp_113 : decode cX11_lamp 113 = .ok (.iadd, 1) := by decide +kernel
theorem dX11_lamp_114 : decode cX11_lamp 114 = .ok (.iastore, 1) := by decide +kernel
theorem dX11_lamp_115 : decode cX11_lamp 115 = .ok (.aload_n 0, 1) := by decide +kernel
theorem dX11_lamp_116 : decode cX11_lamp 116 = .ok (.getfield 9, 3) := by decide +kernel
theorem dX11_lamp_119 : decode cX11_lamp 119 = .ok (.iconst 0, 1) := by decide +kernel
theorem dX11_lamp_120 : decode cX11_lamp 120 = .ok (.iaload, 1) := by decide +kernel
theorem dX11_lamp_121 : decode cX11_lamp 121 = .ok (.iconst 1, 1) := by decide +kernel
theorem dX11_lamp_122 : decode cX11_lamp 122 = .ok (.isub, 1) := by decide +kernel
theorem dX11_lamp_123 : decode cX11_lamp 123 = .ok (.ireturn, 1) := by decide +kernel
theorem dX11_lampOf_0 : decode cX11_lampOf 0 = .ok (.aload_n 0, 1) := by decide +kernel
theorem dX11_lampOf_1 : decode cX11_lampOf 1 = .ok (.iload_n 1, 1) := by decide +kernel
theorem dX11_lampOf_2 : decode cX11_lampOf 2 = .ok (.invokevirtual 84, 3) := by decide +kernel
theorem dX11_lampOf_5 : decode cX11_lampOf 5 = .ok (.ifCond .eq 15, 3) := by decide +kernel
theorem dX11_lampOf_8 : decode cX11_lampOf 8 = .ok (.iload_n 2, 1) := by decide +kernel
theorem dX11_lampOf_9 : decode cX11_lampOf 9 = .ok (.i2l, 1) := by decide +kernel
theorem dX11_lampOf_10 : decode cX11_lampOf 10 = .ok (.lconst 0, 1) := by decide +kernel
theorem dX11_lampOf_11 : decode cX11_lampOf 11 = .ok (.ldc2_w 78, 3) := by decide +kernel
theorem dX11_lampOf_14 : decode cX11_lampOf 14 = .ok (.invokestatic 70, 3) := by decide +kernel
theorem dX11_lampOf_17 : decode cX11_lampOf 17 = .ok (.ifCond .ne 5, 3) := by decide +kernel
theorem dX11_lampOf_20 : decode cX11_lampOf 20 = .ok (.iconst (-1), 1) := by decide +kernel
theorem dX11_lampOf_21 : decode cX11_lampOf 21 = .ok (.ireturn, 1) := by decide +kernel
theorem dX11_lampOf_22 : decode cX11_lampOf 22 = .ok (.iload_n 2, 1) := by decide +kernel
theorem dX11_lampOf_23 : decode cX11_lampOf 23 = .ok (.iconst 4, 1) := by decide +kernel
theorem dX11_lampOf_24 : decode cX11_lampOf 24 = .ok (.if_icmp .ge 10, 3) := by decide +kernel
theorem dX11_lampOf_27 : decode cX11_lampOf 27 = .ok (.aload_n 0, 1) := by decide +kernel
theorem dX11_lampOf_28 : decode cX11_lampOf 28 = .ok (.iload_n 1, 1) := by decide +kernel
theorem dX11_lampOf_29 : decode cX11_lampOf 29 = .ok (.iload_n 2, 1) := by decide +kernel
theorem dX11_lampOf_30 : decode cX11_lampOf 30 = .ok (.invokevirtual 88, 3) := by decide +kernel
theorem dX11_lampOf_33 : decode cX11_lampOf 33 = .ok (.ireturn, 1) := by decide +kernel
theorem dX11_lampOf_34 : decode cX11_lampOf 34 = .ok (.iload_n 2, 1) := by decide +kernel
theorem dX11_lampOf_35 : decode cX11_lampOf 35 = .ok (.iconst 4, 1) := by decide +kernel
theorem dX11_lampOf_36 : decode cX11_lampOf 36 = .ok (.if_icmp .ne 11, 3) := by decide +kernel
theorem dX11_lampOf_39 : decode cX11_lampOf 39 = .ok (.aload_n 0, 1) := by decide +kernel
theorem dX11_lampOf_40 : decode cX11_lampOf 40 = .ok (.iload_n 1, 1) := by decide +kernel
theorem dX11_lampOf_41 : decode cX11_lampOf 41 = .ok (.invokevirtual 92, 3) := by decide +kernel
theorem dX11_lampOf_44 : decode cX11_lampOf 44 = .ok (.goto 20, 3) := by decide +kernel
theorem dX11_lampOf_47 : decode cX11_lampOf 47 = .ok (.aload_n 0, 1) := by decide +kernel
theorem dX11_lampOf_48 : decode cX11_lampOf 48 = .ok (.invokevirtual 96, 3) := by decide +kernel
theorem dX11_lampOf_51 : decode cX11_lampOf 51 = .ok (.ifCond .eq 8, 3) := by decide +kernel
theorem dX11_lampOf_54 : decode cX11_lampOf 54 = .ok (.bipush 41, 2) := by decide +kernel
theorem dX11_lampOf_56 : decode cX11_lampOf 56 = .ok (.goto 8, 3) := by decide +kernel
theorem dX11_lampOf_59 : decode cX11_lampOf 59 = .ok (.aload_n 0, 1) := by decide +kernel
theorem dX11_lampOf_60 : decode cX11_lampOf 60 = .ok (.iload_n 1, 1) := by decide +kernel
theorem dX11_lampOf_61 : decode cX11_lampOf 61 = .ok (.invokevirtual 100, 3) := by decide +kernel
theorem dX11_lampOf_64 : decode cX11_lampOf 64 = .ok (.ireturn, 1) := by decide +kernel
theorem dX11_change_0 : decode cX11_change 0 = .ok (.aload_n 0, 1) := by decide +kernel
theorem dX11_change_1 : decode cX11_change 1 = .ok (.iload_n 1, 1) := by decide +kernel
theorem dX11_change_2 : decode cX11_change 2 = .ok (.invokevirtual 84, 3) := by decide +kernel
theorem dX11_change_5 : decode cX11_change 5 = .ok (.ifCond .eq 27, 3) := by decide +kernel
theorem dX11_change_8 : decode cX11_change 8 = .ok (.iload_n 2, 1) := by decide +kernel
theorem dX11_change_9 : decode cX11_change 9 = .ok (.iload_n 3, 1) := by decide +kernel
theorem dX11_change_10 : decode cX11_change 10 = .ok (.invokestatic 80, 3) := by decide +kernel
theorem dX11_change_13 : decode cX11_change 13 = .ok (.ifCond .eq 19, 3) := by decide +kernel
theorem dX11_change_16 : decode cX11_change 16 = .ok (.aload_n 0, 1) := by decide +kernel
theorem dX11_change_17 : decode cX11_change 17 = .ok (.bipush 7, 2) := by decide +kernel
theorem dX11_change_19 : decode cX11_change 19 = .ok (.iconst 4, 1) := by decide +kernel
theorem dX11_change_20 : decode cX11_change 20 = .ok (.iload_n 1, 1) := by decide +kernel
theorem dX11_change_21 : decode cX11_change 21 = .ok (.imul, 1) := by decide +kernel
theorem dX11_change_22 : decode cX11_change 22 = .ok (.iadd, 1) := by decide +kernel
theorem dX11_change_23 : decode cX11_change 23 = .ok (.iload_n 2, 1) := by decide +kernel
theorem dX11_change_24 : decode cX11_change 24 = .ok (.iadd, 1) := by decide +kernel
theorem dX11_change_25 : decode cX11_change 25 = .ok (.iload_n 3, 1) := by decide +kernel
theorem dX11_change_26 : decode cX11_change 26 = .ok (.invokevirtual 103, 3) := by decide +kernel
theorem dX11_change_29 : decode cX11_change 29 = .ok (.goto 4, 3) := by decide +kernel
theorem dX11_change_32 : decode cX11_change 32 = .ok (.iconst (-1), 1) := by decide +kernel
theorem dX11_change_33 : decode cX11_change 33 = .ok (.ireturn, 1) := by decide +kernel
theorem dX11_remake_0 : decode cX11_remake 0 = .ok (.aload_n 0, 1) := by decide +kernel
theorem dX11_remake_1 : decode cX11_remake 1 = .ok (.iload_n 1, 1) := by decide +kernel
theorem dX11_remake_2 : decode cX11_remake 2 = .ok (.invokevirtual 84, 3) := by decide +kernel
theorem dX11_remake_5 : decode cX11_remake 5 = .ok (.ifCond .eq 29, 3) := by decide +kernel
theorem dX11_remake_8 : decode cX11_remake 8 = .ok (.iload_n 2, 1) := by decide +kernel
theorem dX11_remake_9 : decode cX11_remake 9 = .ok (.i2l, 1) := by decide +kernel
theorem dX11_remake_10 : decode cX11_remake 10 = .ok (.lconst 1, 1) := by decide +kernel
theorem dX11_remake_11 : decode cX11_remake 11 = .ok (.ldc2_w 78, 3) := by decide +kernel
theorem dX11_remake_14 : decode cX11_remake 14 = .ok (.invokestatic 70, 3) := by decide +kernel
theorem dX11_remake_17 : decode cX11_remake 17 = .ok (.ifCond .eq 17, 3) := by decide +kernel
theorem dX11_remake_20 : decode cX11_remake 20 = .ok (.aload_n 0, 1) := by decide +kernel
theorem dX11_remake_21 : decode cX11_remake 21 = .ok (.bipush 7, 2) := by decide +kernel
theorem dX11_remake_23 : decode cX11_remake 23 = .ok (.iconst 4, 1) := by decide +kernel
theorem dX11_remake_24 : decode cX11_remake 24 = .ok (.iload_n 1, 1) := by decide +kernel
theorem dX11_remake_25 : decode cX11_remake 25 = .ok (.imul, 1) := by decide +kernel
theorem dX11_remake_26 : decode cX11_remake 26 = .ok (.iadd, 1) := by decide +kernel
theorem dX11_remake_27 : decode cX11_remake 27 = .ok (.iload_n 2, 1) := by decide +kernel
theorem dX11_remake_28 : decode cX11_remake 28 = .ok (.invokevirtual 103, 3) := by decide +kernel
theorem dX11_remake_31 : decode cX11_remake 31 = .ok (.goto 4, 3) := by decide +kernel
theorem dX11_remake_34 : decode cX11_remake 34 = .ok (.iconst (-1), 1) := by decide +kernel
theorem dX11_remake_35 : decode cX11_remake 35 = .ok (.ireturn, 1) := by decide +kernel
theorem dX11_dance_0 : decode cX11_dance 0 = .ok (.iload_n 1, 1) := by decide +kernel
theorem dX11_dance_1 : decode cX11_dance 1 = .ok (.i2l, 1) := by decide +kernel
theorem dX11_dance_2 : decode cX11_dance 2 = .ok (.lconst 0, 1) := by decide +kernel
theorem dX11_dance_3 : decode cX11_dance 3 = .ok (.ldc2_w 74, 3) := by decide +kernel
theorem dX11_dance_6 : decode cX11_dance 6 = .ok (.invokestatic 70, 3) := by decide +kernel
theorem dX11_dance_9 : decode cX11_dance 9 = .ok (.ifCond .ne 5, 3) := by decide +kernel
theorem dX11_dance_12 : decode cX11_dance 12 = .ok (.iconst (-1), 1) := by decide +kernel
theorem dX11_dance_13 : decode cX11_dance 13 = .ok (.ireturn, 1) := by decide +kernel
theorem dX11_dance_14 : decode cX11_dance 14 = .ok (.aload_n 0, 1) := by decide +kernel
theorem dX11_dance_15 : decode cX11_dance 15 = .ok (.getfield 9, 3) := by decide +kernel
theorem dX11_dance_18 : decode cX11_dance 18 = .ok (.iconst 1, 1) := by decide +kernel
theorem dX11_dance_19 : decode cX11_dance 19 = .ok (.iaload, 1) := by decide +kernel
theorem dX11_dance_20 : decode cX11_dance 20 = .ok (.bipush 16, 2) := by decide +kernel
theorem dX11_dance_22 : decode cX11_dance 22 = .ok (.if_icmp .ne 6, 3) := by decide +kernel
theorem dX11_dance_25 : decode cX11_dance 25 = .ok (.bipush (-2), 2) := by decide +kernel
theorem dX11_dance_27 : decode cX11_dance 27 = .ok (.ireturn, 1) := by decide +kernel
theorem dX11_dance_28 : decode cX11_dance 28 = .ok (.aload_n 0, 1) := by decide +kernel
theorem dX11_dance_29 : decode cX11_dance 29 = .ok (.getfield 9, 3) := by decide +kernel
theorem dX11_dance_32 : decode cX11_dance 32 = .ok (.bipush 31, 2) := by decide +kernel
theorem dX11_dance_34 : decode cX11_dance 34 = .ok (.aload_n 0, 1) := by decide +kernel
theorem dX11_dance_35 : decode cX11_dance 35 = .ok (.getfield 9, 3) := by decide +kernel
theorem dX11_dance_38 : decode cX11_dance 38 = .ok (.iconst 1, 1) := by decide +kernel
theorem dX11_dance_39 : decode cX11_dance 39 = .ok (.iaload, 1) := by decide +kernel
theorem dX11_dance_40 : decode cX11_dance 40 = .ok (.iadd, 1) := by decide +kernel
theorem dX11_dance_41 : decode cX11_dance 41 = .ok (.iload_n 1, 1) := by decide +kernel
theorem dX11_dance_42 : decode cX11_dance 42 = .ok (.iastore, 1) := by decide +kernel
theorem dX11_dance_43 : decode cX11_dance 43 = .ok (.aload_n 0, 1) := by decide +kernel
theorem dX11_dance_44 : decode cX11_dance 44 = .ok (.getfield 9, 3) := by decide +kernel
theorem dX11_dance_47 : decode cX11_dance 47 = .ok (.iconst 1, 1) := by decide +kernel
theorem dX11_dance_48 : decode cX11_dance 48 = .ok (.dup2, 1) := by decide +kernel
theorem dX11_dance_49 : decode cX11_dance 49 = .ok (.iaload, 1) := by decide +kernel
theorem dX11_dance_50 : decode cX11_dance 50 = .ok (.iconst 1, 1) := by decide +kernel
theorem dX11_dance_51 : decode cX11_dance 51 = .ok (.iadd, 1) := by decide +kernel
theorem dX11_dance_52 : decode cX11_dance 52 = .ok (.iastore, 1) := by decide +kernel
theorem dX11_dance_53 : decode cX11_dance 53 = .ok (.aload_n 0, 1) := by decide +kernel
theorem dX11_dance_54 : decode cX11_dance 54 = .ok (.getfield 9, 3) := by decide +kernel
theorem dX11_dance_57 : decode cX11_dance 57 = .ok (.iconst 1, 1) := by decide +kernel
theorem dX11_dance_58 : decode cX11_dance 58 = .ok (.iaload, 1) := by decide +kernel
theorem dX11_dance_59 : decode cX11_dance 59 = .ok (.iconst 1, 1) := by decide +kernel
theorem dX11_dance_60 : decode cX11_dance 60 = .ok (.isub, 1) := by decide +kernel
theorem dX11_dance_61 : decode cX11_dance 61 = .ok (.ireturn, 1) := by decide +kernel
theorem dX11_isBeat_0 : decode cX11_isBeat 0 = .ok (.iload_n 1, 1) := by decide +kernel
theorem dX11_isBeat_1 : decode cX11_isBeat 1 = .ok (.i2l, 1) := by decide +kernel
theorem dX11_isBeat_2 : decode cX11_isBeat 2 = .ok (.lconst 0, 1) := by decide +kernel
theorem dX11_isBeat_3 : decode cX11_isBeat 3 = .ok (.aload_n 0, 1) := by decide +kernel
theorem dX11_isBeat_4 : decode cX11_isBeat 4 = .ok (.getfield 9, 3) := by decide +kernel
theorem dX11_isBeat_7 : decode cX11_isBeat 7 = .ok (.iconst 1, 1) := by decide +kernel
theorem dX11_isBeat_8 : decode cX11_isBeat 8 = .ok (.iaload, 1) := by decide +kernel
theorem dX11_isBeat_9 : decode cX11_isBeat 9 = .ok (.iconst 1, 1) := by decide +kernel
theorem dX11_isBeat_10 : decode cX11_isBeat 10 = .ok (.isub, 1) := by decide +kernel
theorem dX11_isBeat_11 : decode cX11_isBeat 11 = .ok (.i2l, 1) := by decide +kernel
theorem dX11_isBeat_12 : decode cX11_isBeat 12 = .ok (.invokestatic 70, 3) := by decide +kernel
theorem dX11_isBeat_15 : decode cX11_isBeat 15 = .ok (.ireturn, 1) := by decide +kernel
theorem dX11_danceOf_0 : decode cX11_danceOf 0 = .ok (.aload_n 0, 1) := by decide +kernel
theorem dX11_danceOf_1 : decode cX11_danceOf 1 = .ok (.iload_n 1, 1) := by decide +kernel
theorem dX11_danceOf_2 : decode cX11_danceOf 2 = .ok (.invokevirtual 106, 3) := by decide +kernel
theorem dX11_danceOf_5 : decode cX11_danceOf 5 = .ok (.ifCond .eq 15, 3) := by decide +kernel
theorem dX11_danceOf_8 : decode cX11_danceOf 8 = .ok (.aload_n 0, 1) := by decide +kernel
theorem dX11_danceOf_9 : decode cX11_danceOf 9 = .ok (.getfield 9, 3) := by decide +kernel
theorem dX11_danceOf_12 : decode cX11_danceOf 12 = .ok (.bipush 31, 2) := by decide +kernel
theorem dX11_danceOf_14 : decode cX11_danceOf 14 = .ok (.iload_n 1, 1) := by decide +kernel
theorem dX11_danceOf_15 : decode cX11_danceOf 15 = .ok (.iadd, 1) := by decide +kernel
theorem dX11_danceOf_16 : decode cX11_danceOf 16 = .ok (.iaload, 1) := by decide +kernel
theorem dX11_danceOf_17 : decode cX11_danceOf 17 = .ok (.goto 4, 3) := by decide +kernel
theorem dX11_danceOf_20 : decode cX11_danceOf 20 = .ok (.iconst (-1), 1) := by decide +kernel
theorem dX11_danceOf_21 : decode cX11_danceOf 21 = .ok (.ireturn, 1) := by decide +kernel
theorem dX11_steps_0 : decode cX11_steps 0 = .ok (.aload_n 0, 1) := by decide +kernel
theorem dX11_steps_1 : decode cX11_steps 1 = .ok (.iload_n 1, 1) := by decide +kernel
theorem dX11_steps_2 : decode cX11_steps 2 = .ok (.invokevirtual 106, 3) := by decide +kernel
theorem dX11_steps_5 : decode cX11_steps 5 = .ok (.ifCond .eq 15, 3) := by decide +kernel
theorem dX11_steps_8 : decode cX11_steps 8 = .ok (.iload_n 2, 1) := by decide +kernel
theorem dX11_steps_9 : decode cX11_steps 9 = .ok (.i2l, 1) := by decide +kernel
theorem dX11_steps_10 : decode cX11_steps 10 = .ok (.lconst 0, 1) := by decide +kernel
theorem dX11_steps_11 : decode cX11_steps 11 = .ok (.ldc2_w 74, 3) := by decide +kernel
theorem dX11_steps_14 : decode cX11_steps 14 = .ok (.invokestatic 70, 3) := by decide +kernel
theorem dX11_steps_17 : decode cX11_steps 17 = .ok (.ifCond .ne 5, 3) := by decide +kernel
theorem dX11_steps_20 : decode cX11_steps 20 = .ok (.iconst (-1), 1) := by decide +kernel
theorem dX11_steps_21 : decode cX11_steps 21 = .ok (.ireturn, 1) := by decide +kernel
theorem dX11_steps_22 : decode cX11_steps 22 = .ok (.iload_n 1, 1) := by decide +kernel
theorem dX11_steps_23 : decode cX11_steps 23 = .ok (.aload_n 0, 1) := by decide +kernel
theorem dX11_steps_24 : decode cX11_steps 24 = .ok (.getfield 9, 3) := by decide +kernel
theorem dX11_steps_27 : decode cX11_steps 27 = .ok (.iconst 2, 1) := by decide +kernel
theorem dX11_steps_28 : decode cX11_steps 28 = .ok (.iaload, 1) := by decide +kernel
theorem dX11_steps_29 : decode cX11_steps 29 = .ok (.if_icmp .ge 8, 3) := by decide +kernel
theorem dX11_steps_32 : decode cX11_steps 32 = .ok (.bipush (-4), 2) := by decide +kernel
theorem dX11_steps_34 : decode cX11_steps 34 = .ok (.goto 12, 3) := by decide +kernel
theorem dX11_steps_37 : decode cX11_steps 37 = .ok (.aload_n 0, 1) := by decide +kernel
theorem dX11_steps_38 : decode cX11_steps 38 = .ok (.bipush 31, 2) := by decide +kernel
theorem dX11_steps_40 : decode cX11_steps 40 = .ok (.iload_n 1, 1) := by decide +kernel
theorem dX11_steps_41 : decode cX11_steps 41 = .ok (.iadd, 1) := by decide +kernel
theorem dX11_steps_42 : decode cX11_steps 42 = .ok (.iload_n 2, 1) := by decide +kernel
theorem dX11_steps_43 : decode cX11_steps 43 = .ok (.invokevirtual 103, 3) := by decide +kernel
theorem dX11_steps_46 : decode cX11_steps 46 = .ok (.ireturn, 1) := by decide +kernel
theorem dX11_anew_0 : decode cX11_anew 0 = .ok (.aload_n 0, 1) := by decide +kernel
theorem dX11_anew_1 : decode cX11_anew 1 = .ok (.getfield 9, 3) := by decide +kernel
theorem dX11_anew_4 : decode cX11_anew 4 = .ok (.iconst 3, 1) := by decide +kernel
theorem dX11_anew_5 : decode cX11_anew 5 = .ok (.iconst 0, 1) := by decide +kernel
theorem dX11_anew_6 : decode cX11_anew 6 = .ok (.iastore, 1) := by decide +kernel
theorem dX11_anew_7 : decode cX11_anew 7 = .ok (.aload_n 0, 1) := by decide +kernel
theorem dX11_anew_8 : decode cX11_anew 8 = .ok (.iconst 2, 1) := by decide +kernel
theorem dX11_anew_9 : decode cX11_anew 9 = .ok (.iconst 0, 1) := by decide +kernel
theorem dX11_anew_10 : decode cX11_anew 10 = .ok (.invokevirtual 103, 3) := by decide +kernel
theorem dX11_anew_13 : decode cX11_anew 13 = .ok (.ireturn, 1) := by decide +kernel
theorem dX11_state_0 : decode cX11_state 0 = .ok (.iload_n 1, 1) := by decide +kernel
theorem dX11_state_1 : decode cX11_state 1 = .ok (.tableswitch 65 0 3 #[31, 38, 45, 52], 31) := by decide +kernel
theorem dX11_state_32 : decode cX11_state 32 = .ok (.aload_n 0, 1) := by decide +kernel
theorem dX11_state_33 : decode cX11_state 33 = .ok (.getfield 9, 3) := by decide +kernel
theorem dX11_state_36 : decode cX11_state 36 = .ok (.iconst 2, 1) := by decide +kernel
theorem dX11_state_37 : decode cX11_state 37 = .ok (.iaload, 1) := by decide +kernel
theorem dX11_state_38 : decode cX11_state 38 = .ok (.ireturn, 1) := by decide +kernel
theorem dX11_state_39 : decode cX11_state 39 = .ok (.aload_n 0, 1) := by decide +kernel
theorem dX11_state_40 : decode cX11_state 40 = .ok (.getfield 9, 3) := by decide +kernel
theorem dX11_state_43 : decode cX11_state 43 = .ok (.iconst 1, 1) := by decide +kernel
theorem dX11_state_44 : decode cX11_state 44 = .ok (.iaload, 1) := by decide +kernel
theorem dX11_state_45 : decode cX11_state 45 = .ok (.ireturn, 1) := by decide +kernel
theorem dX11_state_46 : decode cX11_state 46 = .ok (.aload_n 0, 1) := by decide +kernel
theorem dX11_state_47 : decode cX11_state 47 = .ok (.getfield 9, 3) := by decide +kernel
theorem dX11_state_50 : decode cX11_state 50 = .ok (.iconst 3, 1) := by decide +kernel
theorem dX11_state_51 : decode cX11_state 51 = .ok (.iaload, 1) := by decide +kernel
theorem dX11_state_52 : decode cX11_state 52 = .ok (.ireturn, 1) := by decide +kernel
theorem dX11_state_53 : decode cX11_state 53 = .ok (.aload_n 0, 1) := by decide +kernel
theorem dX11_state_54 : decode cX11_state 54 = .ok (.invokevirtual 96, 3) := by decide +kernel
theorem dX11_state_57 : decode cX11_state 57 = .ok (.ifCond .eq 7, 3) := by decide +kernel
theorem dX11_state_60 : decode cX11_state 60 = .ok (.iconst 1, 1) := by decide +kernel
theorem dX11_state_61 : decode cX11_state 61 = .ok (.goto 4, 3) := by decide +kernel
theorem dX11_state_64 : decode cX11_state 64 = .ok (.iconst 0, 1) := by decide +kernel
theorem dX11_state_65 : decode cX11_state 65 = .ok (.ireturn, 1) := by decide +kernel
theorem dX11_state_66 : decode cX11_state 66 = .ok (.iconst (-1), 1) := by decide +kernel
theorem dX11_state_67 : decode cX11_state 67 = .ok (.ireturn, 1) := by decide +kernel
theorem dX11_seenAt_0 : decode cX11_seenAt 0 = .ok (.aload_n 0, 1) := by decide +kernel
theorem dX11_seenAt_1 : decode cX11_seenAt 1 = .ok (.getfield 9, 3) := by decide +kernel
theorem dX11_seenAt_4 : decode cX11_seenAt 4 = .ok (.iconst 2, 1) := by decide +kernel
theorem dX11_seenAt_5 : decode cX11_seenAt 5 = .ok (.iaload, 1) := by decide +kernel
theorem dX11_seenAt_6 : decode cX11_seenAt 6 = .ok (.ifCond .ne 7, 3) := by decide +kernel
theorem dX11_seenAt_9 : decode cX11_seenAt 9 = .ok (.iconst 0, 1) := by decide +kernel
theorem dX11_seenAt_10 : decode cX11_seenAt 10 = .ok (.goto 11, 3) := by decide +kernel
theorem dX11_seenAt_13 : decode cX11_seenAt 13 = .ok (.aload_n 0, 1) := by decide +kernel
theorem dX11_seenAt_14 : decode cX11_seenAt 14 = .ok (.getfield 9, 3) := by decide +kernel
theorem dX11_seenAt_17 : decode cX11_seenAt 17 = .ok (.iconst 2, 1) := by decide +kernel
theorem dX11_seenAt_18 : decode cX11_seenAt 18 = .ok (.iaload, 1) := by decide +kernel
theorem dX11_seenAt_19 : decode cX11_seenAt 19 = .ok (.iconst 1, 1) := by decide +kernel
theorem dX11_seenAt_20 : decode cX11_seenAt 20 = .ok (.isub, 1) := by decide +kernel
theorem dX11_seenAt_21 : decode cX11_seenAt 21 = .ok (.ireturn, 1) := by decide +kernel
theorem dX11_seen_0 : decode cX11_seen 0 = .ok (.aload_n 0, 1) := by decide +kernel
theorem dX11_seen_1 : decode cX11_seen 1 = .ok (.getfield 9, 3) := by decide +kernel
theorem dX11_seen_4 : decode cX11_seen 4 = .ok (.iconst 1, 1) := by decide +kernel
theorem dX11_seen_5 : decode cX11_seen 5 = .ok (.iaload, 1) := by decide +kernel
theorem dX11_seen_6 : decode cX11_seen 6 = .ok (.ifCond .ne 7, 3) := by decide +kernel
theorem dX11_seen_9 : decode cX11_seen 9 = .ok (.iconst 0, 1) := by decide +kernel
theorem dX11_seen_10 : decode cX11_seen 10 = .ok (.goto 15, 3) := by decide +kernel
theorem dX11_seen_13 : decode cX11_seen 13 = .ok (.aload_n 0, 1) := by decide +kernel
theorem dX11_seen_14 : decode cX11_seen 14 = .ok (.getfield 9, 3) := by decide +kernel
theorem dX11_seen_17 : decode cX11_seen 17 = .ok (.bipush 31, 2) := by decide +kernel
theorem dX11_seen_19 : decode cX11_seen 19 = .ok (.aload_n 0, 1) := by decide +kernel
theorem dX11_seen_20 : decode cX11_seen 20 = .ok (.invokevirtual 109, 3) := by decide +kernel
theorem dX11_seen_23 : decode cX11_seen 23 = .ok (.iadd, 1) := by decide +kernel
theorem dX11_seen_24 : decode cX11_seen 24 = .ok (.iaload, 1) := by decide +kernel
theorem dX11_seen_25 : decode cX11_seen 25 = .ok (.ireturn, 1) := by decide +kernel
theorem dX11_danceAt_0 : decode cX11_danceAt 0 = .ok (.aload_n 0, 1) := by decide +kernel
theorem dX11_danceAt_1 : decode cX11_danceAt 1 = .ok (.getfield 9, 3) := by decide +kernel
theorem dX11_danceAt_4 : decode cX11_danceAt 4 = .ok (.iconst 1, 1) := by decide +kernel
theorem dX11_danceAt_5 : decode cX11_danceAt 5 = .ok (.iaload, 1) := by decide +kernel
theorem dX11_danceAt_6 : decode cX11_danceAt 6 = .ok (.ifCond .ne 7, 3) := by decide +kernel
theorem dX11_danceAt_9 : decode cX11_danceAt 9 = .ok (.iconst 0, 1) := by decide +kernel
theorem dX11_danceAt_10 : decode cX11_danceAt 10 = .ok (.goto 24, 3) := by decide +kernel
theorem dX11_danceAt_13 : decode cX11_danceAt 13 = .ok (.aload_n 0, 1) := by decide +kernel
theorem dX11_danceAt_14 : decode cX11_danceAt 14 = .ok (.getfield 9, 3) := by decide +kernel
theorem dX11_danceAt_17 : decode cX11_danceAt 17 = .ok (.bipush 31, 2) := by decide +kernel
theorem dX11_danceAt_19 : decode cX11_danceAt 19 = .ok (.iload_n 1, 1) := by decide +kernel
theorem dX11_danceAt_20 : decode cX11_danceAt 20 = .ok (.iconst 0, 1) := by decide +kernel
theorem dX11_danceAt_21 : decode cX11_danceAt 21 = .ok (.aload_n 0, 1) := by decide +kernel
theorem dX11_danceAt_22 : decode cX11_danceAt 22 = .ok (.getfield 9, 3) := by decide +kernel
theorem dX11_danceAt_25 : decode cX11_danceAt 25 = .ok (.iconst 1, 1) := by decide +kernel
theorem dX11_danceAt_26 : decode cX11_danceAt 26 = .ok (.iaload, 1) := by decide +kernel
theorem dX11_danceAt_27 : decode cX11_danceAt 27 = .ok (.iconst 1, 1) := by decide +kernel
theorem dX11_danceAt_28 : decode cX11_danceAt 28 = .ok (.isub, 1) := by decide +kernel
theorem dX11_danceAt_29 : decode cX11_danceAt 29 = .ok (.invokestatic 113, 3) := by decide +kernel
theorem dX11_danceAt_32 : decode cX11_danceAt 32 = .ok (.iadd, 1) := by decide +kernel
theorem dX11_danceAt_33 : decode cX11_danceAt 33 = .ok (.iaload, 1) := by decide +kernel
theorem dX11_danceAt_34 : decode cX11_danceAt 34 = .ok (.ireturn, 1) := by decide +kernel
theorem dX11_goalOf_0 : decode cX11_goalOf 0 = .ok (.iconst 0, 1) := by decide +kernel
theorem dX11_goalOf_1 : decode cX11_goalOf 1 = .ok (.istore_n 2, 1) := by decide +kernel
theorem dX11_goalOf_2 : decode cX11_goalOf 2 = .ok (.iload_n 2, 1) := by decide +kernel
theorem dX11_goalOf_3 : decode cX11_goalOf 3 = .ok (.aload_n 0, 1) := by decide +kernel
theorem dX11_goalOf_4 : decode cX11_goalOf 4 = .ok (.getfield 9, 3) := by decide +kernel
theorem dX11_goalOf_7 : decode cX11_goalOf 7 = .ok (.iconst 5, 1) := by decide +kernel
theorem dX11_goalOf_8 : decode cX11_goalOf 8 = .ok (.iaload, 1) := by decide +kernel
theorem dX11_goalOf_9 : decode cX11_goalOf 9 = .ok (.if_icmp .ge 103, 3) := by decide +kernel
theorem dX11_goalOf_12 : decode cX11_goalOf 12 = .ok (.bipush 71, 2) := by decide +kernel
theorem dX11_goalOf_14 : decode cX11_goalOf 14 = .ok (.iconst 5, 1) := by decide +kernel
theorem dX11_goalOf_15 : decode cX11_goalOf 15 = .ok (.iload_n 2, 1) := by decide +kernel
theorem dX11_goalOf_16 : decode cX11_goalOf 16 = .ok (.imul, 1) := by decide +kernel
theorem dX11_goalOf_17 : decode cX11_goalOf 17 = .ok (.iadd, 1) := by decide +kernel
theorem dX11_goalOf_18 : decode cX11_goalOf 18 = .ok (.istore_n 3, 1) := by decide +kernel
theorem dX11_goalOf_19 : decode cX11_goalOf 19 = .ok (.aload_n 0, 1) := by decide +kernel
theorem dX11_goalOf_20 : decode cX11_goalOf 20 = .ok (.iload_n 1, 1) := by decide +kernel
theorem dX11_goalOf_21 : decode cX11_goalOf 21 = .ok (.iconst 0, 1) := by decide +kernel
theorem dX11_goalOf_22 : decode cX11_goalOf 22 = .ok (.invokevirtual 88, 3) := by decide +kernel
theorem dX11_goalOf_25 : decode cX11_goalOf 25 = .ok (.aload_n 0, 1) := by decide +kernel
theorem dX11_goalOf_26 : decode cX11_goalOf 26 = .ok (.getfield 9, 3) := by decide +kernel
theorem dX11_goalOf_29 : decode cX11_goalOf 29 = .ok (.iload_n 3, 1) := by decide +kernel
theorem dX11_goalOf_30 : decode cX11_goalOf 30 = .ok (.iaload, 1) := by decide +kernel
theorem dX11_goalOf_31 : decode cX11_goalOf 31 = .ok (.invokestatic 117, 3) := by decide +kernel
theorem dX11_goalOf_34 : decode cX11_goalOf 34 = .ok (.ifCond .eq 72, 3) := by decide +kernel
theorem dX11_goalOf_37 : decode cX11_goalOf 37 = .ok (.aload_n 0, 1) := by decide +kernel
theorem dX11_goalOf_38 : decode cX11_goalOf 38 = .ok (.iload_n 2, 1) := by decide +kernel
theorem dX11_goalOf_39 : decode cX11_goalOf 39 = .ok (.iload_n 1, 1) := by decide +kernel
theorem dX11_goalOf_40 : decode cX11_goalOf 40 = .ok (.invokevirtual 120, 3) := by decide +kernel
theorem dX11_goalOf_43 : decode cX11_goalOf 43 = .ok (.ifCond .eq 63, 3) := by decide +kernel
theorem dX11_goalOf_46 : decode cX11_goalOf 46 = .ok (.aload_n 0, 1) := by decide +kernel
theorem dX11_goalOf_47 : decode cX11_goalOf 47 = .ok (.getfield 9, 3) := by decide +kernel
theorem dX11_goalOf_50 : decode cX11_goalOf 50 = .ok (.iload_n 3, 1) := by decide +kernel
theorem dX11_goalOf_51 : decode cX11_goalOf 51 = .ok (.iconst 2, 1) := by decide +kernel
theorem dX11_goalOf_52 : decode cX11_goalOf 52 = .ok (.iadd, 1) := by decide +kernel
theorem dX11_goalOf_53 : decode cX11_goalOf 53 = .ok (.iaload, 1) := by decide +kernel
theorem dX11_goalOf_54 : decode cX11_goalOf 54 = .ok (.istore 4, 2) := by decide +kernel
theorem dX11_goalOf_56 : decode cX11_goalOf 56 = .ok (.aload_n 0, 1) := by decide +kernel
theorem dX11_goalOf_57 : decode cX11_goalOf 57 = .ok (.getfield 9, 3) := by decide +kernel
theorem dX11_goalOf_60 : decode cX11_goalOf 60 = .ok (.iload_n 3, 1) := by decide +kernel
theorem dX11_goalOf_61 : decode cX11_goalOf 61 = .ok (.iconst 1, 1) := by decide +kernel
theorem dX11_goalOf_62 : decode cX11_goalOf 62 = .ok (.iadd, 1) := by decide +kernel
theorem dX11_goalOf_63 : decode cX11_goalOf 63 = .ok (.iaload, 1) := by decide +kernel
theorem dX11_goalOf_64 : decode cX11_goalOf 64 = .ok (.iconst 2, 1) := by decide +kernel
theorem dX11_goalOf_65 : decode cX11_goalOf 65 = .ok (.if_icmp .ne 8, 3) := by decide +kernel
theorem dX11_goalOf_68 : decode cX11_goalOf 68 = .ok (.bipush 41, 2) := by decide +kernel
theorem dX11_goalOf_70 : decode cX11_goalOf 70 = .ok (.goto 35, 3) := by decide +kernel
theorem dX11_goalOf_73 : decode cX11_goalOf 73 = .ok (.aload_n 0, 1) := by decide +kernel
theorem dX11_goalOf_74 : decode cX11_goalOf 74 = .ok (.aload_n 0, 1) := by decide +kernel
theorem dX11_goalOf_75 : decode cX11_goalOf 75 = .ok (.getfield 9, 3) := by decide +kernel
theorem dX11_goalOf_78 : decode cX11_goalOf 78 = .ok (.iload_n 3, 1) := by decide +kernel
theorem dX11_goalOf_79 : decode cX11_goalOf 79 = .ok (.iconst 1, 1) := by decide +kernel
theorem dX11_goalOf_80 : decode cX11_goalOf 80 = .ok (.iadd, 1) := by decide +kernel
theorem dX11_goalOf_81 : decode cX11_goalOf 81 = .ok (.iaload, 1) := by decide +kernel
theorem dX11_goalOf_82 : decode cX11_goalOf 82 = .ok (.ifCond .ne 13, 3) := by decide +kernel
theorem dX11_goalOf_85 : decode cX11_goalOf 85 = .ok (.aload_n 0, 1) := by decide +kernel
theorem dX11_goalOf_86 : decode cX11_goalOf 86 = .ok (.invokevirtual 109, 3) := by decide +kernel
theorem dX11_goalOf_89 : decode cX11_goalOf 89 = .ok (.iload 4, 2) := by decide +kernel
theorem dX11_goalOf_91 : decode cX11_goalOf 91 = .ok (.iadd, 1) := by decide +kernel
theorem dX11_goalOf_92 : decode cX11_goalOf 92 = .ok (.goto 10, 3) := by decide +kernel
theorem dX11_goalOf_95 : decode cX11_goalOf 95 = .ok (.aload_n 0, 1) := by decide +kernel
theorem dX11_goalOf_96 : decode cX11_goalOf 96 = .ok (.invokevirtual 109, 3) := by decide +kernel
theorem dX11_goalOf_99 : decode cX11_goalOf 99 = .ok (.iload 4, 2) := by decide +kernel
theorem dX11_goalOf_101 : decode cX11_goalOf 101 = .ok (.isub, 1) := by decide +kernel
theorem dX11_goalOf_102 : decode cX11_goalOf 102 = .ok (.invokevirtual 122, 3) := by decide +kernel
theorem dX11_goalOf_105 : decode cX11_goalOf 105 = .ok (.ireturn, 1) := by decide +kernel
theorem dX11_goalOf_106 : decode cX11_goalOf 106 = .ok (.iinc 2 1, 3) := by decide +kernel
theorem dX11_goalOf_109 : decode cX11_goalOf 109 = .ok (.goto (-107), 3) := by decide +kernel
theorem dX11_goalOf_112 : decode cX11_goalOf 112 = .ok (.aload_n 0, 1) := by decide +kernel
theorem dX11_goalOf_113 : decode cX11_goalOf 113 = .ok (.invokevirtual 125, 3) := by decide +kernel
theorem dX11_goalOf_116 : decode cX11_goalOf 116 = .ok (.ireturn, 1) := by decide +kernel
theorem dX11_goesBy_0 : decode cX11_goesBy 0 = .ok (.aload_n 0, 1) := by decide +kernel
theorem dX11_goesBy_1 : decode cX11_goesBy 1 = .ok (.iload_n 1, 1) := by decide +kernel
theorem dX11_goesBy_2 : decode cX11_goesBy 2 = .ok (.iconst 3, 1) := by decide +kernel
theorem dX11_goesBy_3 : decode cX11_goesBy 3 = .ok (.invokevirtual 88, 3) := by decide +kernel
theorem dX11_goesBy_6 : decode cX11_goesBy 6 = .ok (.istore_n 3, 1) := by decide +kernel
theorem dX11_goesBy_7 : decode cX11_goesBy 7 = .ok (.iload_n 2, 1) := by decide +kernel
theorem dX11_goesBy_8 : decode cX11_goesBy 8 = .ok (.iload_n 3, 1) := by decide +kernel
theorem dX11_goesBy_9 : decode cX11_goesBy 9 = .ok (.ineg, 1) := by decide +kernel
theorem dX11_goesBy_10 : decode cX11_goesBy 10 = .ok (.iload_n 3, 1) := by decide +kernel
theorem dX11_goesBy_11 : decode cX11_goesBy 11 = .ok (.invokestatic 113, 3) := by decide +kernel
theorem dX11_goesBy_14 : decode cX11_goesBy 14 = .ok (.istore 4, 2) := by decide +kernel
theorem dX11_goesBy_16 : decode cX11_goesBy 16 = .ok (.iload_n 2, 1) := by decide +kernel
theorem dX11_goesBy_17 : decode cX11_goesBy 17 = .ok (.bipush (-2), 2) := by decide +kernel
theorem dX11_goesBy_19 : decode cX11_goesBy 19 = .ok (.iload_n 3, 1) := by decide +kernel
theorem dX11_goesBy_20 : decode cX11_goesBy 20 = .ok (.imul, 1) := by decide +kernel
theorem dX11_goesBy_21 : decode cX11_goesBy 21 = .ok (.iconst 2, 1) := by decide +kernel
theorem dX11_goesBy_22 : decode cX11_goesBy 22 = .ok (.iload_n 3, 1) := by decide +kernel
theorem dX11_goesBy_23 : decode cX11_goesBy 23 = .ok (.imul, 1) := by decide +kernel
theorem dX11_goesBy_24 : decode cX11_goesBy 24 = .ok (.invokestatic 113, 3) := by decide +kernel
theorem dX11_goesBy_27 : decode cX11_goesBy 27 = .ok (.istore 5, 2) := by decide +kernel
theorem dX11_goesBy_29 : decode cX11_goesBy 29 = .ok (.iload_n 2, 1) := by decide +kernel
theorem dX11_goesBy_30 : decode cX11_goesBy 30 = .ok (.iconst 2, 1) := by decide +kernel
theorem dX11_goesBy_31 : decode cX11_goesBy 31 = .ok (.idiv, 1) := by decide +kernel
theorem dX11_goesBy_32 : decode cX11_goesBy 32 = .ok (.iload_n 3, 1) := by decide +kernel
theorem dX11_goesBy_33 : decode cX11_goesBy 33 = .ok (.ineg, 1) := by decide +kernel
theorem dX11_goesBy_34 : decode cX11_goesBy 34 = .ok (.iload_n 3, 1) := by decide +kernel
theorem dX11_goesBy_35 : decode cX11_goesBy 35 = .ok (.invokestatic 113, 3) := by decide +kernel
theorem dX11_goesBy_38 : decode cX11_goesBy 38 = .ok (.istore 6, 2) := by decide +kernel
theorem dX11_goesBy_40 : decode cX11_goesBy 40 = .ok (.aload_n 0, 1) := by decide +kernel
theorem dX11_goesBy_41 : decode cX11_goesBy 41 = .ok (.iload_n 1, 1) := by decide +kernel
theorem dX11_goesBy_42 : decode cX11_goesBy 42 = .ok (.iconst 0, 1) := by decide +kernel
theorem dX11_goesBy_43 : decode cX11_goesBy 43 = .ok (.invokevirtual 88, 3) := by decide +kernel
theorem dX11_goesBy_46 : decode cX11_goesBy 46 = .ok (.tableswitch 81 2 5 #[30, 33, 59, 62], 30) := by decide +kernel
theorem dX11_goesBy_76 : decode cX11_goesBy 76 = .ok (.iload 5, 2) := by decide +kernel
theorem dX11_goesBy_78 : decode cX11_goesBy 78 = .ok (.ireturn, 1) := by decide +kernel
theorem dX11_goesBy_79 : decode cX11_goesBy 79 = .ok (.iload 5, 2) := by decide +kernel
theorem dX11_goesBy_81 : decode cX11_goesBy 81 = .ok (.ifCond .le 10, 3) := by decide +kernel
theorem dX11_goesBy_84 : decode cX11_goesBy 84 = .ok (.iload 5, 2) := by decide +kernel
theorem dX11_goesBy_86 : decode cX11_goesBy 86 = .ok (.iconst 1, 1) := by decide +kernel
theorem dX11_goesBy_87 : decode cX11_goesBy 87 = .ok (.iadd, 1) := by decide +kernel
theorem dX11_goesBy_88 : decode cX11_goesBy 88 = .ok (.goto 16, 3) := by decide +kernel
theorem dX11_goesBy_91 : decode cX11_goesBy 91 = .ok (.iload 5, 2) := by decide +kernel
theorem dX11_goesBy_93 : decode cX11_goesBy 93 = .ok (.ifCond .ge 10, 3) := by decide +kernel
theorem dX11_goesBy_96 : decode cX11_goesBy 96 = .ok (.iload 5, 2) := by decide +kernel
theorem dX11_goesBy_98 : decode cX11_goesBy 98 = .ok (.iconst 1, 1) := by decide +kernel
theorem dX11_goesBy_99 : decode cX11_goesBy 99 = .ok (.isub, 1) := by decide +kernel
theorem dX11_goesBy_100 : decode cX11_goesBy 100 = .ok (.goto 4, 3) := by decide +kernel
theorem dX11_goesBy_103 : decode cX11_goesBy 103 = .ok (.iconst 0, 1) := by decide +kernel
theorem dX11_goesBy_104 : decode cX11_goesBy 104 = .ok (.ireturn, 1) := by decide +kernel
theorem dX11_goesBy_105 : decode cX11_goesBy 105 = .ok (.iload 6, 2) := by decide +kernel
theorem dX11_goesBy_107 : decode cX11_goesBy 107 = .ok (.ireturn, 1) := by decide +kernel
theorem dX11_goesBy_108 : decode cX11_goesBy 108 = .ok (.aload_n 0, 1) := by decide +kernel
theorem dX11_goesBy_109 : decode cX11_goesBy 109 = .ok (.getfield 9, 3) := by decide +kernel
theorem dX11_goesBy_112 : decode cX11_goesBy 112 = .ok (.iconst 2, 1) := by decide +kernel
theorem dX11_goesBy_113 : decode cX11_goesBy 113 = .ok (.iaload, 1) := by decide +kernel
theorem dX11_goesBy_114 : decode cX11_goesBy 114 = .ok (.iconst 4, 1) := by decide +kernel
theorem dX11_goesBy_115 : decode cX11_goesBy 115 = .ok (.irem, 1) := by decide +kernel
theorem dX11_goesBy_116 : decode cX11_goesBy 116 = .ok (.iconst 3, 1) := by decide +kernel
theorem dX11_goesBy_117 : decode cX11_goesBy 117 = .ok (.if_icmp .ne 7, 3) := by decide +kernel
theorem dX11_goesBy_120 : decode cX11_goesBy 120 = .ok (.iconst 0, 1) := by decide +kernel
theorem dX11_goesBy_121 : decode cX11_goesBy 121 = .ok (.goto 5, 3) := by decide +kernel
theorem dX11_goesBy_124 : decode cX11_goesBy 124 = .ok (.iload 6, 2) := by decide +kernel
theorem dX11_goesBy_126 : decode cX11_goesBy 126 = .ok (.ireturn, 1) := by decide +kernel
theorem dX11_goesBy_127 : decode cX11_goesBy 127 = .ok (.iload 4, 2) := by decide +kernel
theorem dX11_goesBy_129 : decode cX11_goesBy 129 = .ok (.ireturn, 1) := by decide +kernel
theorem dX11_aimBehind_0 : decode cX11_aimBehind 0 = .ok (.aload_n 0, 1) := by decide +kernel
theorem dX11_aimBehind_1 : decode cX11_aimBehind 1 = .ok (.iload_n 1, 1) := by decide +kernel
theorem dX11_aimBehind_2 : decode cX11_aimBehind 2 = .ok (.invokevirtual 92, 3) := by decide +kernel
theorem dX11_aimBehind_5 : decode cX11_aimBehind 5 = .ok (.istore_n 2, 1) := by decide +kernel
theorem dX11_aimBehind_6 : decode cX11_aimBehind 6 = .ok (.iload_n 2, 1) := by decide +kernel
theorem dX11_aimBehind_7 : decode cX11_aimBehind 7 = .ok (.bipush 41, 2) := by decide +kernel
theorem dX11_aimBehind_9 : decode cX11_aimBehind 9 = .ok (.if_icmp .ne 12, 3) := by decide +kernel
theorem dX11_aimBehind_12 : decode cX11_aimBehind 12 = .ok (.aload_n 0, 1) := by decide +kernel
theorem dX11_aimBehind_13 : decode cX11_aimBehind 13 = .ok (.iload_n 1, 1) := by decide +kernel
theorem dX11_aimBehind_14 : decode cX11_aimBehind 14 = .ok (.iconst 1, 1) := by decide +kernel
theorem dX11_aimBehind_15 : decode cX11_aimBehind 15 = .ok (.invokevirtual 88, 3) := by decide +kernel
theorem dX11_aimBehind_18 : decode cX11_aimBehind 18 = .ok (.goto 29, 3) := by decide +kernel
theorem dX11_aimBehind_21 : decode cX11_aimBehind 21 = .ok (.aload_n 0, 1) := by decide +kernel
theorem dX11_aimBehind_22 : decode cX11_aimBehind 22 = .ok (.iload_n 1, 1) := by decide +kernel
theorem dX11_aimBehind_23 : decode cX11_aimBehind 23 = .ok (.iconst 1, 1) := by decide +kernel
theorem dX11_aimBehind_24 : decode cX11_aimBehind 24 = .ok (.invokevirtual 88, 3) := by decide +kernel
theorem dX11_aimBehind_27 : decode cX11_aimBehind 27 = .ok (.aload_n 0, 1) := by decide +kernel
theorem dX11_aimBehind_28 : decode cX11_aimBehind 28 = .ok (.iload_n 1, 1) := by decide +kernel
theorem dX11_aimBehind_29 : decode cX11_aimBehind 29 = .ok (.iload_n 2, 1) := by decide +kernel
theorem dX11_aimBehind_30 : decode cX11_aimBehind 30 = .ok (.aload_n 0, 1) := by decide +kernel
theorem dX11_aimBehind_31 : decode cX11_aimBehind 31 = .ok (.iload_n 1, 1) := by decide +kernel
theorem dX11_aimBehind_32 : decode cX11_aimBehind 32 = .ok (.iconst 1, 1) := by decide +kernel
theorem dX11_aimBehind_33 : decode cX11_aimBehind 33 = .ok (.invokevirtual 88, 3) := by decide +kernel
theorem dX11_aimBehind_36 : decode cX11_aimBehind 36 = .ok (.isub, 1) := by decide +kernel
theorem dX11_aimBehind_37 : decode cX11_aimBehind 37 = .ok (.invokevirtual 128, 3) := by decide +kernel
theorem dX11_aimBehind_40 : decode cX11_aimBehind 40 = .ok (.iadd, 1) := by decide +kernel
theorem dX11_aimBehind_41 : decode cX11_aimBehind 41 = .ok (.iconst 0, 1) := by decide +kernel
theorem dX11_aimBehind_42 : decode cX11_aimBehind 42 = .ok (.bipush 40, 2) := by decide +kernel
theorem dX11_aimBehind_44 : decode cX11_aimBehind 44 = .ok (.invokestatic 113, 3) := by decide +kernel
theorem dX11_aimBehind_47 : decode cX11_aimBehind 47 = .ok (.ireturn, 1) := by decide +kernel
theorem dX11_sightBy_0 : decode cX11_sightBy 0 = .ok (.iload_n 2, 1) := by decide +kernel
theorem dX11_sightBy_1 : decode cX11_sightBy 1 = .ok (.iload_n 0, 1) := by decide +kernel
theorem dX11_sightBy_2 : decode cX11_sightBy 2 = .ok (.isub, 1) := by decide +kernel
theorem dX11_sightBy_3 : decode cX11_sightBy 3 = .ok (.invokestatic 131, 3) := by decide +kernel
theorem dX11_sightBy_6 : decode cX11_sightBy 6 = .ok (.istore_n 3, 1) := by decide +kernel
theorem dX11_sightBy_7 : decode cX11_sightBy 7 = .ok (.iload_n 3, 1) := by decide +kernel
theorem dX11_sightBy_8 : decode cX11_sightBy 8 = .ok (.iload_n 1, 1) := by decide +kernel
theorem dX11_sightBy_9 : decode cX11_sightBy 9 = .ok (.if_icmp .gt 7, 3) := by decide +kernel
theorem dX11_sightBy_12 : decode cX11_sightBy 12 = .ok (.iconst 2, 1) := by decide +kernel
theorem dX11_sightBy_13 : decode cX11_sightBy 13 = .ok (.goto 15, 3) := by decide +kernel
theorem dX11_sightBy_16 : decode cX11_sightBy 16 = .ok (.iload_n 3, 1) := by decide +kernel
theorem dX11_sightBy_17 : decode cX11_sightBy 17 = .ok (.iload_n 1, 1) := by decide +kernel
theorem dX11_sightBy_18 : decode cX11_sightBy 18 = .ok (.iconst 1, 1) := by decide +kernel
theorem dX11_sightBy_19 : decode cX11_sightBy 19 = .ok (.iadd, 1) := by decide +kernel
theorem dX11_sightBy_20 : decode cX11_sightBy 20 = .ok (.if_icmp .ne 7, 3) := by decide +kernel
theorem dX11_sightBy_23 : decode cX11_sightBy 23 = .ok (.iconst 1, 1) := by decide +kernel
theorem dX11_sightBy_24 : decode cX11_sightBy 24 = .ok (.goto 4, 3) := by decide +kernel
theorem dX11_sightBy_27 : decode cX11_sightBy 27 = .ok (.iconst 0, 1) := by decide +kernel
theorem dX11_sightBy_28 : decode cX11_sightBy 28 = .ok (.ireturn, 1) := by decide +kernel
theorem dX11_sight_0 : decode cX11_sight 0 = .ok (.aload_n 0, 1) := by decide +kernel
theorem dX11_sight_1 : decode cX11_sight 1 = .ok (.iload_n 1, 1) := by decide +kernel
theorem dX11_sight_2 : decode cX11_sight 2 = .ok (.iconst 1, 1) := by decide +kernel
theorem dX11_sight_3 : decode cX11_sight 3 = .ok (.invokevirtual 88, 3) := by decide +kernel
theorem dX11_sight_6 : decode cX11_sight 6 = .ok (.aload_n 0, 1) := by decide +kernel
theorem dX11_sight_7 : decode cX11_sight 7 = .ok (.iload_n 1, 1) := by decide +kernel
theorem dX11_sight_8 : decode cX11_sight 8 = .ok (.iconst 2, 1) := by decide +kernel
theorem dX11_sight_9 : decode cX11_sight 9 = .ok (.invokevirtual 88, 3) := by decide +kernel
theorem dX11_sight_12 : decode cX11_sight 12 = .ok (.iload_n 2, 1) := by decide +kernel
theorem dX11_sight_13 : decode cX11_sight 13 = .ok (.invokestatic 134, 3) := by decide +kernel
theorem dX11_sight_16 : decode cX11_sight 16 = .ok (.ireturn, 1) := by decide +kernel
theorem dX11_worth_0 : decode cX11_worth 0 = .ok (.aload_n 0, 1) := by decide +kernel
theorem dX11_worth_1 : decode cX11_worth 1 = .ok (.iload_n 1, 1) := by decide +kernel
theorem dX11_worth_2 : decode cX11_worth 2 = .ok (.iload_n 2, 1) := by decide +kernel
theorem dX11_worth_3 : decode cX11_worth 3 = .ok (.invokevirtual 137, 3) := by decide +kernel
theorem dX11_worth_6 : decode cX11_worth 6 = .ok (.istore_n 3, 1) := by decide +kernel
theorem dX11_worth_7 : decode cX11_worth 7 = .ok (.iload_n 3, 1) := by decide +kernel
theorem dX11_worth_8 : decode cX11_worth 8 = .ok (.iconst 2, 1) := by decide +kernel
theorem dX11_worth_9 : decode cX11_worth 9 = .ok (.if_icmp .ne 15, 3) := by decide +kernel
theorem dX11_worth_12 : decode cX11_worth 12 = .ok (.bipush 10, 2) := by decide +kernel
theorem dX11_worth_14 : decode cX11_worth 14 = .ok (.aload_n 0, 1) := by decide +kernel
theorem dX11_worth_15 : decode cX11_worth 15 = .ok (.iload_n 1, 1) := by decide +kernel
theorem dX11_worth_16 : decode cX11_worth 16 = .ok (.iconst 2, 1) := by decide +kernel
theorem dX11_worth_17 : decode cX11_worth 17 = .ok (.invokevirtual 88, 3) := by decide +kernel
theorem dX11_worth_20 : decode cX11_worth 20 = .ok (.isub, 1) := by decide +kernel
theorem dX11_worth_21 : decode cX11_worth 21 = .ok (.goto 4, 3) := by decide +kernel
theorem dX11_worth_24 : decode cX11_worth 24 = .ok (.iload_n 3, 1) := by decide +kernel
theorem dX11_worth_25 : decode cX11_worth 25 = .ok (.ireturn, 1) := by decide +kernel
theorem dX11_worthOfAll_0 : decode cX11_worthOfAll 0 = .ok (.iconst 0, 1) := by decide +kernel
theorem dX11_worthOfAll_1 : decode cX11_worthOfAll 1 = .ok (.istore_n 2, 1) := by decide +kernel
theorem dX11_worthOfAll_2 : decode cX11_worthOfAll 2 = .ok (.iconst 0, 1) := by decide +kernel
theorem dX11_worthOfAll_3 : decode cX11_worthOfAll 3 = .ok (.istore_n 3, 1) := by decide +kernel
theorem dX11_worthOfAll_4 : decode cX11_worthOfAll 4 = .ok (.iload_n 3, 1) := by decide +kernel
theorem dX11_worthOfAll_5 : decode cX11_worthOfAll 5 = .ok (.aload_n 0, 1) := by decide +kernel
theorem dX11_worthOfAll_6 : decode cX11_worthOfAll 6 = .ok (.getfield 9, 3) := by decide +kernel
theorem dX11_worthOfAll_9 : decode cX11_worthOfAll 9 = .ok (.iconst 0, 1) := by decide +kernel
theorem dX11_worthOfAll_10 : decode cX11_worthOfAll 10 = .ok (.iaload, 1) := by decide +kernel
theorem dX11_worthOfAll_11 : decode cX11_worthOfAll 11 = .ok (.if_icmp .ge 18, 3) := by decide +kernel
theorem dX11_worthOfAll_14 : decode cX11_worthOfAll 14 = .ok (.iload_n 2, 1) := by decide +kernel
theorem dX11_worthOfAll_15 : decode cX11_worthOfAll 15 = .ok (.aload_n 0, 1) := by decide +kernel
theorem dX11_worthOfAll_16 : decode cX11_worthOfAll 16 = .ok (.iload_n 3, 1) := by decide +kernel
theorem dX11_worthOfAll_17 : decode cX11_worthOfAll 17 = .ok (.iload_n 1, 1) := by decide +kernel
theorem dX11_worthOfAll_18 : decode cX11_worthOfAll 18 = .ok (.invokevirtual 140, 3) := by decide +kernel
theorem dX11_worthOfAll_21 : decode cX11_worthOfAll 21 = .ok (.iadd, 1) := by decide +kernel
theorem dX11_worthOfAll_22 : decode cX11_worthOfAll 22 = .ok (.istore_n 2, 1) := by decide +kernel
theorem dX11_worthOfAll_23 : decode cX11_worthOfAll 23 = .ok (.iinc 3 1, 3) := by decide +kernel
theorem dX11_worthOfAll_26 : decode cX11_worthOfAll 26 = .ok (.goto (-22), 3) := by decide +kernel
theorem dX11_worthOfAll_29 : decode cX11_worthOfAll 29 = .ok (.iload_n 2, 1) := by decide +kernel
theorem dX11_worthOfAll_30 : decode cX11_worthOfAll 30 = .ok (.ireturn, 1) := by decide +kernel
theorem dX11_setOf_0 : decode cX11_setOf 0 = .ok (.iconst 0, 1) := by decide +kernel
theorem dX11_setOf_1 : decode cX11_setOf 1 = .ok (.istore_n 3, 1) := by decide +kernel
theorem dX11_setOf_2 : decode cX11_setOf 2 = .ok (.iconst 0, 1) := by decide +kernel
theorem dX11_setOf_3 : decode cX11_setOf 3 = .ok (.istore 4, 2) := by decide +kernel
theorem dX11_setOf_5 : decode cX11_setOf 5 = .ok (.iload 4, 2) := by decide +kernel
theorem dX11_setOf_7 : decode cX11_setOf 7 = .ok (.aload_n 0, 1) := by decide +kernel
theorem dX11_setOf_8 : decode cX11_setOf 8 = .ok (.getfield 9, 3) := by decide +kernel
theorem dX11_setOf_11 : decode cX11_setOf 11 = .ok (.iconst 0, 1) := by decide +kernel
theorem dX11_setOf_12 : decode cX11_setOf 12 = .ok (.iaload, 1) := by decide +kernel
theorem dX11_setOf_13 : decode cX11_setOf 13 = .ok (.if_icmp .ge 31, 3) := by decide +kernel
theorem dX11_setOf_16 : decode cX11_setOf 16 = .ok (.iload_n 3, 1) := by decide +kernel
theorem dX11_setOf_17 : decode cX11_setOf 17 = .ok (.aload_n 0, 1) := by decide +kernel
theorem dX11_setOf_18 : decode cX11_setOf 18 = .ok (.iload 4, 2) := by decide +kernel
theorem dX11_setOf_20 : decode cX11_setOf 20 = .ok (.iload_n 2, 1) := by decide +kernel
theorem dX11_setOf_21 : decode cX11_setOf 21 = .ok (.invokevirtual 137, 3) := by decide +kernel
theorem dX11_setOf_24 : decode cX11_setOf 24 = .ok (.iload_n 1, 1) := by decide +kernel
theorem dX11_setOf_25 : decode cX11_setOf 25 = .ok (.if_icmp .ne 10, 3) := by decide +kernel
theorem dX11_setOf_28 : decode cX11_setOf 28 = .ok (.iconst 1, 1) := by decide +kernel
theorem dX11_setOf_29 : decode cX11_setOf 29 = .ok (.iload 4, 2) := by decide +kernel
theorem dX11_setOf_31 : decode cX11_setOf 31 = .ok (.ishl, 1) := by decide +kernel
theorem dX11_setOf_32 : decode cX11_setOf 32 = .ok (.goto 4, 3) := by decide +kernel
theorem dX11_setOf_35 : decode cX11_setOf 35 = .ok (.iconst 0, 1) := by decide +kernel
theorem dX11_setOf_36 : decode cX11_setOf 36 = .ok (.ior, 1) := by decide +kernel
theorem dX11_setOf_37 : decode cX11_setOf 37 = .ok (.istore_n 3, 1) := by decide +kernel
theorem dX11_setOf_38 : decode cX11_setOf 38 = .ok (.iinc 4 1, 3) := by decide +kernel
theorem dX11_setOf_41 : decode cX11_setOf 41 = .ok (.goto (-36), 3) := by decide +kernel
theorem dX11_setOf_44 : decode cX11_setOf 44 = .ok (.iload_n 3, 1) := by decide +kernel
theorem dX11_setOf_45 : decode cX11_setOf 45 = .ok (.ireturn, 1) := by decide +kernel
theorem dX11_goes_0 : decode cX11_goes 0 = .ok (.iconst 0, 1) := by decide +kernel
theorem dX11_goes_1 : decode cX11_goes 1 = .ok (.istore_n 2, 1) := by decide +kernel
theorem dX11_goes_2 : decode cX11_goes 2 = .ok (.iload_n 2, 1) := by decide +kernel
theorem dX11_goes_3 : decode cX11_goes 3 = .ok (.aload_n 0, 1) := by decide +kernel
theorem dX11_goes_4 : decode cX11_goes 4 = .ok (.getfield 9, 3) := by decide +kernel
theorem dX11_goes_7 : decode cX11_goes 7 = .ok (.iconst 0, 1) := by decide +kernel
theorem dX11_goes_8 : decode cX11_goes 8 = .ok (.iaload, 1) := by decide +kernel
theorem dX11_goes_9 : decode cX11_goes 9 = .ok (.if_icmp .ge 36, 3) := by decide +kernel
theorem dX11_goes_12 : decode cX11_goes 12 = .ok (.aload_n 0, 1) := by decide +kernel
theorem dX11_goes_13 : decode cX11_goes 13 = .ok (.getfield 19, 3) := by decide +kernel
theorem dX11_goes_16 : decode cX11_goes 16 = .ok (.iload_n 2, 1) := by decide +kernel
theorem dX11_goes_17 : decode cX11_goes 17 = .ok (.iload_n 1, 1) := by decide +kernel
theorem dX11_goes_18 : decode cX11_goes 18 = .ok (.iload_n 2, 1) := by decide +kernel
theorem dX11_goes_19 : decode cX11_goes 19 = .ok (.iconst 1, 1) := by decide +kernel
theorem dX11_goes_20 : decode cX11_goes 20 = .ok (.iadd, 1) := by decide +kernel
theorem dX11_goes_21 : decode cX11_goes 21 = .ok (.if_icmp .ne 12, 3) := by decide +kernel
theorem dX11_goes_24 : decode cX11_goes 24 = .ok (.aload_n 0, 1) := by decide +kernel
theorem dX11_goes_25 : decode cX11_goes 25 = .ok (.iload_n 2, 1) := by decide +kernel
theorem dX11_goes_26 : decode cX11_goes 26 = .ok (.iconst 1, 1) := by decide +kernel
theorem dX11_goes_27 : decode cX11_goes 27 = .ok (.invokevirtual 88, 3) := by decide +kernel
theorem dX11_goes_30 : decode cX11_goes 30 = .ok (.goto 8, 3) := by decide +kernel
theorem dX11_goes_33 : decode cX11_goes 33 = .ok (.aload_n 0, 1) := by decide +kernel
theorem dX11_goes_34 : decode cX11_goes 34 = .ok (.iload_n 2, 1) := by decide +kernel
theorem dX11_goes_35 : decode cX11_goes 35 = .ok (.invokevirtual 100, 3) := by decide +kernel
theorem dX11_goes_38 : decode cX11_goes 38 = .ok (.iastore, 1) := by decide +kernel
theorem dX11_goes_39 : decode cX11_goes 39 = .ok (.iinc 2 1, 3) := by decide +kernel
theorem dX11_goes_42 : decode cX11_goes 42 = .ok (.goto (-40), 3) := by decide +kernel
theorem dX11_goes_45 : decode cX11_goes 45 = .ok (.iconst 0, 1) := by decide +kernel
theorem dX11_goes_46 : decode cX11_goes 46 = .ok (.istore_n 2, 1) := by decide +kernel
theorem dX11_goes_47 : decode cX11_goes 47 = .ok (.iload_n 2, 1) := by decide +kernel
theorem dX11_goes_48 : decode cX11_goes 48 = .ok (.aload_n 0, 1) := by decide +kernel
theorem dX11_goes_49 : decode cX11_goes 49 = .ok (.getfield 9, 3) := by decide +kernel
theorem dX11_goes_52 : decode cX11_goes 52 = .ok (.iconst 0, 1) := by decide +kernel
theorem dX11_goes_53 : decode cX11_goes 53 = .ok (.iaload, 1) := by decide +kernel
theorem dX11_goes_54 : decode cX11_goes 54 = .ok (.if_icmp .ge 28, 3) := by decide +kernel
theorem dX11_goes_57 : decode cX11_goes 57 = .ok (.aload_n 0, 1) := by decide +kernel
theorem dX11_goes_58 : decode cX11_goes 58 = .ok (.getfield 9, 3) := by decide +kernel
theorem dX11_goes_61 : decode cX11_goes 61 = .ok (.bipush 7, 2) := by decide +kernel
theorem dX11_goes_63 : decode cX11_goes 63 = .ok (.iconst 4, 1) := by decide +kernel
theorem dX11_goes_64 : decode cX11_goes 64 = .ok (.iload_n 2, 1) := by decide +kernel
theorem dX11_goes_65 : decode cX11_goes 65 = .ok (.imul, 1) := by decide +kernel
theorem dX11_goes_66 : decode cX11_goes 66 = .ok (.iadd, 1) := by decide +kernel
theorem dX11_goes_67 : decode cX11_goes 67 = .ok (.iconst 1, 1) := by decide +kernel
theorem dX11_goes_68 : decode cX11_goes 68 = .ok (.iadd, 1) := by decide +kernel
theorem dX11_goes_69 : decode cX11_goes 69 = .ok (.aload_n 0, 1) := by decide +kernel
theorem dX11_goes_70 : decode cX11_goes 70 = .ok (.getfield 19, 3) := by decide +kernel
theorem dX11_goes_73 : decode cX11_goes 73 = .ok (.iload_n 2, 1) := by decide +kernel
theorem dX11_goes_74 : decode cX11_goes 74 = .ok (.iaload, 1) := by decide +kernel
theorem dX11_goes_75 : decode cX11_goes 75 = .ok (.iastore, 1) := by decide +kernel
theorem dX11_goes_76 : decode cX11_goes 76 = .ok (.iinc 2 1, 3) := by decide +kernel
theorem dX11_goes_79 : decode cX11_goes 79 = .ok (.goto (-32), 3) := by decide +kernel
theorem dX11_goes_82 : decode cX11_goes 82 = .ok (.aload_n 0, 1) := by decide +kernel
theorem dX11_goes_83 : decode cX11_goes 83 = .ok (.aload_n 0, 1) := by decide +kernel
theorem dX11_goes_84 : decode cX11_goes 84 = .ok (.getfield 9, 3) := by decide +kernel
theorem dX11_goes_87 : decode cX11_goes 87 = .ok (.bipush 31, 2) := by decide +kernel
theorem dX11_goes_89 : decode cX11_goes 89 = .ok (.aload_n 0, 1) := by decide +kernel
theorem dX11_goes_90 : decode cX11_goes 90 = .ok (.getfield 9, 3) := by decide +kernel
theorem dX11_goes_93 : decode cX11_goes 93 = .ok (.iconst 2, 1) := by decide +kernel
theorem dX11_goes_94 : decode cX11_goes 94 = .ok (.iaload, 1) := by decide +kernel
theorem dX11_goes_95 : decode cX11_goes 95 = .ok (.iadd, 1) := by decide +kernel
theorem dX11_goes_96 : decode cX11_goes 96 = .ok (.iaload, 1) := by decide +kernel
theorem dX11_goes_97 : decode cX11_goes 97 = .ok (.invokevirtual 143, 3) := by decide +kernel
theorem dX11_goes_100 : decode cX11_goes 100 = .ok (.istore_n 2, 1) := by decide +kernel
theorem dX11_goes_101 : decode cX11_goes 101 = .ok (.aload_n 0, 1) := by decide +kernel
theorem dX11_goes_102 : decode cX11_goes 102 = .ok (.getfield 9, 3) := by decide +kernel
theorem dX11_goes_105 : decode cX11_goes 105 = .ok (.iconst 2, 1) := by decide +kernel
theorem dX11_goes_106 : decode cX11_goes 106 = .ok (.dup2, 1) := by decide +kernel
theorem dX11_goes_107 : decode cX11_goes 107 = .ok (.iaload, 1) := by decide +kernel
theorem dX11_goes_108 : decode cX11_goes 108 = .ok (.iconst 1, 1) := by decide +kernel
theorem dX11_goes_109 : decode cX11_goes 109 = .ok (.iadd, 1) := by decide +kernel
theorem dX11_goes_110 : decode cX11_goes 110 = .ok (.iastore, 1) := by decide +kernel
theorem dX11_goes_111 : decode cX11_goes 111 = .ok (.aload_n 0, 1) := by decide +kernel
theorem dX11_goes_112 : decode cX11_goes 112 = .ok (.getfield 9, 3) := by decide +kernel
theorem dX11_goes_115 : decode cX11_goes 115 = .ok (.iconst 3, 1) := by decide +kernel
theorem dX11_goes_116 : decode cX11_goes 116 = .ok (.dup2, 1) := by decide +kernel
theorem dX11_goes_117 : decode cX11_goes 117 = .ok (.iaload, 1) := by decide +kernel
theorem dX11_goes_118 : decode cX11_goes 118 = .ok (.iload_n 2, 1) := by decide +kernel
theorem dX11_goes_119 : decode cX11_goes 119 = .ok (.iadd, 1) := by decide +kernel
theorem dX11_goes_120 : decode cX11_goes 120 = .ok (.iastore, 1) := by decide +kernel
theorem dX11_goes_121 : decode cX11_goes 121 = .ok (.iload_n 2, 1) := by decide +kernel
theorem dX11_goes_122 : decode cX11_goes 122 = .ok (.ireturn, 1) := by decide +kernel
theorem dX11_fact_0 : decode cX11_fact 0 = .ok (.iload_n 1, 1) := by decide +kernel
theorem dX11_fact_1 : decode cX11_fact 1 = .ok (.tableswitch 57 0 3 #[31, 38, 43, 50], 31) := by decide +kernel
theorem dX11_fact_32 : decode cX11_fact 32 = .ok (.aload_n 0, 1) := by decide +kernel
theorem dX11_fact_33 : decode cX11_fact 33 = .ok (.getfield 9, 3) := by decide +kernel
theorem dX11_fact_36 : decode cX11_fact 36 = .ok (.iconst 2, 1) := by decide +kernel
theorem dX11_fact_37 : decode cX11_fact 37 = .ok (.iaload, 1) := by decide +kernel
theorem dX11_fact_38 : decode cX11_fact 38 = .ok (.ireturn, 1) := by decide +kernel
theorem dX11_fact_39 : decode cX11_fact 39 = .ok (.aload_n 0, 1) := by decide +kernel
theorem dX11_fact_40 : decode cX11_fact 40 = .ok (.invokevirtual 125, 3) := by decide +kernel
theorem dX11_fact_43 : decode cX11_fact 43 = .ok (.ireturn, 1) := by decide +kernel
theorem dX11_fact_44 : decode cX11_fact 44 = .ok (.aload_n 0, 1) := by decide +kernel
theorem dX11_fact_45 : decode cX11_fact 45 = .ok (.iload_n 2, 1) := by decide +kernel
theorem dX11_fact_46 : decode cX11_fact 46 = .ok (.iconst 1, 1) := by decide +kernel
theorem dX11_fact_47 : decode cX11_fact 47 = .ok (.invokevirtual 88, 3) := by decide +kernel
theorem dX11_fact_50 : decode cX11_fact 50 = .ok (.ireturn, 1) := by decide +kernel
theorem dX11_fact_51 : decode cX11_fact 51 = .ok (.aload_n 0, 1) := by decide +kernel
theorem dX11_fact_52 : decode cX11_fact 52 = .ok (.iload_n 2, 1) := by decide +kernel
theorem dX11_fact_53 : decode cX11_fact 53 = .ok (.iconst 2, 1) := by decide +kernel
theorem dX11_fact_54 : decode cX11_fact 54 = .ok (.invokevirtual 88, 3) := by decide +kernel
theorem dX11_fact_57 : decode cX11_fact 57 = .ok (.ireturn, 1) := by decide +kernel
theorem dX11_fact_58 : decode cX11_fact 58 = .ok (.iload_n 2, 1) := by decide +kernel
theorem dX11_fact_59 : decode cX11_fact 59 = .ok (.ireturn, 1) := by decide +kernel
theorem dX11_joined_0 : decode cX11_joined 0 = .ok (.iload_n 0, 1) := by decide +kernel
theorem dX11_joined_1 : decode cX11_joined 1 = .ok (.iconst 2, 1) := by decide +kernel
theorem dX11_joined_2 : decode cX11_joined 2 = .ok (.if_icmp .ne 52, 3) := by decide +kernel
theorem dX11_joined_5 : decode cX11_joined 5 = .ok (.iload_n 1, 1) := by decide +kernel
theorem dX11_joined_6 : decode cX11_joined 6 = .ok (.bipush 60, 2) := by decide +kernel
theorem dX11_joined_8 : decode cX11_joined 8 = .ok (.if_icmp .ne 16, 3) := by decide +kernel
theorem dX11_joined_11 : decode cX11_joined 11 = .ok (.iload_n 2, 1) := by decide +kernel
theorem dX11_joined_12 : decode cX11_joined 12 = .ok (.iload_n 3, 1) := by decide +kernel
theorem dX11_joined_13 : decode cX11_joined 13 = .ok (.if_icmp .ge 7, 3) := by decide +kernel
theorem dX11_joined_16 : decode cX11_joined 16 = .ok (.iconst 1, 1) := by decide +kernel
theorem dX11_joined_17 : decode cX11_joined 17 = .ok (.goto 36, 3) := by decide +kernel
theorem dX11_joined_20 : decode cX11_joined 20 = .ok (.iconst 0, 1) := by decide +kernel
theorem dX11_joined_21 : decode cX11_joined 21 = .ok (.goto 32, 3) := by decide +kernel
theorem dX11_joined_24 : decode cX11_joined 24 = .ok (.iload_n 1, 1) := by decide +kernel
theorem dX11_joined_25 : decode cX11_joined 25 = .ok (.bipush 61, 2) := by decide +kernel
theorem dX11_joined_27 : decode cX11_joined 27 = .ok (.if_icmp .ne 16, 3) := by decide +kernel
theorem dX11_joined_30 : decode cX11_joined 30 = .ok (.iload_n 2, 1) := by decide +kernel
theorem dX11_joined_31 : decode cX11_joined 31 = .ok (.iload_n 3, 1) := by decide +kernel
theorem dX11_joined_32 : decode cX11_joined 32 = .ok (.if_icmp .ne 7, 3) := by decide +kernel
theorem dX11_joined_35 : decode cX11_joined 35 = .ok (.iconst 1, 1) := by decide +kernel
theorem dX11_joined_36 : decode cX11_joined 36 = .ok (.goto 17, 3) := by decide +kernel
theorem dX11_joined_39 : decode cX11_joined 39 = .ok (.iconst 0, 1) := by decide +kernel
theorem dX11_joined_40 : decode cX11_joined 40 = .ok (.goto 13, 3) := by decide +kernel
theorem dX11_joined_43 : decode cX11_joined 43 = .ok (.iload_n 2, 1) := by decide +kernel
theorem dX11_joined_44 : decode cX11_joined 44 = .ok (.iload_n 3, 1) := by decide +kernel
theorem dX11_joined_45 : decode cX11_joined 45 = .ok (.if_icmp .le 7, 3) := by decide +kernel
theorem dX11_joined_48 : decode cX11_joined 48 = .ok (.iconst 1, 1) := by decide +kernel
theorem dX11_joined_49 : decode cX11_joined 49 = .ok (.goto 4, 3) := by decide +kernel
theorem dX11_joined_52 : decode cX11_joined 52 = .ok (.iconst 0, 1) := by decide +kernel
theorem dX11_joined_53 : decode cX11_joined 53 = .ok (.ireturn, 1) := by decide +kernel
theorem dX11_joined_54 : decode cX11_joined 54 = .ok (.iload_n 0, 1) := by decide +kernel
theorem dX11_joined_55 : decode cX11_joined 55 = .ok (.iconst 4, 1) := by decide +kernel
theorem dX11_joined_56 : decode cX11_joined 56 = .ok (.if_icmp .ne 19, 3) := by decide +kernel
theorem dX11_joined_59 : decode cX11_joined 59 = .ok (.iload_n 2, 1) := by decide +kernel
theorem dX11_joined_60 : decode cX11_joined 60 = .ok (.ifCond .eq 11, 3) := by decide +kernel
theorem dX11_joined_63 : decode cX11_joined 63 = .ok (.iload_n 3, 1) := by decide +kernel
theorem dX11_joined_64 : decode cX11_joined 64 = .ok (.ifCond .eq 7, 3) := by decide +kernel
theorem dX11_joined_67 : decode cX11_joined 67 = .ok (.iconst 1, 1) := by decide +kernel
theorem dX11_joined_68 : decode cX11_joined 68 = .ok (.goto 20, 3) := by decide +kernel
theorem dX11_joined_71 : decode cX11_joined 71 = .ok (.iconst 0, 1) := by decide +kernel
theorem dX11_joined_72 : decode cX11_joined 72 = .ok (.goto 16, 3) := by decide +kernel
theorem dX11_joined_75 : decode cX11_joined 75 = .ok (.iload_n 2, 1) := by decide +kernel
theorem dX11_joined_76 : decode cX11_joined 76 = .ok (.ifCond .ne 7, 3) := by decide +kernel
theorem dX11_joined_79 : decode cX11_joined 79 = .ok (.iload_n 3, 1) := by decide +kernel
theorem dX11_joined_80 : decode cX11_joined 80 = .ok (.ifCond .eq 7, 3) := by decide +kernel
theorem dX11_joined_83 : decode cX11_joined 83 = .ok (.iconst 1, 1) := by decide +kernel
theorem dX11_joined_84 : decode cX11_joined 84 = .ok (.goto 4, 3) := by decide +kernel
theorem dX11_joined_87 : decode cX11_joined 87 = .ok (.iconst 0, 1) := by decide +kernel
theorem dX11_joined_88 : decode cX11_joined 88 = .ok (.ireturn, 1) := by decide +kernel
theorem dX11_holds_0 : decode cX11_holds 0 = .ok (.aload_n 0, 1) := by decide +kernel
theorem dX11_holds_1 : decode cX11_holds 1 = .ok (.getfield 9, 3) := by decide +kernel
theorem dX11_holds_4 : decode cX11_holds 4 = .ok (.bipush 71, 2) := by decide +kernel
theorem dX11_holds_6 : decode cX11_holds 6 = .ok (.iconst 5, 1) := by decide +kernel
theorem dX11_holds_7 : decode cX11_holds 7 = .ok (.iload_n 1, 1) := by decide +kernel
theorem dX11_holds_8 : decode cX11_holds 8 = .ok (.imul, 1) := by decide +kernel
theorem dX11_holds_9 : decode cX11_holds 9 = .ok (.iadd, 1) := by decide +kernel
theorem dX11_holds_10 : decode cX11_holds 10 = .ok (.iconst 3, 1) := by decide +kernel
theorem dX11_holds_11 : decode cX11_holds 11 = .ok (.iadd, 1) := by decide +kernel
theorem dX11_holds_12 : decode cX11_holds 12 = .ok (.iaload, 1) := by decide +kernel
theorem dX11_holds_13 : decode cX11_holds 13 = .ok (.istore_n 3, 1) := by decide +kernel
theorem dX11_holds_14 : decode cX11_holds 14 = .ok (.aload_n 0, 1) := by decide +kernel
theorem dX11_holds_15 : decode cX11_holds 15 = .ok (.getfield 9, 3) := by decide +kernel
theorem dX11_holds_18 : decode cX11_holds 18 = .ok (.bipush 71, 2) := by decide +kernel
theorem dX11_holds_20 : decode cX11_holds 20 = .ok (.iconst 5, 1) := by decide +kernel
theorem dX11_holds_21 : decode cX11_holds 21 = .ok (.iload_n 1, 1) := by decide +kernel
theorem dX11_holds_22 : decode cX11_holds 22 = .ok (.imul, 1) := by decide +kernel
theorem dX11_holds_23 : decode cX11_holds 23 = .ok (.iadd, 1) := by decide +kernel
theorem dX11_holds_24 : decode cX11_holds 24 = .ok (.iconst 4, 1) := by decide +kernel
theorem dX11_holds_25 : decode cX11_holds 25 = .ok (.iadd, 1) := by decide +kernel
theorem dX11_holds_26 : decode cX11_holds 26 = .ok (.iaload, 1) := by decide +kernel
theorem dX11_holds_27 : decode cX11_holds 27 = .ok (.istore 4, 2) := by decide +kernel
theorem dX11_holds_29 : decode cX11_holds 29 = .ok (.iconst 0, 1) := by decide +kernel
theorem dX11_holds_30 : decode cX11_holds 30 = .ok (.istore 5, 2) := by decide +kernel
theorem dX11_holds_32 : decode cX11_holds 32 = .ok (.iload_n 3, 1) := by decide +kernel
theorem dX11_holds_33 : decode cX11_holds 33 = .ok (.istore 6, 2) := by decide +kernel
theorem dX11_holds_35 : decode cX11_holds 35 = .ok (.iload 6, 2) := by decide +kernel
theorem dX11_holds_37 : decode cX11_holds 37 = .ok (.iload 4, 2) := by decide +kernel
theorem dX11_holds_39 : decode cX11_holds 39 = .ok (.if_icmp .ge 153, 3) := by decide +kernel
theorem dX11_holds_42 : decode cX11_holds 42 = .ok (.aload_n 0, 1) := by decide +kernel
theorem dX11_holds_43 : decode cX11_holds 43 = .ok (.getfield 9, 3) := by decide +kernel
theorem dX11_holds_46 : decode cX11_holds 46 = .ok (.bipush 111, 2) := by decide +kernel
theorem dX11_holds_48 : decode cX11_holds 48 = .ok (.iconst 2, 1) := by decide +kernel
theorem dX11_holds_49 : decode cX11_holds 49 = .ok (.iload 6, 2) := by decide +kernel
theorem dX11_holds_51 : decode cX11_holds 51 = .ok (.imul, 1) := by decide +kernel
theorem dX11_holds_52 : decode cX11_holds 52 = .ok (.iadd, 1) := by decide +kernel
theorem dX11_holds_53 : decode cX11_holds 53 = .ok (.iaload, 1) := by decide +kernel
theorem dX11_holds_54 : decode cX11_holds 54 = .ok (.istore 7, 2) := by decide +kernel
theorem dX11_holds_56 : decode cX11_holds 56 = .ok (.aload_n 0, 1) := by decide +kernel
theorem dX11_holds_57 : decode cX11_holds 57 = .ok (.getfield 9, 3) := by decide +kernel
theorem dX11_holds_60 : decode cX11_holds 60 = .ok (.bipush 111, 2) := by decide +kernel
theorem dX11_holds_62 : decode cX11_holds 62 = .ok (.iconst 2, 1) := by decide +kernel
theorem dX11_holds_63 : decode cX11_holds 63 = .ok (.iload 6, 2) := by decide +kernel
theorem dX11_holds_65 : decode cX11_holds 65 = .ok (.imul, 1) := by decide +kernel
theorem dX11_holds_66 : decode cX11_holds 66 = .ok (.iadd, 1) := by decide +kernel
theorem dX11_holds_67 : decode cX11_holds 67 = .ok (.iconst 1, 1) := by decide +kernel
theorem dX11_holds_68 : decode cX11_holds 68 = .ok (.iadd, 1) := by decide +kernel
theorem dX11_holds_69 : decode cX11_holds 69 = .ok (.iaload, 1) := by decide +kernel
theorem dX11_holds_70 : decode cX11_holds 70 = .ok (.istore 8, 2) := by decide +kernel
theorem dX11_holds_72 : decode cX11_holds 72 = .ok (.iload 7, 2) := by decide +kernel
theorem dX11_holds_74 : decode cX11_holds 74 = .ok (.iconst 2, 1) := by decide +kernel
theorem dX11_holds_75 : decode cX11_holds 75 = .ok (.if_icmp .ge 33, 3) := by decide +kernel
theorem dX11_holds_78 : decode cX11_holds 78 = .ok (.aload_n 0, 1) := by decide +kernel
theorem dX11_holds_79 : decode cX11_holds 79 = .ok (.getfield 25, 3) := by decide +kernel
theorem dX11_holds_82 : decode cX11_holds 82 = .ok (.iload 5, 2) := by decide +kernel
theorem dX11_holds_84 : decode cX11_holds 84 = .ok (.iload 7, 2) := by decide +kernel
theorem dX11_holds_86 : decode cX11_holds 86 = .ok (.ifCond .ne 8, 3) := by decide +kernel
theorem dX11_holds_89 : decode cX11_holds 89 = .ok (.iload 8, 2) := by decide +kernel
theorem dX11_holds_91 : decode cX11_holds 91 = .ok (.goto 10, 3) := by decide +kernel
theorem dX11_holds_94 : decode cX11_holds 94 = .ok (.aload_n 0, 1) := by decide +kernel
theorem dX11_holds_95 : decode cX11_holds 95 = .ok (.iload 8, 2) := by decide +kernel
theorem dX11_holds_97 : decode cX11_holds 97 = .ok (.iload_n 2, 1) := by decide +kernel
theorem dX11_holds_98 : decode cX11_holds 98 = .ok (.invokevirtual 146, 3) := by decide +kernel
theorem dX11_holds_101 : decode cX11_holds 101 = .ok (.iastore, 1) := by decide +kernel
theorem dX11_holds_102 : decode cX11_holds 102 = .ok (.iinc 5 1, 3) := by decide +kernel
theorem dX11_holds_105 : decode cX11_holds 105 = .ok (.goto 81, 3) := by decide +kernel
theorem dX11_holds_108 : decode cX11_holds 108 = .ok (.iload 7, 2) := by decide +kernel
theorem dX11_holds_110 : decode cX11_holds 110 = .ok (.iconst 3, 1) := by decide +kernel
theorem dX11_holds_111 : decode cX11_holds 111 = .ok (.if_icmp .ne 32, 3) := by decide +kernel
theorem dX11_holds_114 : decode cX11_holds 114 = .ok (.aload_n 0, 1) := by decide +kernel
theorem dX11_holds_115 : decode cX11_holds 115 = .ok (.getfield 25, 3) := by decide +kernel
theorem dX11_holds_118 : decode cX11_holds 118 = .ok (.iload 5, 2) := by decide +kernel
theorem dX11_holds_120 : decode cX11_holds 120 = .ok (.iconst 1, 1) := by decide +kernel
theorem dX11_holds_121 : decode cX11_holds 121 = .ok (.isub, 1) := by decide +kernel
theorem dX11_holds_122 : decode cX11_holds 122 = .ok (.aload_n 0, 1) := by decide +kernel
theorem dX11_holds_123 : decode cX11_holds 123 = .ok (.getfield 25, 3) := by decide +kernel
theorem dX11_holds_126 : decode cX11_holds 126 = .ok (.iload 5, 2) := by decide +kernel
theorem dX11_holds_128 : decode cX11_holds 128 = .ok (.iconst 1, 1) := by decide +kernel
theorem dX11_holds_129 : decode cX11_holds 129 = .ok (.isub, 1) := by decide +kernel
theorem dX11_holds_130 : decode cX11_holds 130 = .ok (.iaload, 1) := by decide +kernel
theorem dX11_holds_131 : decode cX11_holds 131 = .ok (.ifCond .ne 7, 3) := by decide +kernel
theorem dX11_holds_134 : decode cX11_holds 134 = .ok (.iconst 1, 1) := by decide +kernel
theorem dX11_holds_135 : decode cX11_holds 135 = .ok (.goto 4, 3) := by decide +kernel
theorem dX11_holds_138 : decode cX11_holds 138 = .ok (.iconst 0, 1) := by decide +kernel
theorem dX11_holds_139 : decode cX11_holds 139 = .ok (.iastore, 1) := by decide +kernel
theorem dX11_holds_140 : decode cX11_holds 140 = .ok (.goto 46, 3) := by decide +kernel
theorem dX11_holds_143 : decode cX11_holds 143 = .ok (.iinc 5 (-1), 3) := by decide +kernel
theorem dX11_holds_146 : decode cX11_holds 146 = .ok (.aload_n 0, 1) := by decide +kernel
theorem dX11_holds_147 : decode cX11_holds 147 = .ok (.getfield 25, 3) := by decide +kernel
theorem dX11_holds_150 : decode cX11_holds 150 = .ok (.iload 5, 2) := by decide +kernel
theorem dX11_holds_152 : decode cX11_holds 152 = .ok (.iconst 1, 1) := by decide +kernel
theorem dX11_holds_153 : decode cX11_holds 153 = .ok (.isub, 1) := by decide +kernel
theorem dX11_holds_154 : decode cX11_holds 154 = .ok (.iload 7, 2) := by decide +kernel
theorem dX11_holds_156 : decode cX11_holds 156 = .ok (.iload 8, 2) := by decide +kernel
theorem dX11_holds_158 : decode cX11_holds 158 = .ok (.aload_n 0, 1) := by decide +kernel
theorem dX11_holds_159 : decode cX11_holds 159 = .ok (.getfield 25, 3) := by decide +kernel
theorem dX11_holds_162 : decode cX11_holds 162 = .ok (.iload 5, 2) := by decide +kernel
theorem dX11_holds_164 : decode cX11_holds 164 = .ok (.iconst 1, 1) := by decide +kernel
theorem dX11_holds_165 : decode cX11_holds 165 = .ok (.isub, 1) := by decide +kernel
theorem dX11_holds_166 : decode cX11_holds 166 = .ok (.iaload, 1) := by decide +kernel
theorem dX11_holds_167 : decode cX11_holds 167 = .ok (.aload_n 0, 1) := by decide +kernel
theorem dX11_holds_168 : decode cX11_holds 168 = .ok (.getfield 25, 3) := by decide +kernel
theorem dX11_holds_171 : decode cX11_holds 171 = .ok (.iload 5, 2) := by decide +kernel
theorem dX11_holds_173 : decode cX11_holds 173 = .ok (.iaload, 1) := by decide +kernel
theorem dX11_holds_174 : decode cX11_holds 174 = .ok (.invokestatic 149, 3) := by decide +kernel
theorem dX11_holds_177 : decode cX11_holds 177 = .ok (.ifCond .eq 7, 3) := by decide +kernel
theorem dX11_holds_180 : decode cX11_holds 180 = .ok (.iconst 1, 1) := by decide +kernel
theorem dX11_holds_181 : decode cX11_holds 181 = .ok (.goto 4, 3) := by decide +kernel
theorem dX11_holds_184 : decode cX11_holds 184 = .ok (.iconst 0, 1) := by decide +kernel
theorem dX11_holds_185 : decode cX11_holds 185 = .ok (.iastore, 1) := by decide +kernel
theorem dX11_holds_186 : decode cX11_holds 186 = .ok (.iinc 6 1, 3) := by decide +kernel
theorem dX11_holds_189 : decode cX11_holds 189 = .ok (.goto (-154), 3) := by decide +kernel
theorem dX11_holds_192 : decode cX11_holds 192 = .ok (.iload_n 3, 1) := by decide +kernel
theorem dX11_holds_193 : decode cX11_holds 193 = .ok (.iload 4, 2) := by decide +kernel
theorem dX11_holds_195 : decode cX11_holds 195 = .ok (.if_icmp .eq 12, 3) := by decide +kernel
theorem dX11_holds_198 : decode cX11_holds 198 = .ok (.aload_n 0, 1) := by decide +kernel
theorem dX11_holds_199 : decode cX11_holds 199 = .ok (.getfield 25, 3) := by decide +kernel
theorem dX11_holds_202 : decode cX11_holds 202 = .ok (.iconst 0, 1) := by decide +kernel
theorem dX11_holds_203 : decode cX11_holds 203 = .ok (.iaload, 1) := by decide +kernel
theorem dX11_holds_204 : decode cX11_holds 204 = .ok (.ifCond .eq 7, 3) := by decide +kernel
theorem dX11_holds_207 : decode cX11_holds 207 = .ok (.iconst 1, 1) := by decide +kernel
theorem dX11_holds_208 : decode cX11_holds 208 = .ok (.goto 4, 3) := by decide +kernel
theorem dX11_holds_211 : decode cX11_holds 211 = .ok (.iconst 0, 1) := by decide +kernel
theorem dX11_holds_212 : decode cX11_holds 212 = .ok (.ireturn, 1) := by decide +kernel
theorem dX11_feed_0 : decode cX11_feed 0 = .ok (.iload_n 3, 1) := by decide +kernel
theorem dX11_feed_1 : decode cX11_feed 1 = .ok (.i2l, 1) := by decide +kernel
theorem dX11_feed_2 : decode cX11_feed 2 = .ok (.lconst 1, 1) := by decide +kernel
theorem dX11_feed_3 : decode cX11_feed 3 = .ok (.ldc2_w 153, 3) := by decide +kernel
theorem dX11_feed_6 : decode cX11_feed 6 = .ok (.invokestatic 70, 3) := by decide +kernel
theorem dX11_feed_9 : decode cX11_feed 9 = .ok (.ifCond .ne 5, 3) := by decide +kernel
theorem dX11_feed_12 : decode cX11_feed 12 = .ok (.iconst (-1), 1) := by decide +kernel
theorem dX11_feed_13 : decode cX11_feed 13 = .ok (.ireturn, 1) := by decide +kernel
theorem dX11_feed_14 : decode cX11_feed 14 = .ok (.aload_n 0, 1) := by decide +kernel
theorem dX11_feed_15 : decode cX11_feed 15 = .ok (.getfield 155, 3) := by decide +kernel
theorem dX11_feed_18 : decode cX11_feed 18 = .ok (.iload_n 3, 1) := by decide +kernel
theorem dX11_feed_19 : decode cX11_feed 19 = .ok (.iadd, 1) := by decide +kernel
theorem dX11_feed_20 : decode cX11_feed 20 = .ok (.sipush 200, 3) := by decide +kernel
theorem dX11_feed_23 : decode cX11_feed 23 = .ok (.if_icmp .le 6, 3) := by decide +kernel
theorem dX11_feed_26 : decode cX11_feed 26 = .ok (.bipush (-2), 2) := by decide +kernel
theorem dX11_feed_28 : decode cX11_feed 28 = .ok (.ireturn, 1) := by decide +kernel
theorem dX11_feed_29 : decode cX11_feed 29 = .ok (.iconst 0, 1) := by decide +kernel
theorem dX11_feed_30 : decode cX11_feed 30 = .ok (.istore 4, 2) := by decide +kernel
theorem dX11_feed_32 : decode cX11_feed 32 = .ok (.iload 4, 2) := by decide +kernel
theorem dX11_feed_34 : decode cX11_feed 34 = .ok (.iload_n 3, 1) := by decide +kernel
theorem dX11_feed_35 : decode cX11_feed 35 = .ok (.if_icmp .ge 40, 3) := by decide +kernel
theorem dX11_feed_38 : decode cX11_feed 38 = .ok (.aload_n 0, 1) := by decide +kernel
theorem dX11_feed_39 : decode cX11_feed 39 = .ok (.getfield 22, 3) := by decide +kernel
theorem dX11_feed_42 : decode cX11_feed 42 = .ok (.aload_n 0, 1) := by decide +kernel
theorem dX11_feed_43 : decode cX11_feed 43 = .ok (.getfield 155, 3) := by decide +kernel
theorem dX11_feed_46 : decode cX11_feed 46 = .ok (.lload_n 1, 1) := by decide +kernel
theorem dX11_feed_47 : decode cX11_feed 47 = .ok (.bipush 8, 2) := by decide +kernel
theorem dX11_feed_49 : decode cX11_feed 49 = .ok (.iload 4, 2) := by decide +kernel
theorem dX11_feed_51 : decode cX11_feed 51 = .ok (.imul, 1) := by decide +kernel
theorem dX11_feed_52 : decode cX11_feed 52 = .ok (.lshr, 1) := by decide +kernel
theorem dX11_feed_53 : decode cX11_feed 53 = .ok (.ldc2_w 159, 3) := by decide +kernel
theorem dX11_feed_56 : decode cX11_feed 56 = .ok (.land, 1) := by decide +kernel
theorem dX11_feed_57 : decode cX11_feed 57 = .ok (.l2i, 1) := by decide +kernel
theorem dX11_feed_58 : decode cX11_feed 58 = .ok (.iastore, 1) := by decide +kernel
theorem dX11_feed_59 : decode cX11_feed 59 = .ok (.aload_n 0, 1) := by decide +kernel
theorem dX11_feed_60 : decode cX11_feed 60 = .ok (.dup, 1) := by decide +kernel
theorem dX11_feed_61 : decode cX11_feed 61 = .ok (.getfield 155, 3) := by decide +kernel
theorem dX11_feed_64 : decode cX11_feed 64 = .ok (.iconst 1, 1) := by decide +kernel
theorem dX11_feed_65 : decode cX11_feed 65 = .ok (.iadd, 1) := by decide +kernel
theorem dX11_feed_66 : decode cX11_feed 66 = .ok (.putfield 155, 3) := by decide +kernel
theorem dX11_feed_69 : decode cX11_feed 69 = .ok (.iinc 4 1, 3) := by decide +kernel
theorem dX11_feed_72 : decode cX11_feed 72 = .ok (.goto (-40), 3) := by decide +kernel
theorem dX11_feed_75 : decode cX11_feed 75 = .ok (.aload_n 0, 1) := by decide +kernel
theorem dX11_feed_76 : decode cX11_feed 76 = .ok (.getfield 155, 3) := by decide +kernel
theorem dX11_feed_79 : decode cX11_feed 79 = .ok (.ireturn, 1) := by decide +kernel
theorem dX11_isLetter_0 : decode cX11_isLetter 0 = .ok (.iload_n 1, 1) := by decide +kernel
theorem dX11_isLetter_1 : decode cX11_isLetter 1 = .ok (.aload_n 0, 1) := by decide +kernel
theorem dX11_isLetter_2 : decode cX11_isLetter 2 = .ok (.getfield 155, 3) := by decide +kernel
theorem dX11_isLetter_5 : decode cX11_isLetter 5 = .ok (.if_icmp .ge 29, 3) := by decide +kernel
theorem dX11_isLetter_8 : decode cX11_isLetter 8 = .ok (.aload_n 0, 1) := by decide +kernel
theorem dX11_isLetter_9 : decode cX11_isLetter 9 = .ok (.getfield 22, 3) := by decide +kernel
theorem dX11_isLetter_12 : decode cX11_isLetter 12 = .ok (.iload_n 1, 1) := by decide +kernel
theorem dX11_isLetter_13 : decode cX11_isLetter 13 = .ok (.iaload, 1) := by decide +kernel
theorem dX11_isLetter_14 : decode cX11_isLetter 14 = .ok (.bipush 97, 2) := by decide +kernel
theorem dX11_isLetter_16 : decode cX11_isLetter 16 = .ok (.if_icmp .lt 18, 3) := by decide +kernel
theorem dX11_isLetter_19 : decode cX11_isLetter 19 = .ok (.aload_n 0, 1) := by decide +kernel
theorem dX11_isLetter_20 : decode cX11_isLetter 20 = .ok (.getfield 22, 3) := by decide +kernel
theorem dX11_isLetter_23 : decode cX11_isLetter 23 = .ok (.iload_n 1, 1) := by decide +kernel
theorem dX11_isLetter_24 : decode cX11_isLetter 24 = .ok (.iaload, 1) := by decide +kernel
theorem dX11_isLetter_25 : decode cX11_isLetter 25 = .ok (.bipush 122, 2) := by decide +kernel
theorem dX11_isLetter_27 : decode cX11_isLetter 27 = .ok (.if_icmp .gt 7, 3) := by decide +kernel
theorem dX11_isLetter_30 : decode cX11_isLetter 30 = .ok (.iconst 1, 1) := by decide +kernel
theorem dX11_isLetter_31 : decode cX11_isLetter 31 = .ok (.goto 4, 3) := by decide +kernel
theorem dX11_isLetter_34 : decode cX11_isLetter 34 = .ok (.iconst 0, 1) := by decide +kernel
theorem dX11_isLetter_35 : decode cX11_isLetter 35 = .ok (.ireturn, 1) := by decide +kernel
theorem dX11_isDigit_0 : decode cX11_isDigit 0 = .ok (.iload_n 1, 1) := by decide +kernel
theorem dX11_isDigit_1 : decode cX11_isDigit 1 = .ok (.aload_n 0, 1) := by decide +kernel
theorem dX11_isDigit_2 : decode cX11_isDigit 2 = .ok (.getfield 155, 3) := by decide +kernel
theorem dX11_isDigit_5 : decode cX11_isDigit 5 = .ok (.if_icmp .ge 29, 3) := by decide +kernel
theorem dX11_isDigit_8 : decode cX11_isDigit 8 = .ok (.aload_n 0, 1) := by decide +kernel
theorem dX11_isDigit_9 : decode cX11_isDigit 9 = .ok (.getfield 22, 3) := by decide +kernel
theorem dX11_isDigit_12 : decode cX11_isDigit 12 = .ok (.iload_n 1, 1) := by decide +kernel
theorem dX11_isDigit_13 : decode cX11_isDigit 13 = .ok (.iaload, 1) := by decide +kernel
theorem dX11_isDigit_14 : decode cX11_isDigit 14 = .ok (.bipush 48, 2) := by decide +kernel
theorem dX11_isDigit_16 : decode cX11_isDigit 16 = .ok (.if_icmp .lt 18, 3) := by decide +kernel
theorem dX11_isDigit_19 : decode cX11_isDigit 19 = .ok (.aload_n 0, 1) := by decide +kernel
theorem dX11_isDigit_20 : decode cX11_isDigit 20 = .ok (.getfield 22, 3) := by decide +kernel
theorem dX11_isDigit_23 : decode cX11_isDigit 23 = .ok (.iload_n 1, 1) := by decide +kernel
theorem dX11_isDigit_24 : decode cX11_isDigit 24 = .ok (.iaload, 1) := by decide +kernel
theorem dX11_isDigit_25 : decode cX11_isDigit 25 = .ok (.bipush 57, 2) := by decide +kernel
theorem dX11_isDigit_27 : decode cX11_isDigit 27 = .ok (.if_icmp .gt 7, 3) := by decide +kernel
theorem dX11_isDigit_30 : decode cX11_isDigit 30 = .ok (.iconst 1, 1) := by decide +kernel
theorem dX11_isDigit_31 : decode cX11_isDigit 31 = .ok (.goto 4, 3) := by decide +kernel
theorem dX11_isDigit_34 : decode cX11_isDigit 34 = .ok (.iconst 0, 1) := by decide +kernel
theorem dX11_isDigit_35 : decode cX11_isDigit 35 = .ok (.ireturn, 1) := by decide +kernel
theorem dX11_look_0 : decode cX11_look 0 = .ok (.aload_n 0, 1) := by decide +kernel
theorem dX11_look_1 : decode cX11_look 1 = .ok (.getfield 161, 3) := by decide +kernel
theorem dX11_look_4 : decode cX11_look 4 = .ok (.aload_n 0, 1) := by decide +kernel
theorem dX11_look_5 : decode cX11_look 5 = .ok (.getfield 155, 3) := by decide +kernel
theorem dX11_look_8 : decode cX11_look 8 = .ok (.if_icmp .ge 30, 3) := by decide +kernel
theorem dX11_look_11 : decode cX11_look 11 = .ok (.aload_n 0, 1) := by decide +kernel
theorem dX11_look_12 : decode cX11_look 12 = .ok (.getfield 22, 3) := by decide +kernel
theorem dX11_look_15 : decode cX11_look 15 = .ok (.aload_n 0, 1) := by decide +kernel
theorem dX11_look_16 : decode cX11_look 16 = .ok (.getfield 161, 3) := by decide +kernel
theorem dX11_look_19 : decode cX11_look 19 = .ok (.iaload, 1) := by decide +kernel
theorem dX11_look_20 : decode cX11_look 20 = .ok (.bipush 32, 2) := by decide +kernel
theorem dX11_look_22 : decode cX11_look 22 = .ok (.if_icmp .ne 16, 3) := by decide +kernel
theorem dX11_look_25 : decode cX11_look 25 = .ok (.aload_n 0, 1) := by decide +kernel
theorem dX11_look_26 : decode cX11_look 26 = .ok (.dup, 1) := by decide +kernel
theorem dX11_look_27 : decode cX11_look 27 = .ok (.getfield 161, 3) := by decide +kernel
theorem dX11_look_30 : decode cX11_look 30 = .ok (.iconst 1, 1) := by decide +kernel
theorem dX11_look_31 : decode cX11_look 31 = .ok (.iadd, 1) := by decide +kernel
theorem dX11_look_32 : decode cX11_look 32 = .ok (.putfield 161, 3) := by decide +kernel
theorem dX11_look_35 : decode cX11_look 35 = .ok (.goto (-35), 3) := by decide +kernel
theorem dX11_look_38 : decode cX11_look 38 = .ok (.aload_n 0, 1) := by decide +kernel
theorem dX11_look_39 : decode cX11_look 39 = .ok (.aload_n 0, 1) := by decide +kernel
theorem dX11_look_40 : decode cX11_look 40 = .ok (.getfield 161, 3) := by decide +kernel
theorem dX11_look_43 : decode cX11_look 43 = .ok (.putfield 164, 3) := by decide +kernel
theorem dX11_look_46 : decode cX11_look 46 = .ok (.aload_n 0, 1) := by decide +kernel
theorem dX11_look_47 : decode cX11_look 47 = .ok (.getfield 161, 3) := by decide +kernel
theorem dX11_look_50 : decode cX11_look 50 = .ok (.aload_n 0, 1) := by decide +kernel
theorem dX11_look_51 : decode cX11_look 51 = .ok (.getfield 155, 3) := by decide +kernel
theorem dX11_look_54 : decode cX11_look 54 = .ok (.if_icmp .ne 11, 3) := by decide +kernel
theorem dX11_look_57 : decode cX11_look 57 = .ok (.aload_n 0, 1) := by decide +kernel
theorem dX11_look_58 : decode cX11_look 58 = .ok (.iconst 0, 1) := by decide +kernel
theorem dX11_look_59 : decode cX11_look 59 = .ok (.putfield 167, 3) := by decide +kernel
theorem dX11_look_62 : decode cX11_look 62 = .ok (.goto 180, 3) := by decide +kernel
theorem dX11_look_65 : decode cX11_look 65 = .ok (.aload_n 0, 1) := by decide +kernel
theorem dX11_look_66 : decode cX11_look 66 = .ok (.aload_n 0, 1) := by decide +kernel
theorem dX11_look_67 : decode cX11_look 67 = .ok (.getfield 161, 3) := by decide +kernel
theorem dX11_look_70 : decode cX11_look 70 = .ok (.invokevirtual 170, 3) := by decide +kernel
theorem dX11_look_73 : decode cX11_look 73 = .ok (.ifCond .eq 32, 3) := by decide +kernel
theorem dX11_look_76 : decode cX11_look 76 = .ok (.aload_n 0, 1) := by decide +kernel
theorem dX11_look_77 : decode cX11_look 77 = .ok (.iconst 1, 1) := by decide +kernel
theorem dX11_look_78 : decode cX11_look 78 = .ok (.putfield 167, 3) := by decide +kernel
theorem dX11_look_81 : decode cX11_look 81 = .ok (.aload_n 0, 1) := by decide +kernel
theorem dX11_look_82 : decode cX11_look 82 = .ok (.aload_n 0, 1) := by decide +kernel
theorem dX11_look_83 : decode cX11_look 83 = .ok (.getfield 161, 3) := by decide +kernel
theorem dX11_look_86 : decode cX11_look 86 = .ok (.invokevirtual 170, 3) := by decide +kernel
theorem dX11_look_89 : decode cX11_look 89 = .ok (.ifCond .eq 153, 3) := by decide +kernel
theorem dX11_look_92 : decode cX11_look 92 = .ok (.aload_n 0, 1) := by decide +kernel
theorem dX11_look_93 : decode cX11_look 93 = .ok (.dup, 1) := by decide +kernel
theorem dX11_look_94 : decode cX11_look 94 = .ok (.getfield 161, 3) := by decide +kernel
theorem dX11_look_97 : decode cX11_look 97 = .ok (.iconst 1, 1) := by decide +kernel
theorem dX11_look_98 : decode cX11_look 98 = .ok (.iadd, 1) := by decide +kernel
theorem dX11_look_99 : decode cX11_look 99 = .ok (.putfield 161, 3) := by decide +kernel
theorem dX11_look_102 : decode cX11_look 102 = .ok (.goto (-21), 3) := by decide +kernel
theorem dX11_look_105 : decode cX11_look 105 = .ok (.aload_n 0, 1) := by decide +kernel
theorem dX11_look_106 : decode cX11_look 106 = .ok (.aload_n 0, 1) := by decide +kernel
theorem dX11_look_107 : decode cX11_look 107 = .ok (.getfield 161, 3) := by decide +kernel
theorem dX11_look_110 : decode cX11_look 110 = .ok (.invokevirtual 173, 3) := by decide +kernel
theorem dX11_look_113 : decode cX11_look 113 = .ok (.ifCond .eq 101, 3) := by decide +kernel
theorem dX11_look_116 : decode cX11_look 116 = .ok (.aload_n 0, 1) := by decide +kernel
theorem dX11_look_117 : decode cX11_look 117 = .ok (.iconst 0, 1) := by decide +kernel
theorem dX11_look_118 : decode cX11_look 118 = .ok (.putfield 176, 3) := by decide +kernel
theorem dX11_look_121 : decode cX11_look 121 = .ok (.aload_n 0, 1) := by decide +kernel
theorem dX11_look_122 : decode cX11_look 122 = .ok (.aload_n 0, 1) := by decide +kernel
theorem dX11_look_123 : decode cX11_look 123 = .ok (.getfield 161, 3) := by decide +kernel
theorem dX11_look_126 : decode cX11_look 126 = .ok (.invokevirtual 173, 3) := by decide +kernel
theorem dX11_look_129 : decode cX11_look 129 = .ok (.ifCond .eq 60, 3) := by decide +kernel
theorem dX11_look_132 : decode cX11_look 132 = .ok (.aload_n 0, 1) := by decide +kernel
theorem dX11_look_133 : decode cX11_look 133 = .ok (.aload_n 0, 1) := by decide +kernel
theorem dX11_look_134 : decode cX11_look 134 = .ok (.getfield 161, 3) := by decide +kernel
theorem dX11_look_137 : decode cX11_look 137 = .ok (.aload_n 0, 1) := by decide +kernel
theorem dX11_look_138 : decode cX11_look 138 = .ok (.getfield 164, 3) := by decide +kernel
theorem dX11_look_141 : decode cX11_look 141 = .ok (.isub, 1) := by decide +kernel
theorem dX11_look_142 : decode cX11_look 142 = .ok (.iconst 4, 1) := by decide +kernel
theorem dX11_look_143 : decode cX11_look 143 = .ok (.if_icmp .ge 26, 3) := by decide +kernel
theorem dX11_look_146 : decode cX11_look 146 = .ok (.bipush 10, 2) := by decide +kernel
theorem dX11_look_148 : decode cX11_look 148 = .ok (.aload_n 0, 1) := by decide +kernel
theorem dX11_look_149 : decode cX11_look 149 = .ok (.getfield 176, 3) := by decide +kernel
theorem dX11_look_152 : decode cX11_look 152 = .ok (.imul, 1) := by decide +kernel
theorem dX11_look_153 : decode cX11_look 153 = .ok (.aload_n 0, 1) := by decide +kernel
theorem dX11_look_154 : decode cX11_look 154 = .ok (.getfield 22, 3) := by decide +kernel
theorem dX11_look_157 : decode cX11_look 157 = .ok (.aload_n 0, 1) := by decide +kernel
theorem dX11_look_158 : decode cX11_look 158 = .ok (.getfield 161, 3) := by decide +kernel
theorem dX11_look_161 : decode cX11_look 161 = .ok (.iaload, 1) := by decide +kernel
theorem dX11_look_162 : decode cX11_look 162 = .ok (.iadd, 1) := by decide +kernel
theorem dX11_look_163 : decode cX11_look 163 = .ok (.bipush 48, 2) := by decide +kernel
theorem dX11_look_165 : decode cX11_look 165 = .ok (.isub, 1) := by decide +kernel
theorem dX11_look_166 : decode cX11_look 166 = .ok (.goto 7, 3) := by decide +kernel
theorem dX11_look_169 : decode cX11_look 169 = .ok (.aload_n 0, 1) := by decide +kernel
theorem dX11_look_170 : decode cX11_look 170 = .ok (.getfield 176, 3) := by decide +kernel
theorem dX11_look_173 : decode cX11_look 173 = .ok (.putfield 176, 3) := by decide +kernel
theorem dX11_look_176 : decode cX11_look 176 = .ok (.aload_n 0, 1) := by decide +kernel
theorem dX11_look_177 : decode cX11_look 177 = .ok (.dup, 1) := by decide +kernel
theorem dX11_look_178 : decode cX11_look 178 = .ok (.getfield 161, 3) := by decide +kernel
theorem dX11_look_181 : decode cX11_look 181 = .ok (.iconst 1, 1) := by decide +kernel
theorem dX11_look_182 : decode cX11_look 182 = .ok (.iadd, 1) := by decide +kernel
theorem dX11_look_183 : decode cX11_look 183 = .ok (.putfield 161, 3) := by decide +kernel
theorem dX11_look_186 : decode cX11_look 186 = .ok (.goto (-65), 3) := by decide +kernel
theorem dX11_look_189 : decode cX11_look 189 = .ok (.aload_n 0, 1) := by decide +kernel
theorem dX11_look_190 : decode cX11_look 190 = .ok (.aload_n 0, 1) := by decide +kernel
theorem dX11_look_191 : decode cX11_look 191 = .ok (.getfield 161, 3) := by decide +kernel
theorem dX11_look_194 : decode cX11_look 194 = .ok (.aload_n 0, 1) := by decide +kernel
theorem dX11_look_195 : decode cX11_look 195 = .ok (.getfield 164, 3) := by decide +kernel
theorem dX11_look_198 : decode cX11_look 198 = .ok (.isub, 1) := by decide +kernel
theorem dX11_look_199 : decode cX11_look 199 = .ok (.iconst 4, 1) := by decide +kernel
theorem dX11_look_200 : decode cX11_look 200 = .ok (.if_icmp .le 7, 3) := by decide +kernel
theorem dX11_look_203 : decode cX11_look 203 = .ok (.iconst 4, 1) := by decide +kernel
theorem dX11_look_204 : decode cX11_look 204 = .ok (.goto 4, 3) := by decide +kernel
theorem dX11_look_207 : decode cX11_look 207 = .ok (.iconst 2, 1) := by decide +kernel
theorem dX11_look_208 : decode cX11_look 208 = .ok (.putfield 167, 3) := by decide +kernel
theorem dX11_look_211 : decode cX11_look 211 = .ok (.goto 31, 3) := by decide +kernel
theorem dX11_look_214 : decode cX11_look 214 = .ok (.aload_n 0, 1) := by decide +kernel
theorem dX11_look_215 : decode cX11_look 215 = .ok (.iconst 3, 1) := by decide +kernel
theorem dX11_look_216 : decode cX11_look 216 = .ok (.putfield 167, 3) := by decide +kernel
theorem dX11_look_219 : decode cX11_look 219 = .ok (.aload_n 0, 1) := by decide +kernel
theorem dX11_look_220 : decode cX11_look 220 = .ok (.aload_n 0, 1) := by decide +kernel
theorem dX11_look_221 : decode cX11_look 221 = .ok (.getfield 22, 3) := by decide +kernel
theorem dX11_look_224 : decode cX11_look 224 = .ok (.aload_n 0, 1) := by decide +kernel
theorem dX11_look_225 : decode cX11_look 225 = .ok (.getfield 161, 3) := by decide +kernel
theorem dX11_look_228 : decode cX11_look 228 = .ok (.iaload, 1) := by decide +kernel
theorem dX11_look_229 : decode cX11_look 229 = .ok (.putfield 176, 3) := by decide +kernel
theorem dX11_look_232 : decode cX11_look 232 = .ok (.aload_n 0, 1) := by decide +kernel
theorem dX11_look_233 : decode cX11_look 233 = .ok (.dup, 1) := by decide +kernel
theorem dX11_look_234 : decode cX11_look 234 = .ok (.getfield 161, 3) := by decide +kernel
theorem dX11_look_237 : decode cX11_look 237 = .ok (.iconst 1, 1) := by decide +kernel
theorem dX11_look_238 : decode cX11_look 238 = .ok (.iadd, 1) := by decide +kernel
theorem dX11_look_239 : decode cX11_look 239 = .ok (.putfield 161, 3) := by decide +kernel
theorem dX11_look_242 : decode cX11_look 242 = .ok (.return_, 1) := by decide +kernel
theorem dX11_wrong_0 : decode cX11_wrong 0 = .ok (.aload_n 0, 1) := by decide +kernel
theorem dX11_wrong_1 : decode cX11_wrong 1 = .ok (.aload_n 0, 1) := by decide +kernel
theorem dX11_wrong_2 : decode cX11_wrong 2 = .ok (.getfield 164, 3) := by decide +kernel
theorem dX11_wrong_5 : decode cX11_wrong 5 = .ok (.putfield 179, 3) := by decide +kernel
theorem dX11_wrong_8 : decode cX11_wrong 8 = .ok (.iconst 0, 1) := by decide +kernel
theorem dX11_wrong_9 : decode cX11_wrong 9 = .ok (.ireturn, 1) := by decide +kernel
theorem dX11_isName_0 : decode cX11_isName 0 = .ok (.aload_n 0, 1) := by decide +kernel
theorem dX11_isName_1 : decode cX11_isName 1 = .ok (.getfield 167, 3) := by decide +kernel
theorem dX11_isName_4 : decode cX11_isName 4 = .ok (.iconst 1, 1) := by decide +kernel
theorem dX11_isName_5 : decode cX11_isName 5 = .ok (.if_icmp .ne 23, 3) := by decide +kernel
theorem dX11_isName_8 : decode cX11_isName 8 = .ok (.aload_n 0, 1) := by decide +kernel
theorem dX11_isName_9 : decode cX11_isName 9 = .ok (.getfield 161, 3) := by decide +kernel
theorem dX11_isName_12 : decode cX11_isName 12 = .ok (.aload_n 0, 1) := by decide +kernel
theorem dX11_isName_13 : decode cX11_isName 13 = .ok (.getfield 164, 3) := by decide +kernel
theorem dX11_isName_16 : decode cX11_isName 16 = .ok (.isub, 1) := by decide +kernel
theorem dX11_isName_17 : decode cX11_isName 17 = .ok (.aload_n 1, 1) := by decide +kernel
theorem dX11_isName_18 : decode cX11_isName 18 = .ok (.invokevirtual 182, 3) := by decide +kernel
theorem dX11_isName_21 : decode cX11_isName 21 = .ok (.if_icmp .ne 7, 3) := by decide +kernel
theorem dX11_isName_24 : decode cX11_isName 24 = .ok (.iconst 1, 1) := by decide +kernel
theorem dX11_isName_25 : decode cX11_isName 25 = .ok (.goto 4, 3) := by decide +kernel
theorem dX11_isName_28 : decode cX11_isName 28 = .ok (.iconst 0, 1) := by decide +kernel
theorem dX11_isName_29 : decode cX11_isName 29 = .ok (.istore_n 2, 1) := by decide +kernel
theorem dX11_isName_30 : decode cX11_isName 30 = .ok (.iconst 0, 1) := by decide +kernel
theorem dX11_isName_31 : decode cX11_isName 31 = .ok (.istore_n 3, 1) := by decide +kernel
theorem dX11_isName_32 : decode cX11_isName 32 = .ok (.iload_n 3, 1) := by decide +kernel
theorem dX11_isName_33 : decode cX11_isName 33 = .ok (.aload_n 1, 1) := by decide +kernel
theorem dX11_isName_34 : decode cX11_isName 34 = .ok (.invokevirtual 182, 3) := by decide +kernel
theorem dX11_isName_37 : decode cX11_isName 37 = .ok (.if_icmp .ge 38, 3) := by decide +kernel
theorem dX11_isName_40 : decode cX11_isName 40 = .ok (.iload_n 2, 1) := by decide +kernel
theorem dX11_isName_41 : decode cX11_isName 41 = .ok (.ifCond .eq 34, 3) := by decide +kernel
theorem dX11_isName_44 : decode cX11_isName 44 = .ok (.aload_n 0, 1) := by decide +kernel
theorem dX11_isName_45 : decode cX11_isName 45 = .ok (.getfield 22, 3) := by decide +kernel
theorem dX11_isName_48 : decode cX11_isName 48 = .ok (.aload_n 0, 1) := by decide +kernel
theorem dX11_isName_49 : decode cX11_isName 49 = .ok (.getfield 164, 3) := by decide +kernel
theorem dX11_isName_52 : decode cX11_isName 52 = .ok (.iload_n 3, 1) := by decide +kernel
theorem dX11_isName_53 : decode cX11_isName 53 = .ok (.iadd, 1) := by decide +kernel
theorem dX11_isName_54 : decode cX11_isName 54 = .ok (.iaload, 1) := by decide +kernel
theorem dX11_isName_55 : decode cX11_isName 55 = .ok (.aload_n 1, 1) := by decide +kernel
theorem dX11_isName_56 : decode cX11_isName 56 = .ok (.iload_n 3, 1) := by decide +kernel
theorem dX11_isName_57 : decode cX11_isName 57 = .ok (.invokevirtual 187, 3) := by decide +kernel
theorem dX11_isName_60 : decode cX11_isName 60 = .ok (.if_icmp .ne 7, 3) := by decide +kernel
theorem dX11_isName_63 : decode cX11_isName 63 = .ok (.iconst 1, 1) := by decide +kernel
theorem dX11_isName_64 : decode cX11_isName 64 = .ok (.goto 4, 3) := by decide +kernel
theorem dX11_isName_67 : decode cX11_isName 67 = .ok (.iconst 0, 1) := by decide +kernel
theorem dX11_isName_68 : decode cX11_isName 68 = .ok (.istore_n 2, 1) := by decide +kernel
theorem dX11_isName_69 : decode cX11_isName 69 = .ok (.iinc 3 1, 3) := by decide +kernel
theorem dX11_isName_72 : decode cX11_isName 72 = .ok (.goto (-40), 3) := by decide +kernel
theorem dX11_isName_75 : decode cX11_isName 75 = .ok (.iload_n 2, 1) := by decide +kernel
theorem dX11_isName_76 : decode cX11_isName 76 = .ok (.ireturn, 1) := by decide +kernel
theorem dX11_isSign_0 : decode cX11_isSign 0 = .ok (.aload_n 0, 1) := by decide +kernel
theorem dX11_isSign_1 : decode cX11_isSign 1 = .ok (.getfield 167, 3) := by decide +kernel
theorem dX11_isSign_4 : decode cX11_isSign 4 = .ok (.iconst 3, 1) := by decide +kernel
theorem dX11_isSign_5 : decode cX11_isSign 5 = .ok (.if_icmp .ne 15, 3) := by decide +kernel
theorem dX11_isSign_8 : decode cX11_isSign 8 = .ok (.aload_n 0, 1) := by decide +kernel
theorem dX11_isSign_9 : decode cX11_isSign 9 = .ok (.getfield 176, 3) := by decide +kernel
theorem dX11_isSign_12 : decode cX11_isSign 12 = .ok (.iload_n 1, 1) := by decide +kernel
theorem dX11_isSign_13 : decode cX11_isSign 13 = .ok (.if_icmp .ne 7, 3) := by decide +kernel
theorem dX11_isSign_16 : decode cX11_isSign 16 = .ok (.iconst 1, 1) := by decide +kernel
theorem dX11_isSign_17 : decode cX11_isSign 17 = .ok (.goto 4, 3) := by decide +kernel
theorem dX11_isSign_20 : decode cX11_isSign 20 = .ok (.iconst 0, 1) := by decide +kernel
theorem dX11_isSign_21 : decode cX11_isSign 21 = .ok (.ireturn, 1) := by decide +kernel
theorem dX11_lays_0 : decode cX11_lays 0 = .ok (.aload_n 0, 1) := by decide +kernel
theorem dX11_lays_1 : decode cX11_lays 1 = .ok (.getfield 9, 3) := by decide +kernel
theorem dX11_lays_4 : decode cX11_lays 4 = .ok (.bipush 111, 2) := by decide +kernel
theorem dX11_lays_6 : decode cX11_lays 6 = .ok (.iconst 2, 1) := by decide +kernel
theorem dX11_lays_7 : decode cX11_lays 7 = .ok (.aload_n 0, 1) := by decide +kernel
theorem dX11_lays_8 : decode cX11_lays 8 = .ok (.getfield 191, 3) := by decide +kernel
theorem dX11_lays_11 : decode cX11_lays 11 = .ok (.imul, 1) := by decide +kernel
theorem dX11_lays_12 : decode cX11_lays 12 = .ok (.iadd, 1) := by decide +kernel
theorem dX11_lays_13 : decode cX11_lays 13 = .ok (.iload_n 1, 1) := by decide +kernel
theorem dX11_lays_14 : decode cX11_lays 14 = .ok (.iastore, 1) := by decide +kernel
theorem dX11_lays_15 : decode cX11_lays 15 = .ok (.aload_n 0, 1) := by decide +kernel
theorem dX11_lays_16 : decode cX11_lays 16 = .ok (.getfield 9, 3) := by decide +kernel
theorem dX11_lays_19 : decode cX11_lays 19 = .ok (.bipush 111, 2) := by decide +kernel
theorem dX11_lays_21 : decode cX11_lays 21 = .ok (.iconst 2, 1) := by decide +kernel
theorem dX11_lays_22 : decode cX11_lays 22 = .ok (.aload_n 0, 1) := by decide +kernel
theorem dX11_lays_23 : decode cX11_lays 23 = .ok (.getfield 191, 3) := by decide +kernel
theorem dX11_lays_26 : decode cX11_lays 26 = .ok (.imul, 1) := by decide +kernel
theorem dX11_lays_27 : decode cX11_lays 27 = .ok (.iadd, 1) := by decide +kernel
theorem dX11_lays_28 : decode cX11_lays 28 = .ok (.iconst 1, 1) := by decide +kernel
theorem dX11_lays_29 : decode cX11_lays 29 = .ok (.iadd, 1) := by decide +kernel
theorem dX11_lays_30 : decode cX11_lays 30 = .ok (.iload_n 2, 1) := by decide +kernel
theorem dX11_lays_31 : decode cX11_lays 31 = .ok (.iastore, 1) := by decide +kernel
theorem dX11_lays_32 : decode cX11_lays 32 = .ok (.aload_n 0, 1) := by decide +kernel
theorem dX11_lays_33 : decode cX11_lays 33 = .ok (.dup, 1) := by decide +kernel
theorem dX11_lays_34 : decode cX11_lays 34 = .ok (.getfield 191, 3) := by decide +kernel
theorem dX11_lays_37 : decode cX11_lays 37 = .ok (.iconst 1, 1) := by decide +kernel
theorem dX11_lays_38 : decode cX11_lays 38 = .ok (.iadd, 1) := by decide +kernel
theorem dX11_lays_39 : decode cX11_lays 39 = .ok (.putfield 191, 3) := by decide +kernel
theorem dX11_lays_42 : decode cX11_lays 42 = .ok (.return_, 1) := by decide +kernel
theorem dX11_kindHere_0 : decode cX11_kindHere 0 = .ok (.aload_n 0, 1) := by decide +kernel
theorem dX11_kindHere_1 : decode cX11_kindHere 1 = .ok (.ldc 194, 2) := by decide +kernel
theorem dX11_kindHere_3 : decode cX11_kindHere 3 = .ok (.invokevirtual 196, 3) := by decide +kernel
theorem dX11_kindHere_6 : decode cX11_kindHere 6 = .ok (.ifCond .eq 7, 3) := by decide +kernel
theorem dX11_kindHere_9 : decode cX11_kindHere 9 = .ok (.iconst 0, 1) := by decide +kernel
theorem dX11_kindHere_10 : decode cX11_kindHere 10 = .ok (.goto 69, 3) := by decide +kernel
theorem dX11_kindHere_13 : decode cX11_kindHere 13 = .ok (.aload_n 0, 1) := by decide +kernel
theorem dX11_kindHere_14 : decode cX11_kindHere 14 = .ok (.ldc 200, 2) := by decide +kernel
theorem dX11_kindHere_16 : decode cX11_kindHere 16 = .ok (.invokevirtual 196, 3) := by decide +kernel
theorem dX11_kindHere_19 : decode cX11_kindHere 19 = .ok (.ifCond .eq 7, 3) := by decide +kernel
theorem dX11_kindHere_22 : decode cX11_kindHere 22 = .ok (.iconst 1, 1) := by decide +kernel
theorem dX11_kindHere_23 : decode cX11_kindHere 23 = .ok (.goto 56, 3) := by decide +kernel
theorem dX11_kindHere_26 : decode cX11_kindHere 26 = .ok (.aload_n 0, 1) := by decide +kernel
theorem dX11_kindHere_27 : decode cX11_kindHere 27 = .ok (.ldc 202, 2) := by decide +kernel
theorem dX11_kindHere_29 : decode cX11_kindHere 29 = .ok (.invokevirtual 196, 3) := by decide +kernel
theorem dX11_kindHere_32 : decode cX11_kindHere 32 = .ok (.ifCond .eq 7, 3) := by decide +kernel
theorem dX11_kindHere_35 : decode cX11_kindHere 35 = .ok (.iconst 2, 1) := by decide +kernel
theorem dX11_kindHere_36 : decode cX11_kindHere 36 = .ok (.goto 43, 3) := by decide +kernel
theorem dX11_kindHere_39 : decode cX11_kindHere 39 = .ok (.aload_n 0, 1) := by decide +kernel
theorem dX11_kindHere_40 : decode cX11_kindHere 40 = .ok (.ldc 204, 2) := by decide +kernel
theorem dX11_kindHere_42 : decode cX11_kindHere 42 = .ok (.invokevirtual 196, 3) := by decide +kernel
theorem dX11_kindHere_45 : decode cX11_kindHere 45 = .ok (.ifCond .eq 7, 3) := by decide +kernel
theorem dX11_kindHere_48 : decode cX11_kindHere 48 = .ok (.iconst 3, 1) := by decide +kernel
theorem dX11_kindHere_49 : decode cX11_kindHere 49 = .ok (.goto 30, 3) := by decide +kernel
theorem dX11_kindHere_52 : decode cX11_kindHere 52 = .ok (.aload_n 0, 1) := by decide +kernel
theorem dX11_kindHere_53 : decode cX11_kindHere 53 = .ok (.ldc 206, 2) := by decide +kernel
theorem dX11_kindHere_55 : decode cX11_kindHere 55 = .ok (.invokevirtual 196, 3) := by decide +kernel
theorem dX11_kindHere_58 : decode cX11_kindHere 58 = .ok (.ifCond .eq 7, 3) := by decide +kernel
theorem dX11_kindHere_61 : decode cX11_kindHere 61 = .ok (.iconst 4, 1) := by decide +kernel
theorem dX11_kindHere_62 : decode cX11_kindHere 62 = .ok (.goto 17, 3) := by decide +kernel
theorem dX11_kindHere_65 : decode cX11_kindHere 65 = .ok (.aload_n 0, 1) := by decide +kernel
theorem dX11_kindHere_66 : decode cX11_kindHere 66 = .ok (.ldc 208, 2) := by decide +kernel
theorem dX11_kindHere_68 : decode cX11_kindHere 68 = .ok (.invokevirtual 196, 3) := by decide +kernel
theorem dX11_kindHere_71 : decode cX11_kindHere 71 = .ok (.ifCond .eq 7, 3) := by decide +kernel
theorem dX11_kindHere_74 : decode cX11_kindHere 74 = .ok (.iconst 5, 1) := by decide +kernel
theorem dX11_kindHere_75 : decode cX11_kindHere 75 = .ok (.goto 4, 3) := by decide +kernel
theorem dX11_kindHere_78 : decode cX11_kindHere 78 = .ok (.iconst (-1), 1) := by decide +kernel
theorem dX11_kindHere_79 : decode cX11_kindHere 79 = .ok (.ireturn, 1) := by decide +kernel
theorem dX11_factHere_0 : decode cX11_factHere 0 = .ok (.aload_n 0, 1) := by decide +kernel
theorem dX11_factHere_1 : decode cX11_factHere 1 = .ok (.ldc 210, 2) := by decide +kernel
theorem dX11_factHere_3 : decode cX11_factHere 3 = .ok (.invokevirtual 196, 3) := by decide +kernel
theorem dX11_factHere_6 : decode cX11_factHere 6 = .ok (.ifCond .eq 7, 3) := by decide +kernel
theorem dX11_factHere_9 : decode cX11_factHere 9 = .ok (.iconst 0, 1) := by decide +kernel
theorem dX11_factHere_10 : decode cX11_factHere 10 = .ok (.goto 56, 3) := by decide +kernel
theorem dX11_factHere_13 : decode cX11_factHere 13 = .ok (.aload_n 0, 1) := by decide +kernel
theorem dX11_factHere_14 : decode cX11_factHere 14 = .ok (.ldc 212, 2) := by decide +kernel
theorem dX11_factHere_16 : decode cX11_factHere 16 = .ok (.invokevirtual 196, 3) := by decide +kernel
theorem dX11_factHere_19 : decode cX11_factHere 19 = .ok (.ifCond .eq 7, 3) := by decide +kernel
theorem dX11_factHere_22 : decode cX11_factHere 22 = .ok (.iconst 1, 1) := by decide +kernel
theorem dX11_factHere_23 : decode cX11_factHere 23 = .ok (.goto 43, 3) := by decide +kernel
theorem dX11_factHere_26 : decode cX11_factHere 26 = .ok (.aload_n 0, 1) := by decide +kernel
theorem dX11_factHere_27 : decode cX11_factHere 27 = .ok (.ldc 214, 2) := by decide +kernel
theorem dX11_factHere_29 : decode cX11_factHere 29 = .ok (.invokevirtual 196, 3) := by decide +kernel
theorem dX11_factHere_32 : decode cX11_factHere 32 = .ok (.ifCond .eq 7, 3) := by decide +kernel
theorem dX11_factHere_35 : decode cX11_factHere 35 = .ok (.iconst 2, 1) := by decide +kernel
theorem dX11_factHere_36 : decode cX11_factHere 36 = .ok (.goto 30, 3) := by decide +kernel
theorem dX11_factHere_39 : decode cX11_factHere 39 = .ok (.aload_n 0, 1) := by decide +kernel
theorem dX11_factHere_40 : decode cX11_factHere 40 = .ok (.ldc 216, 2) := by decide +kernel
theorem dX11_factHere_42 : decode cX11_factHere 42 = .ok (.invokevirtual 196, 3) := by decide +kernel
theorem dX11_factHere_45 : decode cX11_factHere 45 = .ok (.ifCond .eq 7, 3) := by decide +kernel
theorem dX11_factHere_48 : decode cX11_factHere 48 = .ok (.iconst 3, 1) := by decide +kernel
theorem dX11_factHere_49 : decode cX11_factHere 49 = .ok (.goto 17, 3) := by decide +kernel
theorem dX11_factHere_52 : decode cX11_factHere 52 = .ok (.aload_n 0, 1) := by decide +kernel
theorem dX11_factHere_53 : decode cX11_factHere 53 = .ok (.ldc 218, 2) := by decide +kernel
theorem dX11_factHere_55 : decode cX11_factHere 55 = .ok (.invokevirtual 196, 3) := by decide +kernel
theorem dX11_factHere_58 : decode cX11_factHere 58 = .ok (.ifCond .eq 7, 3) := by decide +kernel
theorem dX11_factHere_61 : decode cX11_factHere 61 = .ok (.iconst 4, 1) := by decide +kernel
theorem dX11_factHere_62 : decode cX11_factHere 62 = .ok (.goto 4, 3) := by decide +kernel
theorem dX11_factHere_65 : decode cX11_factHere 65 = .ok (.iconst (-1), 1) := by decide +kernel
theorem dX11_factHere_66 : decode cX11_factHere 66 = .ok (.ireturn, 1) := by decide +kernel
theorem dX11_takesValue_0 : decode cX11_takesValue 0 = .ok (.aload_n 0, 1) := by decide +kernel
theorem dX11_takesValue_1 : decode cX11_takesValue 1 = .ok (.invokevirtual 220, 3) := by decide +kernel
theorem dX11_takesValue_4 : decode cX11_takesValue 4 = .ok (.istore_n 1, 1) := by decide +kernel
theorem dX11_takesValue_5 : decode cX11_takesValue 5 = .ok (.aload_n 0, 1) := by decide +kernel
theorem dX11_takesValue_6 : decode cX11_takesValue 6 = .ok (.getfield 167, 3) := by decide +kernel
theorem dX11_takesValue_9 : decode cX11_takesValue 9 = .ok (.iconst 2, 1) := by decide +kernel
theorem dX11_takesValue_10 : decode cX11_takesValue 10 = .ok (.if_icmp .eq 12, 3) := by decide +kernel
theorem dX11_takesValue_13 : decode cX11_takesValue 13 = .ok (.iload_n 1, 1) := by decide +kernel
theorem dX11_takesValue_14 : decode cX11_takesValue 14 = .ok (.ifCond .ge 8, 3) := by decide +kernel
theorem dX11_takesValue_17 : decode cX11_takesValue 17 = .ok (.aload_n 0, 1) := by decide +kernel
theorem dX11_takesValue_18 : decode cX11_takesValue 18 = .ok (.invokevirtual 223, 3) := by decide +kernel
theorem dX11_takesValue_21 : decode cX11_takesValue 21 = .ok (.ireturn, 1) := by decide +kernel
theorem dX11_takesValue_22 : decode cX11_takesValue 22 = .ok (.aload_n 0, 1) := by decide +kernel
theorem dX11_takesValue_23 : decode cX11_takesValue 23 = .ok (.aload_n 0, 1) := by decide +kernel
theorem dX11_takesValue_24 : decode cX11_takesValue 24 = .ok (.getfield 167, 3) := by decide +kernel
theorem dX11_takesValue_27 : decode cX11_takesValue 27 = .ok (.iconst 2, 1) := by decide +kernel
theorem dX11_takesValue_28 : decode cX11_takesValue 28 = .ok (.if_icmp .ne 7, 3) := by decide +kernel
theorem dX11_takesValue_31 : decode cX11_takesValue 31 = .ok (.iconst 0, 1) := by decide +kernel
theorem dX11_takesValue_32 : decode cX11_takesValue 32 = .ok (.goto 4, 3) := by decide +kernel
theorem dX11_takesValue_35 : decode cX11_takesValue 35 = .ok (.iconst 1, 1) := by decide +kernel
theorem dX11_takesValue_36 : decode cX11_takesValue 36 = .ok (.aload_n 0, 1) := by decide +kernel
theorem dX11_takesValue_37 : decode cX11_takesValue 37 = .ok (.getfield 167, 3) := by decide +kernel
theorem dX11_takesValue_40 : decode cX11_takesValue 40 = .ok (.iconst 2, 1) := by decide +kernel
theorem dX11_takesValue_41 : decode cX11_takesValue 41 = .ok (.if_icmp .ne 10, 3) := by decide +kernel
theorem dX11_takesValue_44 : decode cX11_takesValue 44 = .ok (.aload_n 0, 1) := by decide +kernel
theorem dX11_takesValue_45 : decode cX11_takesValue 45 = .ok (.getfield 176, 3) := by decide +kernel
theorem dX11_takesValue_48 : decode cX11_takesValue 48 = .ok (.goto 4, 3) := by decide +kernel
theorem dX11_takesValue_51 : decode cX11_takesValue 51 = .ok (.iload_n 1, 1) := by decide +kernel
theorem dX11_takesValue_52 : decode cX11_takesValue 52 = .ok (.invokevirtual 226, 3) := by decide +kernel
theorem dX11_takesValue_55 : decode cX11_takesValue 55 = .ok (.aload_n 0, 1) := by decide +kernel
theorem dX11_takesValue_56 : decode cX11_takesValue 56 = .ok (.invokevirtual 230, 3) := by decide +kernel
theorem dX11_takesValue_59 : decode cX11_takesValue 59 = .ok (.iconst 1, 1) := by decide +kernel
theorem dX11_takesValue_60 : decode cX11_takesValue 60 = .ok (.ireturn, 1) := by decide +kernel
theorem dX11_takesTest_0 : decode cX11_takesTest 0 = .ok (.aload_n 0, 1) := by decide +kernel
theorem dX11_takesTest_1 : decode cX11_takesTest 1 = .ok (.invokevirtual 233, 3) := by decide +kernel
theorem dX11_takesTest_4 : decode cX11_takesTest 4 = .ok (.ifCond .ne 5, 3) := by decide +kernel
theorem dX11_takesTest_7 : decode cX11_takesTest 7 = .ok (.iconst 0, 1) := by decide +kernel
theorem dX11_takesTest_8 : decode cX11_takesTest 8 = .ok (.ireturn, 1) := by decide +kernel
theorem dX11_takesTest_9 : decode cX11_takesTest 9 = .ok (.aload_n 0, 1) := by decide +kernel
theorem dX11_takesTest_10 : decode cX11_takesTest 10 = .ok (.bipush 60, 2) := by decide +kernel
theorem dX11_takesTest_12 : decode cX11_takesTest 12 = .ok (.invokevirtual 236, 3) := by decide +kernel
theorem dX11_takesTest_15 : decode cX11_takesTest 15 = .ok (.ifCond .ne 26, 3) := by decide +kernel
theorem dX11_takesTest_18 : decode cX11_takesTest 18 = .ok (.aload_n 0, 1) := by decide +kernel
theorem dX11_takesTest_19 : decode cX11_takesTest 19 = .ok (.bipush 61, 2) := by decide +kernel
theorem dX11_takesTest_21 : decode cX11_takesTest 21 = .ok (.invokevirtual 236, 3) := by decide +kernel
theorem dX11_takesTest_24 : decode cX11_takesTest 24 = .ok (.ifCond .ne 17, 3) := by decide +kernel
theorem dX11_takesTest_27 : decode cX11_takesTest 27 = .ok (.aload_n 0, 1) := by decide +kernel
theorem dX11_takesTest_28 : decode cX11_takesTest 28 = .ok (.bipush 62, 2) := by decide +kernel
theorem dX11_takesTest_30 : decode cX11_takesTest 30 = .ok (.invokevirtual 236, 3) := by decide +kernel
theorem dX11_takesTest_33 : decode cX11_takesTest 33 = .ok (.ifCond .ne 8, 3) := by decide +kernel
theorem dX11_takesTest_36 : decode cX11_takesTest 36 = .ok (.aload_n 0, 1) := by decide +kernel
theorem dX11_takesTest_37 : decode cX11_takesTest 37 = .ok (.invokevirtual 223, 3) := by decide +kernel
theorem dX11_takesTest_40 : decode cX11_takesTest 40 = .ok (.ireturn, 1) := by decide +kernel
theorem dX11_takesTest_41 : decode cX11_takesTest 41 = .ok (.aload_n 0, 1) := by decide +kernel
theorem dX11_takesTest_42 : decode cX11_takesTest 42 = .ok (.getfield 176, 3) := by decide +kernel
theorem dX11_takesTest_45 : decode cX11_takesTest 45 = .ok (.istore_n 1, 1) := by decide +kernel
theorem dX11_takesTest_46 : decode cX11_takesTest 46 = .ok (.aload_n 0, 1) := by decide +kernel
theorem dX11_takesTest_47 : decode cX11_takesTest 47 = .ok (.invokevirtual 230, 3) := by decide +kernel
theorem dX11_takesTest_50 : decode cX11_takesTest 50 = .ok (.aload_n 0, 1) := by decide +kernel
theorem dX11_takesTest_51 : decode cX11_takesTest 51 = .ok (.invokevirtual 233, 3) := by decide +kernel
theorem dX11_takesTest_54 : decode cX11_takesTest 54 = .ok (.ifCond .ne 5, 3) := by decide +kernel
theorem dX11_takesTest_57 : decode cX11_takesTest 57 = .ok (.iconst 0, 1) := by decide +kernel
theorem dX11_takesTest_58 : decode cX11_takesTest 58 = .ok (.ireturn, 1) := by decide +kernel
theorem dX11_takesTest_59 : decode cX11_takesTest 59 = .ok (.aload_n 0, 1) := by decide +kernel
theorem dX11_takesTest_60 : decode cX11_takesTest 60 = .ok (.iconst 2, 1) := by decide +kernel
theorem dX11_takesTest_61 : decode cX11_takesTest 61 = .ok (.iload_n 1, 1) := by decide +kernel
theorem dX11_takesTest_62 : decode cX11_takesTest 62 = .ok (.invokevirtual 226, 3) := by decide +kernel
theorem dX11_takesTest_65 : decode cX11_takesTest 65 = .ok (.iconst 1, 1) := by decide +kernel
theorem dX11_takesTest_66 : decode cX11_takesTest 66 = .ok (.ireturn, 1) := by decide +kernel
theorem dX11_takesOpen_0 : decode cX11_takesOpen 0 = .ok (.aload_n 0, 1) := by decide +kernel
theorem dX11_takesOpen_1 : decode cX11_takesOpen 1 = .ok (.getfield 239, 3) := by decide +kernel
theorem dX11_takesOpen_4 : decode cX11_takesOpen 4 = .ok (.iconst 3, 1) := by decide +kernel
theorem dX11_takesOpen_5 : decode cX11_takesOpen 5 = .ok (.if_icmp .ne 8, 3) := by decide +kernel
theorem dX11_takesOpen_8 : decode cX11_takesOpen 8 = .ok (.aload_n 0, 1) := by decide +kernel
theorem dX11_takesOpen_9 : decode cX11_takesOpen 9 = .ok (.invokevirtual 223, 3) := by decide +kernel
theorem dX11_takesOpen_12 : decode cX11_takesOpen 12 = .ok (.ireturn, 1) := by decide +kernel
theorem dX11_takesOpen_13 : decode cX11_takesOpen 13 = .ok (.aload_n 0, 1) := by decide +kernel
theorem dX11_takesOpen_14 : decode cX11_takesOpen 14 = .ok (.dup, 1) := by decide +kernel
theorem dX11_takesOpen_15 : decode cX11_takesOpen 15 = .ok (.getfield 239, 3) := by decide +kernel
theorem dX11_takesOpen_18 : decode cX11_takesOpen 18 = .ok (.iconst 1, 1) := by decide +kernel
theorem dX11_takesOpen_19 : decode cX11_takesOpen 19 = .ok (.iadd, 1) := by decide +kernel
theorem dX11_takesOpen_20 : decode cX11_takesOpen 20 = .ok (.putfield 239, 3) := by decide +kernel
theorem dX11_takesOpen_23 : decode cX11_takesOpen 23 = .ok (.aload_n 0, 1) := by decide +kernel
theorem dX11_takesOpen_24 : decode cX11_takesOpen 24 = .ok (.invokevirtual 230, 3) := by decide +kernel
theorem dX11_takesOpen_27 : decode cX11_takesOpen 27 = .ok (.aload_n 0, 1) := by decide +kernel
theorem dX11_takesOpen_28 : decode cX11_takesOpen 28 = .ok (.invokevirtual 242, 3) := by decide +kernel
theorem dX11_takesOpen_31 : decode cX11_takesOpen 31 = .ok (.ifCond .ne 5, 3) := by decide +kernel
theorem dX11_takesOpen_34 : decode cX11_takesOpen 34 = .ok (.iconst 0, 1) := by decide +kernel
theorem dX11_takesOpen_35 : decode cX11_takesOpen 35 = .ok (.ireturn, 1) := by decide +kernel
theorem dX11_takesOpen_36 : decode cX11_takesOpen 36 = .ok (.aload_n 0, 1) := by decide +kernel
theorem dX11_takesOpen_37 : decode cX11_takesOpen 37 = .ok (.bipush 41, 2) := by decide +kernel
theorem dX11_takesOpen_39 : decode cX11_takesOpen 39 = .ok (.invokevirtual 236, 3) := by decide +kernel
theorem dX11_takesOpen_42 : decode cX11_takesOpen 42 = .ok (.ifCond .ne 8, 3) := by decide +kernel
theorem dX11_takesOpen_45 : decode cX11_takesOpen 45 = .ok (.aload_n 0, 1) := by decide +kernel
theorem dX11_takesOpen_46 : decode cX11_takesOpen 46 = .ok (.invokevirtual 223, 3) := by decide +kernel
theorem dX11_takesOpen_49 : decode cX11_takesOpen 49 = .ok (.ireturn, 1) := by decide +kernel
theorem dX11_takesOpen_50 : decode cX11_takesOpen 50 = .ok (.aload_n 0, 1) := by decide +kernel
theorem dX11_takesOpen_51 : decode cX11_takesOpen 51 = .ok (.dup, 1) := by decide +kernel
theorem dX11_takesOpen_52 : decode cX11_takesOpen 52 = .ok (.getfield 239, 3) := by decide +kernel
theorem dX11_takesOpen_55 : decode cX11_takesOpen 55 = .ok (.iconst 1, 1) := by decide +kernel
theorem dX11_takesOpen_56 : decode cX11_takesOpen 56 = .ok (.isub, 1) := by decide +kernel
theorem dX11_takesOpen_57 : decode cX11_takesOpen 57 = .ok (.putfield 239, 3) := by decide +kernel
theorem dX11_takesOpen_60 : decode cX11_takesOpen 60 = .ok (.aload_n 0, 1) := by decide +kernel
theorem dX11_takesOpen_61 : decode cX11_takesOpen 61 = .ok (.invokevirtual 230, 3) := by decide +kernel
theorem dX11_takesOpen_64 : decode cX11_takesOpen 64 = .ok (.iconst 1, 1) := by decide +kernel
theorem dX11_takesOpen_65 : decode cX11_takesOpen 65 = .ok (.ireturn, 1) := by decide +kernel
theorem dX11_takesOne_0 : decode cX11_takesOne 0 = .ok (.iconst 0, 1) := by decide +kernel
theorem dX11_takesOne_1 : decode cX11_takesOne 1 = .ok (.istore_n 1, 1) := by decide +kernel
theorem dX11_takesOne_2 : decode cX11_takesOne 2 = .ok (.aload_n 0, 1) := by decide +kernel
theorem dX11_takesOne_3 : decode cX11_takesOne 3 = .ok (.ldc 245, 2) := by decide +kernel
theorem dX11_takesOne_5 : decode cX11_takesOne 5 = .ok (.invokevirtual 196, 3) := by decide +kernel
theorem dX11_takesOne_8 : decode cX11_takesOne 8 = .ok (.ifCond .eq 13, 3) := by decide +kernel
theorem dX11_takesOne_11 : decode cX11_takesOne 11 = .ok (.iinc 1 1, 3) := by decide +kernel
theorem dX11_takesOne_14 : decode cX11_takesOne 14 = .ok (.aload_n 0, 1) := by decide +kernel
theorem dX11_takesOne_15 : decode cX11_takesOne 15 = .ok (.invokevirtual 230, 3) := by decide +kernel
theorem dX11_takesOne_18 : decode cX11_takesOne 18 = .ok (.goto (-16), 3) := by decide +kernel
theorem dX11_takesOne_21 : decode cX11_takesOne 21 = .ok (.aload_n 0, 1) := by decide +kernel
theorem dX11_takesOne_22 : decode cX11_takesOne 22 = .ok (.bipush 40, 2) := by decide +kernel
theorem dX11_takesOne_24 : decode cX11_takesOne 24 = .ok (.invokevirtual 236, 3) := by decide +kernel
theorem dX11_takesOne_27 : decode cX11_takesOne 27 = .ok (.ifCond .eq 10, 3) := by decide +kernel
theorem dX11_takesOne_30 : decode cX11_takesOne 30 = .ok (.aload_n 0, 1) := by decide +kernel
theorem dX11_takesOne_31 : decode cX11_takesOne 31 = .ok (.invokevirtual 247, 3) := by decide +kernel
theorem dX11_takesOne_34 : decode cX11_takesOne 34 = .ok (.goto 7, 3) := by decide +kernel
theorem dX11_takesOne_37 : decode cX11_takesOne 37 = .ok (.aload_n 0, 1) := by decide +kernel
theorem dX11_takesOne_38 : decode cX11_takesOne 38 = .ok (.invokevirtual 250, 3) := by decide +kernel
theorem dX11_takesOne_41 : decode cX11_takesOne 41 = .ok (.istore_n 2, 1) := by decide +kernel
theorem dX11_takesOne_42 : decode cX11_takesOne 42 = .ok (.iconst 0, 1) := by decide +kernel
theorem dX11_takesOne_43 : decode cX11_takesOne 43 = .ok (.istore_n 3, 1) := by decide +kernel
theorem dX11_takesOne_44 : decode cX11_takesOne 44 = .ok (.iload_n 3, 1) := by decide +kernel
theorem dX11_takesOne_45 : decode cX11_takesOne 45 = .ok (.iload_n 1, 1) := by decide +kernel
theorem dX11_takesOne_46 : decode cX11_takesOne 46 = .ok (.if_icmp .ge 19, 3) := by decide +kernel
theorem dX11_takesOne_49 : decode cX11_takesOne 49 = .ok (.iload_n 2, 1) := by decide +kernel
theorem dX11_takesOne_50 : decode cX11_takesOne 50 = .ok (.ifCond .eq 15, 3) := by decide +kernel
theorem dX11_takesOne_53 : decode cX11_takesOne 53 = .ok (.aload_n 0, 1) := by decide +kernel
theorem dX11_takesOne_54 : decode cX11_takesOne 54 = .ok (.iconst 3, 1) := by decide +kernel
theorem dX11_takesOne_55 : decode cX11_takesOne 55 = .ok (.iconst 0, 1) := by decide +kernel
theorem dX11_takesOne_56 : decode cX11_takesOne 56 = .ok (.invokevirtual 226, 3) := by decide +kernel
theorem dX11_takesOne_59 : decode cX11_takesOne 59 = .ok (.iinc 3 1, 3) := by decide +kernel
theorem dX11_takesOne_62 : decode cX11_takesOne 62 = .ok (.goto (-18), 3) := by decide +kernel
theorem dX11_takesOne_65 : decode cX11_takesOne 65 = .ok (.iload_n 2, 1) := by decide +kernel
theorem dX11_takesOne_66 : decode cX11_takesOne 66 = .ok (.ireturn, 1) := by decide +kernel
theorem dX11_takesAll_0 : decode cX11_takesAll 0 = .ok (.aload_n 0, 1) := by decide +kernel
theorem dX11_takesAll_1 : decode cX11_takesAll 1 = .ok (.invokevirtual 253, 3) := by decide +kernel
theorem dX11_takesAll_4 : decode cX11_takesAll 4 = .ok (.istore_n 1, 1) := by decide +kernel
theorem dX11_takesAll_5 : decode cX11_takesAll 5 = .ok (.iload_n 1, 1) := by decide +kernel
theorem dX11_takesAll_6 : decode cX11_takesAll 6 = .ok (.ifCond .eq 31, 3) := by decide +kernel
theorem dX11_takesAll_9 : decode cX11_takesAll 9 = .ok (.aload_n 0, 1) := by decide +kernel
theorem dX11_takesAll_10 : decode cX11_takesAll 10 = .ok (.ldc_w 256, 3) := by decide +kernel
theorem dX11_takesAll_13 : decode cX11_takesAll 13 = .ok (.invokevirtual 196, 3) := by decide +kernel
theorem dX11_takesAll_16 : decode cX11_takesAll 16 = .ok (.ifCond .eq 21, 3) := by decide +kernel
theorem dX11_takesAll_19 : decode cX11_takesAll 19 = .ok (.aload_n 0, 1) := by decide +kernel
theorem dX11_takesAll_20 : decode cX11_takesAll 20 = .ok (.invokevirtual 230, 3) := by decide +kernel
theorem dX11_takesAll_23 : decode cX11_takesAll 23 = .ok (.aload_n 0, 1) := by decide +kernel
theorem dX11_takesAll_24 : decode cX11_takesAll 24 = .ok (.invokevirtual 253, 3) := by decide +kernel
theorem dX11_takesAll_27 : decode cX11_takesAll 27 = .ok (.istore_n 1, 1) := by decide +kernel
theorem dX11_takesAll_28 : decode cX11_takesAll 28 = .ok (.aload_n 0, 1) := by decide +kernel
theorem dX11_takesAll_29 : decode cX11_takesAll 29 = .ok (.iconst 4, 1) := by decide +kernel
theorem dX11_takesAll_30 : decode cX11_takesAll 30 = .ok (.iconst 0, 1) := by decide +kernel
theorem dX11_takesAll_31 : decode cX11_takesAll 31 = .ok (.invokevirtual 226, 3) := by decide +kernel
theorem dX11_takesAll_34 : decode cX11_takesAll 34 = .ok (.goto (-29), 3) := by decide +kernel
theorem dX11_takesAll_37 : decode cX11_takesAll 37 = .ok (.iload_n 1, 1) := by decide +kernel
theorem dX11_takesAll_38 : decode cX11_takesAll 38 = .ok (.ireturn, 1) := by decide +kernel
theorem dX11_takesCondition_0 : decode cX11_takesCondition 0 = .ok (.aload_n 0, 1) := by decide +kernel
theorem dX11_takesCondition_1 : decode cX11_takesCondition 1 = .ok (.invokevirtual 258, 3) := by decide +kernel
theorem dX11_takesCondition_4 : decode cX11_takesCondition 4 = .ok (.istore_n 1, 1) := by decide +kernel
theorem dX11_takesCondition_5 : decode cX11_takesCondition 5 = .ok (.iload_n 1, 1) := by decide +kernel
theorem dX11_takesCondition_6 : decode cX11_takesCondition 6 = .ok (.ifCond .eq 31, 3) := by decide +kernel
theorem dX11_takesCondition_9 : decode cX11_takesCondition 9 = .ok (.aload_n 0, 1) := by decide +kernel
theorem dX11_takesCondition_10 : decode cX11_takesCondition 10 = .ok (.ldc_w 261, 3) := by decide +kernel
theorem dX11_takesCondition_13 : decode cX11_takesCondition 13 = .ok (.invokevirtual 196, 3) := by decide +kernel
theorem dX11_takesCondition_16 : decode cX11_takesCondition 16 = .ok (.ifCond .eq 21, 3) := by decide +kernel
theorem dX11_takesCondition_19 : decode cX11_takesCondition 19 = .ok (.aload_n 0, 1) := by decide +kernel
theorem dX11_takesCondition_20 : decode cX11_takesCondition 20 = .ok (.invokevirtual 230, 3) := by decide +kernel
theorem dX11_takesCondition_23 : decode cX11_takesCondition 23 = .ok (.aload_n 0, 1) := by decide +kernel
theorem dX11_takesCondition_24 : decode cX11_takesCondition 24 = .ok (.invokevirtual 258, 3) := by decide +kernel
theorem dX11_takesCondition_27 : decode cX11_takesCondition 27 = .ok (.istore_n 1, 1) := by decide +kernel
theorem dX11_takesCondition_28 : decode cX11_takesCondition 28 = .ok (.aload_n 0, 1) := by decide +kernel
theorem dX11_takesCondition_29 : decode cX11_takesCondition 29 = .ok (.iconst 5, 1) := by decide +kernel
theorem dX11_takesCondition_30 : decode cX11_takesCondition 30 = .ok (.iconst 0, 1) := by decide +kernel
theorem dX11_takesCondition_31 : decode cX11_takesCondition 31 = .ok (.invokevirtual 226, 3) := by decide +kernel
theorem dX11_takesCondition_34 : decode cX11_takesCondition 34 = .ok (.goto (-29), 3) := by decide +kernel
theorem dX11_takesCondition_37 : decode cX11_takesCondition 37 = .ok (.iload_n 1, 1) := by decide +kernel
theorem dX11_takesCondition_38 : decode cX11_takesCondition 38 = .ok (.ireturn, 1) := by decide +kernel
theorem dX11_takesDo_0 : decode cX11_takesDo 0 = .ok (.aload_n 0, 1) := by decide +kernel
theorem dX11_takesDo_1 : decode cX11_takesDo 1 = .ok (.ldc_w 263, 3) := by decide +kernel
theorem dX11_takesDo_4 : decode cX11_takesDo 4 = .ok (.invokevirtual 196, 3) := by decide +kernel
theorem dX11_takesDo_7 : decode cX11_takesDo 7 = .ok (.ifCond .eq 7, 3) := by decide +kernel
theorem dX11_takesDo_10 : decode cX11_takesDo 10 = .ok (.iconst 0, 1) := by decide +kernel
theorem dX11_takesDo_11 : decode cX11_takesDo 11 = .ok (.goto 32, 3) := by decide +kernel
theorem dX11_takesDo_14 : decode cX11_takesDo 14 = .ok (.aload_n 0, 1) := by decide +kernel
theorem dX11_takesDo_15 : decode cX11_takesDo 15 = .ok (.ldc_w 265, 3) := by decide +kernel
theorem dX11_takesDo_18 : decode cX11_takesDo 18 = .ok (.invokevirtual 196, 3) := by decide +kernel
theorem dX11_takesDo_21 : decode cX11_takesDo 21 = .ok (.ifCond .eq 7, 3) := by decide +kernel
theorem dX11_takesDo_24 : decode cX11_takesDo 24 = .ok (.iconst 1, 1) := by decide +kernel
theorem dX11_takesDo_25 : decode cX11_takesDo 25 = .ok (.goto 18, 3) := by decide +kernel
theorem dX11_takesDo_28 : decode cX11_takesDo 28 = .ok (.aload_n 0, 1) := by decide +kernel
theorem dX11_takesDo_29 : decode cX11_takesDo 29 = .ok (.ldc_w 267, 3) := by decide +kernel
theorem dX11_takesDo_32 : decode cX11_takesDo 32 = .ok (.invokevirtual 196, 3) := by decide +kernel
theorem dX11_takesDo_35 : decode cX11_takesDo 35 = .ok (.ifCond .eq 7, 3) := by decide +kernel
theorem dX11_takesDo_38 : decode cX11_takesDo 38 = .ok (.iconst 2, 1) := by decide +kernel
theorem dX11_takesDo_39 : decode cX11_takesDo 39 = .ok (.goto 4, 3) := by decide +kernel
theorem dX11_takesDo_42 : decode cX11_takesDo 42 = .ok (.iconst (-1), 1) := by decide +kernel
theorem dX11_takesDo_43 : decode cX11_takesDo 43 = .ok (.istore_n 2, 1) := by decide +kernel
theorem dX11_takesDo_44 : decode cX11_takesDo 44 = .ok (.iload_n 2, 1) := by decide +kernel
theorem dX11_takesDo_45 : decode cX11_takesDo 45 = .ok (.ifCond .ge 8, 3) := by decide +kernel
theorem dX11_takesDo_48 : decode cX11_takesDo 48 = .ok (.aload_n 0, 1) := by decide +kernel
theorem dX11_takesDo_49 : decode cX11_takesDo 49 = .ok (.invokevirtual 223, 3) := by decide +kernel
theorem dX11_takesDo_52 : decode cX11_takesDo 52 = .ok (.ireturn, 1) := by decide +kernel
theorem dX11_takesDo_53 : decode cX11_takesDo 53 = .ok (.aload_n 0, 1) := by decide +kernel
theorem dX11_takesDo_54 : decode cX11_takesDo 54 = .ok (.invokevirtual 230, 3) := by decide +kernel
theorem dX11_takesDo_57 : decode cX11_takesDo 57 = .ok (.aload_n 0, 1) := by decide +kernel
theorem dX11_takesDo_58 : decode cX11_takesDo 58 = .ok (.getfield 9, 3) := by decide +kernel
theorem dX11_takesDo_61 : decode cX11_takesDo 61 = .ok (.iload_n 1, 1) := by decide +kernel
theorem dX11_takesDo_62 : decode cX11_takesDo 62 = .ok (.iconst 1, 1) := by decide +kernel
theorem dX11_takesDo_63 : decode cX11_takesDo 63 = .ok (.iadd, 1) := by decide +kernel
theorem dX11_takesDo_64 : decode cX11_takesDo 64 = .ok (.iload_n 2, 1) := by decide +kernel
theorem dX11_takesDo_65 : decode cX11_takesDo 65 = .ok (.iastore, 1) := by decide +kernel
theorem dX11_takesDo_66 : decode cX11_takesDo 66 = .ok (.aload_n 0, 1) := by decide +kernel
theorem dX11_takesDo_67 : decode cX11_takesDo 67 = .ok (.getfield 9, 3) := by decide +kernel
theorem dX11_takesDo_70 : decode cX11_takesDo 70 = .ok (.iload_n 1, 1) := by decide +kernel
theorem dX11_takesDo_71 : decode cX11_takesDo 71 = .ok (.iconst 2, 1) := by decide +kernel
theorem dX11_takesDo_72 : decode cX11_takesDo 72 = .ok (.iadd, 1) := by decide +kernel
theorem dX11_takesDo_73 : decode cX11_takesDo 73 = .ok (.iconst 0, 1) := by decide +kernel
theorem dX11_takesDo_74 : decode cX11_takesDo 74 = .ok (.iastore, 1) := by decide +kernel
theorem dX11_takesDo_75 : decode cX11_takesDo 75 = .ok (.iload_n 2, 1) := by decide +kernel
theorem dX11_takesDo_76 : decode cX11_takesDo 76 = .ok (.iconst 2, 1) := by decide +kernel
theorem dX11_takesDo_77 : decode cX11_takesDo 77 = .ok (.if_icmp .ne 5, 3) := by decide +kernel
theorem dX11_takesDo_80 : decode cX11_takesDo 80 = .ok (.iconst 1, 1) := by decide +kernel
theorem dX11_takesDo_81 : decode cX11_takesDo 81 = .ok (.ireturn, 1) := by decide +kernel
theorem dX11_takesDo_82 : decode cX11_takesDo 82 = .ok (.aload_n 0, 1) := by decide +kernel
theorem dX11_takesDo_83 : decode cX11_takesDo 83 = .ok (.getfield 167, 3) := by decide +kernel
theorem dX11_takesDo_86 : decode cX11_takesDo 86 = .ok (.iconst 2, 1) := by decide +kernel
theorem dX11_takesDo_87 : decode cX11_takesDo 87 = .ok (.if_icmp .ne 12, 3) := by decide +kernel
theorem dX11_takesDo_90 : decode cX11_takesDo 90 = .ok (.aload_n 0, 1) := by decide +kernel
theorem dX11_takesDo_91 : decode cX11_takesDo 91 = .ok (.getfield 176, 3) := by decide +kernel
theorem dX11_takesDo_94 : decode cX11_takesDo 94 = .ok (.bipush 99, 2) := by decide +kernel
theorem dX11_takesDo_96 : decode cX11_takesDo 96 = .ok (.if_icmp .le 8, 3) := by decide +kernel
theorem dX11_takesDo_99 : decode cX11_takesDo 99 = .ok (.aload_n 0, 1) := by decide +kernel
theorem dX11_takesDo_100 : decode cX11_takesDo 100 = .ok (.invokevirtual 223, 3) := by decide +kernel
theorem dX11_takesDo_103 : decode cX11_takesDo 103 = .ok (.ireturn, 1) := by decide +kernel
theorem dX11_takesDo_104 : decode cX11_takesDo 104 = .ok (.aload_n 0, 1) := by decide +kernel
theorem dX11_takesDo_105 : decode cX11_takesDo 105 = .ok (.getfield 9, 3) := by decide +kernel
theorem dX11_takesDo_108 : decode cX11_takesDo 108 = .ok (.iload_n 1, 1) := by decide +kernel
theorem dX11_takesDo_109 : decode cX11_takesDo 109 = .ok (.iconst 2, 1) := by decide +kernel
theorem dX11_takesDo_110 : decode cX11_takesDo 110 = .ok (.iadd, 1) := by decide +kernel
theorem dX11_takesDo_111 : decode cX11_takesDo 111 = .ok (.aload_n 0, 1) := by decide +kernel
theorem dX11_takesDo_112 : decode cX11_takesDo 112 = .ok (.getfield 176, 3) := by decide +kernel
theorem dX11_takesDo_115 : decode cX11_takesDo 115 = .ok (.iastore, 1) := by decide +kernel
theorem dX11_takesDo_116 : decode cX11_takesDo 116 = .ok (.aload_n 0, 1) := by decide +kernel
theorem dX11_takesDo_117 : decode cX11_takesDo 117 = .ok (.invokevirtual 230, 3) := by decide +kernel
theorem dX11_takesDo_120 : decode cX11_takesDo 120 = .ok (.iconst 1, 1) := by decide +kernel
theorem dX11_takesDo_121 : decode cX11_takesDo 121 = .ok (.ireturn, 1) := by decide +kernel
theorem dX11_takesRule_0 : decode cX11_takesRule 0 = .ok (.aload_n 0, 1) := by decide +kernel
theorem dX11_takesRule_1 : decode cX11_takesRule 1 = .ok (.invokevirtual 269, 3) := by decide +kernel
theorem dX11_takesRule_4 : decode cX11_takesRule 4 = .ok (.istore_n 1, 1) := by decide +kernel
theorem dX11_takesRule_5 : decode cX11_takesRule 5 = .ok (.iload_n 1, 1) := by decide +kernel
theorem dX11_takesRule_6 : decode cX11_takesRule 6 = .ok (.ifCond .lt 14, 3) := by decide +kernel
theorem dX11_takesRule_9 : decode cX11_takesRule 9 = .ok (.aload_n 0, 1) := by decide +kernel
theorem dX11_takesRule_10 : decode cX11_takesRule 10 = .ok (.getfield 9, 3) := by decide +kernel
theorem dX11_takesRule_13 : decode cX11_takesRule 13 = .ok (.iconst 5, 1) := by decide +kernel
theorem dX11_takesRule_14 : decode cX11_takesRule 14 = .ok (.iaload, 1) := by decide +kernel
theorem dX11_takesRule_15 : decode cX11_takesRule 15 = .ok (.bipush 8, 2) := by decide +kernel
theorem dX11_takesRule_17 : decode cX11_takesRule 17 = .ok (.if_icmp .ne 8, 3) := by decide +kernel
theorem dX11_takesRule_20 : decode cX11_takesRule 20 = .ok (.aload_n 0, 1) := by decide +kernel
theorem dX11_takesRule_21 : decode cX11_takesRule 21 = .ok (.invokevirtual 223, 3) := by decide +kernel
theorem dX11_takesRule_24 : decode cX11_takesRule 24 = .ok (.ireturn, 1) := by decide +kernel
theorem dX11_takesRule_25 : decode cX11_takesRule 25 = .ok (.bipush 71, 2) := by decide +kernel
theorem dX11_takesRule_27 : decode cX11_takesRule 27 = .ok (.iconst 5, 1) := by decide +kernel
theorem dX11_takesRule_28 : decode cX11_takesRule 28 = .ok (.aload_n 0, 1) := by decide +kernel
theorem dX11_takesRule_29 : decode cX11_takesRule 29 = .ok (.getfield 9, 3) := by decide +kernel
theorem dX11_takesRule_32 : decode cX11_takesRule 32 = .ok (.iconst 5, 1) := by decide +kernel
theorem dX11_takesRule_33 : decode cX11_takesRule 33 = .ok (.iaload, 1) := by decide +kernel
theorem dX11_takesRule_34 : decode cX11_takesRule 34 = .ok (.imul, 1) := by decide +kernel
theorem dX11_takesRule_35 : decode cX11_takesRule 35 = .ok (.iadd, 1) := by decide +kernel
theorem dX11_takesRule_36 : decode cX11_takesRule 36 = .ok (.istore_n 2, 1) := by decide +kernel
theorem dX11_takesRule_37 : decode cX11_takesRule 37 = .ok (.aload_n 0, 1) := by decide +kernel
theorem dX11_takesRule_38 : decode cX11_takesRule 38 = .ok (.getfield 9, 3) := by decide +kernel
theorem dX11_takesRule_41 : decode cX11_takesRule 41 = .ok (.iload_n 2, 1) := by decide +kernel
theorem dX11_takesRule_42 : decode cX11_takesRule 42 = .ok (.iload_n 1, 1) := by decide +kernel
theorem dX11_takesRule_43 : decode cX11_takesRule 43 = .ok (.iastore, 1) := by decide +kernel
theorem dX11_takesRule_44 : decode cX11_takesRule 44 = .ok (.aload_n 0, 1) := by decide +kernel
theorem dX11_takesRule_45 : decode cX11_takesRule 45 = .ok (.getfield 9, 3) := by decide +kernel
theorem dX11_takesRule_48 : decode cX11_takesRule 48 = .ok (.iload_n 2, 1) := by decide +kernel
theorem dX11_takesRule_49 : decode cX11_takesRule 49 = .ok (.iconst 3, 1) := by decide +kernel
theorem dX11_takesRule_50 : decode cX11_takesRule 50 = .ok (.iadd, 1) := by decide +kernel
theorem dX11_takesRule_51 : decode cX11_takesRule 51 = .ok (.aload_n 0, 1) := by decide +kernel
theorem dX11_takesRule_52 : decode cX11_takesRule 52 = .ok (.getfield 191, 3) := by decide +kernel
theorem dX11_takesRule_55 : decode cX11_takesRule 55 = .ok (.iastore, 1) := by decide +kernel
theorem dX11_takesRule_56 : decode cX11_takesRule 56 = .ok (.aload_n 0, 1) := by decide +kernel
theorem dX11_takesRule_57 : decode cX11_takesRule 57 = .ok (.invokevirtual 230, 3) := by decide +kernel
theorem dX11_takesRule_60 : decode cX11_takesRule 60 = .ok (.aload_n 0, 1) := by decide +kernel
theorem dX11_takesRule_61 : decode cX11_takesRule 61 = .ok (.ldc_w 272, 3) := by decide +kernel
theorem dX11_takesRule_64 : decode cX11_takesRule 64 = .ok (.invokevirtual 196, 3) := by decide +kernel
theorem dX11_takesRule_67 : decode cX11_takesRule 67 = .ok (.ifCond .eq 16, 3) := by decide +kernel
theorem dX11_takesRule_70 : decode cX11_takesRule 70 = .ok (.aload_n 0, 1) := by decide +kernel
theorem dX11_takesRule_71 : decode cX11_takesRule 71 = .ok (.invokevirtual 230, 3) := by decide +kernel
theorem dX11_takesRule_74 : decode cX11_takesRule 74 = .ok (.aload_n 0, 1) := by decide +kernel
theorem dX11_takesRule_75 : decode cX11_takesRule 75 = .ok (.invokevirtual 242, 3) := by decide +kernel
theorem dX11_takesRule_78 : decode cX11_takesRule 78 = .ok (.ifCond .ne 5, 3) := by decide +kernel
theorem dX11_takesRule_81 : decode cX11_takesRule 81 = .ok (.iconst 0, 1) := by decide +kernel
theorem dX11_takesRule_82 : decode cX11_takesRule 82 = .ok (.ireturn, 1) := by decide +kernel
theorem dX11_takesRule_83 : decode cX11_takesRule 83 = .ok (.aload_n 0, 1) := by decide +kernel
theorem dX11_takesRule_84 : decode cX11_takesRule 84 = .ok (.getfield 9, 3) := by decide +kernel
theorem dX11_takesRule_87 : decode cX11_takesRule 87 = .ok (.iload_n 2, 1) := by decide +kernel
theorem dX11_takesRule_88 : decode cX11_takesRule 88 = .ok (.iconst 4, 1) := by decide +kernel
theorem dX11_takesRule_89 : decode cX11_takesRule 89 = .ok (.iadd, 1) := by decide +kernel
theorem dX11_takesRule_90 : decode cX11_takesRule 90 = .ok (.aload_n 0, 1) := by decide +kernel
theorem dX11_takesRule_91 : decode cX11_takesRule 91 = .ok (.getfield 191, 3) := by decide +kernel
theorem dX11_takesRule_94 : decode cX11_takesRule 94 = .ok (.iastore, 1) := by decide +kernel
theorem dX11_takesRule_95 : decode cX11_takesRule 95 = .ok (.aload_n 0, 1) := by decide +kernel
theorem dX11_takesRule_96 : decode cX11_takesRule 96 = .ok (.iload_n 2, 1) := by decide +kernel
theorem dX11_takesRule_97 : decode cX11_takesRule 97 = .ok (.invokevirtual 274, 3) := by decide +kernel
theorem dX11_takesRule_100 : decode cX11_takesRule 100 = .ok (.ifCond .ne 5, 3) := by decide +kernel
theorem dX11_takesRule_103 : decode cX11_takesRule 103 = .ok (.iconst 0, 1) := by decide +kernel
theorem dX11_takesRule_104 : decode cX11_takesRule 104 = .ok (.ireturn, 1) := by decide +kernel
theorem dX11_takesRule_105 : decode cX11_takesRule 105 = .ok (.aload_n 0, 1) := by decide +kernel
theorem dX11_takesRule_106 : decode cX11_takesRule 106 = .ok (.bipush 59, 2) := by decide +kernel
theorem dX11_takesRule_108 : decode cX11_takesRule 108 = .ok (.invokevirtual 236, 3) := by decide +kernel
theorem dX11_takesRule_111 : decode cX11_takesRule 111 = .ok (.ifCond .ne 8, 3) := by decide +kernel
theorem dX11_takesRule_114 : decode cX11_takesRule 114 = .ok (.aload_n 0, 1) := by decide +kernel
theorem dX11_takesRule_115 : decode cX11_takesRule 115 = .ok (.invokevirtual 223, 3) := by decide +kernel
theorem dX11_takesRule_118 : decode cX11_takesRule 118 = .ok (.ireturn, 1) := by decide +kernel
theorem dX11_takesRule_119 : decode cX11_takesRule 119 = .ok (.aload_n 0, 1) := by decide +kernel
theorem dX11_takesRule_120 : decode cX11_takesRule 120 = .ok (.invokevirtual 230, 3) := by decide +kernel
theorem dX11_takesRule_123 : decode cX11_takesRule 123 = .ok (.aload_n 0, 1) := by decide +kernel
theorem dX11_takesRule_124 : decode cX11_takesRule 124 = .ok (.getfield 9, 3) := by decide +kernel
theorem dX11_takesRule_127 : decode cX11_takesRule 127 = .ok (.iconst 5, 1) := by decide +kernel
theorem dX11_takesRule_128 : decode cX11_takesRule 128 = .ok (.dup2, 1) := by decide +kernel
theorem dX11_takesRule_129 : decode cX11_takesRule 129 = .ok (.iaload, 1) := by decide +kernel
theorem dX11_takesRule_130 : decode cX11_takesRule 130 = .ok (.iconst 1, 1) := by decide +kernel
theorem dX11_takesRule_131 : decode cX11_takesRule 131 = .ok (.iadd, 1) := by decide +kernel
theorem dX11_takesRule_132 : decode cX11_takesRule 132 = .ok (.iastore, 1) := by decide +kernel
theorem dX11_takesRule_133 : decode cX11_takesRule 133 = .ok (.iconst 1, 1) := by decide +kernel
theorem dX11_takesRule_134 : decode cX11_takesRule 134 = .ok (.ireturn, 1) := by decide +kernel
theorem dX11_rules_0 : decode cX11_rules 0 = .ok (.aload_n 0, 1) := by decide +kernel
theorem dX11_rules_1 : decode cX11_rules 1 = .ok (.getfield 9, 3) := by decide +kernel
theorem dX11_rules_4 : decode cX11_rules 4 = .ok (.aload_n 0, 1) := by decide +kernel
theorem dX11_rules_5 : decode cX11_rules 5 = .ok (.getfield 16, 3) := by decide +kernel
theorem dX11_rules_8 : decode cX11_rules 8 = .ok (.invokestatic 277, 3) := by decide +kernel
theorem dX11_rules_11 : decode cX11_rules 11 = .ok (.aload_n 0, 1) := by decide +kernel
theorem dX11_rules_12 : decode cX11_rules 12 = .ok (.iconst 0, 1) := by decide +kernel
theorem dX11_rules_13 : decode cX11_rules 13 = .ok (.putfield 161, 3) := by decide +kernel
theorem dX11_rules_16 : decode cX11_rules 16 = .ok (.aload_n 0, 1) := by decide +kernel
theorem dX11_rules_17 : decode cX11_rules 17 = .ok (.iconst 0, 1) := by decide +kernel
theorem dX11_rules_18 : decode cX11_rules 18 = .ok (.putfield 239, 3) := by decide +kernel
theorem dX11_rules_21 : decode cX11_rules 21 = .ok (.aload_n 0, 1) := by decide +kernel
theorem dX11_rules_22 : decode cX11_rules 22 = .ok (.iconst 0, 1) := by decide +kernel
theorem dX11_rules_23 : decode cX11_rules 23 = .ok (.putfield 191, 3) := by decide +kernel
theorem dX11_rules_26 : decode cX11_rules 26 = .ok (.aload_n 0, 1) := by decide +kernel
theorem dX11_rules_27 : decode cX11_rules 27 = .ok (.getfield 9, 3) := by decide +kernel
theorem dX11_rules_30 : decode cX11_rules 30 = .ok (.iconst 5, 1) := by decide +kernel
theorem dX11_rules_31 : decode cX11_rules 31 = .ok (.iconst 0, 1) := by decide +kernel
theorem dX11_rules_32 : decode cX11_rules 32 = .ok (.iastore, 1) := by decide +kernel
theorem dX11_rules_33 : decode cX11_rules 33 = .ok (.aload_n 0, 1) := by decide +kernel
theorem dX11_rules_34 : decode cX11_rules 34 = .ok (.invokevirtual 230, 3) := by decide +kernel
theorem dX11_rules_37 : decode cX11_rules 37 = .ok (.iconst 1, 1) := by decide +kernel
theorem dX11_rules_38 : decode cX11_rules 38 = .ok (.istore_n 1, 1) := by decide +kernel
theorem dX11_rules_39 : decode cX11_rules 39 = .ok (.iload_n 1, 1) := by decide +kernel
theorem dX11_rules_40 : decode cX11_rules 40 = .ok (.ifCond .eq 18, 3) := by decide +kernel
theorem dX11_rules_43 : decode cX11_rules 43 = .ok (.aload_n 0, 1) := by decide +kernel
theorem dX11_rules_44 : decode cX11_rules 44 = .ok (.getfield 167, 3) := by decide +kernel
theorem dX11_rules_47 : decode cX11_rules 47 = .ok (.ifCond .eq 11, 3) := by decide +kernel
theorem dX11_rules_50 : decode cX11_rules 50 = .ok (.aload_n 0, 1) := by decide +kernel
theorem dX11_rules_51 : decode cX11_rules 51 = .ok (.invokevirtual 281, 3) := by decide +kernel
theorem dX11_rules_54 : decode cX11_rules 54 = .ok (.istore_n 1, 1) := by decide +kernel
theorem dX11_rules_55 : decode cX11_rules 55 = .ok (.goto (-16), 3) := by decide +kernel
theorem dX11_rules_58 : decode cX11_rules 58 = .ok (.aload_n 0, 1) := by decide +kernel
theorem dX11_rules_59 : decode cX11_rules 59 = .ok (.iconst 0, 1) := by decide +kernel
theorem dX11_rules_60 : decode cX11_rules 60 = .ok (.putfield 155, 3) := by decide +kernel
theorem dX11_rules_63 : decode cX11_rules 63 = .ok (.iload_n 1, 1) := by decide +kernel
theorem dX11_rules_64 : decode cX11_rules 64 = .ok (.ifCond .ne 22, 3) := by decide +kernel
theorem dX11_rules_67 : decode cX11_rules 67 = .ok (.aload_n 0, 1) := by decide +kernel
theorem dX11_rules_68 : decode cX11_rules 68 = .ok (.getfield 16, 3) := by decide +kernel
theorem dX11_rules_71 : decode cX11_rules 71 = .ok (.aload_n 0, 1) := by decide +kernel
theorem dX11_rules_72 : decode cX11_rules 72 = .ok (.getfield 9, 3) := by decide +kernel
theorem dX11_rules_75 : decode cX11_rules 75 = .ok (.invokestatic 277, 3) := by decide +kernel
theorem dX11_rules_78 : decode cX11_rules 78 = .ok (.bipush (-100), 2) := by decide +kernel
theorem dX11_rules_80 : decode cX11_rules 80 = .ok (.aload_n 0, 1) := by decide +kernel
theorem dX11_rules_81 : decode cX11_rules 81 = .ok (.getfield 179, 3) := by decide +kernel
theorem dX11_rules_84 : decode cX11_rules 84 = .ok (.isub, 1) := by decide +kernel
theorem dX11_rules_85 : decode cX11_rules 85 = .ok (.ireturn, 1) := by decide +kernel
theorem dX11_rules_86 : decode cX11_rules 86 = .ok (.aload_n 0, 1) := by decide +kernel
theorem dX11_rules_87 : decode cX11_rules 87 = .ok (.getfield 9, 3) := by decide +kernel
theorem dX11_rules_90 : decode cX11_rules 90 = .ok (.iconst 5, 1) := by decide +kernel
theorem dX11_rules_91 : decode cX11_rules 91 = .ok (.iaload, 1) := by decide +kernel
theorem dX11_rules_92 : decode cX11_rules 92 = .ok (.ireturn, 1) := by decide +kernel
theorem dX11_beat_0 : decode cX11_beat 0 = .ok (.aload_n 0, 1) := by decide +kernel
theorem dX11_beat_1 : decode cX11_beat 1 = .ok (.invokevirtual 96, 3) := by decide +kernel
theorem dX11_beat_4 : decode cX11_beat 4 = .ok (.ifCond .eq 8, 3) := by decide +kernel
theorem dX11_beat_7 : decode cX11_beat 7 = .ok (.bipush (-4), 2) := by decide +kernel
theorem dX11_beat_9 : decode cX11_beat 9 = .ok (.goto 8, 3) := by decide +kernel
theorem dX11_beat_12 : decode cX11_beat 12 = .ok (.aload_n 0, 1) := by decide +kernel
theorem dX11_beat_13 : decode cX11_beat 13 = .ok (.iconst 0, 1) := by decide +kernel
theorem dX11_beat_14 : decode cX11_beat 14 = .ok (.invokevirtual 284, 3) := by decide +kernel
theorem dX11_beat_17 : decode cX11_beat 17 = .ok (.ireturn, 1) := by decide +kernel
theorem dX11_in_0 : decode cX11_in 0 = .ok (.iload_n 1, 1) := by decide +kernel
theorem dX11_in_1 : decode cX11_in 1 = .ok (.i2l, 1) := by decide +kernel
theorem dX11_in_2 : decode cX11_in 2 = .ok (.lconst 0, 1) := by decide +kernel
theorem dX11_in_3 : decode cX11_in 3 = .ok (.ldc2_w 287, 3) := by decide +kernel
theorem dX11_in_6 : decode cX11_in 6 = .ok (.invokestatic 70, 3) := by decide +kernel
theorem dX11_in_9 : decode cX11_in 9 = .ok (.ifCond .eq 15, 3) := by decide +kernel
theorem dX11_in_12 : decode cX11_in 12 = .ok (.aload_n 0, 1) := by decide +kernel
theorem dX11_in_13 : decode cX11_in 13 = .ok (.iload_n 1, 1) := by decide +kernel
theorem dX11_in_14 : decode cX11_in 14 = .ok (.aload_n 0, 1) := by decide +kernel
theorem dX11_in_15 : decode cX11_in 15 = .ok (.invokevirtual 125, 3) := by decide +kernel
theorem dX11_in_18 : decode cX11_in 18 = .ok (.invokevirtual 289, 3) := by decide +kernel
theorem dX11_in_21 : decode cX11_in 21 = .ok (.goto 4, 3) := by decide +kernel
theorem dX11_in_24 : decode cX11_in 24 = .ok (.iconst (-1), 1) := by decide +kernel
theorem dX11_in_25 : decode cX11_in 25 = .ok (.ireturn, 1) := by decide +kernel
theorem dX11_saves_0 : decode cX11_saves 0 = .ok (.iconst 0, 1) := by decide +kernel
theorem dX11_saves_1 : decode cX11_saves 1 = .ok (.istore_n 2, 1) := by decide +kernel
theorem dX11_saves_2 : decode cX11_saves 2 = .ok (.iload_n 2, 1) := by decide +kernel
theorem dX11_saves_3 : decode cX11_saves 3 = .ok (.bipush 6, 2) := by decide +kernel
theorem dX11_saves_5 : decode cX11_saves 5 = .ok (.if_icmp .ge 25, 3) := by decide +kernel
theorem dX11_saves_8 : decode cX11_saves 8 = .ok (.aload_n 1, 1) := by decide +kernel
theorem dX11_saves_9 : decode cX11_saves 9 = .ok (.iload_n 2, 1) := by decide +kernel
theorem dX11_saves_10 : decode cX11_saves 10 = .ok (.aload_n 0, 1) := by decide +kernel
theorem dX11_saves_11 : decode cX11_saves 11 = .ok (.getfield 9, 3) := by decide +kernel
theorem dX11_saves_14 : decode cX11_saves 14 = .ok (.bipush 7, 2) := by decide +kernel
theorem dX11_saves_16 : decode cX11_saves 16 = .ok (.iconst 4, 1) := by decide +kernel
theorem dX11_saves_17 : decode cX11_saves 17 = .ok (.iload_n 2, 1) := by decide +kernel
theorem dX11_saves_18 : decode cX11_saves 18 = .ok (.imul, 1) := by decide +kernel
theorem dX11_saves_19 : decode cX11_saves 19 = .ok (.iadd, 1) := by decide +kernel
theorem dX11_saves_20 : decode cX11_saves 20 = .ok (.iconst 1, 1) := by decide +kernel
theorem dX11_saves_21 : decode cX11_saves 21 = .ok (.iadd, 1) := by decide +kernel
theorem dX11_saves_22 : decode cX11_saves 22 = .ok (.iaload, 1) := by decide +kernel
theorem dX11_saves_23 : decode cX11_saves 23 = .ok (.iastore, 1) := by decide +kernel
theorem dX11_saves_24 : decode cX11_saves 24 = .ok (.iinc 2 1, 3) := by decide +kernel
theorem dX11_saves_27 : decode cX11_saves 27 = .ok (.goto (-25), 3) := by decide +kernel
theorem dX11_saves_30 : decode cX11_saves 30 = .ok (.aload_n 1, 1) := by decide +kernel
theorem dX11_saves_31 : decode cX11_saves 31 = .ok (.bipush 6, 2) := by decide +kernel
theorem dX11_saves_33 : decode cX11_saves 33 = .ok (.aload_n 0, 1) := by decide +kernel
theorem dX11_saves_34 : decode cX11_saves 34 = .ok (.getfield 9, 3) := by decide +kernel
theorem dX11_saves_37 : decode cX11_saves 37 = .ok (.iconst 2, 1) := by decide +kernel
theorem dX11_saves_38 : decode cX11_saves 38 = .ok (.iaload, 1) := by decide +kernel
theorem dX11_saves_39 : decode cX11_saves 39 = .ok (.iastore, 1) := by decide +kernel
theorem dX11_saves_40 : decode cX11_saves 40 = .ok (.aload_n 1, 1) := by decide +kernel
theorem dX11_saves_41 : decode cX11_saves 41 = .ok (.bipush 7, 2) := by decide +kernel
theorem dX11_saves_43 : decode cX11_saves 43 = .ok (.aload_n 0, 1) := by decide +kernel
theorem dX11_saves_44 : decode cX11_saves 44 = .ok (.getfield 9, 3) := by decide +kernel
theorem dX11_saves_47 : decode cX11_saves 47 = .ok (.iconst 3, 1) := by decide +kernel
theorem dX11_saves_48 : decode cX11_saves 48 = .ok (.iaload, 1) := by decide +kernel
theorem dX11_saves_49 : decode cX11_saves 49 = .ok (.iastore, 1) := by decide +kernel
theorem dX11_saves_50 : decode cX11_saves 50 = .ok (.return_, 1) := by decide +kernel
theorem dX11_putsBack_0 : decode cX11_putsBack 0 = .ok (.iconst 0, 1) := by decide +kernel
theorem dX11_putsBack_1 : decode cX11_putsBack 1 = .ok (.istore_n 2, 1) := by decide +kernel
theorem dX11_putsBack_2 : decode cX11_putsBack 2 = .ok (.iload_n 2, 1) := by decide +kernel
theorem dX11_putsBack_3 : decode cX11_putsBack 3 = .ok (.bipush 6, 2) := by decide +kernel
theorem dX11_putsBack_5 : decode cX11_putsBack 5 = .ok (.if_icmp .ge 25, 3) := by decide +kernel
theorem dX11_putsBack_8 : decode cX11_putsBack 8 = .ok (.aload_n 0, 1) := by decide +kernel
theorem dX11_putsBack_9 : decode cX11_putsBack 9 = .ok (.getfield 9, 3) := by decide +kernel
theorem dX11_putsBack_12 : decode cX11_putsBack 12 = .ok (.bipush 7, 2) := by decide +kernel
theorem dX11_putsBack_14 : decode cX11_putsBack 14 = .ok (.iconst 4, 1) := by decide +kernel
theorem dX11_putsBack_15 : decode cX11_putsBack 15 = .ok (.iload_n 2, 1) := by decide +kernel
theorem dX11_putsBack_16 : decode cX11_putsBack 16 = .ok (.imul, 1) := by decide +kernel
theorem dX11_putsBack_17 : decode cX11_putsBack 17 = .ok (.iadd, 1) := by decide +kernel
theorem dX11_putsBack_18 : decode cX11_putsBack 18 = .ok (.iconst 1, 1) := by decide +kernel
theorem dX11_putsBack_19 : decode cX11_putsBack 19 = .ok (.iadd, 1) := by decide +kernel
theorem dX11_putsBack_20 : decode cX11_putsBack 20 = .ok (.aload_n 1, 1) := by decide +kernel
theorem dX11_putsBack_21 : decode cX11_putsBack 21 = .ok (.iload_n 2, 1) := by decide +kernel
theorem dX11_putsBack_22 : decode cX11_putsBack 22 = .ok (.iaload, 1) := by decide +kernel
theorem dX11_putsBack_23 : decode cX11_putsBack 23 = .ok (.iastore, 1) := by decide +kernel
theorem dX11_putsBack_24 : decode cX11_putsBack 24 = .ok (.iinc 2 1, 3) := by decide +kernel
theorem dX11_putsBack_27 : decode cX11_putsBack 27 = .ok (.goto (-25), 3) := by decide +kernel
theorem dX11_putsBack_30 : decode cX11_putsBack 30 = .ok (.aload_n 0, 1) := by decide +kernel
theorem dX11_putsBack_31 : decode cX11_putsBack 31 = .ok (.getfield 9, 3) := by decide +kernel
theorem dX11_putsBack_34 : decode cX11_putsBack 34 = .ok (.iconst 2, 1) := by decide +kernel
theorem dX11_putsBack_35 : decode cX11_putsBack 35 = .ok (.aload_n 1, 1) := by decide +kernel
theorem dX11_putsBack_36 : decode cX11_putsBack 36 = .ok (.bipush 6, 2) := by decide +kernel
theorem dX11_putsBack_38 : decode cX11_putsBack 38 = .ok (.iaload, 1) := by decide +kernel
theorem dX11_putsBack_39 : decode cX11_putsBack 39 = .ok (.iastore, 1) := by decide +kernel
theorem dX11_putsBack_40 : decode cX11_putsBack 40 = .ok (.aload_n 0, 1) := by decide +kernel
theorem dX11_putsBack_41 : decode cX11_putsBack 41 = .ok (.getfield 9, 3) := by decide +kernel
theorem dX11_putsBack_44 : decode cX11_putsBack 44 = .ok (.iconst 3, 1) := by decide +kernel
theorem dX11_putsBack_45 : decode cX11_putsBack 45 = .ok (.aload_n 1, 1) := by decide +kernel
theorem dX11_putsBack_46 : decode cX11_putsBack 46 = .ok (.bipush 7, 2) := by decide +kernel
theorem dX11_putsBack_48 : decode cX11_putsBack 48 = .ok (.iaload, 1) := by decide +kernel
theorem dX11_putsBack_49 : decode cX11_putsBack 49 = .ok (.iastore, 1) := by decide +kernel
theorem dX11_putsBack_50 : decode cX11_putsBack 50 = .ok (.return_, 1) := by decide +kernel
theorem dX11_showsIt_0 : decode cX11_showsIt 0 = .ok (.aload_n 0, 1) := by decide +kernel
theorem dX11_showsIt_1 : decode cX11_showsIt 1 = .ok (.aload_n 0, 1) := by decide +kernel
theorem dX11_showsIt_2 : decode cX11_showsIt 2 = .ok (.getfield 28, 3) := by decide +kernel
theorem dX11_showsIt_5 : decode cX11_showsIt 5 = .ok (.invokevirtual 292, 3) := by decide +kernel
theorem dX11_showsIt_8 : decode cX11_showsIt 8 = .ok (.iconst 0, 1) := by decide +kernel
theorem dX11_showsIt_9 : decode cX11_showsIt 9 = .ok (.istore_n 2, 1) := by decide +kernel
theorem dX11_showsIt_10 : decode cX11_showsIt 10 = .ok (.aload_n 0, 1) := by decide +kernel
theorem dX11_showsIt_11 : decode cX11_showsIt 11 = .ok (.invokevirtual 96, 3) := by decide +kernel
theorem dX11_showsIt_14 : decode cX11_showsIt 14 = .ok (.ifCond .ne 37, 3) := by decide +kernel
theorem dX11_showsIt_17 : decode cX11_showsIt 17 = .ok (.aload_n 0, 1) := by decide +kernel
theorem dX11_showsIt_18 : decode cX11_showsIt 18 = .ok (.getfield 9, 3) := by decide +kernel
theorem dX11_showsIt_21 : decode cX11_showsIt 21 = .ok (.bipush 31, 2) := by decide +kernel
theorem dX11_showsIt_23 : decode cX11_showsIt 23 = .ok (.aload_n 0, 1) := by decide +kernel
theorem dX11_showsIt_24 : decode cX11_showsIt 24 = .ok (.getfield 9, 3) := by decide +kernel
theorem dX11_showsIt_27 : decode cX11_showsIt 27 = .ok (.iconst 2, 1) := by decide +kernel
theorem dX11_showsIt_28 : decode cX11_showsIt 28 = .ok (.iaload, 1) := by decide +kernel
theorem dX11_showsIt_29 : decode cX11_showsIt 29 = .ok (.iadd, 1) := by decide +kernel
theorem dX11_showsIt_30 : decode cX11_showsIt 30 = .ok (.iaload, 1) := by decide +kernel
theorem dX11_showsIt_31 : decode cX11_showsIt 31 = .ok (.istore_n 3, 1) := by decide +kernel
theorem dX11_showsIt_32 : decode cX11_showsIt 32 = .ok (.aload_n 0, 1) := by decide +kernel
theorem dX11_showsIt_33 : decode cX11_showsIt 33 = .ok (.iconst 0, 1) := by decide +kernel
theorem dX11_showsIt_34 : decode cX11_showsIt 34 = .ok (.invokevirtual 284, 3) := by decide +kernel
theorem dX11_showsIt_37 : decode cX11_showsIt 37 = .ok (.istore 4, 2) := by decide +kernel
theorem dX11_showsIt_39 : decode cX11_showsIt 39 = .ok (.iload_n 2, 1) := by decide +kernel
theorem dX11_showsIt_40 : decode cX11_showsIt 40 = .ok (.aload_n 0, 1) := by decide +kernel
theorem dX11_showsIt_41 : decode cX11_showsIt 41 = .ok (.iload_n 1, 1) := by decide +kernel
theorem dX11_showsIt_42 : decode cX11_showsIt 42 = .ok (.iload_n 3, 1) := by decide +kernel
theorem dX11_showsIt_43 : decode cX11_showsIt 43 = .ok (.invokevirtual 140, 3) := by decide +kernel
theorem dX11_showsIt_46 : decode cX11_showsIt 46 = .ok (.iadd, 1) := by decide +kernel
theorem dX11_showsIt_47 : decode cX11_showsIt 47 = .ok (.istore_n 2, 1) := by decide +kernel
theorem dX11_showsIt_48 : decode cX11_showsIt 48 = .ok (.goto (-38), 3) := by decide +kernel
theorem dX11_showsIt_51 : decode cX11_showsIt 51 = .ok (.aload_n 0, 1) := by decide +kernel
theorem dX11_showsIt_52 : decode cX11_showsIt 52 = .ok (.aload_n 0, 1) := by decide +kernel
theorem dX11_showsIt_53 : decode cX11_showsIt 53 = .ok (.getfield 28, 3) := by decide +kernel
theorem dX11_showsIt_56 : decode cX11_showsIt 56 = .ok (.invokevirtual 296, 3) := by decide +kernel
theorem dX11_showsIt_59 : decode cX11_showsIt 59 = .ok (.iload_n 2, 1) := by decide +kernel
theorem dX11_showsIt_60 : decode cX11_showsIt 60 = .ok (.ireturn, 1) := by decide +kernel
theorem dX11_shows_0 : decode cX11_shows 0 = .ok (.aload_n 0, 1) := by decide +kernel
theorem dX11_shows_1 : decode cX11_shows 1 = .ok (.iload_n 1, 1) := by decide +kernel
theorem dX11_shows_2 : decode cX11_shows 2 = .ok (.invokevirtual 84, 3) := by decide +kernel
theorem dX11_shows_5 : decode cX11_shows 5 = .ok (.ifCond .eq 11, 3) := by decide +kernel
theorem dX11_shows_8 : decode cX11_shows 8 = .ok (.aload_n 0, 1) := by decide +kernel
theorem dX11_shows_9 : decode cX11_shows 9 = .ok (.iload_n 1, 1) := by decide +kernel
theorem dX11_shows_10 : decode cX11_shows 10 = .ok (.invokevirtual 299, 3) := by decide +kernel
theorem dX11_shows_13 : decode cX11_shows 13 = .ok (.goto 4, 3) := by decide +kernel
theorem dX11_shows_16 : decode cX11_shows 16 = .ok (.iconst (-1), 1) := by decide +kernel
theorem dX11_shows_17 : decode cX11_shows 17 = .ok (.ireturn, 1) := by decide +kernel
theorem dX11_on_0 : decode cX11_on 0 = .ok (.iload_n 1, 1) := by decide +kernel
theorem dX11_on_1 : decode cX11_on 1 = .ok (.i2l, 1) := by decide +kernel
theorem dX11_on_2 : decode cX11_on 2 = .ok (.lconst 0, 1) := by decide +kernel
theorem dX11_on_3 : decode cX11_on 3 = .ok (.ldc2_w 302, 3) := by decide +kernel
theorem dX11_on_6 : decode cX11_on 6 = .ok (.invokestatic 70, 3) := by decide +kernel
theorem dX11_on_9 : decode cX11_on 9 = .ok (.ifCond .ne 5, 3) := by decide +kernel
theorem dX11_on_12 : decode cX11_on 12 = .ok (.iconst (-1), 1) := by decide +kernel
theorem dX11_on_13 : decode cX11_on 13 = .ok (.ireturn, 1) := by decide +kernel
theorem dX11_on_14 : decode cX11_on 14 = .ok (.aload_n 0, 1) := by decide +kernel
theorem dX11_on_15 : decode cX11_on 15 = .ok (.aload_n 0, 1) := by decide +kernel
theorem dX11_on_16 : decode cX11_on 16 = .ok (.getfield 28, 3) := by decide +kernel
theorem dX11_on_19 : decode cX11_on 19 = .ok (.invokevirtual 292, 3) := by decide +kernel
theorem dX11_on_22 : decode cX11_on 22 = .ok (.iconst 0, 1) := by decide +kernel
theorem dX11_on_23 : decode cX11_on 23 = .ok (.istore_n 2, 1) := by decide +kernel
theorem dX11_on_24 : decode cX11_on 24 = .ok (.iconst 0, 1) := by decide +kernel
theorem dX11_on_25 : decode cX11_on 25 = .ok (.istore_n 3, 1) := by decide +kernel
theorem dX11_on_26 : decode cX11_on 26 = .ok (.iload_n 3, 1) := by decide +kernel
theorem dX11_on_27 : decode cX11_on 27 = .ok (.iload_n 1, 1) := by decide +kernel
theorem dX11_on_28 : decode cX11_on 28 = .ok (.if_icmp .ge 24, 3) := by decide +kernel
theorem dX11_on_31 : decode cX11_on 31 = .ok (.aload_n 0, 1) := by decide +kernel
theorem dX11_on_32 : decode cX11_on 32 = .ok (.invokevirtual 96, 3) := by decide +kernel
theorem dX11_on_35 : decode cX11_on 35 = .ok (.ifCond .ne 17, 3) := by decide +kernel
theorem dX11_on_38 : decode cX11_on 38 = .ok (.iload_n 2, 1) := by decide +kernel
theorem dX11_on_39 : decode cX11_on 39 = .ok (.aload_n 0, 1) := by decide +kernel
theorem dX11_on_40 : decode cX11_on 40 = .ok (.iconst 0, 1) := by decide +kernel
theorem dX11_on_41 : decode cX11_on 41 = .ok (.invokevirtual 284, 3) := by decide +kernel
theorem dX11_on_44 : decode cX11_on 44 = .ok (.iadd, 1) := by decide +kernel
theorem dX11_on_45 : decode cX11_on 45 = .ok (.istore_n 2, 1) := by decide +kernel
theorem dX11_on_46 : decode cX11_on 46 = .ok (.iinc 3 1, 3) := by decide +kernel
theorem dX11_on_49 : decode cX11_on 49 = .ok (.goto (-23), 3) := by decide +kernel
theorem dX11_on_52 : decode cX11_on 52 = .ok (.aload_n 0, 1) := by decide +kernel
theorem dX11_on_53 : decode cX11_on 53 = .ok (.aload_n 0, 1) := by decide +kernel
theorem dX11_on_54 : decode cX11_on 54 = .ok (.getfield 28, 3) := by decide +kernel
theorem dX11_on_57 : decode cX11_on 57 = .ok (.invokevirtual 296, 3) := by decide +kernel
theorem dX11_on_60 : decode cX11_on 60 = .ok (.iload_n 2, 1) := by decide +kernel
theorem dX11_on_61 : decode cX11_on 61 = .ok (.ireturn, 1) := by decide +kernel
theorem dX11_lostAt_0 : decode cX11_lostAt 0 = .ok (.aload_n 0, 1) := by decide +kernel
theorem dX11_lostAt_1 : decode cX11_lostAt 1 = .ok (.aload_n 0, 1) := by decide +kernel
theorem dX11_lostAt_2 : decode cX11_lostAt 2 = .ok (.getfield 28, 3) := by decide +kernel
theorem dX11_lostAt_5 : decode cX11_lostAt 5 = .ok (.invokevirtual 292, 3) := by decide +kernel
theorem dX11_lostAt_8 : decode cX11_lostAt 8 = .ok (.bipush (-3), 2) := by decide +kernel
theorem dX11_lostAt_10 : decode cX11_lostAt 10 = .ok (.istore_n 2, 1) := by decide +kernel
theorem dX11_lostAt_11 : decode cX11_lostAt 11 = .ok (.aload_n 0, 1) := by decide +kernel
theorem dX11_lostAt_12 : decode cX11_lostAt 12 = .ok (.invokevirtual 96, 3) := by decide +kernel
theorem dX11_lostAt_15 : decode cX11_lostAt 15 = .ok (.ifCond .ne 50, 3) := by decide +kernel
theorem dX11_lostAt_18 : decode cX11_lostAt 18 = .ok (.iload_n 2, 1) := by decide +kernel
theorem dX11_lostAt_19 : decode cX11_lostAt 19 = .ok (.bipush (-3), 2) := by decide +kernel
theorem dX11_lostAt_21 : decode cX11_lostAt 21 = .ok (.if_icmp .ne 44, 3) := by decide +kernel
theorem dX11_lostAt_24 : decode cX11_lostAt 24 = .ok (.aload_n 0, 1) := by decide +kernel
theorem dX11_lostAt_25 : decode cX11_lostAt 25 = .ok (.getfield 9, 3) := by decide +kernel
theorem dX11_lostAt_28 : decode cX11_lostAt 28 = .ok (.iconst 2, 1) := by decide +kernel
theorem dX11_lostAt_29 : decode cX11_lostAt 29 = .ok (.iaload, 1) := by decide +kernel
theorem dX11_lostAt_30 : decode cX11_lostAt 30 = .ok (.istore_n 3, 1) := by decide +kernel
theorem dX11_lostAt_31 : decode cX11_lostAt 31 = .ok (.aload_n 0, 1) := by decide +kernel
theorem dX11_lostAt_32 : decode cX11_lostAt 32 = .ok (.iconst 0, 1) := by decide +kernel
theorem dX11_lostAt_33 : decode cX11_lostAt 33 = .ok (.invokevirtual 284, 3) := by decide +kernel
theorem dX11_lostAt_36 : decode cX11_lostAt 36 = .ok (.istore 4, 2) := by decide +kernel
theorem dX11_lostAt_38 : decode cX11_lostAt 38 = .ok (.aload_n 0, 1) := by decide +kernel
theorem dX11_lostAt_39 : decode cX11_lostAt 39 = .ok (.iload_n 1, 1) := by decide +kernel
theorem dX11_lostAt_40 : decode cX11_lostAt 40 = .ok (.aload_n 0, 1) := by decide +kernel
theorem dX11_lostAt_41 : decode cX11_lostAt 41 = .ok (.getfield 9, 3) := by decide +kernel
theorem dX11_lostAt_44 : decode cX11_lostAt 44 = .ok (.bipush 31, 2) := by decide +kernel
theorem dX11_lostAt_46 : decode cX11_lostAt 46 = .ok (.iload_n 3, 1) := by decide +kernel
theorem dX11_lostAt_47 : decode cX11_lostAt 47 = .ok (.iadd, 1) := by decide +kernel
theorem dX11_lostAt_48 : decode cX11_lostAt 48 = .ok (.iaload, 1) := by decide +kernel
theorem dX11_lostAt_49 : decode cX11_lostAt 49 = .ok (.invokevirtual 137, 3) := by decide +kernel
theorem dX11_lostAt_52 : decode cX11_lostAt 52 = .ok (.ifCond .ne 7, 3) := by decide +kernel
theorem dX11_lostAt_55 : decode cX11_lostAt 55 = .ok (.iload_n 3, 1) := by decide +kernel
theorem dX11_lostAt_56 : decode cX11_lostAt 56 = .ok (.goto 5, 3) := by decide +kernel
theorem dX11_lostAt_59 : decode cX11_lostAt 59 = .ok (.bipush (-3), 2) := by decide +kernel
theorem dX11_lostAt_61 : decode cX11_lostAt 61 = .ok (.istore_n 2, 1) := by decide +kernel
theorem dX11_lostAt_62 : decode cX11_lostAt 62 = .ok (.goto (-51), 3) := by decide +kernel
theorem dX11_lostAt_65 : decode cX11_lostAt 65 = .ok (.aload_n 0, 1) := by decide +kernel
theorem dX11_lostAt_66 : decode cX11_lostAt 66 = .ok (.aload_n 0, 1) := by decide +kernel
theorem dX11_lostAt_67 : decode cX11_lostAt 67 = .ok (.getfield 28, 3) := by decide +kernel
theorem dX11_lostAt_70 : decode cX11_lostAt 70 = .ok (.invokevirtual 296, 3) := by decide +kernel
theorem dX11_lostAt_73 : decode cX11_lostAt 73 = .ok (.iload_n 2, 1) := by decide +kernel
theorem dX11_lostAt_74 : decode cX11_lostAt 74 = .ok (.ireturn, 1) := by decide +kernel
theorem dX11_lost_0 : decode cX11_lost 0 = .ok (.aload_n 0, 1) := by decide +kernel
theorem dX11_lost_1 : decode cX11_lost 1 = .ok (.iload_n 1, 1) := by decide +kernel
theorem dX11_lost_2 : decode cX11_lost 2 = .ok (.invokevirtual 84, 3) := by decide +kernel
theorem dX11_lost_5 : decode cX11_lost 5 = .ok (.ifCond .eq 11, 3) := by decide +kernel
theorem dX11_lost_8 : decode cX11_lost 8 = .ok (.aload_n 0, 1) := by decide +kernel
theorem dX11_lost_9 : decode cX11_lost 9 = .ok (.iload_n 1, 1) := by decide +kernel
theorem dX11_lost_10 : decode cX11_lost 10 = .ok (.invokevirtual 304, 3) := by decide +kernel
theorem dX11_lost_13 : decode cX11_lost 13 = .ok (.goto 4, 3) := by decide +kernel
theorem dX11_lost_16 : decode cX11_lost 16 = .ok (.iconst (-1), 1) := by decide +kernel
theorem dX11_lost_17 : decode cX11_lost 17 = .ok (.ireturn, 1) := by decide +kernel
theorem dX11_crosses_0 : decode cX11_crosses 0 = .ok (.aload_n 0, 1) := by decide +kernel
theorem dX11_crosses_1 : decode cX11_crosses 1 = .ok (.iload_n 1, 1) := by decide +kernel
theorem dX11_crosses_2 : decode cX11_crosses 2 = .ok (.invokevirtual 84, 3) := by decide +kernel
theorem dX11_crosses_5 : decode cX11_crosses 5 = .ok (.ifCond .eq 16, 3) := by decide +kernel
theorem dX11_crosses_8 : decode cX11_crosses 8 = .ok (.aload_n 0, 1) := by decide +kernel
theorem dX11_crosses_9 : decode cX11_crosses 9 = .ok (.iload_n 2, 1) := by decide +kernel
theorem dX11_crosses_10 : decode cX11_crosses 10 = .ok (.invokevirtual 84, 3) := by decide +kernel
theorem dX11_crosses_13 : decode cX11_crosses 13 = .ok (.ifCond .eq 8, 3) := by decide +kernel
theorem dX11_crosses_16 : decode cX11_crosses 16 = .ok (.iload_n 1, 1) := by decide +kernel
theorem dX11_crosses_17 : decode cX11_crosses 17 = .ok (.iload_n 2, 1) := by decide +kernel
theorem dX11_crosses_18 : decode cX11_crosses 18 = .ok (.if_icmp .ne 5, 3) := by decide +kernel
theorem dX11_crosses_21 : decode cX11_crosses 21 = .ok (.iconst (-1), 1) := by decide +kernel
theorem dX11_crosses_22 : decode cX11_crosses 22 = .ok (.ireturn, 1) := by decide +kernel
theorem dX11_crosses_23 : decode cX11_crosses 23 = .ok (.aload_n 0, 1) := by decide +kernel
theorem dX11_crosses_24 : decode cX11_crosses 24 = .ok (.aload_n 0, 1) := by decide +kernel
theorem dX11_crosses_25 : decode cX11_crosses 25 = .ok (.getfield 28, 3) := by decide +kernel
theorem dX11_crosses_28 : decode cX11_crosses 28 = .ok (.invokevirtual 292, 3) := by decide +kernel
theorem dX11_crosses_31 : decode cX11_crosses 31 = .ok (.iconst 0, 1) := by decide +kernel
theorem dX11_crosses_32 : decode cX11_crosses 32 = .ok (.istore_n 3, 1) := by decide +kernel
theorem dX11_crosses_33 : decode cX11_crosses 33 = .ok (.aload_n 0, 1) := by decide +kernel
theorem dX11_crosses_34 : decode cX11_crosses 34 = .ok (.invokevirtual 96, 3) := by decide +kernel
theorem dX11_crosses_37 : decode cX11_crosses 37 = .ok (.ifCond .ne 71, 3) := by decide +kernel
theorem dX11_crosses_40 : decode cX11_crosses 40 = .ok (.aload_n 0, 1) := by decide +kernel
theorem dX11_crosses_41 : decode cX11_crosses 41 = .ok (.iload_n 1, 1) := by decide +kernel
theorem dX11_crosses_42 : decode cX11_crosses 42 = .ok (.iconst 1, 1) := by decide +kernel
theorem dX11_crosses_43 : decode cX11_crosses 43 = .ok (.invokevirtual 88, 3) := by decide +kernel
theorem dX11_crosses_46 : decode cX11_crosses 46 = .ok (.aload_n 0, 1) := by decide +kernel
theorem dX11_crosses_47 : decode cX11_crosses 47 = .ok (.iload_n 2, 1) := by decide +kernel
theorem dX11_crosses_48 : decode cX11_crosses 48 = .ok (.iconst 1, 1) := by decide +kernel
theorem dX11_crosses_49 : decode cX11_crosses 49 = .ok (.invokevirtual 88, 3) := by decide +kernel
theorem dX11_crosses_52 : decode cX11_crosses 52 = .ok (.isub, 1) := by decide +kernel
theorem dX11_crosses_53 : decode cX11_crosses 53 = .ok (.istore 4, 2) := by decide +kernel
theorem dX11_crosses_55 : decode cX11_crosses 55 = .ok (.aload_n 0, 1) := by decide +kernel
theorem dX11_crosses_56 : decode cX11_crosses 56 = .ok (.iconst 0, 1) := by decide +kernel
theorem dX11_crosses_57 : decode cX11_crosses 57 = .ok (.invokevirtual 284, 3) := by decide +kernel
theorem dX11_crosses_60 : decode cX11_crosses 60 = .ok (.istore 5, 2) := by decide +kernel
theorem dX11_crosses_62 : decode cX11_crosses 62 = .ok (.aload_n 0, 1) := by decide +kernel
theorem dX11_crosses_63 : decode cX11_crosses 63 = .ok (.iload_n 1, 1) := by decide +kernel
theorem dX11_crosses_64 : decode cX11_crosses 64 = .ok (.iconst 1, 1) := by decide +kernel
theorem dX11_crosses_65 : decode cX11_crosses 65 = .ok (.invokevirtual 88, 3) := by decide +kernel
theorem dX11_crosses_68 : decode cX11_crosses 68 = .ok (.aload_n 0, 1) := by decide +kernel
theorem dX11_crosses_69 : decode cX11_crosses 69 = .ok (.iload_n 2, 1) := by decide +kernel
theorem dX11_crosses_70 : decode cX11_crosses 70 = .ok (.iconst 1, 1) := by decide +kernel
theorem dX11_crosses_71 : decode cX11_crosses 71 = .ok (.invokevirtual 88, 3) := by decide +kernel
theorem dX11_crosses_74 : decode cX11_crosses 74 = .ok (.isub, 1) := by decide +kernel
theorem dX11_crosses_75 : decode cX11_crosses 75 = .ok (.istore 6, 2) := by decide +kernel
theorem dX11_crosses_77 : decode cX11_crosses 77 = .ok (.iload_n 3, 1) := by decide +kernel
theorem dX11_crosses_78 : decode cX11_crosses 78 = .ok (.iload 4, 2) := by decide +kernel
theorem dX11_crosses_80 : decode cX11_crosses 80 = .ok (.ifCond .ge 8, 3) := by decide +kernel
theorem dX11_crosses_83 : decode cX11_crosses 83 = .ok (.iload 6, 2) := by decide +kernel
theorem dX11_crosses_85 : decode cX11_crosses 85 = .ok (.ifCond .gt 13, 3) := by decide +kernel
theorem dX11_crosses_88 : decode cX11_crosses 88 = .ok (.iload 4, 2) := by decide +kernel
theorem dX11_crosses_90 : decode cX11_crosses 90 = .ok (.ifCond .le 12, 3) := by decide +kernel
theorem dX11_crosses_93 : decode cX11_crosses 93 = .ok (.iload 6, 2) := by decide +kernel
theorem dX11_crosses_95 : decode cX11_crosses 95 = .ok (.ifCond .ge 7, 3) := by decide +kernel
theorem dX11_crosses_98 : decode cX11_crosses 98 = .ok (.iconst 1, 1) := by decide +kernel
theorem dX11_crosses_99 : decode cX11_crosses 99 = .ok (.goto 4, 3) := by decide +kernel
theorem dX11_crosses_102 : decode cX11_crosses 102 = .ok (.iconst 0, 1) := by decide +kernel
theorem dX11_crosses_103 : decode cX11_crosses 103 = .ok (.iadd, 1) := by decide +kernel
theorem dX11_crosses_104 : decode cX11_crosses 104 = .ok (.istore_n 3, 1) := by decide +kernel
theorem dX11_crosses_105 : decode cX11_crosses 105 = .ok (.goto (-72), 3) := by decide +kernel
theorem dX11_crosses_108 : decode cX11_crosses 108 = .ok (.aload_n 0, 1) := by decide +kernel
theorem dX11_crosses_109 : decode cX11_crosses 109 = .ok (.aload_n 0, 1) := by decide +kernel
theorem dX11_crosses_110 : decode cX11_crosses 110 = .ok (.getfield 28, 3) := by decide +kernel
theorem dX11_crosses_113 : decode cX11_crosses 113 = .ok (.invokevirtual 296, 3) := by decide +kernel
theorem dX11_crosses_116 : decode cX11_crosses 116 = .ok (.iload_n 3, 1) := by decide +kernel
theorem dX11_crosses_117 : decode cX11_crosses 117 = .ok (.ireturn, 1) := by decide +kernel
theorem dX11_bestOf_0 : decode cX11_bestOf 0 = .ok (.aload_n 0, 1) := by decide +kernel
theorem dX11_bestOf_1 : decode cX11_bestOf 1 = .ok (.iload_n 1, 1) := by decide +kernel
theorem dX11_bestOf_2 : decode cX11_bestOf 2 = .ok (.iload_n 2, 1) := by decide +kernel
theorem dX11_bestOf_3 : decode cX11_bestOf 3 = .ok (.invokevirtual 88, 3) := by decide +kernel
theorem dX11_bestOf_6 : decode cX11_bestOf 6 = .ok (.istore 4, 2) := by decide +kernel
theorem dX11_bestOf_8 : decode cX11_bestOf 8 = .ok (.iconst (-1), 1) := by decide +kernel
theorem dX11_bestOf_9 : decode cX11_bestOf 9 = .ok (.istore 5, 2) := by decide +kernel
theorem dX11_bestOf_11 : decode cX11_bestOf 11 = .ok (.iconst 0, 1) := by decide +kernel
theorem dX11_bestOf_12 : decode cX11_bestOf 12 = .ok (.istore 6, 2) := by decide +kernel
theorem dX11_bestOf_14 : decode cX11_bestOf 14 = .ok (.iconst 0, 1) := by decide +kernel
theorem dX11_bestOf_15 : decode cX11_bestOf 15 = .ok (.istore 7, 2) := by decide +kernel
theorem dX11_bestOf_17 : decode cX11_bestOf 17 = .ok (.iload 7, 2) := by decide +kernel
theorem dX11_bestOf_19 : decode cX11_bestOf 19 = .ok (.iload_n 3, 1) := by decide +kernel
theorem dX11_bestOf_20 : decode cX11_bestOf 20 = .ok (.if_icmp .gt 51, 3) := by decide +kernel
theorem dX11_bestOf_23 : decode cX11_bestOf 23 = .ok (.aload_n 0, 1) := by decide +kernel
theorem dX11_bestOf_24 : decode cX11_bestOf 24 = .ok (.getfield 9, 3) := by decide +kernel
theorem dX11_bestOf_27 : decode cX11_bestOf 27 = .ok (.bipush 7, 2) := by decide +kernel
theorem dX11_bestOf_29 : decode cX11_bestOf 29 = .ok (.iconst 4, 1) := by decide +kernel
theorem dX11_bestOf_30 : decode cX11_bestOf 30 = .ok (.iload_n 1, 1) := by decide +kernel
theorem dX11_bestOf_31 : decode cX11_bestOf 31 = .ok (.imul, 1) := by decide +kernel
theorem dX11_bestOf_32 : decode cX11_bestOf 32 = .ok (.iadd, 1) := by decide +kernel
theorem dX11_bestOf_33 : decode cX11_bestOf 33 = .ok (.iload_n 2, 1) := by decide +kernel
theorem dX11_bestOf_34 : decode cX11_bestOf 34 = .ok (.iadd, 1) := by decide +kernel
theorem dX11_bestOf_35 : decode cX11_bestOf 35 = .ok (.iload 7, 2) := by decide +kernel
theorem dX11_bestOf_37 : decode cX11_bestOf 37 = .ok (.iastore, 1) := by decide +kernel
theorem dX11_bestOf_38 : decode cX11_bestOf 38 = .ok (.aload_n 0, 1) := by decide +kernel
theorem dX11_bestOf_39 : decode cX11_bestOf 39 = .ok (.iload_n 1, 1) := by decide +kernel
theorem dX11_bestOf_40 : decode cX11_bestOf 40 = .ok (.invokevirtual 299, 3) := by decide +kernel
theorem dX11_bestOf_43 : decode cX11_bestOf 43 = .ok (.istore 8, 2) := by decide +kernel
theorem dX11_bestOf_45 : decode cX11_bestOf 45 = .ok (.iload 5, 2) := by decide +kernel
theorem dX11_bestOf_47 : decode cX11_bestOf 47 = .ok (.ifCond .lt 10, 3) := by decide +kernel
theorem dX11_bestOf_50 : decode cX11_bestOf 50 = .ok (.iload 8, 2) := by decide +kernel
theorem dX11_bestOf_52 : decode cX11_bestOf 52 = .ok (.iload 6, 2) := by decide +kernel
theorem dX11_bestOf_54 : decode cX11_bestOf 54 = .ok (.if_icmp .le 11, 3) := by decide +kernel
theorem dX11_bestOf_57 : decode cX11_bestOf 57 = .ok (.iload 7, 2) := by decide +kernel
theorem dX11_bestOf_59 : decode cX11_bestOf 59 = .ok (.istore 5, 2) := by decide +kernel
theorem dX11_bestOf_61 : decode cX11_bestOf 61 = .ok (.iload 8, 2) := by decide +kernel
theorem dX11_bestOf_63 : decode cX11_bestOf 63 = .ok (.istore 6, 2) := by decide +kernel
theorem dX11_bestOf_65 : decode cX11_bestOf 65 = .ok (.iinc 7 1, 3) := by decide +kernel
theorem dX11_bestOf_68 : decode cX11_bestOf 68 = .ok (.goto (-51), 3) := by decide +kernel
theorem dX11_bestOf_71 : decode cX11_bestOf 71 = .ok (.aload_n 0, 1) := by decide +kernel
theorem dX11_bestOf_72 : decode cX11_bestOf 72 = .ok (.getfield 9, 3) := by decide +kernel
theorem dX11_bestOf_75 : decode cX11_bestOf 75 = .ok (.bipush 7, 2) := by decide +kernel
theorem dX11_bestOf_77 : decode cX11_bestOf 77 = .ok (.iconst 4, 1) := by decide +kernel
theorem dX11_bestOf_78 : decode cX11_bestOf 78 = .ok (.iload_n 1, 1) := by decide +kernel
theorem dX11_bestOf_79 : decode cX11_bestOf 79 = .ok (.imul, 1) := by decide +kernel
theorem dX11_bestOf_80 : decode cX11_bestOf 80 = .ok (.iadd, 1) := by decide +kernel
theorem dX11_bestOf_81 : decode cX11_bestOf 81 = .ok (.iload_n 2, 1) := by decide +kernel
theorem dX11_bestOf_82 : decode cX11_bestOf 82 = .ok (.iadd, 1) := by decide +kernel
theorem dX11_bestOf_83 : decode cX11_bestOf 83 = .ok (.iload 4, 2) := by decide +kernel
theorem dX11_bestOf_85 : decode cX11_bestOf 85 = .ok (.iastore, 1) := by decide +kernel
theorem dX11_bestOf_86 : decode cX11_bestOf 86 = .ok (.iload 5, 2) := by decide +kernel
theorem dX11_bestOf_88 : decode cX11_bestOf 88 = .ok (.ireturn, 1) := by decide +kernel
theorem dX11_sized_0 : decode cX11_sized 0 = .ok (.aload_n 0, 1) := by decide +kernel
theorem dX11_sized_1 : decode cX11_sized 1 = .ok (.iload_n 1, 1) := by decide +kernel
theorem dX11_sized_2 : decode cX11_sized 2 = .ok (.invokevirtual 84, 3) := by decide +kernel
theorem dX11_sized_5 : decode cX11_sized 5 = .ok (.ifCond .eq 14, 3) := by decide +kernel
theorem dX11_sized_8 : decode cX11_sized 8 = .ok (.aload_n 0, 1) := by decide +kernel
theorem dX11_sized_9 : decode cX11_sized 9 = .ok (.iload_n 1, 1) := by decide +kernel
theorem dX11_sized_10 : decode cX11_sized 10 = .ok (.iconst 2, 1) := by decide +kernel
theorem dX11_sized_11 : decode cX11_sized 11 = .ok (.bipush 9, 2) := by decide +kernel
theorem dX11_sized_13 : decode cX11_sized 13 = .ok (.invokevirtual 307, 3) := by decide +kernel
theorem dX11_sized_16 : decode cX11_sized 16 = .ok (.goto 4, 3) := by decide +kernel
theorem dX11_sized_19 : decode cX11_sized 19 = .ok (.iconst (-1), 1) := by decide +kernel
theorem dX11_sized_20 : decode cX11_sized 20 = .ok (.ireturn, 1) := by decide +kernel
theorem dX11_aimed_0 : decode cX11_aimed 0 = .ok (.aload_n 0, 1) := by decide +kernel
theorem dX11_aimed_1 : decode cX11_aimed 1 = .ok (.iload_n 1, 1) := by decide +kernel
theorem dX11_aimed_2 : decode cX11_aimed 2 = .ok (.invokevirtual 84, 3) := by decide +kernel
theorem dX11_aimed_5 : decode cX11_aimed 5 = .ok (.ifCond .eq 14, 3) := by decide +kernel
theorem dX11_aimed_8 : decode cX11_aimed 8 = .ok (.aload_n 0, 1) := by decide +kernel
theorem dX11_aimed_9 : decode cX11_aimed 9 = .ok (.iload_n 1, 1) := by decide +kernel
theorem dX11_aimed_10 : decode cX11_aimed 10 = .ok (.iconst 1, 1) := by decide +kernel
theorem dX11_aimed_11 : decode cX11_aimed 11 = .ok (.bipush 40, 2) := by decide +kernel
theorem dX11_aimed_13 : decode cX11_aimed 13 = .ok (.invokevirtual 307, 3) := by decide +kernel
theorem dX11_aimed_16 : decode cX11_aimed 16 = .ok (.goto 4, 3) := by decide +kernel
theorem dX11_aimed_19 : decode cX11_aimed 19 = .ok (.iconst (-1), 1) := by decide +kernel
theorem dX11_aimed_20 : decode cX11_aimed 20 = .ok (.ireturn, 1) := by decide +kernel
theorem dX11_stepFor_0 : decode cX11_stepFor 0 = .ok (.aload_n 0, 1) := by decide +kernel
theorem dX11_stepFor_1 : decode cX11_stepFor 1 = .ok (.iload_n 1, 1) := by decide +kernel
theorem dX11_stepFor_2 : decode cX11_stepFor 2 = .ok (.invokevirtual 84, 3) := by decide +kernel
theorem dX11_stepFor_5 : decode cX11_stepFor 5 = .ok (.ifCond .ne 5, 3) := by decide +kernel
theorem dX11_stepFor_8 : decode cX11_stepFor 8 = .ok (.iconst (-1), 1) := by decide +kernel
theorem dX11_stepFor_9 : decode cX11_stepFor 9 = .ok (.ireturn, 1) := by decide +kernel
theorem dX11_stepFor_10 : decode cX11_stepFor 10 = .ok (.aload_n 0, 1) := by decide +kernel
theorem dX11_stepFor_11 : decode cX11_stepFor 11 = .ok (.iload_n 1, 1) := by decide +kernel
theorem dX11_stepFor_12 : decode cX11_stepFor 12 = .ok (.iconst 3, 1) := by decide +kernel
theorem dX11_stepFor_13 : decode cX11_stepFor 13 = .ok (.invokevirtual 88, 3) := by decide +kernel
theorem dX11_stepFor_16 : decode cX11_stepFor 16 = .ok (.istore_n 2, 1) := by decide +kernel
theorem dX11_stepFor_17 : decode cX11_stepFor 17 = .ok (.bipush (-3), 2) := by decide +kernel
theorem dX11_stepFor_19 : decode cX11_stepFor 19 = .ok (.istore_n 3, 1) := by decide +kernel
theorem dX11_stepFor_20 : decode cX11_stepFor 20 = .ok (.iconst 1, 1) := by decide +kernel
theorem dX11_stepFor_21 : decode cX11_stepFor 21 = .ok (.istore 4, 2) := by decide +kernel
theorem dX11_stepFor_23 : decode cX11_stepFor 23 = .ok (.iload 4, 2) := by decide +kernel
theorem dX11_stepFor_25 : decode cX11_stepFor 25 = .ok (.bipush 10, 2) := by decide +kernel
theorem dX11_stepFor_27 : decode cX11_stepFor 27 = .ok (.if_icmp .ge 48, 3) := by decide +kernel
theorem dX11_stepFor_30 : decode cX11_stepFor 30 = .ok (.iload_n 3, 1) := by decide +kernel
theorem dX11_stepFor_31 : decode cX11_stepFor 31 = .ok (.bipush (-3), 2) := by decide +kernel
theorem dX11_stepFor_33 : decode cX11_stepFor 33 = .ok (.if_icmp .ne 42, 3) := by decide +kernel
theorem dX11_stepFor_36 : decode cX11_stepFor 36 = .ok (.aload_n 0, 1) := by decide +kernel
theorem dX11_stepFor_37 : decode cX11_stepFor 37 = .ok (.getfield 9, 3) := by decide +kernel
theorem dX11_stepFor_40 : decode cX11_stepFor 40 = .ok (.bipush 7, 2) := by decide +kernel
theorem dX11_stepFor_42 : decode cX11_stepFor 42 = .ok (.iconst 4, 1) := by decide +kernel
theorem dX11_stepFor_43 : decode cX11_stepFor 43 = .ok (.iload_n 1, 1) := by decide +kernel
theorem dX11_stepFor_44 : decode cX11_stepFor 44 = .ok (.imul, 1) := by decide +kernel
theorem dX11_stepFor_45 : decode cX11_stepFor 45 = .ok (.iadd, 1) := by decide +kernel
theorem dX11_stepFor_46 : decode cX11_stepFor 46 = .ok (.iconst 3, 1) := by decide +kernel
theorem dX11_stepFor_47 : decode cX11_stepFor 47 = .ok (.iadd, 1) := by decide +kernel
theorem dX11_stepFor_48 : decode cX11_stepFor 48 = .ok (.iload 4, 2) := by decide +kernel
theorem dX11_stepFor_50 : decode cX11_stepFor 50 = .ok (.iastore, 1) := by decide +kernel
theorem dX11_stepFor_51 : decode cX11_stepFor 51 = .ok (.aload_n 0, 1) := by decide +kernel
theorem dX11_stepFor_52 : decode cX11_stepFor 52 = .ok (.iload_n 1, 1) := by decide +kernel
theorem dX11_stepFor_53 : decode cX11_stepFor 53 = .ok (.invokevirtual 304, 3) := by decide +kernel
theorem dX11_stepFor_56 : decode cX11_stepFor 56 = .ok (.bipush (-3), 2) := by decide +kernel
theorem dX11_stepFor_58 : decode cX11_stepFor 58 = .ok (.if_icmp .ne 8, 3) := by decide +kernel
theorem dX11_stepFor_61 : decode cX11_stepFor 61 = .ok (.iload 4, 2) := by decide +kernel
theorem dX11_stepFor_63 : decode cX11_stepFor 63 = .ok (.goto 5, 3) := by decide +kernel
theorem dX11_stepFor_66 : decode cX11_stepFor 66 = .ok (.bipush (-3), 2) := by decide +kernel
theorem dX11_stepFor_68 : decode cX11_stepFor 68 = .ok (.istore_n 3, 1) := by decide +kernel
theorem dX11_stepFor_69 : decode cX11_stepFor 69 = .ok (.iinc 4 1, 3) := by decide +kernel
theorem dX11_stepFor_72 : decode cX11_stepFor 72 = .ok (.goto (-49), 3) := by decide +kernel
theorem dX11_stepFor_75 : decode cX11_stepFor 75 = .ok (.aload_n 0, 1) := by decide +kernel
theorem dX11_stepFor_76 : decode cX11_stepFor 76 = .ok (.getfield 9, 3) := by decide +kernel
theorem dX11_stepFor_79 : decode cX11_stepFor 79 = .ok (.bipush 7, 2) := by decide +kernel
theorem dX11_stepFor_81 : decode cX11_stepFor 81 = .ok (.iconst 4, 1) := by decide +kernel
theorem dX11_stepFor_82 : decode cX11_stepFor 82 = .ok (.iload_n 1, 1) := by decide +kernel
theorem dX11_stepFor_83 : decode cX11_stepFor 83 = .ok (.imul, 1) := by decide +kernel
theorem dX11_stepFor_84 : decode cX11_stepFor 84 = .ok (.iadd, 1) := by decide +kernel
theorem dX11_stepFor_85 : decode cX11_stepFor 85 = .ok (.iconst 3, 1) := by decide +kernel
theorem dX11_stepFor_86 : decode cX11_stepFor 86 = .ok (.iadd, 1) := by decide +kernel
theorem dX11_stepFor_87 : decode cX11_stepFor 87 = .ok (.iload_n 2, 1) := by decide +kernel
theorem dX11_stepFor_88 : decode cX11_stepFor 88 = .ok (.iastore, 1) := by decide +kernel
theorem dX11_stepFor_89 : decode cX11_stepFor 89 = .ok (.iload_n 3, 1) := by decide +kernel
theorem dX11_stepFor_90 : decode cX11_stepFor 90 = .ok (.ireturn, 1) := by decide +kernel
theorem dX11_ones_0 : decode cX11_ones 0 = .ok (.iconst 0, 1) := by decide +kernel
theorem dX11_ones_1 : decode cX11_ones 1 = .ok (.istore_n 1, 1) := by decide +kernel
theorem dX11_ones_2 : decode cX11_ones 2 = .ok (.iconst 0, 1) := by decide +kernel
theorem dX11_ones_3 : decode cX11_ones 3 = .ok (.istore_n 2, 1) := by decide +kernel
theorem dX11_ones_4 : decode cX11_ones 4 = .ok (.iload_n 2, 1) := by decide +kernel
theorem dX11_ones_5 : decode cX11_ones 5 = .ok (.bipush 8, 2) := by decide +kernel
theorem dX11_ones_7 : decode cX11_ones 7 = .ok (.if_icmp .ge 17, 3) := by decide +kernel
theorem dX11_ones_10 : decode cX11_ones 10 = .ok (.iload_n 1, 1) := by decide +kernel
theorem dX11_ones_11 : decode cX11_ones 11 = .ok (.iload_n 0, 1) := by decide +kernel
theorem dX11_ones_12 : decode cX11_ones 12 = .ok (.iload_n 2, 1) := by decide +kernel
theorem dX11_ones_13 : decode cX11_ones 13 = .ok (.ishr, 1) := by decide +kernel
theorem dX11_ones_14 : decode cX11_ones 14 = .ok (.iconst 1, 1) := by decide +kernel
theorem dX11_ones_15 : decode cX11_ones 15 = .ok (.iand, 1) := by decide +kernel
theorem dX11_ones_16 : decode cX11_ones 16 = .ok (.iadd, 1) := by decide +kernel
theorem dX11_ones_17 : decode cX11_ones 17 = .ok (.istore_n 1, 1) := by decide +kernel
theorem dX11_ones_18 : decode cX11_ones 18 = .ok (.iinc 2 1, 3) := by decide +kernel
theorem dX11_ones_21 : decode cX11_ones 21 = .ok (.goto (-17), 3) := by decide +kernel
theorem dX11_ones_24 : decode cX11_ones 24 = .ok (.iload_n 1, 1) := by decide +kernel
theorem dX11_ones_25 : decode cX11_ones 25 = .ok (.ireturn, 1) := by decide +kernel
theorem dX11_who_0 : decode cX11_who 0 = .ok (.aload_n 0, 1) := by decide +kernel
theorem dX11_who_1 : decode cX11_who 1 = .ok (.aload_n 0, 1) := by decide +kernel
theorem dX11_who_2 : decode cX11_who 2 = .ok (.getfield 28, 3) := by decide +kernel
theorem dX11_who_5 : decode cX11_who 5 = .ok (.invokevirtual 292, 3) := by decide +kernel
theorem dX11_who_8 : decode cX11_who 8 = .ok (.iconst 0, 1) := by decide +kernel
theorem dX11_who_9 : decode cX11_who 9 = .ok (.istore_n 1, 1) := by decide +kernel
theorem dX11_who_10 : decode cX11_who 10 = .ok (.aload_n 0, 1) := by decide +kernel
theorem dX11_who_11 : decode cX11_who 11 = .ok (.invokevirtual 96, 3) := by decide +kernel
theorem dX11_who_14 : decode cX11_who 14 = .ok (.ifCond .ne 42, 3) := by decide +kernel
theorem dX11_who_17 : decode cX11_who 17 = .ok (.aload_n 0, 1) := by decide +kernel
theorem dX11_who_18 : decode cX11_who 18 = .ok (.getfield 9, 3) := by decide +kernel
theorem dX11_who_21 : decode cX11_who 21 = .ok (.bipush 31, 2) := by decide +kernel
theorem dX11_who_23 : decode cX11_who 23 = .ok (.aload_n 0, 1) := by decide +kernel
theorem dX11_who_24 : decode cX11_who 24 = .ok (.getfield 9, 3) := by decide +kernel
theorem dX11_who_27 : decode cX11_who 27 = .ok (.iconst 2, 1) := by decide +kernel
theorem dX11_who_28 : decode cX11_who 28 = .ok (.iaload, 1) := by decide +kernel
theorem dX11_who_29 : decode cX11_who 29 = .ok (.iadd, 1) := by decide +kernel
theorem dX11_who_30 : decode cX11_who 30 = .ok (.iaload, 1) := by decide +kernel
theorem dX11_who_31 : decode cX11_who 31 = .ok (.istore_n 2, 1) := by decide +kernel
theorem dX11_who_32 : decode cX11_who 32 = .ok (.aload_n 0, 1) := by decide +kernel
theorem dX11_who_33 : decode cX11_who 33 = .ok (.iconst 0, 1) := by decide +kernel
theorem dX11_who_34 : decode cX11_who 34 = .ok (.invokevirtual 284, 3) := by decide +kernel
theorem dX11_who_37 : decode cX11_who 37 = .ok (.istore_n 3, 1) := by decide +kernel
theorem dX11_who_38 : decode cX11_who 38 = .ok (.aload_n 0, 1) := by decide +kernel
theorem dX11_who_39 : decode cX11_who 39 = .ok (.getfield 31, 3) := by decide +kernel
theorem dX11_who_42 : decode cX11_who 42 = .ok (.iload_n 1, 1) := by decide +kernel
theorem dX11_who_43 : decode cX11_who 43 = .ok (.aload_n 0, 1) := by decide +kernel
theorem dX11_who_44 : decode cX11_who 44 = .ok (.iconst 2, 1) := by decide +kernel
theorem dX11_who_45 : decode cX11_who 45 = .ok (.iload_n 2, 1) := by decide +kernel
theorem dX11_who_46 : decode cX11_who 46 = .ok (.invokevirtual 289, 3) := by decide +kernel
theorem dX11_who_49 : decode cX11_who 49 = .ok (.iastore, 1) := by decide +kernel
theorem dX11_who_50 : decode cX11_who 50 = .ok (.iinc 1 1, 3) := by decide +kernel
theorem dX11_who_53 : decode cX11_who 53 = .ok (.goto (-43), 3) := by decide +kernel
theorem dX11_who_56 : decode cX11_who 56 = .ok (.aload_n 0, 1) := by decide +kernel
theorem dX11_who_57 : decode cX11_who 57 = .ok (.aload_n 0, 1) := by decide +kernel
theorem dX11_who_58 : decode cX11_who 58 = .ok (.getfield 28, 3) := by decide +kernel
theorem dX11_who_61 : decode cX11_who 61 = .ok (.invokevirtual 296, 3) := by decide +kernel
theorem dX11_who_64 : decode cX11_who 64 = .ok (.bipush (-3), 2) := by decide +kernel
theorem dX11_who_66 : decode cX11_who 66 = .ok (.istore_n 2, 1) := by decide +kernel
theorem dX11_who_67 : decode cX11_who 67 = .ok (.iconst 0, 1) := by decide +kernel
theorem dX11_who_68 : decode cX11_who 68 = .ok (.istore_n 3, 1) := by decide +kernel
theorem dX11_who_69 : decode cX11_who 69 = .ok (.iload_n 3, 1) := by decide +kernel
theorem dX11_who_70 : decode cX11_who 70 = .ok (.iconst 1, 1) := by decide +kernel
theorem dX11_who_71 : decode cX11_who 71 = .ok (.aload_n 0, 1) := by decide +kernel
theorem dX11_who_72 : decode cX11_who 72 = .ok (.getfield 9, 3) := by decide +kernel
theorem dX11_who_75 : decode cX11_who 75 = .ok (.iconst 0, 1) := by decide +kernel
theorem dX11_who_76 : decode cX11_who 76 = .ok (.iaload, 1) := by decide +kernel
theorem dX11_who_77 : decode cX11_who 77 = .ok (.ishl, 1) := by decide +kernel
theorem dX11_who_78 : decode cX11_who 78 = .ok (.if_icmp .ge 83, 3) := by decide +kernel
theorem dX11_who_81 : decode cX11_who 81 = .ok (.iload_n 2, 1) := by decide +kernel
theorem dX11_who_82 : decode cX11_who 82 = .ok (.bipush (-3), 2) := by decide +kernel
theorem dX11_who_84 : decode cX11_who 84 = .ok (.if_icmp .eq 14, 3) := by decide +kernel
theorem dX11_who_87 : decode cX11_who 87 = .ok (.iload_n 3, 1) := by decide +kernel
theorem dX11_who_88 : decode cX11_who 88 = .ok (.invokestatic 310, 3) := by decide +kernel
theorem dX11_who_91 : decode cX11_who 91 = .ok (.iload_n 2, 1) := by decide +kernel
theorem dX11_who_92 : decode cX11_who 92 = .ok (.invokestatic 310, 3) := by decide +kernel
theorem dX11_who_95 : decode cX11_who 95 = .ok (.if_icmp .ge 7, 3) := by decide +kernel
theorem dX11_who_98 : decode cX11_who 98 = .ok (.iconst 1, 1) := by decide +kernel
theorem dX11_who_99 : decode cX11_who 99 = .ok (.goto 4, 3) := by decide +kernel
theorem dX11_who_102 : decode cX11_who 102 = .ok (.iconst 0, 1) := by decide +kernel
theorem dX11_who_103 : decode cX11_who 103 = .ok (.istore 4, 2) := by decide +kernel
theorem dX11_who_105 : decode cX11_who 105 = .ok (.iconst 0, 1) := by decide +kernel
theorem dX11_who_106 : decode cX11_who 106 = .ok (.istore 5, 2) := by decide +kernel
theorem dX11_who_108 : decode cX11_who 108 = .ok (.iload 5, 2) := by decide +kernel
theorem dX11_who_110 : decode cX11_who 110 = .ok (.iload_n 1, 1) := by decide +kernel
theorem dX11_who_111 : decode cX11_who 111 = .ok (.if_icmp .ge 33, 3) := by decide +kernel
theorem dX11_who_114 : decode cX11_who 114 = .ok (.iload 4, 2) := by decide +kernel
theorem dX11_who_116 : decode cX11_who 116 = .ok (.ifCond .eq 28, 3) := by decide +kernel
theorem dX11_who_119 : decode cX11_who 119 = .ok (.aload_n 0, 1) := by decide +kernel
theorem dX11_who_120 : decode cX11_who 120 = .ok (.getfield 31, 3) := by decide +kernel
theorem dX11_who_123 : decode cX11_who 123 = .ok (.iload 5, 2) := by decide +kernel
theorem dX11_who_125 : decode cX11_who 125 = .ok (.iaload, 1) := by decide +kernel
theorem dX11_who_126 : decode cX11_who 126 = .ok (.iload_n 3, 1) := by decide +kernel
theorem dX11_who_127 : decode cX11_who 127 = .ok (.iand, 1) := by decide +kernel
theorem dX11_who_128 : decode cX11_who 128 = .ok (.ifCond .eq 7, 3) := by decide +kernel
theorem dX11_who_131 : decode cX11_who 131 = .ok (.iconst 1, 1) := by decide +kernel
theorem dX11_who_132 : decode cX11_who 132 = .ok (.goto 4, 3) := by decide +kernel
theorem dX11_who_135 : decode cX11_who 135 = .ok (.iconst 0, 1) := by decide +kernel
theorem dX11_who_136 : decode cX11_who 136 = .ok (.istore 4, 2) := by decide +kernel
theorem dX11_who_138 : decode cX11_who 138 = .ok (.iinc 5 1, 3) := by decide +kernel
theorem dX11_who_141 : decode cX11_who 141 = .ok (.goto (-33), 3) := by decide +kernel
theorem dX11_who_144 : decode cX11_who 144 = .ok (.iload 4, 2) := by decide +kernel
theorem dX11_who_146 : decode cX11_who 146 = .ok (.ifCond .eq 7, 3) := by decide +kernel
theorem dX11_who_149 : decode cX11_who 149 = .ok (.iload_n 3, 1) := by decide +kernel
theorem dX11_who_150 : decode cX11_who 150 = .ok (.goto 4, 3) := by decide +kernel
theorem dX11_who_153 : decode cX11_who 153 = .ok (.iload_n 2, 1) := by decide +kernel
theorem dX11_who_154 : decode cX11_who 154 = .ok (.istore_n 2, 1) := by decide +kernel
theorem dX11_who_155 : decode cX11_who 155 = .ok (.iinc 3 1, 3) := by decide +kernel
theorem dX11_who_158 : decode cX11_who 158 = .ok (.goto (-89), 3) := by decide +kernel
theorem dX11_who_161 : decode cX11_who 161 = .ok (.iload_n 2, 1) := by decide +kernel
theorem dX11_who_162 : decode cX11_who 162 = .ok (.ireturn, 1) := by decide +kernel
theorem dX11_plans_0 : decode cX11_plans 0 = .ok (.iload_n 1, 1) := by decide +kernel
theorem dX11_plans_1 : decode cX11_plans 1 = .ok (.iload_n 2, 1) := by decide +kernel
theorem dX11_plans_2 : decode cX11_plans 2 = .ok (.if_icmp .eq 10, 3) := by decide +kernel
theorem dX11_plans_5 : decode cX11_plans 5 = .ok (.aload_n 0, 1) := by decide +kernel
theorem dX11_plans_6 : decode cX11_plans 6 = .ok (.invokevirtual 96, 3) := by decide +kernel
theorem dX11_plans_9 : decode cX11_plans 9 = .ok (.ifCond .eq 78, 3) := by decide +kernel
theorem dX11_plans_12 : decode cX11_plans 12 = .ok (.iload_n 3, 1) := by decide +kernel
theorem dX11_plans_13 : decode cX11_plans 13 = .ok (.aload_n 0, 1) := by decide +kernel
theorem dX11_plans_14 : decode cX11_plans 14 = .ok (.getfield 313, 3) := by decide +kernel
theorem dX11_plans_17 : decode cX11_plans 17 = .ok (.if_icmp .le 47, 3) := by decide +kernel
theorem dX11_plans_20 : decode cX11_plans 20 = .ok (.aload_n 0, 1) := by decide +kernel
theorem dX11_plans_21 : decode cX11_plans 21 = .ok (.iload_n 3, 1) := by decide +kernel
theorem dX11_plans_22 : decode cX11_plans 22 = .ok (.putfield 313, 3) := by decide +kernel
theorem dX11_plans_25 : decode cX11_plans 25 = .ok (.aload_n 0, 1) := by decide +kernel
theorem dX11_plans_26 : decode cX11_plans 26 = .ok (.iconst 0, 1) := by decide +kernel
theorem dX11_plans_27 : decode cX11_plans 27 = .ok (.putfield 316, 3) := by decide +kernel
theorem dX11_plans_30 : decode cX11_plans 30 = .ok (.aload_n 0, 1) := by decide +kernel
theorem dX11_plans_31 : decode cX11_plans 31 = .ok (.iload_n 1, 1) := by decide +kernel
theorem dX11_plans_32 : decode cX11_plans 32 = .ok (.putfield 319, 3) := by decide +kernel
theorem dX11_plans_35 : decode cX11_plans 35 = .ok (.iconst 0, 1) := by decide +kernel
theorem dX11_plans_36 : decode cX11_plans 36 = .ok (.istore 4, 2) := by decide +kernel
theorem dX11_plans_38 : decode cX11_plans 38 = .ok (.iload 4, 2) := by decide +kernel
theorem dX11_plans_40 : decode cX11_plans 40 = .ok (.iload_n 1, 1) := by decide +kernel
theorem dX11_plans_41 : decode cX11_plans 41 = .ok (.if_icmp .ge 23, 3) := by decide +kernel
theorem dX11_plans_44 : decode cX11_plans 44 = .ok (.aload_n 0, 1) := by decide +kernel
theorem dX11_plans_45 : decode cX11_plans 45 = .ok (.getfield 42, 3) := by decide +kernel
theorem dX11_plans_48 : decode cX11_plans 48 = .ok (.iload 4, 2) := by decide +kernel
theorem dX11_plans_50 : decode cX11_plans 50 = .ok (.aload_n 0, 1) := by decide +kernel
theorem dX11_plans_51 : decode cX11_plans 51 = .ok (.getfield 39, 3) := by decide +kernel
theorem dX11_plans_54 : decode cX11_plans 54 = .ok (.iload 4, 2) := by decide +kernel
theorem dX11_plans_56 : decode cX11_plans 56 = .ok (.iaload, 1) := by decide +kernel
theorem dX11_plans_57 : decode cX11_plans 57 = .ok (.iastore, 1) := by decide +kernel
theorem dX11_plans_58 : decode cX11_plans 58 = .ok (.iinc 4 1, 3) := by decide +kernel
theorem dX11_plans_61 : decode cX11_plans 61 = .ok (.goto (-23), 3) := by decide +kernel
theorem dX11_plans_64 : decode cX11_plans 64 = .ok (.aload_n 0, 1) := by decide +kernel
theorem dX11_plans_65 : decode cX11_plans 65 = .ok (.dup, 1) := by decide +kernel
theorem dX11_plans_66 : decode cX11_plans 66 = .ok (.getfield 316, 3) := by decide +kernel
theorem dX11_plans_69 : decode cX11_plans 69 = .ok (.iload_n 3, 1) := by decide +kernel
theorem dX11_plans_70 : decode cX11_plans 70 = .ok (.aload_n 0, 1) := by decide +kernel
theorem dX11_plans_71 : decode cX11_plans 71 = .ok (.getfield 313, 3) := by decide +kernel
theorem dX11_plans_74 : decode cX11_plans 74 = .ok (.if_icmp .ne 7, 3) := by decide +kernel
theorem dX11_plans_77 : decode cX11_plans 77 = .ok (.iconst 1, 1) := by decide +kernel
theorem dX11_plans_78 : decode cX11_plans 78 = .ok (.goto 4, 3) := by decide +kernel
theorem dX11_plans_81 : decode cX11_plans 81 = .ok (.iconst 0, 1) := by decide +kernel
theorem dX11_plans_82 : decode cX11_plans 82 = .ok (.iadd, 1) := by decide +kernel
theorem dX11_plans_83 : decode cX11_plans 83 = .ok (.putfield 316, 3) := by decide +kernel
theorem dX11_plans_86 : decode cX11_plans 86 = .ok (.return_, 1) := by decide +kernel
theorem dX11_plans_87 : decode cX11_plans 87 = .ok (.aload_n 0, 1) := by decide +kernel
theorem dX11_plans_88 : decode cX11_plans 88 = .ok (.aload_n 0, 1) := by decide +kernel
theorem dX11_plans_89 : decode cX11_plans 89 = .ok (.getfield 36, 3) := by decide +kernel
theorem dX11_plans_92 : decode cX11_plans 92 = .ok (.iload_n 1, 1) := by decide +kernel
theorem dX11_plans_93 : decode cX11_plans 93 = .ok (.aaload, 1) := by decide +kernel
theorem dX11_plans_94 : decode cX11_plans 94 = .ok (.invokevirtual 292, 3) := by decide +kernel
theorem dX11_plans_97 : decode cX11_plans 97 = .ok (.iconst 0, 1) := by decide +kernel
theorem dX11_plans_98 : decode cX11_plans 98 = .ok (.istore 4, 2) := by decide +kernel
theorem dX11_plans_100 : decode cX11_plans 100 = .ok (.iload 4, 2) := by decide +kernel
theorem dX11_plans_102 : decode cX11_plans 102 = .ok (.aload_n 0, 1) := by decide +kernel
theorem dX11_plans_103 : decode cX11_plans 103 = .ok (.getfield 9, 3) := by decide +kernel
theorem dX11_plans_106 : decode cX11_plans 106 = .ok (.iconst 0, 1) := by decide +kernel
theorem dX11_plans_107 : decode cX11_plans 107 = .ok (.iaload, 1) := by decide +kernel
theorem dX11_plans_108 : decode cX11_plans 108 = .ok (.if_icmp .gt 43, 3) := by decide +kernel
theorem dX11_plans_111 : decode cX11_plans 111 = .ok (.aload_n 0, 1) := by decide +kernel
theorem dX11_plans_112 : decode cX11_plans 112 = .ok (.getfield 39, 3) := by decide +kernel
theorem dX11_plans_115 : decode cX11_plans 115 = .ok (.iload_n 1, 1) := by decide +kernel
theorem dX11_plans_116 : decode cX11_plans 116 = .ok (.iload 4, 2) := by decide +kernel
theorem dX11_plans_118 : decode cX11_plans 118 = .ok (.iastore, 1) := by decide +kernel
theorem dX11_plans_119 : decode cX11_plans 119 = .ok (.aload_n 0, 1) := by decide +kernel
theorem dX11_plans_120 : decode cX11_plans 120 = .ok (.iload_n 1, 1) := by decide +kernel
theorem dX11_plans_121 : decode cX11_plans 121 = .ok (.iconst 1, 1) := by decide +kernel
theorem dX11_plans_122 : decode cX11_plans 122 = .ok (.iadd, 1) := by decide +kernel
theorem dX11_plans_123 : decode cX11_plans 123 = .ok (.iload_n 2, 1) := by decide +kernel
theorem dX11_plans_124 : decode cX11_plans 124 = .ok (.iload_n 3, 1) := by decide +kernel
theorem dX11_plans_125 : decode cX11_plans 125 = .ok (.aload_n 0, 1) := by decide +kernel
theorem dX11_plans_126 : decode cX11_plans 126 = .ok (.iload 4, 2) := by decide +kernel
theorem dX11_plans_128 : decode cX11_plans 128 = .ok (.invokevirtual 284, 3) := by decide +kernel
theorem dX11_plans_131 : decode cX11_plans 131 = .ok (.iadd, 1) := by decide +kernel
theorem dX11_plans_132 : decode cX11_plans 132 = .ok (.invokevirtual 322, 3) := by decide +kernel
theorem dX11_plans_135 : decode cX11_plans 135 = .ok (.aload_n 0, 1) := by decide +kernel
theorem dX11_plans_136 : decode cX11_plans 136 = .ok (.aload_n 0, 1) := by decide +kernel
theorem dX11_plans_137 : decode cX11_plans 137 = .ok (.getfield 36, 3) := by decide +kernel
theorem dX11_plans_140 : decode cX11_plans 140 = .ok (.iload_n 1, 1) := by decide +kernel
theorem dX11_plans_141 : decode cX11_plans 141 = .ok (.aaload, 1) := by decide +kernel
theorem dX11_plans_142 : decode cX11_plans 142 = .ok (.invokevirtual 296, 3) := by decide +kernel
theorem dX11_plans_145 : decode cX11_plans 145 = .ok (.iinc 4 1, 3) := by decide +kernel
theorem dX11_plans_148 : decode cX11_plans 148 = .ok (.goto (-48), 3) := by decide +kernel
theorem dX11_plans_151 : decode cX11_plans 151 = .ok (.return_, 1) := by decide +kernel
theorem dX11_findBest_0 : decode cX11_findBest 0 = .ok (.aload_n 0, 1) := by decide +kernel
theorem dX11_findBest_1 : decode cX11_findBest 1 = .ok (.iconst (-1), 1) := by decide +kernel
theorem dX11_findBest_2 : decode cX11_findBest 2 = .ok (.putfield 313, 3) := by decide +kernel
theorem dX11_findBest_5 : decode cX11_findBest 5 = .ok (.aload_n 0, 1) := by decide +kernel
theorem dX11_findBest_6 : decode cX11_findBest 6 = .ok (.iconst 0, 1) := by decide +kernel
theorem dX11_findBest_7 : decode cX11_findBest 7 = .ok (.iload_n 1, 1) := by decide +kernel
theorem dX11_findBest_8 : decode cX11_findBest 8 = .ok (.iconst 0, 1) := by decide +kernel
theorem dX11_findBest_9 : decode cX11_findBest 9 = .ok (.invokevirtual 322, 3) := by decide +kernel
theorem dX11_findBest_12 : decode cX11_findBest 12 = .ok (.return_, 1) := by decide +kernel
theorem dX11_best_0 : decode cX11_best 0 = .ok (.iload_n 1, 1) := by decide +kernel
theorem dX11_best_1 : decode cX11_best 1 = .ok (.i2l, 1) := by decide +kernel
theorem dX11_best_2 : decode cX11_best 2 = .ok (.lconst 0, 1) := by decide +kernel
theorem dX11_best_3 : decode cX11_best 3 = .ok (.ldc2_w 326, 3) := by decide +kernel
theorem dX11_best_6 : decode cX11_best 6 = .ok (.invokestatic 70, 3) := by decide +kernel
theorem dX11_best_9 : decode cX11_best 9 = .ok (.ifCond .ne 5, 3) := by decide +kernel
theorem dX11_best_12 : decode cX11_best 12 = .ok (.iconst (-1), 1) := by decide +kernel
theorem dX11_best_13 : decode cX11_best 13 = .ok (.ireturn, 1) := by decide +kernel
theorem dX11_best_14 : decode cX11_best 14 = .ok (.aload_n 0, 1) := by decide +kernel
theorem dX11_best_15 : decode cX11_best 15 = .ok (.iload_n 1, 1) := by decide +kernel
theorem dX11_best_16 : decode cX11_best 16 = .ok (.invokevirtual 328, 3) := by decide +kernel
theorem dX11_best_19 : decode cX11_best 19 = .ok (.aload_n 0, 1) := by decide +kernel
theorem dX11_best_20 : decode cX11_best 20 = .ok (.getfield 313, 3) := by decide +kernel
theorem dX11_best_23 : decode cX11_best 23 = .ok (.ireturn, 1) := by decide +kernel
theorem dX11_ith_0 : decode cX11_ith 0 = .ok (.iload_n 1, 1) := by decide +kernel
theorem dX11_ith_1 : decode cX11_ith 1 = .ok (.i2l, 1) := by decide +kernel
theorem dX11_ith_2 : decode cX11_ith 2 = .ok (.lconst 0, 1) := by decide +kernel
theorem dX11_ith_3 : decode cX11_ith 3 = .ok (.ldc2_w 326, 3) := by decide +kernel
theorem dX11_ith_6 : decode cX11_ith 6 = .ok (.invokestatic 70, 3) := by decide +kernel
theorem dX11_ith_9 : decode cX11_ith 9 = .ok (.ifCond .eq 15, 3) := by decide +kernel
theorem dX11_ith_12 : decode cX11_ith 12 = .ok (.iload_n 2, 1) := by decide +kernel
theorem dX11_ith_13 : decode cX11_ith 13 = .ok (.i2l, 1) := by decide +kernel
theorem dX11_ith_14 : decode cX11_ith 14 = .ok (.lconst 0, 1) := by decide +kernel
theorem dX11_ith_15 : decode cX11_ith 15 = .ok (.ldc2_w 332, 3) := by decide +kernel
theorem dX11_ith_18 : decode cX11_ith 18 = .ok (.invokestatic 70, 3) := by decide +kernel
theorem dX11_ith_21 : decode cX11_ith 21 = .ok (.ifCond .ne 5, 3) := by decide +kernel
theorem dX11_ith_24 : decode cX11_ith 24 = .ok (.iconst (-1), 1) := by decide +kernel
theorem dX11_ith_25 : decode cX11_ith 25 = .ok (.ireturn, 1) := by decide +kernel
theorem dX11_ith_26 : decode cX11_ith 26 = .ok (.aload_n 0, 1) := by decide +kernel
theorem dX11_ith_27 : decode cX11_ith 27 = .ok (.iload_n 1, 1) := by decide +kernel
theorem dX11_ith_28 : decode cX11_ith 28 = .ok (.invokevirtual 328, 3) := by decide +kernel
theorem dX11_ith_31 : decode cX11_ith 31 = .ok (.iload_n 2, 1) := by decide +kernel
theorem dX11_ith_32 : decode cX11_ith 32 = .ok (.aload_n 0, 1) := by decide +kernel
theorem dX11_ith_33 : decode cX11_ith 33 = .ok (.getfield 319, 3) := by decide +kernel
theorem dX11_ith_36 : decode cX11_ith 36 = .ok (.if_icmp .ge 12, 3) := by decide +kernel
theorem dX11_ith_39 : decode cX11_ith 39 = .ok (.aload_n 0, 1) := by decide +kernel
theorem dX11_ith_40 : decode cX11_ith 40 = .ok (.getfield 42, 3) := by decide +kernel
theorem dX11_ith_43 : decode cX11_ith 43 = .ok (.iload_n 2, 1) := by decide +kernel
theorem dX11_ith_44 : decode cX11_ith 44 = .ok (.iaload, 1) := by decide +kernel
theorem dX11_ith_45 : decode cX11_ith 45 = .ok (.goto 5, 3) := by decide +kernel
theorem dX11_ith_48 : decode cX11_ith 48 = .ok (.bipush (-3), 2) := by decide +kernel
theorem dX11_ith_50 : decode cX11_ith 50 = .ok (.ireturn, 1) := by decide +kernel
theorem dX11_ways_0 : decode cX11_ways 0 = .ok (.iload_n 1, 1) := by decide +kernel
theorem dX11_ways_1 : decode cX11_ways 1 = .ok (.i2l, 1) := by decide +kernel
theorem dX11_ways_2 : decode cX11_ways 2 = .ok (.lconst 0, 1) := by decide +kernel
theorem dX11_ways_3 : decode cX11_ways 3 = .ok (.ldc2_w 326, 3) := by decide +kernel
theorem dX11_ways_6 : decode cX11_ways 6 = .ok (.invokestatic 70, 3) := by decide +kernel
theorem dX11_ways_9 : decode cX11_ways 9 = .ok (.ifCond .ne 5, 3) := by decide +kernel
theorem dX11_ways_12 : decode cX11_ways 12 = .ok (.iconst (-1), 1) := by decide +kernel
theorem dX11_ways_13 : decode cX11_ways 13 = .ok (.ireturn, 1) := by decide +kernel
theorem dX11_ways_14 : decode cX11_ways 14 = .ok (.aload_n 0, 1) := by decide +kernel
theorem dX11_ways_15 : decode cX11_ways 15 = .ok (.iload_n 1, 1) := by decide +kernel
theorem dX11_ways_16 : decode cX11_ways 16 = .ok (.invokevirtual 328, 3) := by decide +kernel
theorem dX11_ways_19 : decode cX11_ways 19 = .ok (.aload_n 0, 1) := by decide +kernel
theorem dX11_ways_20 : decode cX11_ways 20 = .ok (.getfield 316, 3) := by decide +kernel
theorem dX11_ways_23 : decode cX11_ways 23 = .ok (.ireturn, 1) := by decide +kernel
theorem dX11_valueOf_0 : decode cX11_valueOf 0 = .ok (.iload_n 1, 1) := by decide +kernel
theorem dX11_valueOf_1 : decode cX11_valueOf 1 = .ok (.iload_n 2, 1) := by decide +kernel
theorem dX11_valueOf_2 : decode cX11_valueOf 2 = .ok (.if_icmp .eq 10, 3) := by decide +kernel
theorem dX11_valueOf_5 : decode cX11_valueOf 5 = .ok (.aload_n 0, 1) := by decide +kernel
theorem dX11_valueOf_6 : decode cX11_valueOf 6 = .ok (.invokevirtual 96, 3) := by decide +kernel
theorem dX11_valueOf_9 : decode cX11_valueOf 9 = .ok (.ifCond .eq 5, 3) := by decide +kernel
theorem dX11_valueOf_12 : decode cX11_valueOf 12 = .ok (.iconst 0, 1) := by decide +kernel
theorem dX11_valueOf_13 : decode cX11_valueOf 13 = .ok (.ireturn, 1) := by decide +kernel
theorem dX11_valueOf_14 : decode cX11_valueOf 14 = .ok (.aload_n 0, 1) := by decide +kernel
theorem dX11_valueOf_15 : decode cX11_valueOf 15 = .ok (.aload_n 0, 1) := by decide +kernel
theorem dX11_valueOf_16 : decode cX11_valueOf 16 = .ok (.getfield 36, 3) := by decide +kernel
theorem dX11_valueOf_19 : decode cX11_valueOf 19 = .ok (.iload_n 1, 1) := by decide +kernel
theorem dX11_valueOf_20 : decode cX11_valueOf 20 = .ok (.aaload, 1) := by decide +kernel
theorem dX11_valueOf_21 : decode cX11_valueOf 21 = .ok (.invokevirtual 292, 3) := by decide +kernel
theorem dX11_valueOf_24 : decode cX11_valueOf 24 = .ok (.iconst 0, 1) := by decide +kernel
theorem dX11_valueOf_25 : decode cX11_valueOf 25 = .ok (.istore_n 3, 1) := by decide +kernel
theorem dX11_valueOf_26 : decode cX11_valueOf 26 = .ok (.iconst (-1), 1) := by decide +kernel
theorem dX11_valueOf_27 : decode cX11_valueOf 27 = .ok (.istore 4, 2) := by decide +kernel
theorem dX11_valueOf_29 : decode cX11_valueOf 29 = .ok (.iconst 0, 1) := by decide +kernel
theorem dX11_valueOf_30 : decode cX11_valueOf 30 = .ok (.istore 5, 2) := by decide +kernel
theorem dX11_valueOf_32 : decode cX11_valueOf 32 = .ok (.iload 5, 2) := by decide +kernel
theorem dX11_valueOf_34 : decode cX11_valueOf 34 = .ok (.aload_n 0, 1) := by decide +kernel
theorem dX11_valueOf_35 : decode cX11_valueOf 35 = .ok (.getfield 9, 3) := by decide +kernel
theorem dX11_valueOf_38 : decode cX11_valueOf 38 = .ok (.iconst 0, 1) := by decide +kernel
theorem dX11_valueOf_39 : decode cX11_valueOf 39 = .ok (.iaload, 1) := by decide +kernel
theorem dX11_valueOf_40 : decode cX11_valueOf 40 = .ok (.if_icmp .gt 73, 3) := by decide +kernel
theorem dX11_valueOf_43 : decode cX11_valueOf 43 = .ok (.aload_n 0, 1) := by decide +kernel
theorem dX11_valueOf_44 : decode cX11_valueOf 44 = .ok (.iload 5, 2) := by decide +kernel
theorem dX11_valueOf_46 : decode cX11_valueOf 46 = .ok (.invokevirtual 284, 3) := by decide +kernel
theorem dX11_valueOf_49 : decode cX11_valueOf 49 = .ok (.istore 6, 2) := by decide +kernel
theorem dX11_valueOf_51 : decode cX11_valueOf 51 = .ok (.iload 6, 2) := by decide +kernel
theorem dX11_valueOf_53 : decode cX11_valueOf 53 = .ok (.aload_n 0, 1) := by decide +kernel
theorem dX11_valueOf_54 : decode cX11_valueOf 54 = .ok (.iload_n 1, 1) := by decide +kernel
theorem dX11_valueOf_55 : decode cX11_valueOf 55 = .ok (.iconst 1, 1) := by decide +kernel
theorem dX11_valueOf_56 : decode cX11_valueOf 56 = .ok (.iadd, 1) := by decide +kernel
theorem dX11_valueOf_57 : decode cX11_valueOf 57 = .ok (.iload_n 2, 1) := by decide +kernel
theorem dX11_valueOf_58 : decode cX11_valueOf 58 = .ok (.invokevirtual 334, 3) := by decide +kernel
theorem dX11_valueOf_61 : decode cX11_valueOf 61 = .ok (.iadd, 1) := by decide +kernel
theorem dX11_valueOf_62 : decode cX11_valueOf 62 = .ok (.istore 7, 2) := by decide +kernel
theorem dX11_valueOf_64 : decode cX11_valueOf 64 = .ok (.aload_n 0, 1) := by decide +kernel
theorem dX11_valueOf_65 : decode cX11_valueOf 65 = .ok (.aload_n 0, 1) := by decide +kernel
theorem dX11_valueOf_66 : decode cX11_valueOf 66 = .ok (.getfield 36, 3) := by decide +kernel
theorem dX11_valueOf_69 : decode cX11_valueOf 69 = .ok (.iload_n 1, 1) := by decide +kernel
theorem dX11_valueOf_70 : decode cX11_valueOf 70 = .ok (.aaload, 1) := by decide +kernel
theorem dX11_valueOf_71 : decode cX11_valueOf 71 = .ok (.invokevirtual 296, 3) := by decide +kernel
theorem dX11_valueOf_74 : decode cX11_valueOf 74 = .ok (.iload 4, 2) := by decide +kernel
theorem dX11_valueOf_76 : decode cX11_valueOf 76 = .ok (.ifCond .lt 24, 3) := by decide +kernel
theorem dX11_valueOf_79 : decode cX11_valueOf 79 = .ok (.iload_n 1, 1) := by decide +kernel
theorem dX11_valueOf_80 : decode cX11_valueOf 80 = .ok (.iconst 2, 1) := by decide +kernel
theorem dX11_valueOf_81 : decode cX11_valueOf 81 = .ok (.irem, 1) := by decide +kernel
theorem dX11_valueOf_82 : decode cX11_valueOf 82 = .ok (.ifCond .ne 12, 3) := by decide +kernel
theorem dX11_valueOf_85 : decode cX11_valueOf 85 = .ok (.iload 7, 2) := by decide +kernel
theorem dX11_valueOf_87 : decode cX11_valueOf 87 = .ok (.iload_n 3, 1) := by decide +kernel
theorem dX11_valueOf_88 : decode cX11_valueOf 88 = .ok (.if_icmp .le 19, 3) := by decide +kernel
theorem dX11_valueOf_91 : decode cX11_valueOf 91 = .ok (.goto 9, 3) := by decide +kernel
theorem dX11_valueOf_94 : decode cX11_valueOf 94 = .ok (.iload 7, 2) := by decide +kernel
theorem dX11_valueOf_96 : decode cX11_valueOf 96 = .ok (.iload_n 3, 1) := by decide +kernel
theorem dX11_valueOf_97 : decode cX11_valueOf 97 = .ok (.if_icmp .ge 10, 3) := by decide +kernel
theorem dX11_valueOf_100 : decode cX11_valueOf 100 = .ok (.iload 7, 2) := by decide +kernel
theorem dX11_valueOf_102 : decode cX11_valueOf 102 = .ok (.istore_n 3, 1) := by decide +kernel
theorem dX11_valueOf_103 : decode cX11_valueOf 103 = .ok (.iload 5, 2) := by decide +kernel
theorem dX11_valueOf_105 : decode cX11_valueOf 105 = .ok (.istore 4, 2) := by decide +kernel
theorem dX11_valueOf_107 : decode cX11_valueOf 107 = .ok (.iinc 5 1, 3) := by decide +kernel
theorem dX11_valueOf_110 : decode cX11_valueOf 110 = .ok (.goto (-78), 3) := by decide +kernel
theorem dX11_valueOf_113 : decode cX11_valueOf 113 = .ok (.aload_n 0, 1) := by decide +kernel
theorem dX11_valueOf_114 : decode cX11_valueOf 114 = .ok (.iload 4, 2) := by decide +kernel
theorem dX11_valueOf_116 : decode cX11_valueOf 116 = .ok (.putfield 337, 3) := by decide +kernel
theorem dX11_valueOf_119 : decode cX11_valueOf 119 = .ok (.iload_n 3, 1) := by decide +kernel
theorem dX11_valueOf_120 : decode cX11_valueOf 120 = .ok (.ireturn, 1) := by decide +kernel
theorem dX11_game_0 : decode cX11_game 0 = .ok (.iload_n 1, 1) := by decide +kernel
theorem dX11_game_1 : decode cX11_game 1 = .ok (.i2l, 1) := by decide +kernel
theorem dX11_game_2 : decode cX11_game 2 = .ok (.lconst 1, 1) := by decide +kernel
theorem dX11_game_3 : decode cX11_game 3 = .ok (.ldc2_w 326, 3) := by decide +kernel
theorem dX11_game_6 : decode cX11_game 6 = .ok (.invokestatic 70, 3) := by decide +kernel
theorem dX11_game_9 : decode cX11_game 9 = .ok (.ifCond .eq 12, 3) := by decide +kernel
theorem dX11_game_12 : decode cX11_game 12 = .ok (.aload_n 0, 1) := by decide +kernel
theorem dX11_game_13 : decode cX11_game 13 = .ok (.iconst 0, 1) := by decide +kernel
theorem dX11_game_14 : decode cX11_game 14 = .ok (.iload_n 1, 1) := by decide +kernel
theorem dX11_game_15 : decode cX11_game 15 = .ok (.invokevirtual 334, 3) := by decide +kernel
theorem dX11_game_18 : decode cX11_game 18 = .ok (.goto 4, 3) := by decide +kernel
theorem dX11_game_21 : decode cX11_game 21 = .ok (.iconst (-1), 1) := by decide +kernel
theorem dX11_game_22 : decode cX11_game 22 = .ok (.ireturn, 1) := by decide +kernel
theorem dX11_play_0 : decode cX11_play 0 = .ok (.iload_n 1, 1) := by decide +kernel
theorem dX11_play_1 : decode cX11_play 1 = .ok (.i2l, 1) := by decide +kernel
theorem dX11_play_2 : decode cX11_play 2 = .ok (.lconst 1, 1) := by decide +kernel
theorem dX11_play_3 : decode cX11_play 3 = .ok (.ldc2_w 326, 3) := by decide +kernel
theorem dX11_play_6 : decode cX11_play 6 = .ok (.invokestatic 70, 3) := by decide +kernel
theorem dX11_play_9 : decode cX11_play 9 = .ok (.ifCond .ne 5, 3) := by decide +kernel
theorem dX11_play_12 : decode cX11_play 12 = .ok (.iconst (-1), 1) := by decide +kernel
theorem dX11_play_13 : decode cX11_play 13 = .ok (.ireturn, 1) := by decide +kernel
theorem dX11_play_14 : decode cX11_play 14 = .ok (.aload_n 0, 1) := by decide +kernel
theorem dX11_play_15 : decode cX11_play 15 = .ok (.invokevirtual 96, 3) := by decide +kernel
theorem dX11_play_18 : decode cX11_play 18 = .ok (.ifCond .eq 6, 3) := by decide +kernel
theorem dX11_play_21 : decode cX11_play 21 = .ok (.bipush (-3), 2) := by decide +kernel
theorem dX11_play_23 : decode cX11_play 23 = .ok (.ireturn, 1) := by decide +kernel
theorem dX11_play_24 : decode cX11_play 24 = .ok (.aload_n 0, 1) := by decide +kernel
theorem dX11_play_25 : decode cX11_play 25 = .ok (.iconst 0, 1) := by decide +kernel
theorem dX11_play_26 : decode cX11_play 26 = .ok (.iload_n 1, 1) := by decide +kernel
theorem dX11_play_27 : decode cX11_play 27 = .ok (.invokevirtual 334, 3) := by decide +kernel
theorem dX11_play_30 : decode cX11_play 30 = .ok (.istore_n 2, 1) := by decide +kernel
theorem dX11_play_31 : decode cX11_play 31 = .ok (.aload_n 0, 1) := by decide +kernel
theorem dX11_play_32 : decode cX11_play 32 = .ok (.getfield 337, 3) := by decide +kernel
theorem dX11_play_35 : decode cX11_play 35 = .ok (.ireturn, 1) := by decide +kernel
theorem dX11_report_0 : decode cX11_report 0 = .ok (.iload_n 1, 1) := by decide +kernel
theorem dX11_report_1 : decode cX11_report 1 = .ok (.i2l, 1) := by decide +kernel
theorem dX11_report_2 : decode cX11_report 2 = .ok (.lconst 0, 1) := by decide +kernel
theorem dX11_report_3 : decode cX11_report 3 = .ok (.ldc2_w 340, 3) := by decide +kernel
theorem dX11_report_6 : decode cX11_report 6 = .ok (.invokestatic 70, 3) := by decide +kernel
theorem dX11_report_9 : decode cX11_report 9 = .ok (.ifCond .eq 40, 3) := by decide +kernel
theorem dX11_report_12 : decode cX11_report 12 = .ok (.iload_n 2, 1) := by decide +kernel
theorem dX11_report_13 : decode cX11_report 13 = .ok (.i2l, 1) := by decide +kernel
theorem dX11_report_14 : decode cX11_report 14 = .ok (.lconst 0, 1) := by decide +kernel
theorem dX11_report_15 : decode cX11_report 15 = .ok (.ldc2_w 74, 3) := by decide +kernel
theorem dX11_report_18 : decode cX11_report 18 = .ok (.invokestatic 70, 3) := by decide +kernel
theorem dX11_report_21 : decode cX11_report 21 = .ok (.ifCond .eq 28, 3) := by decide +kernel
theorem dX11_report_24 : decode cX11_report 24 = .ok (.iload_n 3, 1) := by decide +kernel
theorem dX11_report_25 : decode cX11_report 25 = .ok (.i2l, 1) := by decide +kernel
theorem dX11_report_26 : decode cX11_report 26 = .ok (.lconst 0, 1) := by decide +kernel
theorem dX11_report_27 : decode cX11_report 27 = .ok (.ldc2_w 76, 3) := by decide +kernel
theorem dX11_report_30 : decode cX11_report 30 = .ok (.invokestatic 70, 3) := by decide +kernel
theorem dX11_report_33 : decode cX11_report 33 = .ok (.ifCond .eq 16, 3) := by decide +kernel
theorem dX11_report_36 : decode cX11_report 36 = .ok (.iload 4, 2) := by decide +kernel
theorem dX11_report_38 : decode cX11_report 38 = .ok (.i2l, 1) := by decide +kernel
theorem dX11_report_39 : decode cX11_report 39 = .ok (.lconst 0, 1) := by decide +kernel
theorem dX11_report_40 : decode cX11_report 40 = .ok (.ldc2_w 287, 3) := by decide +kernel
theorem dX11_report_43 : decode cX11_report 43 = .ok (.invokestatic 70, 3) := by decide +kernel
theorem dX11_report_46 : decode cX11_report 46 = .ok (.ifCond .ne 5, 3) := by decide +kernel
theorem dX11_report_49 : decode cX11_report 49 = .ok (.iconst (-1), 1) := by decide +kernel
theorem dX11_report_50 : decode cX11_report 50 = .ok (.ireturn, 1) := by decide +kernel
theorem dX11_report_51 : decode cX11_report 51 = .ok (.aload_n 0, 1) := by decide +kernel
theorem dX11_report_52 : decode cX11_report 52 = .ok (.getfield 9, 3) := by decide +kernel
theorem dX11_report_55 : decode cX11_report 55 = .ok (.bipush 6, 2) := by decide +kernel
theorem dX11_report_57 : decode cX11_report 57 = .ok (.iaload, 1) := by decide +kernel
theorem dX11_report_58 : decode cX11_report 58 = .ok (.bipush 6, 2) := by decide +kernel
theorem dX11_report_60 : decode cX11_report 60 = .ok (.if_icmp .ne 6, 3) := by decide +kernel
theorem dX11_report_63 : decode cX11_report 63 = .ok (.bipush (-2), 2) := by decide +kernel
theorem dX11_report_65 : decode cX11_report 65 = .ok (.ireturn, 1) := by decide +kernel
theorem dX11_report_66 : decode cX11_report 66 = .ok (.bipush 47, 2) := by decide +kernel
theorem dX11_report_68 : decode cX11_report 68 = .ok (.iconst 4, 1) := by decide +kernel
theorem dX11_report_69 : decode cX11_report 69 = .ok (.aload_n 0, 1) := by decide +kernel
theorem dX11_report_70 : decode cX11_report 70 = .ok (.getfield 9, 3) := by decide +kernel
theorem dX11_report_73 : decode cX11_report 73 = .ok (.bipush 6, 2) := by decide +kernel
theorem dX11_report_75 : decode cX11_report 75 = .ok (.iaload, 1) := by decide +kernel
theorem dX11_report_76 : decode cX11_report 76 = .ok (.imul, 1) := by decide +kernel
theorem dX11_report_77 : decode cX11_report 77 = .ok (.iadd, 1) := by decide +kernel
theorem dX11_report_78 : decode cX11_report 78 = .ok (.istore 5, 2) := by decide +kernel
theorem dX11_report_80 : decode cX11_report 80 = .ok (.aload_n 0, 1) := by decide +kernel
theorem dX11_report_81 : decode cX11_report 81 = .ok (.getfield 9, 3) := by decide +kernel
theorem dX11_report_84 : decode cX11_report 84 = .ok (.iload 5, 2) := by decide +kernel
theorem dX11_report_86 : decode cX11_report 86 = .ok (.iload_n 1, 1) := by decide +kernel
theorem dX11_report_87 : decode cX11_report 87 = .ok (.iastore, 1) := by decide +kernel
theorem dX11_report_88 : decode cX11_report 88 = .ok (.aload_n 0, 1) := by decide +kernel
theorem dX11_report_89 : decode cX11_report 89 = .ok (.getfield 9, 3) := by decide +kernel
theorem dX11_report_92 : decode cX11_report 92 = .ok (.iload 5, 2) := by decide +kernel
theorem dX11_report_94 : decode cX11_report 94 = .ok (.iconst 1, 1) := by decide +kernel
theorem dX11_report_95 : decode cX11_report 95 = .ok (.iadd, 1) := by decide +kernel
theorem dX11_report_96 : decode cX11_report 96 = .ok (.iload_n 2, 1) := by decide +kernel
theorem dX11_report_97 : decode cX11_report 97 = .ok (.iastore, 1) := by decide +kernel
theorem dX11_report_98 : decode cX11_report 98 = .ok (.aload_n 0, 1) := by decide +kernel
theorem dX11_report_99 : decode cX11_report 99 = .ok (.getfield 9, 3) := by decide +kernel
theorem dX11_report_102 : decode cX11_report 102 = .ok (.iload 5, 2) := by decide +kernel
theorem dX11_report_104 : decode cX11_report 104 = .ok (.iconst 2, 1) := by decide +kernel
theorem dX11_report_105 : decode cX11_report 105 = .ok (.iadd, 1) := by decide +kernel
theorem dX11_report_106 : decode cX11_report 106 = .ok (.iload_n 3, 1) := by decide +kernel
theorem dX11_report_107 : decode cX11_report 107 = .ok (.iastore, 1) := by decide +kernel
theorem dX11_report_108 : decode cX11_report 108 = .ok (.aload_n 0, 1) := by decide +kernel
theorem dX11_report_109 : decode cX11_report 109 = .ok (.getfield 9, 3) := by decide +kernel
theorem dX11_report_112 : decode cX11_report 112 = .ok (.iload 5, 2) := by decide +kernel
theorem dX11_report_114 : decode cX11_report 114 = .ok (.iconst 3, 1) := by decide +kernel
theorem dX11_report_115 : decode cX11_report 115 = .ok (.iadd, 1) := by decide +kernel
theorem dX11_report_116 : decode cX11_report 116 = .ok (.iload 4, 2) := by decide +kernel
theorem dX11_report_118 : decode cX11_report 118 = .ok (.iastore, 1) := by decide +kernel
theorem dX11_report_119 : decode cX11_report 119 = .ok (.aload_n 0, 1) := by decide +kernel
theorem dX11_report_120 : decode cX11_report 120 = .ok (.getfield 9, 3) := by decide +kernel
theorem dX11_report_123 : decode cX11_report 123 = .ok (.bipush 6, 2) := by decide +kernel
theorem dX11_report_125 : decode cX11_report 125 = .ok (.dup2, 1) := by decide +kernel
theorem dX11_report_126 : decode cX11_report 126 = .ok (.iaload, 1) := by decide +kernel
theorem dX11_report_127 : decode cX11_report 127 = .ok (.iconst 1, 1) := by decide +kernel
theorem dX11_report_128 : decode cX11_report 128 = .ok (.iadd, 1) := by decide +kernel
theorem dX11_report_129 : decode cX11_report 129 = .ok (.iastore, 1) := by decide +kernel
theorem dX11_report_130 : decode cX11_report 130 = .ok (.aload_n 0, 1) := by decide +kernel
theorem dX11_report_131 : decode cX11_report 131 = .ok (.getfield 9, 3) := by decide +kernel
theorem dX11_report_134 : decode cX11_report 134 = .ok (.bipush 6, 2) := by decide +kernel
theorem dX11_report_136 : decode cX11_report 136 = .ok (.iaload, 1) := by decide +kernel
theorem dX11_report_137 : decode cX11_report 137 = .ok (.iconst 1, 1) := by decide +kernel
theorem dX11_report_138 : decode cX11_report 138 = .ok (.isub, 1) := by decide +kernel
theorem dX11_report_139 : decode cX11_report 139 = .ok (.ireturn, 1) := by decide +kernel
theorem dX11_forget_0 : decode cX11_forget 0 = .ok (.aload_n 0, 1) := by decide +kernel
theorem dX11_forget_1 : decode cX11_forget 1 = .ok (.bipush 6, 2) := by decide +kernel
theorem dX11_forget_3 : decode cX11_forget 3 = .ok (.iconst 0, 1) := by decide +kernel
theorem dX11_forget_4 : decode cX11_forget 4 = .ok (.invokevirtual 103, 3) := by decide +kernel
theorem dX11_forget_7 : decode cX11_forget 7 = .ok (.ireturn, 1) := by decide +kernel
theorem dX11_doesFit_0 : decode cX11_doesFit 0 = .ok (.iconst 0, 1) := by decide +kernel
theorem dX11_doesFit_1 : decode cX11_doesFit 1 = .ok (.istore 4, 2) := by decide +kernel
theorem dX11_doesFit_3 : decode cX11_doesFit 3 = .ok (.iload 4, 2) := by decide +kernel
theorem dX11_doesFit_5 : decode cX11_doesFit 5 = .ok (.aload_n 0, 1) := by decide +kernel
theorem dX11_doesFit_6 : decode cX11_doesFit 6 = .ok (.getfield 9, 3) := by decide +kernel
theorem dX11_doesFit_9 : decode cX11_doesFit 9 = .ok (.bipush 6, 2) := by decide +kernel
theorem dX11_doesFit_11 : decode cX11_doesFit 11 = .ok (.iaload, 1) := by decide +kernel
theorem dX11_doesFit_12 : decode cX11_doesFit 12 = .ok (.if_icmp .ge 80, 3) := by decide +kernel
theorem dX11_doesFit_15 : decode cX11_doesFit 15 = .ok (.bipush 47, 2) := by decide +kernel
theorem dX11_doesFit_17 : decode cX11_doesFit 17 = .ok (.iconst 4, 1) := by decide +kernel
theorem dX11_doesFit_18 : decode cX11_doesFit 18 = .ok (.iload 4, 2) := by decide +kernel
theorem dX11_doesFit_20 : decode cX11_doesFit 20 = .ok (.imul, 1) := by decide +kernel
theorem dX11_doesFit_21 : decode cX11_doesFit 21 = .ok (.iadd, 1) := by decide +kernel
theorem dX11_doesFit_22 : decode cX11_doesFit 22 = .ok (.istore 5, 2) := by decide +kernel
theorem dX11_doesFit_24 : decode cX11_doesFit 24 = .ok (.iload_n 1, 1) := by decide +kernel
theorem dX11_doesFit_25 : decode cX11_doesFit 25 = .ok (.aload_n 0, 1) := by decide +kernel
theorem dX11_doesFit_26 : decode cX11_doesFit 26 = .ok (.getfield 9, 3) := by decide +kernel
theorem dX11_doesFit_29 : decode cX11_doesFit 29 = .ok (.iload 5, 2) := by decide +kernel
theorem dX11_doesFit_31 : decode cX11_doesFit 31 = .ok (.iaload, 1) := by decide +kernel
theorem dX11_doesFit_32 : decode cX11_doesFit 32 = .ok (.iload_n 2, 1) := by decide +kernel
theorem dX11_doesFit_33 : decode cX11_doesFit 33 = .ok (.imul, 1) := by decide +kernel
theorem dX11_doesFit_34 : decode cX11_doesFit 34 = .ok (.iadd, 1) := by decide +kernel
theorem dX11_doesFit_35 : decode cX11_doesFit 35 = .ok (.iconst 0, 1) := by decide +kernel
theorem dX11_doesFit_36 : decode cX11_doesFit 36 = .ok (.bipush 40, 2) := by decide +kernel
theorem dX11_doesFit_38 : decode cX11_doesFit 38 = .ok (.invokestatic 113, 3) := by decide +kernel
theorem dX11_doesFit_41 : decode cX11_doesFit 41 = .ok (.istore 6, 2) := by decide +kernel
theorem dX11_doesFit_43 : decode cX11_doesFit 43 = .ok (.iload 4, 2) := by decide +kernel
theorem dX11_doesFit_45 : decode cX11_doesFit 45 = .ok (.iload_n 3, 1) := by decide +kernel
theorem dX11_doesFit_46 : decode cX11_doesFit 46 = .ok (.if_icmp .eq 40, 3) := by decide +kernel
theorem dX11_doesFit_49 : decode cX11_doesFit 49 = .ok (.aload_n 0, 1) := by decide +kernel
theorem dX11_doesFit_50 : decode cX11_doesFit 50 = .ok (.getfield 9, 3) := by decide +kernel
theorem dX11_doesFit_53 : decode cX11_doesFit 53 = .ok (.iload 5, 2) := by decide +kernel
theorem dX11_doesFit_55 : decode cX11_doesFit 55 = .ok (.iconst 1, 1) := by decide +kernel
theorem dX11_doesFit_56 : decode cX11_doesFit 56 = .ok (.iadd, 1) := by decide +kernel
theorem dX11_doesFit_57 : decode cX11_doesFit 57 = .ok (.iaload, 1) := by decide +kernel
theorem dX11_doesFit_58 : decode cX11_doesFit 58 = .ok (.aload_n 0, 1) := by decide +kernel
theorem dX11_doesFit_59 : decode cX11_doesFit 59 = .ok (.getfield 9, 3) := by decide +kernel
theorem dX11_doesFit_62 : decode cX11_doesFit 62 = .ok (.iload 5, 2) := by decide +kernel
theorem dX11_doesFit_64 : decode cX11_doesFit 64 = .ok (.iconst 2, 1) := by decide +kernel
theorem dX11_doesFit_65 : decode cX11_doesFit 65 = .ok (.iadd, 1) := by decide +kernel
theorem dX11_doesFit_66 : decode cX11_doesFit 66 = .ok (.iaload, 1) := by decide +kernel
theorem dX11_doesFit_67 : decode cX11_doesFit 67 = .ok (.iload 6, 2) := by decide +kernel
theorem dX11_doesFit_69 : decode cX11_doesFit 69 = .ok (.invokestatic 134, 3) := by decide +kernel
theorem dX11_doesFit_72 : decode cX11_doesFit 72 = .ok (.aload_n 0, 1) := by decide +kernel
theorem dX11_doesFit_73 : decode cX11_doesFit 73 = .ok (.getfield 9, 3) := by decide +kernel
theorem dX11_doesFit_76 : decode cX11_doesFit 76 = .ok (.iload 5, 2) := by decide +kernel
theorem dX11_doesFit_78 : decode cX11_doesFit 78 = .ok (.iconst 3, 1) := by decide +kernel
theorem dX11_doesFit_79 : decode cX11_doesFit 79 = .ok (.iadd, 1) := by decide +kernel
theorem dX11_doesFit_80 : decode cX11_doesFit 80 = .ok (.iaload, 1) := by decide +kernel
theorem dX11_doesFit_81 : decode cX11_doesFit 81 = .ok (.if_icmp .eq 5, 3) := by decide +kernel
theorem dX11_doesFit_84 : decode cX11_doesFit 84 = .ok (.iconst 0, 1) := by decide +kernel
theorem dX11_doesFit_85 : decode cX11_doesFit 85 = .ok (.ireturn, 1) := by decide +kernel
theorem dX11_doesFit_86 : decode cX11_doesFit 86 = .ok (.iinc 4 1, 3) := by decide +kernel
theorem dX11_doesFit_89 : decode cX11_doesFit 89 = .ok (.goto (-86), 3) := by decide +kernel
theorem dX11_doesFit_92 : decode cX11_doesFit 92 = .ok (.iconst 1, 1) := by decide +kernel
theorem dX11_doesFit_93 : decode cX11_doesFit 93 = .ok (.ireturn, 1) := by decide +kernel
theorem dX11_fitsBut_0 : decode cX11_fitsBut 0 = .ok (.iconst 0, 1) := by decide +kernel
theorem dX11_fitsBut_1 : decode cX11_fitsBut 1 = .ok (.istore_n 2, 1) := by decide +kernel
theorem dX11_fitsBut_2 : decode cX11_fitsBut 2 = .ok (.iconst 0, 1) := by decide +kernel
theorem dX11_fitsBut_3 : decode cX11_fitsBut 3 = .ok (.istore_n 3, 1) := by decide +kernel
theorem dX11_fitsBut_4 : decode cX11_fitsBut 4 = .ok (.iload_n 3, 1) := by decide +kernel
theorem dX11_fitsBut_5 : decode cX11_fitsBut 5 = .ok (.bipush 40, 2) := by decide +kernel
theorem dX11_fitsBut_7 : decode cX11_fitsBut 7 = .ok (.if_icmp .gt 72, 3) := by decide +kernel
theorem dX11_fitsBut_10 : decode cX11_fitsBut 10 = .ok (.bipush (-2), 2) := by decide +kernel
theorem dX11_fitsBut_12 : decode cX11_fitsBut 12 = .ok (.istore 4, 2) := by decide +kernel
theorem dX11_fitsBut_14 : decode cX11_fitsBut 14 = .ok (.iload 4, 2) := by decide +kernel
theorem dX11_fitsBut_16 : decode cX11_fitsBut 16 = .ok (.iconst 2, 1) := by decide +kernel
theorem dX11_fitsBut_17 : decode cX11_fitsBut 17 = .ok (.if_icmp .gt 56, 3) := by decide +kernel
theorem dX11_fitsBut_20 : decode cX11_fitsBut 20 = .ok (.aload_n 0, 1) := by decide +kernel
theorem dX11_fitsBut_21 : decode cX11_fitsBut 21 = .ok (.iload_n 3, 1) := by decide +kernel
theorem dX11_fitsBut_22 : decode cX11_fitsBut 22 = .ok (.iload 4, 2) := by decide +kernel
theorem dX11_fitsBut_24 : decode cX11_fitsBut 24 = .ok (.iload_n 1, 1) := by decide +kernel
theorem dX11_fitsBut_25 : decode cX11_fitsBut 25 = .ok (.invokevirtual 342, 3) := by decide +kernel
theorem dX11_fitsBut_28 : decode cX11_fitsBut 28 = .ok (.ifCond .eq 39, 3) := by decide +kernel
theorem dX11_fitsBut_31 : decode cX11_fitsBut 31 = .ok (.aload_n 0, 1) := by decide +kernel
theorem dX11_fitsBut_32 : decode cX11_fitsBut 32 = .ok (.iload_n 2, 1) := by decide +kernel
theorem dX11_fitsBut_33 : decode cX11_fitsBut 33 = .ok (.ifCond .ne 7, 3) := by decide +kernel
theorem dX11_fitsBut_36 : decode cX11_fitsBut 36 = .ok (.iload_n 3, 1) := by decide +kernel
theorem dX11_fitsBut_37 : decode cX11_fitsBut 37 = .ok (.goto 7, 3) := by decide +kernel
theorem dX11_fitsBut_40 : decode cX11_fitsBut 40 = .ok (.aload_n 0, 1) := by decide +kernel
theorem dX11_fitsBut_41 : decode cX11_fitsBut 41 = .ok (.getfield 346, 3) := by decide +kernel
theorem dX11_fitsBut_44 : decode cX11_fitsBut 44 = .ok (.putfield 346, 3) := by decide +kernel
theorem dX11_fitsBut_47 : decode cX11_fitsBut 47 = .ok (.aload_n 0, 1) := by decide +kernel
theorem dX11_fitsBut_48 : decode cX11_fitsBut 48 = .ok (.iload_n 2, 1) := by decide +kernel
theorem dX11_fitsBut_49 : decode cX11_fitsBut 49 = .ok (.ifCond .ne 8, 3) := by decide +kernel
theorem dX11_fitsBut_52 : decode cX11_fitsBut 52 = .ok (.iload 4, 2) := by decide +kernel
theorem dX11_fitsBut_54 : decode cX11_fitsBut 54 = .ok (.goto 7, 3) := by decide +kernel
theorem dX11_fitsBut_57 : decode cX11_fitsBut 57 = .ok (.aload_n 0, 1) := by decide +kernel
theorem dX11_fitsBut_58 : decode cX11_fitsBut 58 = .ok (.getfield 349, 3) := by decide +kernel
theorem dX11_fitsBut_61 : decode cX11_fitsBut 61 = .ok (.putfield 349, 3) := by decide +kernel
theorem dX11_fitsBut_64 : decode cX11_fitsBut 64 = .ok (.iinc 2 1, 3) := by decide +kernel
theorem dX11_fitsBut_67 : decode cX11_fitsBut 67 = .ok (.iinc 4 1, 3) := by decide +kernel
theorem dX11_fitsBut_70 : decode cX11_fitsBut 70 = .ok (.goto (-56), 3) := by decide +kernel
theorem dX11_fitsBut_73 : decode cX11_fitsBut 73 = .ok (.iinc 3 1, 3) := by decide +kernel
theorem dX11_fitsBut_76 : decode cX11_fitsBut 76 = .ok (.goto (-72), 3) := by decide +kernel
theorem dX11_fitsBut_79 : decode cX11_fitsBut 79 = .ok (.iload_n 2, 1) := by decide +kernel
theorem dX11_fitsBut_80 : decode cX11_fitsBut 80 = .ok (.ireturn, 1) := by decide +kernel
theorem dX11_span_0 : decode cX11_span 0 = .ok (.iload_n 1, 1) := by decide +kernel
theorem dX11_span_1 : decode cX11_span 1 = .ok (.i2l, 1) := by decide +kernel
theorem dX11_span_2 : decode cX11_span 2 = .ok (.lconst 0, 1) := by decide +kernel
theorem dX11_span_3 : decode cX11_span 3 = .ok (.ldc2_w 287, 3) := by decide +kernel
theorem dX11_span_6 : decode cX11_span 6 = .ok (.invokestatic 70, 3) := by decide +kernel
theorem dX11_span_9 : decode cX11_span 9 = .ok (.ifCond .ne 5, 3) := by decide +kernel
theorem dX11_span_12 : decode cX11_span 12 = .ok (.iconst (-1), 1) := by decide +kernel
theorem dX11_span_13 : decode cX11_span 13 = .ok (.ireturn, 1) := by decide +kernel
theorem dX11_span_14 : decode cX11_span 14 = .ok (.aload_n 0, 1) := by decide +kernel
theorem dX11_span_15 : decode cX11_span 15 = .ok (.iconst (-1), 1) := by decide +kernel
theorem dX11_span_16 : decode cX11_span 16 = .ok (.invokevirtual 352, 3) := by decide +kernel
theorem dX11_span_19 : decode cX11_span 19 = .ok (.istore_n 2, 1) := by decide +kernel
theorem dX11_span_20 : decode cX11_span 20 = .ok (.iload_n 1, 1) := by decide +kernel
theorem dX11_span_21 : decode cX11_span 21 = .ok (.ifCond .ne 7, 3) := by decide +kernel
theorem dX11_span_24 : decode cX11_span 24 = .ok (.iload_n 2, 1) := by decide +kernel
theorem dX11_span_25 : decode cX11_span 25 = .ok (.goto 30, 3) := by decide +kernel
theorem dX11_span_28 : decode cX11_span 28 = .ok (.iload_n 2, 1) := by decide +kernel
theorem dX11_span_29 : decode cX11_span 29 = .ok (.ifCond .ne 8, 3) := by decide +kernel
theorem dX11_span_32 : decode cX11_span 32 = .ok (.bipush (-3), 2) := by decide +kernel
theorem dX11_span_34 : decode cX11_span 34 = .ok (.goto 21, 3) := by decide +kernel
theorem dX11_span_37 : decode cX11_span 37 = .ok (.iload_n 1, 1) := by decide +kernel
theorem dX11_span_38 : decode cX11_span 38 = .ok (.iconst 1, 1) := by decide +kernel
theorem dX11_span_39 : decode cX11_span 39 = .ok (.if_icmp .ne 10, 3) := by decide +kernel
theorem dX11_span_42 : decode cX11_span 42 = .ok (.aload_n 0, 1) := by decide +kernel
theorem dX11_span_43 : decode cX11_span 43 = .ok (.getfield 346, 3) := by decide +kernel
theorem dX11_span_46 : decode cX11_span 46 = .ok (.goto 9, 3) := by decide +kernel
theorem dX11_span_49 : decode cX11_span 49 = .ok (.aload_n 0, 1) := by decide +kernel
theorem dX11_span_50 : decode cX11_span 50 = .ok (.getfield 349, 3) := by decide +kernel
theorem dX11_span_53 : decode cX11_span 53 = .ok (.iconst 2, 1) := by decide +kernel
theorem dX11_span_54 : decode cX11_span 54 = .ok (.iadd, 1) := by decide +kernel
theorem dX11_span_55 : decode cX11_span 55 = .ok (.ireturn, 1) := by decide +kernel
theorem dX11_liar_0 : decode cX11_liar 0 = .ok (.aload_n 0, 1) := by decide +kernel
theorem dX11_liar_1 : decode cX11_liar 1 = .ok (.iconst (-1), 1) := by decide +kernel
theorem dX11_liar_2 : decode cX11_liar 2 = .ok (.invokevirtual 352, 3) := by decide +kernel
theorem dX11_liar_5 : decode cX11_liar 5 = .ok (.ifCond .le 6, 3) := by decide +kernel
theorem dX11_liar_8 : decode cX11_liar 8 = .ok (.bipush (-3), 2) := by decide +kernel
theorem dX11_liar_10 : decode cX11_liar 10 = .ok (.ireturn, 1) := by decide +kernel
theorem dX11_liar_11 : decode cX11_liar 11 = .ok (.iconst 0, 1) := by decide +kernel
theorem dX11_liar_12 : decode cX11_liar 12 = .ok (.istore_n 1, 1) := by decide +kernel
theorem dX11_liar_13 : decode cX11_liar 13 = .ok (.iload_n 1, 1) := by decide +kernel
theorem dX11_liar_14 : decode cX11_liar 14 = .ok (.aload_n 0, 1) := by decide +kernel
theorem dX11_liar_15 : decode cX11_liar 15 = .ok (.getfield 9, 3) := by decide +kernel
theorem dX11_liar_18 : decode cX11_liar 18 = .ok (.bipush 6, 2) := by decide +kernel
theorem dX11_liar_20 : decode cX11_liar 20 = .ok (.iaload, 1) := by decide +kernel
theorem dX11_liar_21 : decode cX11_liar 21 = .ok (.if_icmp .ge 19, 3) := by decide +kernel
theorem dX11_liar_24 : decode cX11_liar 24 = .ok (.aload_n 0, 1) := by decide +kernel
theorem dX11_liar_25 : decode cX11_liar 25 = .ok (.iload_n 1, 1) := by decide +kernel
theorem dX11_liar_26 : decode cX11_liar 26 = .ok (.invokevirtual 352, 3) := by decide +kernel
theorem dX11_liar_29 : decode cX11_liar 29 = .ok (.ifCond .le 5, 3) := by decide +kernel
theorem dX11_liar_32 : decode cX11_liar 32 = .ok (.iload_n 1, 1) := by decide +kernel
theorem dX11_liar_33 : decode cX11_liar 33 = .ok (.ireturn, 1) := by decide +kernel
theorem dX11_liar_34 : decode cX11_liar 34 = .ok (.iinc 1 1, 3) := by decide +kernel
theorem dX11_liar_37 : decode cX11_liar 37 = .ok (.goto (-24), 3) := by decide +kernel
theorem dX11_liar_40 : decode cX11_liar 40 = .ok (.bipush (-3), 2) := by decide +kernel
theorem dX11_liar_42 : decode cX11_liar 42 = .ok (.ireturn, 1) := by decide +kernel
theorem dX11_seed_0 : decode cX11_seed 0 = .ok (.aload_n 0, 1) := by decide +kernel
theorem dX11_seed_1 : decode cX11_seed 1 = .ok (.iconst 4, 1) := by decide +kernel
theorem dX11_seed_2 : decode cX11_seed 2 = .ok (.iload_n 1, 1) := by decide +kernel
theorem dX11_seed_3 : decode cX11_seed 3 = .ok (.invokevirtual 103, 3) := by decide +kernel
theorem dX11_seed_6 : decode cX11_seed 6 = .ok (.ireturn, 1) := by decide +kernel
theorem dX11_slips_0 : decode cX11_slips 0 = .ok (.aload_n 0, 1) := by decide +kernel
theorem dX11_slips_1 : decode cX11_slips 1 = .ok (.getfield 9, 3) := by decide +kernel
theorem dX11_slips_4 : decode cX11_slips 4 = .ok (.iconst 4, 1) := by decide +kernel
theorem dX11_slips_5 : decode cX11_slips 5 = .ok (.aload_n 0, 1) := by decide +kernel
theorem dX11_slips_6 : decode cX11_slips 6 = .ok (.getfield 9, 3) := by decide +kernel
theorem dX11_slips_9 : decode cX11_slips 9 = .ok (.iconst 4, 1) := by decide +kernel
theorem dX11_slips_10 : decode cX11_slips 10 = .ok (.iaload, 1) := by decide +kernel
theorem dX11_slips_11 : decode cX11_slips 11 = .ok (.ldc_w 355, 3) := by decide +kernel
theorem dX11_slips_14 : decode cX11_slips 14 = .ok (.imul, 1) := by decide +kernel
theorem dX11_slips_15 : decode cX11_slips 15 = .ok (.sipush 12345, 3) := by decide +kernel
theorem dX11_slips_18 : decode cX11_slips 18 = .ok (.iadd, 1) := by decide +kernel
theorem dX11_slips_19 : decode cX11_slips 19 = .ok (.iastore, 1) := by decide +kernel
theorem dX11_slips_20 : decode cX11_slips 20 = .ok (.bipush 31, 2) := by decide +kernel
theorem dX11_slips_22 : decode cX11_slips 22 = .ok (.aload_n 0, 1) := by decide +kernel
theorem dX11_slips_23 : decode cX11_slips 23 = .ok (.getfield 9, 3) := by decide +kernel
theorem dX11_slips_26 : decode cX11_slips 26 = .ok (.iconst 2, 1) := by decide +kernel
theorem dX11_slips_27 : decode cX11_slips 27 = .ok (.iaload, 1) := by decide +kernel
theorem dX11_slips_28 : decode cX11_slips 28 = .ok (.iadd, 1) := by decide +kernel
theorem dX11_slips_29 : decode cX11_slips 29 = .ok (.istore_n 1, 1) := by decide +kernel
theorem dX11_slips_30 : decode cX11_slips 30 = .ok (.aload_n 0, 1) := by decide +kernel
theorem dX11_slips_31 : decode cX11_slips 31 = .ok (.getfield 9, 3) := by decide +kernel
theorem dX11_slips_34 : decode cX11_slips 34 = .ok (.iload_n 1, 1) := by decide +kernel
theorem dX11_slips_35 : decode cX11_slips 35 = .ok (.aload_n 0, 1) := by decide +kernel
theorem dX11_slips_36 : decode cX11_slips 36 = .ok (.getfield 9, 3) := by decide +kernel
theorem dX11_slips_39 : decode cX11_slips 39 = .ok (.iload_n 1, 1) := by decide +kernel
theorem dX11_slips_40 : decode cX11_slips 40 = .ok (.iaload, 1) := by decide +kernel
theorem dX11_slips_41 : decode cX11_slips 41 = .ok (.aload_n 0, 1) := by decide +kernel
theorem dX11_slips_42 : decode cX11_slips 42 = .ok (.getfield 9, 3) := by decide +kernel
theorem dX11_slips_45 : decode cX11_slips 45 = .ok (.iconst 4, 1) := by decide +kernel
theorem dX11_slips_46 : decode cX11_slips 46 = .ok (.iaload, 1) := by decide +kernel
theorem dX11_slips_47 : decode cX11_slips 47 = .ok (.bipush 16, 2) := by decide +kernel
theorem dX11_slips_49 : decode cX11_slips 49 = .ok (.iushr, 1) := by decide +kernel
theorem dX11_slips_50 : decode cX11_slips 50 = .ok (.iconst 5, 1) := by decide +kernel
theorem dX11_slips_51 : decode cX11_slips 51 = .ok (.irem, 1) := by decide +kernel
theorem dX11_slips_52 : decode cX11_slips 52 = .ok (.iadd, 1) := by decide +kernel
theorem dX11_slips_53 : decode cX11_slips 53 = .ok (.iconst 2, 1) := by decide +kernel
theorem dX11_slips_54 : decode cX11_slips 54 = .ok (.isub, 1) := by decide +kernel
theorem dX11_slips_55 : decode cX11_slips 55 = .ok (.iconst 0, 1) := by decide +kernel
theorem dX11_slips_56 : decode cX11_slips 56 = .ok (.bipush 40, 2) := by decide +kernel
theorem dX11_slips_58 : decode cX11_slips 58 = .ok (.invokestatic 113, 3) := by decide +kernel
theorem dX11_slips_61 : decode cX11_slips 61 = .ok (.iastore, 1) := by decide +kernel
theorem dX11_slips_62 : decode cX11_slips 62 = .ok (.aload_n 0, 1) := by decide +kernel
theorem dX11_slips_63 : decode cX11_slips 63 = .ok (.iconst 0, 1) := by decide +kernel
theorem dX11_slips_64 : decode cX11_slips 64 = .ok (.invokevirtual 284, 3) := by decide +kernel
theorem dX11_slips_67 : decode cX11_slips 67 = .ok (.ireturn, 1) := by decide +kernel
theorem dX11_lot_0 : decode cX11_lot 0 = .ok (.aload_n 0, 1) := by decide +kernel
theorem dX11_lot_1 : decode cX11_lot 1 = .ok (.invokevirtual 96, 3) := by decide +kernel
theorem dX11_lot_4 : decode cX11_lot 4 = .ok (.ifCond .eq 8, 3) := by decide +kernel
theorem dX11_lot_7 : decode cX11_lot 7 = .ok (.bipush (-4), 2) := by decide +kernel
theorem dX11_lot_9 : decode cX11_lot 9 = .ok (.goto 7, 3) := by decide +kernel
theorem dX11_lot_12 : decode cX11_lot 12 = .ok (.aload_n 0, 1) := by decide +kernel
theorem dX11_lot_13 : decode cX11_lot 13 = .ok (.invokevirtual 356, 3) := by decide +kernel
theorem dX11_lot_16 : decode cX11_lot 16 = .ok (.ireturn, 1) := by decide +kernel
theorem dX11_often_0 : decode cX11_often 0 = .ok (.iload_n 1, 1) := by decide +kernel
theorem dX11_often_1 : decode cX11_often 1 = .ok (.i2l, 1) := by decide +kernel
theorem dX11_often_2 : decode cX11_often 2 = .ok (.lconst 1, 1) := by decide +kernel
theorem dX11_often_3 : decode cX11_often 3 = .ok (.ldc2_w 74, 3) := by decide +kernel
theorem dX11_often_6 : decode cX11_often 6 = .ok (.invokestatic 70, 3) := by decide +kernel
theorem dX11_often_9 : decode cX11_often 9 = .ok (.ifCond .eq 15, 3) := by decide +kernel
theorem dX11_often_12 : decode cX11_often 12 = .ok (.iload_n 2, 1) := by decide +kernel
theorem dX11_often_13 : decode cX11_often 13 = .ok (.i2l, 1) := by decide +kernel
theorem dX11_often_14 : decode cX11_often 14 = .ok (.lconst 0, 1) := by decide +kernel
theorem dX11_often_15 : decode cX11_often 15 = .ok (.ldc2_w 359, 3) := by decide +kernel
theorem dX11_often_18 : decode cX11_often 18 = .ok (.invokestatic 70, 3) := by decide +kernel
theorem dX11_often_21 : decode cX11_often 21 = .ok (.ifCond .ne 5, 3) := by decide +kernel
theorem dX11_often_24 : decode cX11_often 24 = .ok (.iconst (-1), 1) := by decide +kernel
theorem dX11_often_25 : decode cX11_often 25 = .ok (.ireturn, 1) := by decide +kernel
theorem dX11_often_26 : decode cX11_often 26 = .ok (.aload_n 0, 1) := by decide +kernel
theorem dX11_often_27 : decode cX11_often 27 = .ok (.getfield 9, 3) := by decide +kernel
theorem dX11_often_30 : decode cX11_often 30 = .ok (.aload_n 0, 1) := by decide +kernel
theorem dX11_often_31 : decode cX11_often 31 = .ok (.getfield 16, 3) := by decide +kernel
theorem dX11_often_34 : decode cX11_often 34 = .ok (.invokestatic 277, 3) := by decide +kernel
theorem dX11_often_37 : decode cX11_often 37 = .ok (.iconst 0, 1) := by decide +kernel
theorem dX11_often_38 : decode cX11_often 38 = .ok (.istore_n 3, 1) := by decide +kernel
theorem dX11_often_39 : decode cX11_often 39 = .ok (.iconst 0, 1) := by decide +kernel
theorem dX11_often_40 : decode cX11_often 40 = .ok (.istore 4, 2) := by decide +kernel
theorem dX11_often_42 : decode cX11_often 42 = .ok (.iload 4, 2) := by decide +kernel
theorem dX11_often_44 : decode cX11_often 44 = .ok (.iload_n 1, 1) := by decide +kernel
theorem dX11_often_45 : decode cX11_often 45 = .ok (.if_icmp .ge 72, 3) := by decide +kernel
theorem dX11_often_48 : decode cX11_often 48 = .ok (.aload_n 0, 1) := by decide +kernel
theorem dX11_often_49 : decode cX11_often 49 = .ok (.getfield 9, 3) := by decide +kernel
theorem dX11_often_52 : decode cX11_often 52 = .ok (.iconst 4, 1) := by decide +kernel
theorem dX11_often_53 : decode cX11_often 53 = .ok (.iaload, 1) := by decide +kernel
theorem dX11_often_54 : decode cX11_often 54 = .ok (.istore 5, 2) := by decide +kernel
theorem dX11_often_56 : decode cX11_often 56 = .ok (.aload_n 0, 1) := by decide +kernel
theorem dX11_often_57 : decode cX11_often 57 = .ok (.getfield 16, 3) := by decide +kernel
theorem dX11_often_60 : decode cX11_often 60 = .ok (.aload_n 0, 1) := by decide +kernel
theorem dX11_often_61 : decode cX11_often 61 = .ok (.getfield 9, 3) := by decide +kernel
theorem dX11_often_64 : decode cX11_often 64 = .ok (.invokestatic 277, 3) := by decide +kernel
theorem dX11_often_67 : decode cX11_often 67 = .ok (.aload_n 0, 1) := by decide +kernel
theorem dX11_often_68 : decode cX11_often 68 = .ok (.getfield 9, 3) := by decide +kernel
theorem dX11_often_71 : decode cX11_often 71 = .ok (.iconst 4, 1) := by decide +kernel
theorem dX11_often_72 : decode cX11_often 72 = .ok (.iload 5, 2) := by decide +kernel
theorem dX11_often_74 : decode cX11_often 74 = .ok (.iastore, 1) := by decide +kernel
theorem dX11_often_75 : decode cX11_often 75 = .ok (.iconst 0, 1) := by decide +kernel
theorem dX11_often_76 : decode cX11_often 76 = .ok (.istore 6, 2) := by decide +kernel
theorem dX11_often_78 : decode cX11_often 78 = .ok (.aload_n 0, 1) := by decide +kernel
theorem dX11_often_79 : decode cX11_often 79 = .ok (.invokevirtual 96, 3) := by decide +kernel
theorem dX11_often_82 : decode cX11_often 82 = .ok (.ifCond .ne 15, 3) := by decide +kernel
theorem dX11_often_85 : decode cX11_often 85 = .ok (.iload 6, 2) := by decide +kernel
theorem dX11_often_87 : decode cX11_often 87 = .ok (.aload_n 0, 1) := by decide +kernel
theorem dX11_often_88 : decode cX11_often 88 = .ok (.invokevirtual 356, 3) := by decide +kernel
theorem dX11_often_91 : decode cX11_often 91 = .ok (.iadd, 1) := by decide +kernel
theorem dX11_often_92 : decode cX11_often 92 = .ok (.istore 6, 2) := by decide +kernel
theorem dX11_often_94 : decode cX11_often 94 = .ok (.goto (-16), 3) := by decide +kernel
theorem dX11_often_97 : decode cX11_often 97 = .ok (.iload_n 3, 1) := by decide +kernel
theorem dX11_often_98 : decode cX11_often 98 = .ok (.iload 6, 2) := by decide +kernel
theorem dX11_often_100 : decode cX11_often 100 = .ok (.iload_n 2, 1) := by decide +kernel
theorem dX11_often_101 : decode cX11_often 101 = .ok (.if_icmp .lt 7, 3) := by decide +kernel
theorem dX11_often_104 : decode cX11_often 104 = .ok (.iconst 1, 1) := by decide +kernel
theorem dX11_often_105 : decode cX11_often 105 = .ok (.goto 4, 3) := by decide +kernel
theorem dX11_often_108 : decode cX11_often 108 = .ok (.iconst 0, 1) := by decide +kernel
theorem dX11_often_109 : decode cX11_often 109 = .ok (.iadd, 1) := by decide +kernel
theorem dX11_often_110 : decode cX11_often 110 = .ok (.istore_n 3, 1) := by decide +kernel
theorem dX11_often_111 : decode cX11_often 111 = .ok (.iinc 4 1, 3) := by decide +kernel
theorem dX11_often_114 : decode cX11_often 114 = .ok (.goto (-72), 3) := by decide +kernel
theorem dX11_often_117 : decode cX11_often 117 = .ok (.aload_n 0, 1) := by decide +kernel
theorem dX11_often_118 : decode cX11_often 118 = .ok (.getfield 16, 3) := by decide +kernel
theorem dX11_often_121 : decode cX11_often 121 = .ok (.aload_n 0, 1) := by decide +kernel
theorem dX11_often_122 : decode cX11_often 122 = .ok (.getfield 9, 3) := by decide +kernel
theorem dX11_often_125 : decode cX11_often 125 = .ok (.invokestatic 277, 3) := by decide +kernel
theorem dX11_often_128 : decode cX11_often 128 = .ok (.iload_n 3, 1) := by decide +kernel
theorem dX11_often_129 : decode cX11_often 129 = .ok (.ireturn, 1) := by decide +kernel
theorem dX11_prove_0 : decode cX11_prove 0 = .ok (.iload_n 1, 1) := by decide +kernel
theorem dX11_prove_1 : decode cX11_prove 1 = .ok (.i2l, 1) := by decide +kernel
theorem dX11_prove_2 : decode cX11_prove 2 = .ok (.lconst 0, 1) := by decide +kernel
theorem dX11_prove_3 : decode cX11_prove 3 = .ok (.ldc2_w 326, 3) := by decide +kernel
theorem dX11_prove_6 : decode cX11_prove 6 = .ok (.invokestatic 70, 3) := by decide +kernel
theorem dX11_prove_9 : decode cX11_prove 9 = .ok (.ifCond .ne 5, 3) := by decide +kernel
theorem dX11_prove_12 : decode cX11_prove 12 = .ok (.iconst (-1), 1) := by decide +kernel
theorem dX11_prove_13 : decode cX11_prove 13 = .ok (.ireturn, 1) := by decide +kernel
theorem dX11_prove_14 : decode cX11_prove 14 = .ok (.aload_n 0, 1) := by decide +kernel
theorem dX11_prove_15 : decode cX11_prove 15 = .ok (.iload_n 1, 1) := by decide +kernel
theorem dX11_prove_16 : decode cX11_prove 16 = .ok (.invokevirtual 328, 3) := by decide +kernel
theorem dX11_prove_19 : decode cX11_prove 19 = .ok (.aload_n 0, 1) := by decide +kernel
theorem dX11_prove_20 : decode cX11_prove 20 = .ok (.aload_n 0, 1) := by decide +kernel
theorem dX11_prove_21 : decode cX11_prove 21 = .ok (.getfield 319, 3) := by decide +kernel
theorem dX11_prove_24 : decode cX11_prove 24 = .ok (.putfield 361, 3) := by decide +kernel
theorem dX11_prove_27 : decode cX11_prove 27 = .ok (.aload_n 0, 1) := by decide +kernel
theorem dX11_prove_28 : decode cX11_prove 28 = .ok (.aload_n 0, 1) := by decide +kernel
theorem dX11_prove_29 : decode cX11_prove 29 = .ok (.getfield 28, 3) := by decide +kernel
theorem dX11_prove_32 : decode cX11_prove 32 = .ok (.invokevirtual 292, 3) := by decide +kernel
theorem dX11_prove_35 : decode cX11_prove 35 = .ok (.iconst 0, 1) := by decide +kernel
theorem dX11_prove_36 : decode cX11_prove 36 = .ok (.istore_n 2, 1) := by decide +kernel
theorem dX11_prove_37 : decode cX11_prove 37 = .ok (.iload_n 2, 1) := by decide +kernel
theorem dX11_prove_38 : decode cX11_prove 38 = .ok (.aload_n 0, 1) := by decide +kernel
theorem dX11_prove_39 : decode cX11_prove 39 = .ok (.getfield 361, 3) := by decide +kernel
theorem dX11_prove_42 : decode cX11_prove 42 = .ok (.if_icmp .ge 74, 3) := by decide +kernel
theorem dX11_prove_45 : decode cX11_prove 45 = .ok (.aload_n 0, 1) := by decide +kernel
theorem dX11_prove_46 : decode cX11_prove 46 = .ok (.getfield 9, 3) := by decide +kernel
theorem dX11_prove_49 : decode cX11_prove 49 = .ok (.bipush 31, 2) := by decide +kernel
theorem dX11_prove_51 : decode cX11_prove 51 = .ok (.aload_n 0, 1) := by decide +kernel
theorem dX11_prove_52 : decode cX11_prove 52 = .ok (.getfield 9, 3) := by decide +kernel
theorem dX11_prove_55 : decode cX11_prove 55 = .ok (.iconst 2, 1) := by decide +kernel
theorem dX11_prove_56 : decode cX11_prove 56 = .ok (.iaload, 1) := by decide +kernel
theorem dX11_prove_57 : decode cX11_prove 57 = .ok (.iadd, 1) := by decide +kernel
theorem dX11_prove_58 : decode cX11_prove 58 = .ok (.iaload, 1) := by decide +kernel
theorem dX11_prove_59 : decode cX11_prove 59 = .ok (.istore_n 3, 1) := by decide +kernel
theorem dX11_prove_60 : decode cX11_prove 60 = .ok (.aload_n 0, 1) := by decide +kernel
theorem dX11_prove_61 : decode cX11_prove 61 = .ok (.getfield 45, 3) := by decide +kernel
theorem dX11_prove_64 : decode cX11_prove 64 = .ok (.iconst 3, 1) := by decide +kernel
theorem dX11_prove_65 : decode cX11_prove 65 = .ok (.iload_n 2, 1) := by decide +kernel
theorem dX11_prove_66 : decode cX11_prove 66 = .ok (.imul, 1) := by decide +kernel
theorem dX11_prove_67 : decode cX11_prove 67 = .ok (.aload_n 0, 1) := by decide +kernel
theorem dX11_prove_68 : decode cX11_prove 68 = .ok (.getfield 42, 3) := by decide +kernel
theorem dX11_prove_71 : decode cX11_prove 71 = .ok (.iload_n 2, 1) := by decide +kernel
theorem dX11_prove_72 : decode cX11_prove 72 = .ok (.iaload, 1) := by decide +kernel
theorem dX11_prove_73 : decode cX11_prove 73 = .ok (.iastore, 1) := by decide +kernel
theorem dX11_prove_74 : decode cX11_prove 74 = .ok (.aload_n 0, 1) := by decide +kernel
theorem dX11_prove_75 : decode cX11_prove 75 = .ok (.getfield 45, 3) := by decide +kernel
theorem dX11_prove_78 : decode cX11_prove 78 = .ok (.iconst 3, 1) := by decide +kernel
theorem dX11_prove_79 : decode cX11_prove 79 = .ok (.iload_n 2, 1) := by decide +kernel
theorem dX11_prove_80 : decode cX11_prove 80 = .ok (.imul, 1) := by decide +kernel
theorem dX11_prove_81 : decode cX11_prove 81 = .ok (.iconst 1, 1) := by decide +kernel
theorem dX11_prove_82 : decode cX11_prove 82 = .ok (.iadd, 1) := by decide +kernel
theorem dX11_prove_83 : decode cX11_prove 83 = .ok (.aload_n 0, 1) := by decide +kernel
theorem dX11_prove_84 : decode cX11_prove 84 = .ok (.aload_n 0, 1) := by decide +kernel
theorem dX11_prove_85 : decode cX11_prove 85 = .ok (.getfield 42, 3) := by decide +kernel
theorem dX11_prove_88 : decode cX11_prove 88 = .ok (.iload_n 2, 1) := by decide +kernel
theorem dX11_prove_89 : decode cX11_prove 89 = .ok (.iaload, 1) := by decide +kernel
theorem dX11_prove_90 : decode cX11_prove 90 = .ok (.invokevirtual 284, 3) := by decide +kernel
theorem dX11_prove_93 : decode cX11_prove 93 = .ok (.iastore, 1) := by decide +kernel
theorem dX11_prove_94 : decode cX11_prove 94 = .ok (.aload_n 0, 1) := by decide +kernel
theorem dX11_prove_95 : decode cX11_prove 95 = .ok (.getfield 45, 3) := by decide +kernel
theorem dX11_prove_98 : decode cX11_prove 98 = .ok (.iconst 3, 1) := by decide +kernel
theorem dX11_prove_99 : decode cX11_prove 99 = .ok (.iload_n 2, 1) := by decide +kernel
theorem dX11_prove_100 : decode cX11_prove 100 = .ok (.imul, 1) := by decide +kernel
theorem dX11_prove_101 : decode cX11_prove 101 = .ok (.iconst 2, 1) := by decide +kernel
theorem dX11_prove_102 : decode cX11_prove 102 = .ok (.iadd, 1) := by decide +kernel
theorem dX11_prove_103 : decode cX11_prove 103 = .ok (.aload_n 0, 1) := by decide +kernel
theorem dX11_prove_104 : decode cX11_prove 104 = .ok (.iconst 2, 1) := by decide +kernel
theorem dX11_prove_105 : decode cX11_prove 105 = .ok (.iload_n 3, 1) := by decide +kernel
theorem dX11_prove_106 : decode cX11_prove 106 = .ok (.invokevirtual 289, 3) := by decide +kernel
theorem dX11_prove_109 : decode cX11_prove 109 = .ok (.iastore, 1) := by decide +kernel
theorem dX11_prove_110 : decode cX11_prove 110 = .ok (.iinc 2 1, 3) := by decide +kernel
theorem dX11_prove_113 : decode cX11_prove 113 = .ok (.goto (-76), 3) := by decide +kernel
theorem dX11_prove_116 : decode cX11_prove 116 = .ok (.aload_n 0, 1) := by decide +kernel
theorem dX11_prove_117 : decode cX11_prove 117 = .ok (.aload_n 0, 1) := by decide +kernel
theorem dX11_prove_118 : decode cX11_prove 118 = .ok (.getfield 28, 3) := by decide +kernel
theorem dX11_prove_121 : decode cX11_prove 121 = .ok (.invokevirtual 296, 3) := by decide +kernel
theorem dX11_prove_124 : decode cX11_prove 124 = .ok (.aload_n 0, 1) := by decide +kernel
theorem dX11_prove_125 : decode cX11_prove 125 = .ok (.getfield 361, 3) := by decide +kernel
theorem dX11_prove_128 : decode cX11_prove 128 = .ok (.ireturn, 1) := by decide +kernel
theorem dX11_isRow_0 : decode cX11_isRow 0 = .ok (.iload_n 1, 1) := by decide +kernel
theorem dX11_isRow_1 : decode cX11_isRow 1 = .ok (.i2l, 1) := by decide +kernel
theorem dX11_isRow_2 : decode cX11_isRow 2 = .ok (.lconst 0, 1) := by decide +kernel
theorem dX11_isRow_3 : decode cX11_isRow 3 = .ok (.aload_n 0, 1) := by decide +kernel
theorem dX11_isRow_4 : decode cX11_isRow 4 = .ok (.getfield 361, 3) := by decide +kernel
theorem dX11_isRow_7 : decode cX11_isRow 7 = .ok (.iconst 1, 1) := by decide +kernel
theorem dX11_isRow_8 : decode cX11_isRow 8 = .ok (.isub, 1) := by decide +kernel
theorem dX11_isRow_9 : decode cX11_isRow 9 = .ok (.i2l, 1) := by decide +kernel
theorem dX11_isRow_10 : decode cX11_isRow 10 = .ok (.invokestatic 70, 3) := by decide +kernel
theorem dX11_isRow_13 : decode cX11_isRow 13 = .ok (.ifCond .eq 19, 3) := by decide +kernel
theorem dX11_isRow_16 : decode cX11_isRow 16 = .ok (.iload_n 2, 1) := by decide +kernel
theorem dX11_isRow_17 : decode cX11_isRow 17 = .ok (.i2l, 1) := by decide +kernel
theorem dX11_isRow_18 : decode cX11_isRow 18 = .ok (.lconst 0, 1) := by decide +kernel
theorem dX11_isRow_19 : decode cX11_isRow 19 = .ok (.ldc2_w 287, 3) := by decide +kernel
theorem dX11_isRow_22 : decode cX11_isRow 22 = .ok (.invokestatic 70, 3) := by decide +kernel
theorem dX11_isRow_25 : decode cX11_isRow 25 = .ok (.ifCond .eq 7, 3) := by decide +kernel
theorem dX11_isRow_28 : decode cX11_isRow 28 = .ok (.iconst 1, 1) := by decide +kernel
theorem dX11_isRow_29 : decode cX11_isRow 29 = .ok (.goto 4, 3) := by decide +kernel
theorem dX11_isRow_32 : decode cX11_isRow 32 = .ok (.iconst 0, 1) := by decide +kernel
theorem dX11_isRow_33 : decode cX11_isRow 33 = .ok (.ireturn, 1) := by decide +kernel
theorem dX11_row_0 : decode cX11_row 0 = .ok (.aload_n 0, 1) := by decide +kernel
theorem dX11_row_1 : decode cX11_row 1 = .ok (.iload_n 1, 1) := by decide +kernel
theorem dX11_row_2 : decode cX11_row 2 = .ok (.iload_n 2, 1) := by decide +kernel
theorem dX11_row_3 : decode cX11_row 3 = .ok (.invokevirtual 364, 3) := by decide +kernel
theorem dX11_row_6 : decode cX11_row 6 = .ok (.ifCond .eq 16, 3) := by decide +kernel
theorem dX11_row_9 : decode cX11_row 9 = .ok (.aload_n 0, 1) := by decide +kernel
theorem dX11_row_10 : decode cX11_row 10 = .ok (.getfield 45, 3) := by decide +kernel
theorem dX11_row_13 : decode cX11_row 13 = .ok (.iconst 3, 1) := by decide +kernel
theorem dX11_row_14 : decode cX11_row 14 = .ok (.iload_n 1, 1) := by decide +kernel
theorem dX11_row_15 : decode cX11_row 15 = .ok (.imul, 1) := by decide +kernel
theorem dX11_row_16 : decode cX11_row 16 = .ok (.iload_n 2, 1) := by decide +kernel
theorem dX11_row_17 : decode cX11_row 17 = .ok (.iadd, 1) := by decide +kernel
theorem dX11_row_18 : decode cX11_row 18 = .ok (.iaload, 1) := by decide +kernel
theorem dX11_row_19 : decode cX11_row 19 = .ok (.goto 5, 3) := by decide +kernel
theorem dX11_row_22 : decode cX11_row 22 = .ok (.bipush (-9), 2) := by decide +kernel
theorem dX11_row_24 : decode cX11_row 24 = .ok (.ireturn, 1) := by decide +kernel
theorem dX11_alterRow_0 : decode cX11_alterRow 0 = .ok (.aload_n 0, 1) := by decide +kernel
theorem dX11_alterRow_1 : decode cX11_alterRow 1 = .ok (.iload_n 1, 1) := by decide +kernel
theorem dX11_alterRow_2 : decode cX11_alterRow 2 = .ok (.iload_n 2, 1) := by decide +kernel
theorem dX11_alterRow_3 : decode cX11_alterRow 3 = .ok (.invokevirtual 364, 3) := by decide +kernel
theorem dX11_alterRow_6 : decode cX11_alterRow 6 = .ok (.ifCond .ne 6, 3) := by decide +kernel
theorem dX11_alterRow_9 : decode cX11_alterRow 9 = .ok (.bipush (-9), 2) := by decide +kernel
theorem dX11_alterRow_11 : decode cX11_alterRow 11 = .ok (.ireturn, 1) := by decide +kernel
theorem dX11_alterRow_12 : decode cX11_alterRow 12 = .ok (.aload_n 0, 1) := by decide +kernel
theorem dX11_alterRow_13 : decode cX11_alterRow 13 = .ok (.getfield 45, 3) := by decide +kernel
theorem dX11_alterRow_16 : decode cX11_alterRow 16 = .ok (.iconst 3, 1) := by decide +kernel
theorem dX11_alterRow_17 : decode cX11_alterRow 17 = .ok (.iload_n 1, 1) := by decide +kernel
theorem dX11_alterRow_18 : decode cX11_alterRow 18 = .ok (.imul, 1) := by decide +kernel
theorem dX11_alterRow_19 : decode cX11_alterRow 19 = .ok (.iload_n 2, 1) := by decide +kernel
theorem dX11_alterRow_20 : decode cX11_alterRow 20 = .ok (.iadd, 1) := by decide +kernel
theorem dX11_alterRow_21 : decode cX11_alterRow 21 = .ok (.iaload, 1) := by decide +kernel
theorem dX11_alterRow_22 : decode cX11_alterRow 22 = .ok (.istore 4, 2) := by decide +kernel
theorem dX11_alterRow_24 : decode cX11_alterRow 24 = .ok (.aload_n 0, 1) := by decide +kernel
theorem dX11_alterRow_25 : decode cX11_alterRow 25 = .ok (.getfield 45, 3) := by decide +kernel
theorem dX11_alterRow_28 : decode cX11_alterRow 28 = .ok (.iconst 3, 1) := by decide +kernel
theorem dX11_alterRow_29 : decode cX11_alterRow 29 = .ok (.iload_n 1, 1) := by decide +kernel
theorem dX11_alterRow_30 : decode cX11_alterRow 30 = .ok (.imul, 1) := by decide +kernel
theorem dX11_alterRow_31 : decode cX11_alterRow 31 = .ok (.iload_n 2, 1) := by decide +kernel
theorem dX11_alterRow_32 : decode cX11_alterRow 32 = .ok (.iadd, 1) := by decide +kernel
theorem dX11_alterRow_33 : decode cX11_alterRow 33 = .ok (.iload_n 3, 1) := by decide +kernel
theorem dX11_alterRow_34 : decode cX11_alterRow 34 = .ok (.iastore, 1) := by decide +kernel
theorem dX11_alterRow_35 : decode cX11_alterRow 35 = .ok (.iload 4, 2) := by decide +kernel
theorem dX11_alterRow_37 : decode cX11_alterRow 37 = .ok (.ireturn, 1) := by decide +kernel
theorem dX11_isAct_0 : decode cX11_isAct 0 = .ok (.lload_n 1, 1) := by decide +kernel
theorem dX11_isAct_1 : decode cX11_isAct 1 = .ok (.lconst 0, 1) := by decide +kernel
theorem dX11_isAct_2 : decode cX11_isAct 2 = .ok (.aload_n 0, 1) := by decide +kernel
theorem dX11_isAct_3 : decode cX11_isAct 3 = .ok (.getfield 9, 3) := by decide +kernel
theorem dX11_isAct_6 : decode cX11_isAct 6 = .ok (.iconst 0, 1) := by decide +kernel
theorem dX11_isAct_7 : decode cX11_isAct 7 = .ok (.iaload, 1) := by decide +kernel
theorem dX11_isAct_8 : decode cX11_isAct 8 = .ok (.i2l, 1) := by decide +kernel
theorem dX11_isAct_9 : decode cX11_isAct 9 = .ok (.invokestatic 70, 3) := by decide +kernel
theorem dX11_isAct_12 : decode cX11_isAct 12 = .ok (.ireturn, 1) := by decide +kernel
theorem dX11_judge_0 : decode cX11_judge 0 = .ok (.aload_n 0, 1) := by decide +kernel
theorem dX11_judge_1 : decode cX11_judge 1 = .ok (.aload_n 0, 1) := by decide +kernel
theorem dX11_judge_2 : decode cX11_judge 2 = .ok (.getfield 28, 3) := by decide +kernel
theorem dX11_judge_5 : decode cX11_judge 5 = .ok (.invokevirtual 292, 3) := by decide +kernel
theorem dX11_judge_8 : decode cX11_judge 8 = .ok (.iconst 0, 1) := by decide +kernel
theorem dX11_judge_9 : decode cX11_judge 9 = .ok (.istore_n 1, 1) := by decide +kernel
theorem dX11_judge_10 : decode cX11_judge 10 = .ok (.iconst 0, 1) := by decide +kernel
theorem dX11_judge_11 : decode cX11_judge 11 = .ok (.istore_n 2, 1) := by decide +kernel
theorem dX11_judge_12 : decode cX11_judge 12 = .ok (.iload_n 2, 1) := by decide +kernel
theorem dX11_judge_13 : decode cX11_judge 13 = .ok (.aload_n 0, 1) := by decide +kernel
theorem dX11_judge_14 : decode cX11_judge 14 = .ok (.getfield 361, 3) := by decide +kernel
theorem dX11_judge_17 : decode cX11_judge 17 = .ok (.if_icmp .ge 125, 3) := by decide +kernel
theorem dX11_judge_20 : decode cX11_judge 20 = .ok (.iload_n 1, 1) := by decide +kernel
theorem dX11_judge_21 : decode cX11_judge 21 = .ok (.ifCond .ne 121, 3) := by decide +kernel
theorem dX11_judge_24 : decode cX11_judge 24 = .ok (.aload_n 0, 1) := by decide +kernel
theorem dX11_judge_25 : decode cX11_judge 25 = .ok (.aload_n 0, 1) := by decide +kernel
theorem dX11_judge_26 : decode cX11_judge 26 = .ok (.getfield 45, 3) := by decide +kernel
theorem dX11_judge_29 : decode cX11_judge 29 = .ok (.iconst 3, 1) := by decide +kernel
theorem dX11_judge_30 : decode cX11_judge 30 = .ok (.iload_n 2, 1) := by decide +kernel
theorem dX11_judge_31 : decode cX11_judge 31 = .ok (.imul, 1) := by decide +kernel
theorem dX11_judge_32 : decode cX11_judge 32 = .ok (.iaload, 1) := by decide +kernel
theorem dX11_judge_33 : decode cX11_judge 33 = .ok (.i2l, 1) := by decide +kernel
theorem dX11_judge_34 : decode cX11_judge 34 = .ok (.invokevirtual 367, 3) := by decide +kernel
theorem dX11_judge_37 : decode cX11_judge 37 = .ok (.ifCond .eq 14, 3) := by decide +kernel
theorem dX11_judge_40 : decode cX11_judge 40 = .ok (.aload_n 0, 1) := by decide +kernel
theorem dX11_judge_41 : decode cX11_judge 41 = .ok (.invokevirtual 96, 3) := by decide +kernel
theorem dX11_judge_44 : decode cX11_judge 44 = .ok (.ifCond .ne 7, 3) := by decide +kernel
theorem dX11_judge_47 : decode cX11_judge 47 = .ok (.iconst 1, 1) := by decide +kernel
theorem dX11_judge_48 : decode cX11_judge 48 = .ok (.goto 4, 3) := by decide +kernel
theorem dX11_judge_51 : decode cX11_judge 51 = .ok (.iconst 0, 1) := by decide +kernel
theorem dX11_judge_52 : decode cX11_judge 52 = .ok (.istore_n 3, 1) := by decide +kernel
theorem dX11_judge_53 : decode cX11_judge 53 = .ok (.iload_n 3, 1) := by decide +kernel
theorem dX11_judge_54 : decode cX11_judge 54 = .ok (.ifCond .eq 70, 3) := by decide +kernel
theorem dX11_judge_57 : decode cX11_judge 57 = .ok (.aload_n 0, 1) := by decide +kernel
theorem dX11_judge_58 : decode cX11_judge 58 = .ok (.getfield 9, 3) := by decide +kernel
theorem dX11_judge_61 : decode cX11_judge 61 = .ok (.bipush 31, 2) := by decide +kernel
theorem dX11_judge_63 : decode cX11_judge 63 = .ok (.aload_n 0, 1) := by decide +kernel
theorem dX11_judge_64 : decode cX11_judge 64 = .ok (.getfield 9, 3) := by decide +kernel
theorem dX11_judge_67 : decode cX11_judge 67 = .ok (.iconst 2, 1) := by decide +kernel
theorem dX11_judge_68 : decode cX11_judge 68 = .ok (.iaload, 1) := by decide +kernel
theorem dX11_judge_69 : decode cX11_judge 69 = .ok (.iadd, 1) := by decide +kernel
theorem dX11_judge_70 : decode cX11_judge 70 = .ok (.iaload, 1) := by decide +kernel
theorem dX11_judge_71 : decode cX11_judge 71 = .ok (.istore 4, 2) := by decide +kernel
theorem dX11_judge_73 : decode cX11_judge 73 = .ok (.aload_n 0, 1) := by decide +kernel
theorem dX11_judge_74 : decode cX11_judge 74 = .ok (.aload_n 0, 1) := by decide +kernel
theorem dX11_judge_75 : decode cX11_judge 75 = .ok (.getfield 45, 3) := by decide +kernel
theorem dX11_judge_78 : decode cX11_judge 78 = .ok (.iconst 3, 1) := by decide +kernel
theorem dX11_judge_79 : decode cX11_judge 79 = .ok (.iload_n 2, 1) := by decide +kernel
theorem dX11_judge_80 : decode cX11_judge 80 = .ok (.imul, 1) := by decide +kernel
theorem dX11_judge_81 : decode cX11_judge 81 = .ok (.iaload, 1) := by decide +kernel
theorem dX11_judge_82 : decode cX11_judge 82 = .ok (.invokevirtual 284, 3) := by decide +kernel
theorem dX11_judge_85 : decode cX11_judge 85 = .ok (.aload_n 0, 1) := by decide +kernel
theorem dX11_judge_86 : decode cX11_judge 86 = .ok (.getfield 45, 3) := by decide +kernel
theorem dX11_judge_89 : decode cX11_judge 89 = .ok (.iconst 3, 1) := by decide +kernel
theorem dX11_judge_90 : decode cX11_judge 90 = .ok (.iload_n 2, 1) := by decide +kernel
theorem dX11_judge_91 : decode cX11_judge 91 = .ok (.imul, 1) := by decide +kernel
theorem dX11_judge_92 : decode cX11_judge 92 = .ok (.iconst 1, 1) := by decide +kernel
theorem dX11_judge_93 : decode cX11_judge 93 = .ok (.iadd, 1) := by decide +kernel
theorem dX11_judge_94 : decode cX11_judge 94 = .ok (.iaload, 1) := by decide +kernel
theorem dX11_judge_95 : decode cX11_judge 95 = .ok (.if_icmp .ne 27, 3) := by decide +kernel
theorem dX11_judge_98 : decode cX11_judge 98 = .ok (.aload_n 0, 1) := by decide +kernel
theorem dX11_judge_99 : decode cX11_judge 99 = .ok (.iconst 2, 1) := by decide +kernel
theorem dX11_judge_100 : decode cX11_judge 100 = .ok (.iload 4, 2) := by decide +kernel
theorem dX11_judge_102 : decode cX11_judge 102 = .ok (.invokevirtual 289, 3) := by decide +kernel
theorem dX11_judge_105 : decode cX11_judge 105 = .ok (.aload_n 0, 1) := by decide +kernel
theorem dX11_judge_106 : decode cX11_judge 106 = .ok (.getfield 45, 3) := by decide +kernel
theorem dX11_judge_109 : decode cX11_judge 109 = .ok (.iconst 3, 1) := by decide +kernel
theorem dX11_judge_110 : decode cX11_judge 110 = .ok (.iload_n 2, 1) := by decide +kernel
theorem dX11_judge_111 : decode cX11_judge 111 = .ok (.imul, 1) := by decide +kernel
theorem dX11_judge_112 : decode cX11_judge 112 = .ok (.iconst 2, 1) := by decide +kernel
theorem dX11_judge_113 : decode cX11_judge 113 = .ok (.iadd, 1) := by decide +kernel
theorem dX11_judge_114 : decode cX11_judge 114 = .ok (.iaload, 1) := by decide +kernel
theorem dX11_judge_115 : decode cX11_judge 115 = .ok (.if_icmp .ne 7, 3) := by decide +kernel
theorem dX11_judge_118 : decode cX11_judge 118 = .ok (.iconst 1, 1) := by decide +kernel
theorem dX11_judge_119 : decode cX11_judge 119 = .ok (.goto 4, 3) := by decide +kernel
theorem dX11_judge_122 : decode cX11_judge 122 = .ok (.iconst 0, 1) := by decide +kernel
theorem dX11_judge_123 : decode cX11_judge 123 = .ok (.istore_n 3, 1) := by decide +kernel
theorem dX11_judge_124 : decode cX11_judge 124 = .ok (.iload_n 3, 1) := by decide +kernel
theorem dX11_judge_125 : decode cX11_judge 125 = .ok (.ifCond .eq 7, 3) := by decide +kernel
theorem dX11_judge_128 : decode cX11_judge 128 = .ok (.iconst 0, 1) := by decide +kernel
theorem dX11_judge_129 : decode cX11_judge 129 = .ok (.goto 6, 3) := by decide +kernel
theorem dX11_judge_132 : decode cX11_judge 132 = .ok (.iload_n 2, 1) := by decide +kernel
theorem dX11_judge_133 : decode cX11_judge 133 = .ok (.iconst 1, 1) := by decide +kernel
theorem dX11_judge_134 : decode cX11_judge 134 = .ok (.iadd, 1) := by decide +kernel
theorem dX11_judge_135 : decode cX11_judge 135 = .ok (.istore_n 1, 1) := by decide +kernel
theorem dX11_judge_136 : decode cX11_judge 136 = .ok (.iinc 2 1, 3) := by decide +kernel
theorem dX11_judge_139 : decode cX11_judge 139 = .ok (.goto (-127), 3) := by decide +kernel
theorem dX11_judge_142 : decode cX11_judge 142 = .ok (.aload_n 0, 1) := by decide +kernel
theorem dX11_judge_143 : decode cX11_judge 143 = .ok (.aload_n 0, 1) := by decide +kernel
theorem dX11_judge_144 : decode cX11_judge 144 = .ok (.getfield 28, 3) := by decide +kernel
theorem dX11_judge_147 : decode cX11_judge 147 = .ok (.invokevirtual 296, 3) := by decide +kernel
theorem dX11_judge_150 : decode cX11_judge 150 = .ok (.iload_n 1, 1) := by decide +kernel
theorem dX11_judge_151 : decode cX11_judge 151 = .ok (.ireturn, 1) := by decide +kernel
theorem dX11_isSheet_0 : decode cX11_isSheet 0 = .ok (.iload_n 0, 1) := by decide +kernel
theorem dX11_isSheet_1 : decode cX11_isSheet 1 = .ok (.i2l, 1) := by decide +kernel
theorem dX11_isSheet_2 : decode cX11_isSheet 2 = .ok (.lconst 0, 1) := by decide +kernel
theorem dX11_isSheet_3 : decode cX11_isSheet 3 = .ok (.ldc2_w 332, 3) := by decide +kernel
theorem dX11_isSheet_6 : decode cX11_isSheet 6 = .ok (.invokestatic 70, 3) := by decide +kernel
theorem dX11_isSheet_9 : decode cX11_isSheet 9 = .ok (.ireturn, 1) := by decide +kernel
theorem dX11_sheet_0 : decode cX11_sheet 0 = .ok (.iload_n 1, 1) := by decide +kernel
theorem dX11_sheet_1 : decode cX11_sheet 1 = .ok (.invokestatic 371, 3) := by decide +kernel
theorem dX11_sheet_4 : decode cX11_sheet 4 = .ok (.ifCond .eq 27, 3) := by decide +kernel
theorem dX11_sheet_7 : decode cX11_sheet 7 = .ok (.iload_n 2, 1) := by decide +kernel
theorem dX11_sheet_8 : decode cX11_sheet 8 = .ok (.i2l, 1) := by decide +kernel
theorem dX11_sheet_9 : decode cX11_sheet 9 = .ok (.ldc2_w 374, 3) := by decide +kernel
theorem dX11_sheet_12 : decode cX11_sheet 12 = .ok (.ldc2_w 326, 3) := by decide +kernel
theorem dX11_sheet_15 : decode cX11_sheet 15 = .ok (.invokestatic 70, 3) := by decide +kernel
theorem dX11_sheet_18 : decode cX11_sheet 18 = .ok (.ifCond .eq 13, 3) := by decide +kernel
theorem dX11_sheet_21 : decode cX11_sheet 21 = .ok (.iload_n 2, 1) := by decide +kernel
theorem dX11_sheet_22 : decode cX11_sheet 22 = .ok (.ifCond .lt 11, 3) := by decide +kernel
theorem dX11_sheet_25 : decode cX11_sheet 25 = .ok (.iload_n 3, 1) := by decide +kernel
theorem dX11_sheet_26 : decode cX11_sheet 26 = .ok (.bipush 40, 2) := by decide +kernel
theorem dX11_sheet_28 : decode cX11_sheet 28 = .ok (.if_icmp .le 5, 3) := by decide +kernel
theorem dX11_sheet_31 : decode cX11_sheet 31 = .ok (.iconst (-1), 1) := by decide +kernel
theorem dX11_sheet_32 : decode cX11_sheet 32 = .ok (.ireturn, 1) := by decide +kernel
theorem dX11_sheet_33 : decode cX11_sheet 33 = .ok (.iload_n 2, 1) := by decide +kernel
theorem dX11_sheet_34 : decode cX11_sheet 34 = .ok (.ifCond .lt 10, 3) := by decide +kernel
theorem dX11_sheet_37 : decode cX11_sheet 37 = .ok (.iload_n 3, 1) := by decide +kernel
theorem dX11_sheet_38 : decode cX11_sheet 38 = .ok (.ifCond .ge 6, 3) := by decide +kernel
theorem dX11_sheet_41 : decode cX11_sheet 41 = .ok (.bipush (-14), 2) := by decide +kernel
theorem dX11_sheet_43 : decode cX11_sheet 43 = .ok (.ireturn, 1) := by decide +kernel
theorem dX11_sheet_44 : decode cX11_sheet 44 = .ok (.aload_n 0, 1) := by decide +kernel
theorem dX11_sheet_45 : decode cX11_sheet 45 = .ok (.getfield 48, 3) := by decide +kernel
theorem dX11_sheet_48 : decode cX11_sheet 48 = .ok (.iload_n 1, 1) := by decide +kernel
theorem dX11_sheet_49 : decode cX11_sheet 49 = .ok (.iload_n 2, 1) := by decide +kernel
theorem dX11_sheet_50 : decode cX11_sheet 50 = .ok (.iastore, 1) := by decide +kernel
theorem dX11_sheet_51 : decode cX11_sheet 51 = .ok (.aload_n 0, 1) := by decide +kernel
theorem dX11_sheet_52 : decode cX11_sheet 52 = .ok (.getfield 51, 3) := by decide +kernel
theorem dX11_sheet_55 : decode cX11_sheet 55 = .ok (.iload_n 1, 1) := by decide +kernel
theorem dX11_sheet_56 : decode cX11_sheet 56 = .ok (.iload_n 2, 1) := by decide +kernel
theorem dX11_sheet_57 : decode cX11_sheet 57 = .ok (.ifCond .ge 7, 3) := by decide +kernel
theorem dX11_sheet_60 : decode cX11_sheet 60 = .ok (.iconst 0, 1) := by decide +kernel
theorem dX11_sheet_61 : decode cX11_sheet 61 = .ok (.goto 4, 3) := by decide +kernel
theorem dX11_sheet_64 : decode cX11_sheet 64 = .ok (.iload_n 3, 1) := by decide +kernel
theorem dX11_sheet_65 : decode cX11_sheet 65 = .ok (.iastore, 1) := by decide +kernel
theorem dX11_sheet_66 : decode cX11_sheet 66 = .ok (.iconst 0, 1) := by decide +kernel
theorem dX11_sheet_67 : decode cX11_sheet 67 = .ok (.istore 4, 2) := by decide +kernel
theorem dX11_sheet_69 : decode cX11_sheet 69 = .ok (.iload 4, 2) := by decide +kernel
theorem dX11_sheet_71 : decode cX11_sheet 71 = .ok (.bipush 40, 2) := by decide +kernel
theorem dX11_sheet_73 : decode cX11_sheet 73 = .ok (.if_icmp .ge 22, 3) := by decide +kernel
theorem dX11_sheet_76 : decode cX11_sheet 76 = .ok (.aload_n 0, 1) := by decide +kernel
theorem dX11_sheet_77 : decode cX11_sheet 77 = .ok (.getfield 54, 3) := by decide +kernel
theorem dX11_sheet_80 : decode cX11_sheet 80 = .ok (.bipush 40, 2) := by decide +kernel
theorem dX11_sheet_82 : decode cX11_sheet 82 = .ok (.iload_n 1, 1) := by decide +kernel
theorem dX11_sheet_83 : decode cX11_sheet 83 = .ok (.imul, 1) := by decide +kernel
theorem dX11_sheet_84 : decode cX11_sheet 84 = .ok (.iload 4, 2) := by decide +kernel
theorem dX11_sheet_86 : decode cX11_sheet 86 = .ok (.iadd, 1) := by decide +kernel
theorem dX11_sheet_87 : decode cX11_sheet 87 = .ok (.lconst 0, 1) := by decide +kernel
theorem dX11_sheet_88 : decode cX11_sheet 88 = .ok (.lastore, 1) := by decide +kernel
theorem dX11_sheet_89 : decode cX11_sheet 89 = .ok (.iinc 4 1, 3) := by decide +kernel
theorem dX11_sheet_92 : decode cX11_sheet 92 = .ok (.goto (-23), 3) := by decide +kernel
theorem dX11_sheet_95 : decode cX11_sheet 95 = .ok (.iconst 1, 1) := by decide +kernel
theorem dX11_sheet_96 : decode cX11_sheet 96 = .ok (.ireturn, 1) := by decide +kernel
theorem dX11_narrowed_0 : decode cX11_narrowed 0 = .ok (.iload_n 0, 1) := by decide +kernel
theorem dX11_narrowed_1 : decode cX11_narrowed 1 = .ok (.ifCond .ne 9, 3) := by decide +kernel
theorem dX11_narrowed_4 : decode cX11_narrowed 4 = .ok (.iload_n 1, 1) := by decide +kernel
theorem dX11_narrowed_5 : decode cX11_narrowed 5 = .ok (.i2b, 1) := by decide +kernel
theorem dX11_narrowed_6 : decode cX11_narrowed 6 = .ok (.i2l, 1) := by decide +kernel
theorem dX11_narrowed_7 : decode cX11_narrowed 7 = .ok (.goto 33, 3) := by decide +kernel
theorem dX11_narrowed_10 : decode cX11_narrowed 10 = .ok (.iload_n 0, 1) := by decide +kernel
theorem dX11_narrowed_11 : decode cX11_narrowed 11 = .ok (.iconst 1, 1) := by decide +kernel
theorem dX11_narrowed_12 : decode cX11_narrowed 12 = .ok (.if_icmp .ne 9, 3) := by decide +kernel
theorem dX11_narrowed_15 : decode cX11_narrowed 15 = .ok (.iload_n 1, 1) := by decide +kernel
theorem dX11_narrowed_16 : decode cX11_narrowed 16 = .ok (.i2s, 1) := by decide +kernel
theorem dX11_narrowed_17 : decode cX11_narrowed 17 = .ok (.i2l, 1) := by decide +kernel
theorem dX11_narrowed_18 : decode cX11_narrowed 18 = .ok (.goto 22, 3) := by decide +kernel
theorem dX11_narrowed_21 : decode cX11_narrowed 21 = .ok (.iload_n 0, 1) := by decide +kernel
theorem dX11_narrowed_22 : decode cX11_narrowed 22 = .ok (.iconst 4, 1) := by decide +kernel
theorem dX11_narrowed_23 : decode cX11_narrowed 23 = .ok (.if_icmp .ne 15, 3) := by decide +kernel
theorem dX11_narrowed_26 : decode cX11_narrowed 26 = .ok (.iload_n 1, 1) := by decide +kernel
theorem dX11_narrowed_27 : decode cX11_narrowed 27 = .ok (.ifCond .eq 7, 3) := by decide +kernel
theorem dX11_narrowed_30 : decode cX11_narrowed 30 = .ok (.lconst 1, 1) := by decide +kernel
theorem dX11_narrowed_31 : decode cX11_narrowed 31 = .ok (.goto 9, 3) := by decide +kernel
theorem dX11_narrowed_34 : decode cX11_narrowed 34 = .ok (.lconst 0, 1) := by decide +kernel
theorem dX11_narrowed_35 : decode cX11_narrowed 35 = .ok (.goto 5, 3) := by decide +kernel
theorem dX11_narrowed_38 : decode cX11_narrowed 38 = .ok (.iload_n 1, 1) := by decide +kernel
theorem dX11_narrowed_39 : decode cX11_narrowed 39 = .ok (.i2l, 1) := by decide +kernel
theorem dX11_narrowed_40 : decode cX11_narrowed 40 = .ok (.lreturn, 1) := by decide +kernel
theorem dX11_write_0 : decode cX11_write 0 = .ok (.iload_n 1, 1) := by decide +kernel
theorem dX11_write_1 : decode cX11_write 1 = .ok (.invokestatic 371, 3) := by decide +kernel
theorem dX11_write_4 : decode cX11_write 4 = .ok (.ifCond .ne 5, 3) := by decide +kernel
theorem dX11_write_7 : decode cX11_write 7 = .ok (.iconst (-1), 1) := by decide +kernel
theorem dX11_write_8 : decode cX11_write 8 = .ok (.ireturn, 1) := by decide +kernel
theorem dX11_write_9 : decode cX11_write 9 = .ok (.aload_n 0, 1) := by decide +kernel
theorem dX11_write_10 : decode cX11_write 10 = .ok (.getfield 48, 3) := by decide +kernel
theorem dX11_write_13 : decode cX11_write 13 = .ok (.iload_n 1, 1) := by decide +kernel
theorem dX11_write_14 : decode cX11_write 14 = .ok (.iaload, 1) := by decide +kernel
theorem dX11_write_15 : decode cX11_write 15 = .ok (.ifCond .ge 6, 3) := by decide +kernel
theorem dX11_write_18 : decode cX11_write 18 = .ok (.bipush (-11), 2) := by decide +kernel
theorem dX11_write_20 : decode cX11_write 20 = .ok (.ireturn, 1) := by decide +kernel
theorem dX11_write_21 : decode cX11_write 21 = .ok (.iload_n 2, 1) := by decide +kernel
theorem dX11_write_22 : decode cX11_write 22 = .ok (.i2l, 1) := by decide +kernel
theorem dX11_write_23 : decode cX11_write 23 = .ok (.lconst 0, 1) := by decide +kernel
theorem dX11_write_24 : decode cX11_write 24 = .ok (.aload_n 0, 1) := by decide +kernel
theorem dX11_write_25 : decode cX11_write 25 = .ok (.getfield 51, 3) := by decide +kernel
theorem dX11_write_28 : decode cX11_write 28 = .ok (.iload_n 1, 1) := by decide +kernel
theorem dX11_write_29 : decode cX11_write 29 = .ok (.iaload, 1) := by decide +kernel
theorem dX11_write_30 : decode cX11_write 30 = .ok (.iconst 1, 1) := by decide +kernel
theorem dX11_write_31 : decode cX11_write 31 = .ok (.isub, 1) := by decide +kernel
theorem dX11_write_32 : decode cX11_write 32 = .ok (.i2l, 1) := by decide +kernel
theorem dX11_write_33 : decode cX11_write 33 = .ok (.invokestatic 70, 3) := by decide +kernel
theorem dX11_write_36 : decode cX11_write 36 = .ok (.ifCond .ne 6, 3) := by decide +kernel
theorem dX11_write_39 : decode cX11_write 39 = .ok (.bipush (-12), 2) := by decide +kernel
theorem dX11_write_41 : decode cX11_write 41 = .ok (.ireturn, 1) := by decide +kernel
theorem dX11_write_42 : decode cX11_write 42 = .ok (.aload_n 0, 1) := by decide +kernel
theorem dX11_write_43 : decode cX11_write 43 = .ok (.getfield 54, 3) := by decide +kernel
theorem dX11_write_46 : decode cX11_write 46 = .ok (.bipush 40, 2) := by decide +kernel
theorem dX11_write_48 : decode cX11_write 48 = .ok (.iload_n 1, 1) := by decide +kernel
theorem dX11_write_49 : decode cX11_write 49 = .ok (.imul, 1) := by decide +kernel
theorem dX11_write_50 : decode cX11_write 50 = .ok (.iload_n 2, 1) := by decide +kernel
theorem dX11_write_51 : decode cX11_write 51 = .ok (.iadd, 1) := by decide +kernel
theorem dX11_write_52 : decode cX11_write 52 = .ok (.aload_n 0, 1) := by decide +kernel
theorem dX11_write_53 : decode cX11_write 53 = .ok (.getfield 48, 3) := by decide +kernel
theorem dX11_write_56 : decode cX11_write 56 = .ok (.iload_n 1, 1) := by decide +kernel
theorem dX11_write_57 : decode cX11_write 57 = .ok (.iaload, 1) := by decide +kernel
theorem dX11_write_58 : decode cX11_write 58 = .ok (.iload_n 3, 1) := by decide +kernel
theorem dX11_write_59 : decode cX11_write 59 = .ok (.invokestatic 376, 3) := by decide +kernel
theorem dX11_write_62 : decode cX11_write 62 = .ok (.lastore, 1) := by decide +kernel
theorem dX11_write_63 : decode cX11_write 63 = .ok (.iconst 1, 1) := by decide +kernel
theorem dX11_write_64 : decode cX11_write 64 = .ok (.ireturn, 1) := by decide +kernel
theorem dX11_item_0 : decode cX11_item 0 = .ok (.iload_n 1, 1) := by decide +kernel
theorem dX11_item_1 : decode cX11_item 1 = .ok (.invokestatic 371, 3) := by decide +kernel
theorem dX11_item_4 : decode cX11_item 4 = .ok (.ifCond .eq 15, 3) := by decide +kernel
theorem dX11_item_7 : decode cX11_item 7 = .ok (.iload_n 2, 1) := by decide +kernel
theorem dX11_item_8 : decode cX11_item 8 = .ok (.i2l, 1) := by decide +kernel
theorem dX11_item_9 : decode cX11_item 9 = .ok (.lconst 0, 1) := by decide +kernel
theorem dX11_item_10 : decode cX11_item 10 = .ok (.ldc2_w 326, 3) := by decide +kernel
theorem dX11_item_13 : decode cX11_item 13 = .ok (.invokestatic 70, 3) := by decide +kernel
theorem dX11_item_16 : decode cX11_item 16 = .ok (.ifCond .ne 5, 3) := by decide +kernel
theorem dX11_item_19 : decode cX11_item 19 = .ok (.iconst (-1), 1) := by decide +kernel
theorem dX11_item_20 : decode cX11_item 20 = .ok (.ireturn, 1) := by decide +kernel
theorem dX11_item_21 : decode cX11_item 21 = .ok (.aload_n 0, 1) := by decide +kernel
theorem dX11_item_22 : decode cX11_item 22 = .ok (.getfield 48, 3) := by decide +kernel
theorem dX11_item_25 : decode cX11_item 25 = .ok (.iload_n 1, 1) := by decide +kernel
theorem dX11_item_26 : decode cX11_item 26 = .ok (.iaload, 1) := by decide +kernel
theorem dX11_item_27 : decode cX11_item 27 = .ok (.ifCond .ge 6, 3) := by decide +kernel
theorem dX11_item_30 : decode cX11_item 30 = .ok (.bipush (-11), 2) := by decide +kernel
theorem dX11_item_32 : decode cX11_item 32 = .ok (.ireturn, 1) := by decide +kernel
theorem dX11_item_33 : decode cX11_item 33 = .ok (.aload_n 0, 1) := by decide +kernel
theorem dX11_item_34 : decode cX11_item 34 = .ok (.getfield 48, 3) := by decide +kernel
theorem dX11_item_37 : decode cX11_item 37 = .ok (.iload_n 1, 1) := by decide +kernel
theorem dX11_item_38 : decode cX11_item 38 = .ok (.iaload, 1) := by decide +kernel
theorem dX11_item_39 : decode cX11_item 39 = .ok (.iload_n 2, 1) := by decide +kernel
theorem dX11_item_40 : decode cX11_item 40 = .ok (.if_icmp .eq 6, 3) := by decide +kernel
theorem dX11_item_43 : decode cX11_item 43 = .ok (.bipush (-13), 2) := by decide +kernel
theorem dX11_item_45 : decode cX11_item 45 = .ok (.ireturn, 1) := by decide +kernel
theorem dX11_item_46 : decode cX11_item 46 = .ok (.iload_n 3, 1) := by decide +kernel
theorem dX11_item_47 : decode cX11_item 47 = .ok (.i2l, 1) := by decide +kernel
theorem dX11_item_48 : decode cX11_item 48 = .ok (.lconst 0, 1) := by decide +kernel
theorem dX11_item_49 : decode cX11_item 49 = .ok (.aload_n 0, 1) := by decide +kernel
theorem dX11_item_50 : decode cX11_item 50 = .ok (.getfield 51, 3) := by decide +kernel
theorem dX11_item_53 : decode cX11_item 53 = .ok (.iload_n 1, 1) := by decide +kernel
theorem dX11_item_54 : decode cX11_item 54 = .ok (.iaload, 1) := by decide +kernel
theorem dX11_item_55 : decode cX11_item 55 = .ok (.iconst 1, 1) := by decide +kernel
theorem dX11_item_56 : decode cX11_item 56 = .ok (.isub, 1) := by decide +kernel
theorem dX11_item_57 : decode cX11_item 57 = .ok (.i2l, 1) := by decide +kernel
theorem dX11_item_58 : decode cX11_item 58 = .ok (.invokestatic 70, 3) := by decide +kernel
theorem dX11_item_61 : decode cX11_item 61 = .ok (.ifCond .eq 18, 3) := by decide +kernel
theorem dX11_item_64 : decode cX11_item 64 = .ok (.aload_n 0, 1) := by decide +kernel
theorem dX11_item_65 : decode cX11_item 65 = .ok (.getfield 54, 3) := by decide +kernel
theorem dX11_item_68 : decode cX11_item 68 = .ok (.bipush 40, 2) := by decide +kernel
theorem dX11_item_70 : decode cX11_item 70 = .ok (.iload_n 1, 1) := by decide +kernel
theorem dX11_item_71 : decode cX11_item 71 = .ok (.imul, 1) := by decide +kernel
theorem dX11_item_72 : decode cX11_item 72 = .ok (.iload_n 3, 1) := by decide +kernel
theorem dX11_item_73 : decode cX11_item 73 = .ok (.iadd, 1) := by decide +kernel
theorem dX11_item_74 : decode cX11_item 74 = .ok (.laload, 1) := by decide +kernel
theorem dX11_item_75 : decode cX11_item 75 = .ok (.l2i, 1) := by decide +kernel
theorem dX11_item_76 : decode cX11_item 76 = .ok (.goto 5, 3) := by decide +kernel
theorem dX11_item_79 : decode cX11_item 79 = .ok (.bipush (-12), 2) := by decide +kernel
theorem dX11_item_81 : decode cX11_item 81 = .ok (.ireturn, 1) := by decide +kernel
theorem dX11_noActs_0 : decode cX11_noActs 0 = .ok (.iload_n 1, 1) := by decide +kernel
theorem dX11_noActs_1 : decode cX11_noActs 1 = .ok (.invokestatic 371, 3) := by decide +kernel
theorem dX11_noActs_4 : decode cX11_noActs 4 = .ok (.ifCond .eq 15, 3) := by decide +kernel
theorem dX11_noActs_7 : decode cX11_noActs 7 = .ok (.iload_n 2, 1) := by decide +kernel
theorem dX11_noActs_8 : decode cX11_noActs 8 = .ok (.i2l, 1) := by decide +kernel
theorem dX11_noActs_9 : decode cX11_noActs 9 = .ok (.lconst 0, 1) := by decide +kernel
theorem dX11_noActs_10 : decode cX11_noActs 10 = .ok (.ldc2_w 380, 3) := by decide +kernel
theorem dX11_noActs_13 : decode cX11_noActs 13 = .ok (.invokestatic 70, 3) := by decide +kernel
theorem dX11_noActs_16 : decode cX11_noActs 16 = .ok (.ifCond .ne 5, 3) := by decide +kernel
theorem dX11_noActs_19 : decode cX11_noActs 19 = .ok (.iconst (-1), 1) := by decide +kernel
theorem dX11_noActs_20 : decode cX11_noActs 20 = .ok (.ireturn, 1) := by decide +kernel
theorem dX11_noActs_21 : decode cX11_noActs 21 = .ok (.aload_n 0, 1) := by decide +kernel
theorem dX11_noActs_22 : decode cX11_noActs 22 = .ok (.getfield 48, 3) := by decide +kernel
theorem dX11_noActs_25 : decode cX11_noActs 25 = .ok (.iload_n 1, 1) := by decide +kernel
theorem dX11_noActs_26 : decode cX11_noActs 26 = .ok (.iaload, 1) := by decide +kernel
theorem dX11_noActs_27 : decode cX11_noActs 27 = .ok (.ifCond .ge 8, 3) := by decide +kernel
theorem dX11_noActs_30 : decode cX11_noActs 30 = .ok (.bipush (-11), 2) := by decide +kernel
theorem dX11_noActs_32 : decode cX11_noActs 32 = .ok (.goto 18, 3) := by decide +kernel
theorem dX11_noActs_35 : decode cX11_noActs 35 = .ok (.aload_n 0, 1) := by decide +kernel
theorem dX11_noActs_36 : decode cX11_noActs 36 = .ok (.getfield 48, 3) := by decide +kernel
theorem dX11_noActs_39 : decode cX11_noActs 39 = .ok (.iload_n 1, 1) := by decide +kernel
theorem dX11_noActs_40 : decode cX11_noActs 40 = .ok (.iaload, 1) := by decide +kernel
theorem dX11_noActs_41 : decode cX11_noActs 41 = .ok (.ifCond .ne 7, 3) := by decide +kernel
theorem dX11_noActs_44 : decode cX11_noActs 44 = .ok (.iconst 0, 1) := by decide +kernel
theorem dX11_noActs_45 : decode cX11_noActs 45 = .ok (.goto 5, 3) := by decide +kernel
theorem dX11_noActs_48 : decode cX11_noActs 48 = .ok (.bipush (-13), 2) := by decide +kernel
theorem dX11_noActs_50 : decode cX11_noActs 50 = .ok (.ireturn, 1) := by decide +kernel
theorem dX11_hasItem_0 : decode cX11_hasItem 0 = .ok (.lload_n 2, 1) := by decide +kernel
theorem dX11_hasItem_1 : decode cX11_hasItem 1 = .ok (.lconst 0, 1) := by decide +kernel
theorem dX11_hasItem_2 : decode cX11_hasItem 2 = .ok (.aload_n 0, 1) := by decide +kernel
theorem dX11_hasItem_3 : decode cX11_hasItem 3 = .ok (.getfield 51, 3) := by decide +kernel
theorem dX11_hasItem_6 : decode cX11_hasItem 6 = .ok (.iload_n 1, 1) := by decide +kernel
theorem dX11_hasItem_7 : decode cX11_hasItem 7 = .ok (.iaload, 1) := by decide +kernel
theorem dX11_hasItem_8 : decode cX11_hasItem 8 = .ok (.iconst 1, 1) := by decide +kernel
theorem dX11_hasItem_9 : decode cX11_hasItem 9 = .ok (.isub, 1) := by decide +kernel
theorem dX11_hasItem_10 : decode cX11_hasItem 10 = .ok (.i2l, 1) := by decide +kernel
theorem dX11_hasItem_11 : decode cX11_hasItem 11 = .ok (.invokestatic 70, 3) := by decide +kernel
theorem dX11_hasItem_14 : decode cX11_hasItem 14 = .ok (.ireturn, 1) := by decide +kernel
theorem dX11_goAll_0 : decode cX11_goAll 0 = .ok (.aload_n 0, 1) := by decide +kernel
theorem dX11_goAll_1 : decode cX11_goAll 1 = .ok (.iload_n 1, 1) := by decide +kernel
theorem dX11_goAll_2 : decode cX11_goAll 2 = .ok (.iload_n 3, 1) := by decide +kernel
theorem dX11_goAll_3 : decode cX11_goAll 3 = .ok (.invokevirtual 382, 3) := by decide +kernel
theorem dX11_goAll_6 : decode cX11_goAll 6 = .ok (.istore 4, 2) := by decide +kernel
theorem dX11_goAll_8 : decode cX11_goAll 8 = .ok (.iload 4, 2) := by decide +kernel
theorem dX11_goAll_10 : decode cX11_goAll 10 = .ok (.ifCond .eq 6, 3) := by decide +kernel
theorem dX11_goAll_13 : decode cX11_goAll 13 = .ok (.iload 4, 2) := by decide +kernel
theorem dX11_goAll_15 : decode cX11_goAll 15 = .ok (.ireturn, 1) := by decide +kernel
theorem dX11_goAll_16 : decode cX11_goAll 16 = .ok (.iconst 0, 1) := by decide +kernel
theorem dX11_goAll_17 : decode cX11_goAll 17 = .ok (.istore 5, 2) := by decide +kernel
theorem dX11_goAll_19 : decode cX11_goAll 19 = .ok (.iconst 0, 1) := by decide +kernel
theorem dX11_goAll_20 : decode cX11_goAll 20 = .ok (.istore 6, 2) := by decide +kernel
theorem dX11_goAll_22 : decode cX11_goAll 22 = .ok (.iload 6, 2) := by decide +kernel
theorem dX11_goAll_24 : decode cX11_goAll 24 = .ok (.iload_n 3, 1) := by decide +kernel
theorem dX11_goAll_25 : decode cX11_goAll 25 = .ok (.if_icmp .ge 75, 3) := by decide +kernel
theorem dX11_goAll_28 : decode cX11_goAll 28 = .ok (.aload_n 0, 1) := by decide +kernel
theorem dX11_goAll_29 : decode cX11_goAll 29 = .ok (.iload_n 1, 1) := by decide +kernel
theorem dX11_goAll_30 : decode cX11_goAll 30 = .ok (.iload_n 2, 1) := by decide +kernel
theorem dX11_goAll_31 : decode cX11_goAll 31 = .ok (.i2l, 1) := by decide +kernel
theorem dX11_goAll_32 : decode cX11_goAll 32 = .ok (.iload 6, 2) := by decide +kernel
theorem dX11_goAll_34 : decode cX11_goAll 34 = .ok (.i2l, 1) := by decide +kernel
theorem dX11_goAll_35 : decode cX11_goAll 35 = .ok (.ladd, 1) := by decide +kernel
theorem dX11_goAll_36 : decode cX11_goAll 36 = .ok (.invokevirtual 385, 3) := by decide +kernel
theorem dX11_goAll_39 : decode cX11_goAll 39 = .ok (.ifCond .ne 6, 3) := by decide +kernel
theorem dX11_goAll_42 : decode cX11_goAll 42 = .ok (.bipush (-12), 2) := by decide +kernel
theorem dX11_goAll_44 : decode cX11_goAll 44 = .ok (.ireturn, 1) := by decide +kernel
theorem dX11_goAll_45 : decode cX11_goAll 45 = .ok (.aload_n 0, 1) := by decide +kernel
theorem dX11_goAll_46 : decode cX11_goAll 46 = .ok (.getfield 54, 3) := by decide +kernel
theorem dX11_goAll_49 : decode cX11_goAll 49 = .ok (.bipush 40, 2) := by decide +kernel
theorem dX11_goAll_51 : decode cX11_goAll 51 = .ok (.iload_n 1, 1) := by decide +kernel
theorem dX11_goAll_52 : decode cX11_goAll 52 = .ok (.imul, 1) := by decide +kernel
theorem dX11_goAll_53 : decode cX11_goAll 53 = .ok (.iload_n 2, 1) := by decide +kernel
theorem dX11_goAll_54 : decode cX11_goAll 54 = .ok (.iadd, 1) := by decide +kernel
theorem dX11_goAll_55 : decode cX11_goAll 55 = .ok (.iload 6, 2) := by decide +kernel
theorem dX11_goAll_57 : decode cX11_goAll 57 = .ok (.iadd, 1) := by decide +kernel
theorem dX11_goAll_58 : decode cX11_goAll 58 = .ok (.laload, 1) := by decide +kernel
theorem dX11_goAll_59 : decode cX11_goAll 59 = .ok (.l2i, 1) := by decide +kernel
theorem dX11_goAll_60 : decode cX11_goAll 60 = .ok (.istore 7, 2) := by decide +kernel
theorem dX11_goAll_62 : decode cX11_goAll 62 = .ok (.iload 5, 2) := by decide +kernel
theorem dX11_goAll_64 : decode cX11_goAll 64 = .ok (.aload_n 0, 1) := by decide +kernel
theorem dX11_goAll_65 : decode cX11_goAll 65 = .ok (.iload 7, 2) := by decide +kernel
theorem dX11_goAll_67 : decode cX11_goAll 67 = .ok (.i2l, 1) := by decide +kernel
theorem dX11_goAll_68 : decode cX11_goAll 68 = .ok (.invokevirtual 367, 3) := by decide +kernel
theorem dX11_goAll_71 : decode cX11_goAll 71 = .ok (.ifCond .eq 19, 3) := by decide +kernel
theorem dX11_goAll_74 : decode cX11_goAll 74 = .ok (.aload_n 0, 1) := by decide +kernel
theorem dX11_goAll_75 : decode cX11_goAll 75 = .ok (.invokevirtual 96, 3) := by decide +kernel
theorem dX11_goAll_78 : decode cX11_goAll 78 = .ok (.ifCond .ne 12, 3) := by decide +kernel
theorem dX11_goAll_81 : decode cX11_goAll 81 = .ok (.aload_n 0, 1) := by decide +kernel
theorem dX11_goAll_82 : decode cX11_goAll 82 = .ok (.iload 7, 2) := by decide +kernel
theorem dX11_goAll_84 : decode cX11_goAll 84 = .ok (.invokevirtual 284, 3) := by decide +kernel
theorem dX11_goAll_87 : decode cX11_goAll 87 = .ok (.goto 4, 3) := by decide +kernel
theorem dX11_goAll_90 : decode cX11_goAll 90 = .ok (.iconst 0, 1) := by decide +kernel
theorem dX11_goAll_91 : decode cX11_goAll 91 = .ok (.iadd, 1) := by decide +kernel
theorem dX11_goAll_92 : decode cX11_goAll 92 = .ok (.istore 5, 2) := by decide +kernel
theorem dX11_goAll_94 : decode cX11_goAll 94 = .ok (.iinc 6 1, 3) := by decide +kernel
theorem dX11_goAll_97 : decode cX11_goAll 97 = .ok (.goto (-75), 3) := by decide +kernel
theorem dX11_goAll_100 : decode cX11_goAll 100 = .ok (.iload 5, 2) := by decide +kernel
theorem dX11_goAll_102 : decode cX11_goAll 102 = .ok (.ireturn, 1) := by decide +kernel
theorem dX11_worthOfItems_0 : decode cX11_worthOfItems 0 = .ok (.iconst 0, 1) := by decide +kernel
theorem dX11_worthOfItems_1 : decode cX11_worthOfItems 1 = .ok (.istore 4, 2) := by decide +kernel
theorem dX11_worthOfItems_3 : decode cX11_worthOfItems 3 = .ok (.iconst 0, 1) := by decide +kernel
theorem dX11_worthOfItems_4 : decode cX11_worthOfItems 4 = .ok (.istore 5, 2) := by decide +kernel
theorem dX11_worthOfItems_6 : decode cX11_worthOfItems 6 = .ok (.iload 5, 2) := by decide +kernel
theorem dX11_worthOfItems_8 : decode cX11_worthOfItems 8 = .ok (.iload_n 3, 1) := by decide +kernel
theorem dX11_worthOfItems_9 : decode cX11_worthOfItems 9 = .ok (.if_icmp .ge 74, 3) := by decide +kernel
theorem dX11_worthOfItems_12 : decode cX11_worthOfItems 12 = .ok (.aload_n 0, 1) := by decide +kernel
theorem dX11_worthOfItems_13 : decode cX11_worthOfItems 13 = .ok (.iload_n 1, 1) := by decide +kernel
theorem dX11_worthOfItems_14 : decode cX11_worthOfItems 14 = .ok (.iload_n 2, 1) := by decide +kernel
theorem dX11_worthOfItems_15 : decode cX11_worthOfItems 15 = .ok (.i2l, 1) := by decide +kernel
theorem dX11_worthOfItems_16 : decode cX11_worthOfItems 16 = .ok (.iload 5, 2) := by decide +kernel
theorem dX11_worthOfItems_18 : decode cX11_worthOfItems 18 = .ok (.i2l, 1) := by decide +kernel
theorem dX11_worthOfItems_19 : decode cX11_worthOfItems 19 = .ok (.ladd, 1) := by decide +kernel
theorem dX11_worthOfItems_20 : decode cX11_worthOfItems 20 = .ok (.invokevirtual 385, 3) := by decide +kernel
theorem dX11_worthOfItems_23 : decode cX11_worthOfItems 23 = .ok (.ifCond .ne 6, 3) := by decide +kernel
theorem dX11_worthOfItems_26 : decode cX11_worthOfItems 26 = .ok (.bipush (-12), 2) := by decide +kernel
theorem dX11_worthOfItems_28 : decode cX11_worthOfItems 28 = .ok (.ireturn, 1) := by decide +kernel
theorem dX11_worthOfItems_29 : decode cX11_worthOfItems 29 = .ok (.aload_n 0, 1) := by decide +kernel
theorem dX11_worthOfItems_30 : decode cX11_worthOfItems 30 = .ok (.getfield 54, 3) := by decide +kernel
theorem dX11_worthOfItems_33 : decode cX11_worthOfItems 33 = .ok (.bipush 40, 2) := by decide +kernel
theorem dX11_worthOfItems_35 : decode cX11_worthOfItems 35 = .ok (.iload_n 1, 1) := by decide +kernel
theorem dX11_worthOfItems_36 : decode cX11_worthOfItems 36 = .ok (.imul, 1) := by decide +kernel
theorem dX11_worthOfItems_37 : decode cX11_worthOfItems 37 = .ok (.iload_n 2, 1) := by decide +kernel
theorem dX11_worthOfItems_38 : decode cX11_worthOfItems 38 = .ok (.iadd, 1) := by decide +kernel
theorem dX11_worthOfItems_39 : decode cX11_worthOfItems 39 = .ok (.iload 5, 2) := by decide +kernel
theorem dX11_worthOfItems_41 : decode cX11_worthOfItems 41 = .ok (.iadd, 1) := by decide +kernel
theorem dX11_worthOfItems_42 : decode cX11_worthOfItems 42 = .ok (.laload, 1) := by decide +kernel
theorem dX11_worthOfItems_43 : decode cX11_worthOfItems 43 = .ok (.l2i, 1) := by decide +kernel
theorem dX11_worthOfItems_44 : decode cX11_worthOfItems 44 = .ok (.istore 6, 2) := by decide +kernel
theorem dX11_worthOfItems_46 : decode cX11_worthOfItems 46 = .ok (.aload_n 0, 1) := by decide +kernel
theorem dX11_worthOfItems_47 : decode cX11_worthOfItems 47 = .ok (.iload 6, 2) := by decide +kernel
theorem dX11_worthOfItems_49 : decode cX11_worthOfItems 49 = .ok (.i2l, 1) := by decide +kernel
theorem dX11_worthOfItems_50 : decode cX11_worthOfItems 50 = .ok (.invokevirtual 367, 3) := by decide +kernel
theorem dX11_worthOfItems_53 : decode cX11_worthOfItems 53 = .ok (.ifCond .eq 10, 3) := by decide +kernel
theorem dX11_worthOfItems_56 : decode cX11_worthOfItems 56 = .ok (.aload_n 0, 1) := by decide +kernel
theorem dX11_worthOfItems_57 : decode cX11_worthOfItems 57 = .ok (.invokevirtual 96, 3) := by decide +kernel
theorem dX11_worthOfItems_60 : decode cX11_worthOfItems 60 = .ok (.ifCond .eq 6, 3) := by decide +kernel
theorem dX11_worthOfItems_63 : decode cX11_worthOfItems 63 = .ok (.bipush (-4), 2) := by decide +kernel
theorem dX11_worthOfItems_65 : decode cX11_worthOfItems 65 = .ok (.ireturn, 1) := by decide +kernel
theorem dX11_worthOfItems_66 : decode cX11_worthOfItems 66 = .ok (.iload 4, 2) := by decide +kernel
theorem dX11_worthOfItems_68 : decode cX11_worthOfItems 68 = .ok (.aload_n 0, 1) := by decide +kernel
theorem dX11_worthOfItems_69 : decode cX11_worthOfItems 69 = .ok (.iload 6, 2) := by decide +kernel
theorem dX11_worthOfItems_71 : decode cX11_worthOfItems 71 = .ok (.invokevirtual 284, 3) := by decide +kernel
theorem dX11_worthOfItems_74 : decode cX11_worthOfItems 74 = .ok (.iadd, 1) := by decide +kernel
theorem dX11_worthOfItems_75 : decode cX11_worthOfItems 75 = .ok (.istore 4, 2) := by decide +kernel
theorem dX11_worthOfItems_77 : decode cX11_worthOfItems 77 = .ok (.iinc 5 1, 3) := by decide +kernel
theorem dX11_worthOfItems_80 : decode cX11_worthOfItems 80 = .ok (.goto (-74), 3) := by decide +kernel
theorem dX11_worthOfItems_83 : decode cX11_worthOfItems 83 = .ok (.iload 4, 2) := by decide +kernel
theorem dX11_worthOfItems_85 : decode cX11_worthOfItems 85 = .ok (.ireturn, 1) := by decide +kernel
theorem dX11_wouldBe_0 : decode cX11_wouldBe 0 = .ok (.aload_n 0, 1) := by decide +kernel
theorem dX11_wouldBe_1 : decode cX11_wouldBe 1 = .ok (.iload_n 1, 1) := by decide +kernel
theorem dX11_wouldBe_2 : decode cX11_wouldBe 2 = .ok (.iload_n 3, 1) := by decide +kernel
theorem dX11_wouldBe_3 : decode cX11_wouldBe 3 = .ok (.invokevirtual 382, 3) := by decide +kernel
theorem dX11_wouldBe_6 : decode cX11_wouldBe 6 = .ok (.istore 4, 2) := by decide +kernel
theorem dX11_wouldBe_8 : decode cX11_wouldBe 8 = .ok (.iload 4, 2) := by decide +kernel
theorem dX11_wouldBe_10 : decode cX11_wouldBe 10 = .ok (.ifCond .eq 6, 3) := by decide +kernel
theorem dX11_wouldBe_13 : decode cX11_wouldBe 13 = .ok (.iload 4, 2) := by decide +kernel
theorem dX11_wouldBe_15 : decode cX11_wouldBe 15 = .ok (.ireturn, 1) := by decide +kernel
theorem dX11_wouldBe_16 : decode cX11_wouldBe 16 = .ok (.aload_n 0, 1) := by decide +kernel
theorem dX11_wouldBe_17 : decode cX11_wouldBe 17 = .ok (.aload_n 0, 1) := by decide +kernel
theorem dX11_wouldBe_18 : decode cX11_wouldBe 18 = .ok (.getfield 28, 3) := by decide +kernel
theorem dX11_wouldBe_21 : decode cX11_wouldBe 21 = .ok (.invokevirtual 292, 3) := by decide +kernel
theorem dX11_wouldBe_24 : decode cX11_wouldBe 24 = .ok (.aload_n 0, 1) := by decide +kernel
theorem dX11_wouldBe_25 : decode cX11_wouldBe 25 = .ok (.iload_n 1, 1) := by decide +kernel
theorem dX11_wouldBe_26 : decode cX11_wouldBe 26 = .ok (.iload_n 2, 1) := by decide +kernel
theorem dX11_wouldBe_27 : decode cX11_wouldBe 27 = .ok (.iload_n 3, 1) := by decide +kernel
theorem dX11_wouldBe_28 : decode cX11_wouldBe 28 = .ok (.invokevirtual 389, 3) := by decide +kernel
theorem dX11_wouldBe_31 : decode cX11_wouldBe 31 = .ok (.istore 5, 2) := by decide +kernel
theorem dX11_wouldBe_33 : decode cX11_wouldBe 33 = .ok (.aload_n 0, 1) := by decide +kernel
theorem dX11_wouldBe_34 : decode cX11_wouldBe 34 = .ok (.aload_n 0, 1) := by decide +kernel
theorem dX11_wouldBe_35 : decode cX11_wouldBe 35 = .ok (.getfield 28, 3) := by decide +kernel
theorem dX11_wouldBe_38 : decode cX11_wouldBe 38 = .ok (.invokevirtual 296, 3) := by decide +kernel
theorem dX11_wouldBe_41 : decode cX11_wouldBe 41 = .ok (.iload 5, 2) := by decide +kernel
theorem dX11_wouldBe_43 : decode cX11_wouldBe 43 = .ok (.ireturn, 1) := by decide +kernel
theorem dX11_shelf_0 : decode cX11_shelf 0 = .ok (.iload_n 2, 1) := by decide +kernel
theorem dX11_shelf_1 : decode cX11_shelf 1 = .ok (.ifCond .ne 11, 3) := by decide +kernel
theorem dX11_shelf_4 : decode cX11_shelf 4 = .ok (.aload_n 0, 1) := by decide +kernel
theorem dX11_shelf_5 : decode cX11_shelf 5 = .ok (.iload_n 3, 1) := by decide +kernel
theorem dX11_shelf_6 : decode cX11_shelf 6 = .ok (.invokevirtual 84, 3) := by decide +kernel
theorem dX11_shelf_9 : decode cX11_shelf 9 = .ok (.ifCond .ne 20, 3) := by decide +kernel
theorem dX11_shelf_12 : decode cX11_shelf 12 = .ok (.iload_n 2, 1) := by decide +kernel
theorem dX11_shelf_13 : decode cX11_shelf 13 = .ok (.iconst 1, 1) := by decide +kernel
theorem dX11_shelf_14 : decode cX11_shelf 14 = .ok (.if_icmp .ne 10, 3) := by decide +kernel
theorem dX11_shelf_17 : decode cX11_shelf 17 = .ok (.iload_n 3, 1) := by decide +kernel
theorem dX11_shelf_18 : decode cX11_shelf 18 = .ok (.invokestatic 371, 3) := by decide +kernel
theorem dX11_shelf_21 : decode cX11_shelf 21 = .ok (.ifCond .ne 8, 3) := by decide +kernel
theorem dX11_shelf_24 : decode cX11_shelf 24 = .ok (.iload_n 2, 1) := by decide +kernel
theorem dX11_shelf_25 : decode cX11_shelf 25 = .ok (.iconst 2, 1) := by decide +kernel
theorem dX11_shelf_26 : decode cX11_shelf 26 = .ok (.if_icmp .ne 7, 3) := by decide +kernel
theorem dX11_shelf_29 : decode cX11_shelf 29 = .ok (.iconst 1, 1) := by decide +kernel
theorem dX11_shelf_30 : decode cX11_shelf 30 = .ok (.goto 4, 3) := by decide +kernel
theorem dX11_shelf_33 : decode cX11_shelf 33 = .ok (.iconst 0, 1) := by decide +kernel
theorem dX11_shelf_34 : decode cX11_shelf 34 = .ok (.istore 4, 2) := by decide +kernel
theorem dX11_shelf_36 : decode cX11_shelf 36 = .ok (.iload_n 1, 1) := by decide +kernel
theorem dX11_shelf_37 : decode cX11_shelf 37 = .ok (.invokestatic 371, 3) := by decide +kernel
theorem dX11_shelf_40 : decode cX11_shelf 40 = .ok (.ifCond .eq 8, 3) := by decide +kernel
theorem dX11_shelf_43 : decode cX11_shelf 43 = .ok (.iload 4, 2) := by decide +kernel
theorem dX11_shelf_45 : decode cX11_shelf 45 = .ok (.ifCond .ne 5, 3) := by decide +kernel
theorem dX11_shelf_48 : decode cX11_shelf 48 = .ok (.iconst (-1), 1) := by decide +kernel
theorem dX11_shelf_49 : decode cX11_shelf 49 = .ok (.ireturn, 1) := by decide +kernel
theorem dX11_shelf_50 : decode cX11_shelf 50 = .ok (.aload_n 0, 1) := by decide +kernel
theorem dX11_shelf_51 : decode cX11_shelf 51 = .ok (.getfield 58, 3) := by decide +kernel
theorem dX11_shelf_54 : decode cX11_shelf 54 = .ok (.iload_n 1, 1) := by decide +kernel
theorem dX11_shelf_55 : decode cX11_shelf 55 = .ok (.iload_n 2, 1) := by decide +kernel
theorem dX11_shelf_56 : decode cX11_shelf 56 = .ok (.ifCond .ne 7, 3) := by decide +kernel
theorem dX11_shelf_59 : decode cX11_shelf 59 = .ok (.iconst 1, 1) := by decide +kernel
theorem dX11_shelf_60 : decode cX11_shelf 60 = .ok (.goto 22, 3) := by decide +kernel
theorem dX11_shelf_63 : decode cX11_shelf 63 = .ok (.iload_n 2, 1) := by decide +kernel
theorem dX11_shelf_64 : decode cX11_shelf 64 = .ok (.iconst 1, 1) := by decide +kernel
theorem dX11_shelf_65 : decode cX11_shelf 65 = .ok (.if_icmp .ne 16, 3) := by decide +kernel
theorem dX11_shelf_68 : decode cX11_shelf 68 = .ok (.aload_n 0, 1) := by decide +kernel
theorem dX11_shelf_69 : decode cX11_shelf 69 = .ok (.getfield 48, 3) := by decide +kernel
theorem dX11_shelf_72 : decode cX11_shelf 72 = .ok (.iload_n 3, 1) := by decide +kernel
theorem dX11_shelf_73 : decode cX11_shelf 73 = .ok (.iaload, 1) := by decide +kernel
theorem dX11_shelf_74 : decode cX11_shelf 74 = .ok (.ifCond .lt 7, 3) := by decide +kernel
theorem dX11_shelf_77 : decode cX11_shelf 77 = .ok (.iconst 2, 1) := by decide +kernel
theorem dX11_shelf_78 : decode cX11_shelf 78 = .ok (.goto 4, 3) := by decide +kernel
theorem dX11_shelf_81 : decode cX11_shelf 81 = .ok (.iconst 0, 1) := by decide +kernel
theorem dX11_shelf_82 : decode cX11_shelf 82 = .ok (.iastore, 1) := by decide +kernel
theorem dX11_shelf_83 : decode cX11_shelf 83 = .ok (.aload_n 0, 1) := by decide +kernel
theorem dX11_shelf_84 : decode cX11_shelf 84 = .ok (.getfield 61, 3) := by decide +kernel
theorem dX11_shelf_87 : decode cX11_shelf 87 = .ok (.iload_n 1, 1) := by decide +kernel
theorem dX11_shelf_88 : decode cX11_shelf 88 = .ok (.iload_n 2, 1) := by decide +kernel
theorem dX11_shelf_89 : decode cX11_shelf 89 = .ok (.iconst 1, 1) := by decide +kernel
theorem dX11_shelf_90 : decode cX11_shelf 90 = .ok (.if_icmp .ne 12, 3) := by decide +kernel
theorem dX11_shelf_93 : decode cX11_shelf 93 = .ok (.aload_n 0, 1) := by decide +kernel
theorem dX11_shelf_94 : decode cX11_shelf 94 = .ok (.getfield 51, 3) := by decide +kernel
theorem dX11_shelf_97 : decode cX11_shelf 97 = .ok (.iload_n 3, 1) := by decide +kernel
theorem dX11_shelf_98 : decode cX11_shelf 98 = .ok (.iaload, 1) := by decide +kernel
theorem dX11_shelf_99 : decode cX11_shelf 99 = .ok (.goto 4, 3) := by decide +kernel
theorem dX11_shelf_102 : decode cX11_shelf 102 = .ok (.iload_n 3, 1) := by decide +kernel
theorem dX11_shelf_103 : decode cX11_shelf 103 = .ok (.iastore, 1) := by decide +kernel
theorem dX11_shelf_104 : decode cX11_shelf 104 = .ok (.aload_n 0, 1) := by decide +kernel
theorem dX11_shelf_105 : decode cX11_shelf 105 = .ok (.getfield 64, 3) := by decide +kernel
theorem dX11_shelf_108 : decode cX11_shelf 108 = .ok (.iload_n 1, 1) := by decide +kernel
theorem dX11_shelf_109 : decode cX11_shelf 109 = .ok (.iload_n 2, 1) := by decide +kernel
theorem dX11_shelf_110 : decode cX11_shelf 110 = .ok (.iconst 1, 1) := by decide +kernel
theorem dX11_shelf_111 : decode cX11_shelf 111 = .ok (.if_icmp .ne 12, 3) := by decide +kernel
theorem dX11_shelf_114 : decode cX11_shelf 114 = .ok (.aload_n 0, 1) := by decide +kernel
theorem dX11_shelf_115 : decode cX11_shelf 115 = .ok (.getfield 48, 3) := by decide +kernel
theorem dX11_shelf_118 : decode cX11_shelf 118 = .ok (.iload_n 3, 1) := by decide +kernel
theorem dX11_shelf_119 : decode cX11_shelf 119 = .ok (.iaload, 1) := by decide +kernel
theorem dX11_shelf_120 : decode cX11_shelf 120 = .ok (.goto 4, 3) := by decide +kernel
theorem dX11_shelf_123 : decode cX11_shelf 123 = .ok (.iconst 0, 1) := by decide +kernel
theorem dX11_shelf_124 : decode cX11_shelf 124 = .ok (.iastore, 1) := by decide +kernel
theorem dX11_shelf_125 : decode cX11_shelf 125 = .ok (.iconst 1, 1) := by decide +kernel
theorem dX11_shelf_126 : decode cX11_shelf 126 = .ok (.ireturn, 1) := by decide +kernel
theorem dX11_heldBy_0 : decode cX11_heldBy 0 = .ok (.aload_n 0, 1) := by decide +kernel
theorem dX11_heldBy_1 : decode cX11_heldBy 1 = .ok (.getfield 58, 3) := by decide +kernel
theorem dX11_heldBy_4 : decode cX11_heldBy 4 = .ok (.iload_n 1, 1) := by decide +kernel
theorem dX11_heldBy_5 : decode cX11_heldBy 5 = .ok (.iaload, 1) := by decide +kernel
theorem dX11_heldBy_6 : decode cX11_heldBy 6 = .ok (.iconst 1, 1) := by decide +kernel
theorem dX11_heldBy_7 : decode cX11_heldBy 7 = .ok (.if_icmp .ne 20, 3) := by decide +kernel
theorem dX11_heldBy_10 : decode cX11_heldBy 10 = .ok (.aload_n 0, 1) := by decide +kernel
theorem dX11_heldBy_11 : decode cX11_heldBy 11 = .ok (.aload_n 0, 1) := by decide +kernel
theorem dX11_heldBy_12 : decode cX11_heldBy 12 = .ok (.getfield 61, 3) := by decide +kernel
theorem dX11_heldBy_15 : decode cX11_heldBy 15 = .ok (.iload_n 1, 1) := by decide +kernel
theorem dX11_heldBy_16 : decode cX11_heldBy 16 = .ok (.iaload, 1) := by decide +kernel
theorem dX11_heldBy_17 : decode cX11_heldBy 17 = .ok (.invokevirtual 84, 3) := by decide +kernel
theorem dX11_heldBy_20 : decode cX11_heldBy 20 = .ok (.ifCond .ne 7, 3) := by decide +kernel
theorem dX11_heldBy_23 : decode cX11_heldBy 23 = .ok (.iconst 0, 1) := by decide +kernel
theorem dX11_heldBy_24 : decode cX11_heldBy 24 = .ok (.goto 9, 3) := by decide +kernel
theorem dX11_heldBy_27 : decode cX11_heldBy 27 = .ok (.aload_n 0, 1) := by decide +kernel
theorem dX11_heldBy_28 : decode cX11_heldBy 28 = .ok (.getfield 58, 3) := by decide +kernel
theorem dX11_heldBy_31 : decode cX11_heldBy 31 = .ok (.iload_n 1, 1) := by decide +kernel
theorem dX11_heldBy_32 : decode cX11_heldBy 32 = .ok (.iaload, 1) := by decide +kernel
theorem dX11_heldBy_33 : decode cX11_heldBy 33 = .ok (.ireturn, 1) := by decide +kernel
theorem dX11_taken_0 : decode cX11_taken 0 = .ok (.iload_n 1, 1) := by decide +kernel
theorem dX11_taken_1 : decode cX11_taken 1 = .ok (.invokestatic 371, 3) := by decide +kernel
theorem dX11_taken_4 : decode cX11_taken 4 = .ok (.ifCond .eq 29, 3) := by decide +kernel
theorem dX11_taken_7 : decode cX11_taken 7 = .ok (.iload_n 2, 1) := by decide +kernel
theorem dX11_taken_8 : decode cX11_taken 8 = .ok (.i2l, 1) := by decide +kernel
theorem dX11_taken_9 : decode cX11_taken 9 = .ok (.lconst 0, 1) := by decide +kernel
theorem dX11_taken_10 : decode cX11_taken 10 = .ok (.ldc2_w 78, 3) := by decide +kernel
theorem dX11_taken_13 : decode cX11_taken 13 = .ok (.invokestatic 70, 3) := by decide +kernel
theorem dX11_taken_16 : decode cX11_taken 16 = .ok (.ifCond .ne 19, 3) := by decide +kernel
theorem dX11_taken_19 : decode cX11_taken 19 = .ok (.iload_n 2, 1) := by decide +kernel
theorem dX11_taken_20 : decode cX11_taken 20 = .ok (.i2l, 1) := by decide +kernel
theorem dX11_taken_21 : decode cX11_taken 21 = .ok (.ldc2_w 392, 3) := by decide +kernel
theorem dX11_taken_24 : decode cX11_taken 24 = .ok (.ldc2_w 394, 3) := by decide +kernel
theorem dX11_taken_27 : decode cX11_taken 27 = .ok (.invokestatic 70, 3) := by decide +kernel
theorem dX11_taken_30 : decode cX11_taken 30 = .ok (.ifCond .ne 5, 3) := by decide +kernel
theorem dX11_taken_33 : decode cX11_taken 33 = .ok (.iconst (-1), 1) := by decide +kernel
theorem dX11_taken_34 : decode cX11_taken 34 = .ok (.ireturn, 1) := by decide +kernel
theorem dX11_taken_35 : decode cX11_taken 35 = .ok (.aload_n 0, 1) := by decide +kernel
theorem dX11_taken_36 : decode cX11_taken 36 = .ok (.iload_n 1, 1) := by decide +kernel
theorem dX11_taken_37 : decode cX11_taken 37 = .ok (.invokevirtual 396, 3) := by decide +kernel
theorem dX11_taken_40 : decode cX11_taken 40 = .ok (.istore_n 3, 1) := by decide +kernel
theorem dX11_taken_41 : decode cX11_taken 41 = .ok (.iload_n 3, 1) := by decide +kernel
theorem dX11_taken_42 : decode cX11_taken 42 = .ok (.ifCond .ne 6, 3) := by decide +kernel
theorem dX11_taken_45 : decode cX11_taken 45 = .ok (.bipush (-11), 2) := by decide +kernel
theorem dX11_taken_47 : decode cX11_taken 47 = .ok (.ireturn, 1) := by decide +kernel
theorem dX11_taken_48 : decode cX11_taken 48 = .ok (.iload_n 2, 1) := by decide +kernel
theorem dX11_taken_49 : decode cX11_taken 49 = .ok (.bipush 10, 2) := by decide +kernel
theorem dX11_taken_51 : decode cX11_taken 51 = .ok (.if_icmp .ge 34, 3) := by decide +kernel
theorem dX11_taken_54 : decode cX11_taken 54 = .ok (.iload_n 3, 1) := by decide +kernel
theorem dX11_taken_55 : decode cX11_taken 55 = .ok (.iconst 1, 1) := by decide +kernel
theorem dX11_taken_56 : decode cX11_taken 56 = .ok (.if_icmp .ne 25, 3) := by decide +kernel
theorem dX11_taken_59 : decode cX11_taken 59 = .ok (.aload_n 0, 1) := by decide +kernel
theorem dX11_taken_60 : decode cX11_taken 60 = .ok (.aload_n 0, 1) := by decide +kernel
theorem dX11_taken_61 : decode cX11_taken 61 = .ok (.getfield 61, 3) := by decide +kernel
theorem dX11_taken_64 : decode cX11_taken 64 = .ok (.iload_n 1, 1) := by decide +kernel
theorem dX11_taken_65 : decode cX11_taken 65 = .ok (.iaload, 1) := by decide +kernel
theorem dX11_taken_66 : decode cX11_taken 66 = .ok (.iconst 0, 1) := by decide +kernel
theorem dX11_taken_67 : decode cX11_taken 67 = .ok (.invokevirtual 88, 3) := by decide +kernel
theorem dX11_taken_70 : decode cX11_taken 70 = .ok (.iload_n 2, 1) := by decide +kernel
theorem dX11_taken_71 : decode cX11_taken 71 = .ok (.invokestatic 117, 3) := by decide +kernel
theorem dX11_taken_74 : decode cX11_taken 74 = .ok (.ifCond .eq 7, 3) := by decide +kernel
theorem dX11_taken_77 : decode cX11_taken 77 = .ok (.iconst 1, 1) := by decide +kernel
theorem dX11_taken_78 : decode cX11_taken 78 = .ok (.goto 30, 3) := by decide +kernel
theorem dX11_taken_81 : decode cX11_taken 81 = .ok (.iconst 0, 1) := by decide +kernel
theorem dX11_taken_82 : decode cX11_taken 82 = .ok (.goto 26, 3) := by decide +kernel
theorem dX11_taken_85 : decode cX11_taken 85 = .ok (.iload_n 3, 1) := by decide +kernel
theorem dX11_taken_86 : decode cX11_taken 86 = .ok (.iconst 2, 1) := by decide +kernel
theorem dX11_taken_87 : decode cX11_taken 87 = .ok (.if_icmp .ne 20, 3) := by decide +kernel
theorem dX11_taken_90 : decode cX11_taken 90 = .ok (.aload_n 0, 1) := by decide +kernel
theorem dX11_taken_91 : decode cX11_taken 91 = .ok (.getfield 64, 3) := by decide +kernel
theorem dX11_taken_94 : decode cX11_taken 94 = .ok (.iload_n 1, 1) := by decide +kernel
theorem dX11_taken_95 : decode cX11_taken 95 = .ok (.iaload, 1) := by decide +kernel
theorem dX11_taken_96 : decode cX11_taken 96 = .ok (.iload_n 2, 1) := by decide +kernel
theorem dX11_taken_97 : decode cX11_taken 97 = .ok (.bipush 10, 2) := by decide +kernel
theorem dX11_taken_99 : decode cX11_taken 99 = .ok (.isub, 1) := by decide +kernel
theorem dX11_taken_100 : decode cX11_taken 100 = .ok (.if_icmp .ne 7, 3) := by decide +kernel
theorem dX11_taken_103 : decode cX11_taken 103 = .ok (.iconst 1, 1) := by decide +kernel
theorem dX11_taken_104 : decode cX11_taken 104 = .ok (.goto 4, 3) := by decide +kernel
theorem dX11_taken_107 : decode cX11_taken 107 = .ok (.iconst 0, 1) := by decide +kernel
theorem dX11_taken_108 : decode cX11_taken 108 = .ok (.istore 4, 2) := by decide +kernel
theorem dX11_taken_110 : decode cX11_taken 110 = .ok (.iload 4, 2) := by decide +kernel
theorem dX11_taken_112 : decode cX11_taken 112 = .ok (.ifCond .eq 12, 3) := by decide +kernel
theorem dX11_taken_115 : decode cX11_taken 115 = .ok (.aload_n 0, 1) := by decide +kernel
theorem dX11_taken_116 : decode cX11_taken 116 = .ok (.getfield 61, 3) := by decide +kernel
theorem dX11_taken_119 : decode cX11_taken 119 = .ok (.iload_n 1, 1) := by decide +kernel
theorem dX11_taken_120 : decode cX11_taken 120 = .ok (.iaload, 1) := by decide +kernel
theorem dX11_taken_121 : decode cX11_taken 121 = .ok (.goto 5, 3) := by decide +kernel
theorem dX11_taken_124 : decode cX11_taken 124 = .ok (.bipush (-13), 2) := by decide +kernel
theorem dX11_taken_126 : decode cX11_taken 126 = .ok (.ireturn, 1) := by decide +kernel
theorem dX11_begins_0 : decode cX11_begins 0 = .ok (.aload_n 0, 1) := by decide +kernel
theorem dX11_begins_1 : decode cX11_begins 1 = .ok (.getfield 399, 3) := by decide +kernel
theorem dX11_begins_4 : decode cX11_begins 4 = .ok (.bipush 30, 2) := by decide +kernel
theorem dX11_begins_6 : decode cX11_begins 6 = .ok (.if_icmp .ge 23, 3) := by decide +kernel
theorem dX11_begins_9 : decode cX11_begins 9 = .ok (.aload_n 0, 1) := by decide +kernel
theorem dX11_begins_10 : decode cX11_begins 10 = .ok (.getfield 67, 3) := by decide +kernel
theorem dX11_begins_13 : decode cX11_begins 13 = .ok (.aload_n 0, 1) := by decide +kernel
theorem dX11_begins_14 : decode cX11_begins 14 = .ok (.getfield 399, 3) := by decide +kernel
theorem dX11_begins_17 : decode cX11_begins 17 = .ok (.iload_n 1, 1) := by decide +kernel
theorem dX11_begins_18 : decode cX11_begins 18 = .ok (.iastore, 1) := by decide +kernel
theorem dX11_begins_19 : decode cX11_begins 19 = .ok (.aload_n 0, 1) := by decide +kernel
theorem dX11_begins_20 : decode cX11_begins 20 = .ok (.dup, 1) := by decide +kernel
theorem dX11_begins_21 : decode cX11_begins 21 = .ok (.getfield 399, 3) := by decide +kernel
theorem dX11_begins_24 : decode cX11_begins 24 = .ok (.iconst 1, 1) := by decide +kernel
theorem dX11_begins_25 : decode cX11_begins 25 = .ok (.iadd, 1) := by decide +kernel
theorem dX11_begins_26 : decode cX11_begins 26 = .ok (.putfield 399, 3) := by decide +kernel
theorem dX11_begins_29 : decode cX11_begins 29 = .ok (.return_, 1) := by decide +kernel
theorem dX11_above_0 : decode cX11_above 0 = .ok (.iload_n 0, 1) := by decide +kernel
theorem dX11_above_1 : decode cX11_above 1 = .ok (.iconst 3, 1) := by decide +kernel
theorem dX11_above_2 : decode cX11_above 2 = .ok (.if_icmp .ne 7, 3) := by decide +kernel
theorem dX11_above_5 : decode cX11_above 5 = .ok (.iconst 2, 1) := by decide +kernel
theorem dX11_above_6 : decode cX11_above 6 = .ok (.goto 13, 3) := by decide +kernel
theorem dX11_above_9 : decode cX11_above 9 = .ok (.iload_n 0, 1) := by decide +kernel
theorem dX11_above_10 : decode cX11_above 10 = .ok (.iconst 5, 1) := by decide +kernel
theorem dX11_above_11 : decode cX11_above 11 = .ok (.if_icmp .ne 7, 3) := by decide +kernel
theorem dX11_above_14 : decode cX11_above 14 = .ok (.iconst 4, 1) := by decide +kernel
theorem dX11_above_15 : decode cX11_above 15 = .ok (.goto 4, 3) := by decide +kernel
theorem dX11_above_18 : decode cX11_above 18 = .ok (.iconst 0, 1) := by decide +kernel
theorem dX11_above_19 : decode cX11_above 19 = .ok (.ireturn, 1) := by decide +kernel
theorem dX11_aims_0 : decode cX11_aims 0 = .ok (.aload_n 0, 1) := by decide +kernel
theorem dX11_aims_1 : decode cX11_aims 1 = .ok (.getfield 402, 3) := by decide +kernel
theorem dX11_aims_4 : decode cX11_aims 4 = .ok (.ifCond .eq 5, 3) := by decide +kernel
theorem dX11_aims_7 : decode cX11_aims 7 = .ok (.iconst 0, 1) := by decide +kernel
theorem dX11_aims_8 : decode cX11_aims 8 = .ok (.ireturn, 1) := by decide +kernel
theorem dX11_aims_9 : decode cX11_aims 9 = .ok (.iload_n 1, 1) := by decide +kernel
theorem dX11_aims_10 : decode cX11_aims 10 = .ok (.tableswitch 73 0 3 #[30, 43, 73, 58], 30) := by decide +kernel
theorem dX11_aims_40 : decode cX11_aims 40 = .ok (.aload_n 0, 1) := by decide +kernel
theorem dX11_aims_41 : decode cX11_aims 41 = .ok (.bipush 10, 2) := by decide +kernel
theorem dX11_aims_43 : decode cX11_aims 43 = .ok (.invokevirtual 406, 3) := by decide +kernel
theorem dX11_aims_46 : decode cX11_aims 46 = .ok (.iload_n 2, 1) := by decide +kernel
theorem dX11_aims_47 : decode cX11_aims 47 = .ok (.aload_n 0, 1) := by decide +kernel
theorem dX11_aims_48 : decode cX11_aims 48 = .ok (.getfield 409, 3) := by decide +kernel
theorem dX11_aims_51 : decode cX11_aims 51 = .ok (.iadd, 1) := by decide +kernel
theorem dX11_aims_52 : decode cX11_aims 52 = .ok (.ireturn, 1) := by decide +kernel
theorem dX11_aims_53 : decode cX11_aims 53 = .ok (.aload_n 0, 1) := by decide +kernel
theorem dX11_aims_54 : decode cX11_aims 54 = .ok (.bipush 20, 2) := by decide +kernel
theorem dX11_aims_56 : decode cX11_aims 56 = .ok (.invokevirtual 406, 3) := by decide +kernel
theorem dX11_aims_59 : decode cX11_aims 59 = .ok (.aload_n 0, 1) := by decide +kernel
theorem dX11_aims_60 : decode cX11_aims 60 = .ok (.iconst 0, 1) := by decide +kernel
theorem dX11_aims_61 : decode cX11_aims 61 = .ok (.iload_n 2, 1) := by decide +kernel
theorem dX11_aims_62 : decode cX11_aims 62 = .ok (.invokevirtual 411, 3) := by decide +kernel
theorem dX11_aims_65 : decode cX11_aims 65 = .ok (.iconst 2, 1) := by decide +kernel
theorem dX11_aims_66 : decode cX11_aims 66 = .ok (.imul, 1) := by decide +kernel
theorem dX11_aims_67 : decode cX11_aims 67 = .ok (.ireturn, 1) := by decide +kernel
theorem dX11_aims_68 : decode cX11_aims 68 = .ok (.aload_n 0, 1) := by decide +kernel
theorem dX11_aims_69 : decode cX11_aims 69 = .ok (.bipush 50, 2) := by decide +kernel
theorem dX11_aims_71 : decode cX11_aims 71 = .ok (.invokevirtual 406, 3) := by decide +kernel
theorem dX11_aims_74 : decode cX11_aims 74 = .ok (.aload_n 0, 1) := by decide +kernel
theorem dX11_aims_75 : decode cX11_aims 75 = .ok (.iconst 2, 1) := by decide +kernel
theorem dX11_aims_76 : decode cX11_aims 76 = .ok (.iload_n 2, 1) := by decide +kernel
theorem dX11_aims_77 : decode cX11_aims 77 = .ok (.invokevirtual 411, 3) := by decide +kernel
theorem dX11_aims_80 : decode cX11_aims 80 = .ok (.iconst 1, 1) := by decide +kernel
theorem dX11_aims_81 : decode cX11_aims 81 = .ok (.isub, 1) := by decide +kernel
theorem dX11_aims_82 : decode cX11_aims 82 = .ok (.ireturn, 1) := by decide +kernel
theorem dX11_aims_83 : decode cX11_aims 83 = .ok (.aload_n 0, 1) := by decide +kernel
theorem dX11_aims_84 : decode cX11_aims 84 = .ok (.iload_n 1, 1) := by decide +kernel
theorem dX11_aims_85 : decode cX11_aims 85 = .ok (.invokestatic 414, 3) := by decide +kernel
theorem dX11_aims_88 : decode cX11_aims 88 = .ok (.iload_n 2, 1) := by decide +kernel
theorem dX11_aims_89 : decode cX11_aims 89 = .ok (.invokevirtual 411, 3) := by decide +kernel
theorem dX11_aims_92 : decode cX11_aims 92 = .ok (.ireturn, 1) := by decide +kernel
theorem dX11_swings_0 : decode cX11_swings 0 = .ok (.aload_n 0, 1) := by decide +kernel
theorem dX11_swings_1 : decode cX11_swings 1 = .ok (.getfield 402, 3) := by decide +kernel
theorem dX11_swings_4 : decode cX11_swings 4 = .ok (.ifCond .eq 5, 3) := by decide +kernel
theorem dX11_swings_7 : decode cX11_swings 7 = .ok (.iconst 0, 1) := by decide +kernel
theorem dX11_swings_8 : decode cX11_swings 8 = .ok (.ireturn, 1) := by decide +kernel
theorem dX11_swings_9 : decode cX11_swings 9 = .ok (.iload_n 1, 1) := by decide +kernel
theorem dX11_swings_10 : decode cX11_swings 10 = .ok (.lookupswitch 87 #[(0, 34), (2, 55), (5, 73)], 34) := by decide +kernel
theorem dX11_swings_44 : decode cX11_swings 44 = .ok (.aload_n 0, 1) := by decide +kernel
theorem dX11_swings_45 : decode cX11_swings 45 = .ok (.bipush 11, 2) := by decide +kernel
theorem dX11_swings_47 : decode cX11_swings 47 = .ok (.invokevirtual 406, 3) := by decide +kernel
theorem dX11_swings_50 : decode cX11_swings 50 = .ok (.aload_n 0, 1) := by decide +kernel
theorem dX11_swings_51 : decode cX11_swings 51 = .ok (.aload_n 0, 1) := by decide +kernel
theorem dX11_swings_52 : decode cX11_swings 52 = .ok (.getfield 417, 3) := by decide +kernel
theorem dX11_swings_55 : decode cX11_swings 55 = .ok (.iload_n 2, 1) := by decide +kernel
theorem dX11_swings_56 : decode cX11_swings 56 = .ok (.invokevirtual 411, 3) := by decide +kernel
theorem dX11_swings_59 : decode cX11_swings 59 = .ok (.aload_n 0, 1) := by decide +kernel
theorem dX11_swings_60 : decode cX11_swings 60 = .ok (.getfield 420, 3) := by decide +kernel
theorem dX11_swings_63 : decode cX11_swings 63 = .ok (.isub, 1) := by decide +kernel
theorem dX11_swings_64 : decode cX11_swings 64 = .ok (.ireturn, 1) := by decide +kernel
theorem dX11_swings_65 : decode cX11_swings 65 = .ok (.aload_n 0, 1) := by decide +kernel
theorem dX11_swings_66 : decode cX11_swings 66 = .ok (.bipush 30, 2) := by decide +kernel
theorem dX11_swings_68 : decode cX11_swings 68 = .ok (.invokevirtual 406, 3) := by decide +kernel
theorem dX11_swings_71 : decode cX11_swings 71 = .ok (.aload_n 0, 1) := by decide +kernel
theorem dX11_swings_72 : decode cX11_swings 72 = .ok (.iconst 0, 1) := by decide +kernel
theorem dX11_swings_73 : decode cX11_swings 73 = .ok (.iload_n 2, 1) := by decide +kernel
theorem dX11_swings_74 : decode cX11_swings 74 = .ok (.invokevirtual 422, 3) := by decide +kernel
theorem dX11_swings_77 : decode cX11_swings 77 = .ok (.aload_n 0, 1) := by decide +kernel
theorem dX11_swings_78 : decode cX11_swings 78 = .ok (.getfield 420, 3) := by decide +kernel
theorem dX11_swings_81 : decode cX11_swings 81 = .ok (.ixor, 1) := by decide +kernel
theorem dX11_swings_82 : decode cX11_swings 82 = .ok (.ireturn, 1) := by decide +kernel
theorem dX11_swings_83 : decode cX11_swings 83 = .ok (.aload_n 0, 1) := by decide +kernel
theorem dX11_swings_84 : decode cX11_swings 84 = .ok (.bipush 60, 2) := by decide +kernel
theorem dX11_swings_86 : decode cX11_swings 86 = .ok (.invokevirtual 406, 3) := by decide +kernel
theorem dX11_swings_89 : decode cX11_swings 89 = .ok (.aload_n 0, 1) := by decide +kernel
theorem dX11_swings_90 : decode cX11_swings 90 = .ok (.iconst 4, 1) := by decide +kernel
theorem dX11_swings_91 : decode cX11_swings 91 = .ok (.iload_n 2, 1) := by decide +kernel
theorem dX11_swings_92 : decode cX11_swings 92 = .ok (.invokevirtual 422, 3) := by decide +kernel
theorem dX11_swings_95 : decode cX11_swings 95 = .ok (.ineg, 1) := by decide +kernel
theorem dX11_swings_96 : decode cX11_swings 96 = .ok (.ireturn, 1) := by decide +kernel
theorem dX11_swings_97 : decode cX11_swings 97 = .ok (.aload_n 0, 1) := by decide +kernel
theorem dX11_swings_98 : decode cX11_swings 98 = .ok (.iload_n 1, 1) := by decide +kernel
theorem dX11_swings_99 : decode cX11_swings 99 = .ok (.invokestatic 414, 3) := by decide +kernel
theorem dX11_swings_102 : decode cX11_swings 102 = .ok (.iload_n 2, 1) := by decide +kernel
theorem dX11_swings_103 : decode cX11_swings 103 = .ok (.invokevirtual 422, 3) := by decide +kernel
theorem dX11_swings_106 : decode cX11_swings 106 = .ok (.ireturn, 1) := by decide +kernel
theorem dX11_dims_0 : decode cX11_dims 0 = .ok (.aload_n 0, 1) := by decide +kernel
theorem dX11_dims_1 : decode cX11_dims 1 = .ok (.getfield 402, 3) := by decide +kernel
theorem dX11_dims_4 : decode cX11_dims 4 = .ok (.ifCond .eq 5, 3) := by decide +kernel
theorem dX11_dims_7 : decode cX11_dims 7 = .ok (.iconst 0, 1) := by decide +kernel
theorem dX11_dims_8 : decode cX11_dims 8 = .ok (.ireturn, 1) := by decide +kernel
theorem dX11_dims_9 : decode cX11_dims 9 = .ok (.iload_n 1, 1) := by decide +kernel
theorem dX11_dims_10 : decode cX11_dims 10 = .ok (.lookupswitch 144 #[(0, 34), (4, 101), (5, 116)], 34) := by decide +kernel
theorem dX11_dims_44 : decode cX11_dims 44 = .ok (.aload_n 0, 1) := by decide +kernel
theorem dX11_dims_45 : decode cX11_dims 45 = .ok (.bipush 12, 2) := by decide +kernel
theorem dX11_dims_47 : decode cX11_dims 47 = .ok (.invokevirtual 406, 3) := by decide +kernel
theorem dX11_dims_50 : decode cX11_dims 50 = .ok (.aload_n 0, 1) := by decide +kernel
theorem dX11_dims_51 : decode cX11_dims 51 = .ok (.aload_n 0, 1) := by decide +kernel
theorem dX11_dims_52 : decode cX11_dims 52 = .ok (.getfield 409, 3) := by decide +kernel
theorem dX11_dims_55 : decode cX11_dims 55 = .ok (.aload_n 0, 1) := by decide +kernel
theorem dX11_dims_56 : decode cX11_dims 56 = .ok (.getfield 420, 3) := by decide +kernel
theorem dX11_dims_59 : decode cX11_dims 59 = .ok (.if_icmp .ne 7, 3) := by decide +kernel
theorem dX11_dims_62 : decode cX11_dims 62 = .ok (.iconst 1, 1) := by decide +kernel
theorem dX11_dims_63 : decode cX11_dims 63 = .ok (.goto 4, 3) := by decide +kernel
theorem dX11_dims_66 : decode cX11_dims 66 = .ok (.iconst 0, 1) := by decide +kernel
theorem dX11_dims_67 : decode cX11_dims 67 = .ok (.putfield 402, 3) := by decide +kernel
theorem dX11_dims_70 : decode cX11_dims 70 = .ok (.aload_n 0, 1) := by decide +kernel
theorem dX11_dims_71 : decode cX11_dims 71 = .ok (.getfield 402, 3) := by decide +kernel
theorem dX11_dims_74 : decode cX11_dims 74 = .ok (.ifCond .eq 7, 3) := by decide +kernel
theorem dX11_dims_77 : decode cX11_dims 77 = .ok (.iconst 0, 1) := by decide +kernel
theorem dX11_dims_78 : decode cX11_dims 78 = .ok (.goto 32, 3) := by decide +kernel
theorem dX11_dims_81 : decode cX11_dims 81 = .ok (.aload_n 0, 1) := by decide +kernel
theorem dX11_dims_82 : decode cX11_dims 82 = .ok (.getfield 409, 3) := by decide +kernel
theorem dX11_dims_85 : decode cX11_dims 85 = .ok (.aload_n 0, 1) := by decide +kernel
theorem dX11_dims_86 : decode cX11_dims 86 = .ok (.getfield 420, 3) := by decide +kernel
theorem dX11_dims_89 : decode cX11_dims 89 = .ok (.isub, 1) := by decide +kernel
theorem dX11_dims_90 : decode cX11_dims 90 = .ok (.iconst (-1), 1) := by decide +kernel
theorem dX11_dims_91 : decode cX11_dims 91 = .ok (.if_icmp .ne 8, 3) := by decide +kernel
theorem dX11_dims_94 : decode cX11_dims 94 = .ok (.iload_n 2, 1) := by decide +kernel
theorem dX11_dims_95 : decode cX11_dims 95 = .ok (.ineg, 1) := by decide +kernel
theorem dX11_dims_96 : decode cX11_dims 96 = .ok (.goto 14, 3) := by decide +kernel
theorem dX11_dims_99 : decode cX11_dims 99 = .ok (.iload_n 2, 1) := by decide +kernel
theorem dX11_dims_100 : decode cX11_dims 100 = .ok (.aload_n 0, 1) := by decide +kernel
theorem dX11_dims_101 : decode cX11_dims 101 = .ok (.getfield 409, 3) := by decide +kernel
theorem dX11_dims_104 : decode cX11_dims 104 = .ok (.aload_n 0, 1) := by decide +kernel
theorem dX11_dims_105 : decode cX11_dims 105 = .ok (.getfield 420, 3) := by decide +kernel
theorem dX11_dims_108 : decode cX11_dims 108 = .ok (.isub, 1) := by decide +kernel
theorem dX11_dims_109 : decode cX11_dims 109 = .ok (.idiv, 1) := by decide +kernel
theorem dX11_dims_110 : decode cX11_dims 110 = .ok (.ireturn, 1) := by decide +kernel
theorem dX11_dims_111 : decode cX11_dims 111 = .ok (.aload_n 0, 1) := by decide +kernel
theorem dX11_dims_112 : decode cX11_dims 112 = .ok (.bipush 40, 2) := by decide +kernel
theorem dX11_dims_114 : decode cX11_dims 114 = .ok (.invokevirtual 406, 3) := by decide +kernel
theorem dX11_dims_117 : decode cX11_dims 117 = .ok (.aload_n 0, 1) := by decide +kernel
theorem dX11_dims_118 : decode cX11_dims 118 = .ok (.iconst 0, 1) := by decide +kernel
theorem dX11_dims_119 : decode cX11_dims 119 = .ok (.iload_n 2, 1) := by decide +kernel
theorem dX11_dims_120 : decode cX11_dims 120 = .ok (.iconst 3, 1) := by decide +kernel
theorem dX11_dims_121 : decode cX11_dims 121 = .ok (.isub, 1) := by decide +kernel
theorem dX11_dims_122 : decode cX11_dims 122 = .ok (.invokevirtual 425, 3) := by decide +kernel
theorem dX11_dims_125 : decode cX11_dims 125 = .ok (.ireturn, 1) := by decide +kernel
theorem dX11_dims_126 : decode cX11_dims 126 = .ok (.aload_n 0, 1) := by decide +kernel
theorem dX11_dims_127 : decode cX11_dims 127 = .ok (.bipush 61, 2) := by decide +kernel
theorem dX11_dims_129 : decode cX11_dims 129 = .ok (.invokevirtual 406, 3) := by decide +kernel
theorem dX11_dims_132 : decode cX11_dims 132 = .ok (.aload_n 0, 1) := by decide +kernel
theorem dX11_dims_133 : decode cX11_dims 133 = .ok (.iconst 4, 1) := by decide +kernel
theorem dX11_dims_134 : decode cX11_dims 134 = .ok (.iload_n 2, 1) := by decide +kernel
theorem dX11_dims_135 : decode cX11_dims 135 = .ok (.invokevirtual 425, 3) := by decide +kernel
theorem dX11_dims_138 : decode cX11_dims 138 = .ok (.istore_n 3, 1) := by decide +kernel
theorem dX11_dims_139 : decode cX11_dims 139 = .ok (.iload_n 3, 1) := by decide +kernel
theorem dX11_dims_140 : decode cX11_dims 140 = .ok (.aload_n 0, 1) := by decide +kernel
theorem dX11_dims_141 : decode cX11_dims 141 = .ok (.aload_n 0, 1) := by decide +kernel
theorem dX11_dims_142 : decode cX11_dims 142 = .ok (.getfield 417, 3) := by decide +kernel
theorem dX11_dims_145 : decode cX11_dims 145 = .ok (.aload_n 0, 1) := by decide +kernel
theorem dX11_dims_146 : decode cX11_dims 146 = .ok (.getfield 420, 3) := by decide +kernel
theorem dX11_dims_149 : decode cX11_dims 149 = .ok (.invokevirtual 411, 3) := by decide +kernel
theorem dX11_dims_152 : decode cX11_dims 152 = .ok (.isub, 1) := by decide +kernel
theorem dX11_dims_153 : decode cX11_dims 153 = .ok (.ireturn, 1) := by decide +kernel
theorem dX11_dims_154 : decode cX11_dims 154 = .ok (.aload_n 0, 1) := by decide +kernel
theorem dX11_dims_155 : decode cX11_dims 155 = .ok (.iload_n 1, 1) := by decide +kernel
theorem dX11_dims_156 : decode cX11_dims 156 = .ok (.invokestatic 414, 3) := by decide +kernel
theorem dX11_dims_159 : decode cX11_dims 159 = .ok (.iload_n 2, 1) := by decide +kernel
theorem dX11_dims_160 : decode cX11_dims 160 = .ok (.invokevirtual 425, 3) := by decide +kernel
theorem dX11_dims_163 : decode cX11_dims 163 = .ok (.ireturn, 1) := by decide +kernel
theorem dX11_follows_0 : decode cX11_follows 0 = .ok (.aload_n 0, 1) := by decide +kernel
theorem dX11_follows_1 : decode cX11_follows 1 = .ok (.getfield 402, 3) := by decide +kernel
theorem dX11_follows_4 : decode cX11_follows 4 = .ok (.ifCond .eq 5, 3) := by decide +kernel
theorem dX11_follows_7 : decode cX11_follows 7 = .ok (.iconst 0, 1) := by decide +kernel
theorem dX11_follows_8 : decode cX11_follows 8 = .ok (.ireturn, 1) := by decide +kernel
theorem dX11_follows_9 : decode cX11_follows 9 = .ok (.iload_n 1, 1) := by decide +kernel
theorem dX11_follows_10 : decode cX11_follows 10 = .ok (.lookupswitch 75 #[(0, 26), (3, 47)], 26) := by decide +kernel
theorem dX11_follows_36 : decode cX11_follows 36 = .ok (.aload_n 0, 1) := by decide +kernel
theorem dX11_follows_37 : decode cX11_follows 37 = .ok (.bipush 13, 2) := by decide +kernel
theorem dX11_follows_39 : decode cX11_follows 39 = .ok (.invokevirtual 406, 3) := by decide +kernel
theorem dX11_follows_42 : decode cX11_follows 42 = .ok (.aload_n 0, 1) := by decide +kernel
theorem dX11_follows_43 : decode cX11_follows 43 = .ok (.aload_n 0, 1) := by decide +kernel
theorem dX11_follows_44 : decode cX11_follows 44 = .ok (.getfield 417, 3) := by decide +kernel
theorem dX11_follows_47 : decode cX11_follows 47 = .ok (.iload_n 2, 1) := by decide +kernel
theorem dX11_follows_48 : decode cX11_follows 48 = .ok (.invokevirtual 422, 3) := by decide +kernel
theorem dX11_follows_51 : decode cX11_follows 51 = .ok (.aload_n 0, 1) := by decide +kernel
theorem dX11_follows_52 : decode cX11_follows 52 = .ok (.getfield 409, 3) := by decide +kernel
theorem dX11_follows_55 : decode cX11_follows 55 = .ok (.ixor, 1) := by decide +kernel
theorem dX11_follows_56 : decode cX11_follows 56 = .ok (.ireturn, 1) := by decide +kernel
theorem dX11_follows_57 : decode cX11_follows 57 = .ok (.aload_n 0, 1) := by decide +kernel
theorem dX11_follows_58 : decode cX11_follows 58 = .ok (.bipush 51, 2) := by decide +kernel
theorem dX11_follows_60 : decode cX11_follows 60 = .ok (.invokevirtual 406, 3) := by decide +kernel
theorem dX11_follows_63 : decode cX11_follows 63 = .ok (.aload_n 0, 1) := by decide +kernel
theorem dX11_follows_64 : decode cX11_follows 64 = .ok (.iconst 2, 1) := by decide +kernel
theorem dX11_follows_65 : decode cX11_follows 65 = .ok (.iload_n 2, 1) := by decide +kernel
theorem dX11_follows_66 : decode cX11_follows 66 = .ok (.invokevirtual 428, 3) := by decide +kernel
theorem dX11_follows_69 : decode cX11_follows 69 = .ok (.istore_n 3, 1) := by decide +kernel
theorem dX11_follows_70 : decode cX11_follows 70 = .ok (.iload_n 3, 1) := by decide +kernel
theorem dX11_follows_71 : decode cX11_follows 71 = .ok (.aload_n 0, 1) := by decide +kernel
theorem dX11_follows_72 : decode cX11_follows 72 = .ok (.aload_n 0, 1) := by decide +kernel
theorem dX11_follows_73 : decode cX11_follows 73 = .ok (.getfield 417, 3) := by decide +kernel
theorem dX11_follows_76 : decode cX11_follows 76 = .ok (.aload_n 0, 1) := by decide +kernel
theorem dX11_follows_77 : decode cX11_follows 77 = .ok (.getfield 409, 3) := by decide +kernel
theorem dX11_follows_80 : decode cX11_follows 80 = .ok (.invokevirtual 425, 3) := by decide +kernel
theorem dX11_follows_83 : decode cX11_follows 83 = .ok (.iadd, 1) := by decide +kernel
theorem dX11_follows_84 : decode cX11_follows 84 = .ok (.ireturn, 1) := by decide +kernel
theorem dX11_follows_85 : decode cX11_follows 85 = .ok (.aload_n 0, 1) := by decide +kernel
theorem dX11_follows_86 : decode cX11_follows 86 = .ok (.iload_n 1, 1) := by decide +kernel
theorem dX11_follows_87 : decode cX11_follows 87 = .ok (.invokestatic 414, 3) := by decide +kernel
theorem dX11_follows_90 : decode cX11_follows 90 = .ok (.iload_n 2, 1) := by decide +kernel
theorem dX11_follows_91 : decode cX11_follows 91 = .ok (.invokevirtual 428, 3) := by decide +kernel
theorem dX11_follows_94 : decode cX11_follows 94 = .ok (.ireturn, 1) := by decide +kernel
theorem dX11_act_0 : decode cX11_act 0 = .ok (.aload_n 0, 1) := by decide +kernel
theorem dX11_act_1 : decode cX11_act 1 = .ok (.iconst 0, 1) := by decide +kernel
theorem dX11_act_2 : decode cX11_act 2 = .ok (.putfield 399, 3) := by decide +kernel
theorem dX11_act_5 : decode cX11_act 5 = .ok (.iload_n 1, 1) := by decide +kernel
theorem dX11_act_6 : decode cX11_act 6 = .ok (.invokestatic 371, 3) := by decide +kernel
theorem dX11_act_9 : decode cX11_act 9 = .ok (.ifCond .eq 24, 3) := by decide +kernel
theorem dX11_act_12 : decode cX11_act 12 = .ok (.iload_n 2, 1) := by decide +kernel
theorem dX11_act_13 : decode cX11_act 13 = .ok (.i2l, 1) := by decide +kernel
theorem dX11_act_14 : decode cX11_act 14 = .ok (.lconst 0, 1) := by decide +kernel
theorem dX11_act_15 : decode cX11_act 15 = .ok (.ldc2_w 332, 3) := by decide +kernel
theorem dX11_act_18 : decode cX11_act 18 = .ok (.invokestatic 70, 3) := by decide +kernel
theorem dX11_act_21 : decode cX11_act 21 = .ok (.ifCond .eq 12, 3) := by decide +kernel
theorem dX11_act_24 : decode cX11_act 24 = .ok (.aload_n 0, 1) := by decide +kernel
theorem dX11_act_25 : decode cX11_act 25 = .ok (.iload_n 1, 1) := by decide +kernel
theorem dX11_act_26 : decode cX11_act 26 = .ok (.invokevirtual 396, 3) := by decide +kernel
theorem dX11_act_29 : decode cX11_act 29 = .ok (.iconst 1, 1) := by decide +kernel
theorem dX11_act_30 : decode cX11_act 30 = .ok (.if_icmp .eq 5, 3) := by decide +kernel
theorem dX11_act_33 : decode cX11_act 33 = .ok (.iconst 0, 1) := by decide +kernel
theorem dX11_act_34 : decode cX11_act 34 = .ok (.ireturn, 1) := by decide +kernel
theorem dX11_act_35 : decode cX11_act 35 = .ok (.aload_n 0, 1) := by decide +kernel
theorem dX11_act_36 : decode cX11_act 36 = .ok (.aload_n 0, 1) := by decide +kernel
theorem dX11_act_37 : decode cX11_act 37 = .ok (.getfield 61, 3) := by decide +kernel
theorem dX11_act_40 : decode cX11_act 40 = .ok (.iload_n 1, 1) := by decide +kernel
theorem dX11_act_41 : decode cX11_act 41 = .ok (.iaload, 1) := by decide +kernel
theorem dX11_act_42 : decode cX11_act 42 = .ok (.putfield 420, 3) := by decide +kernel
theorem dX11_act_45 : decode cX11_act 45 = .ok (.aload_n 0, 1) := by decide +kernel
theorem dX11_act_46 : decode cX11_act 46 = .ok (.aload_n 0, 1) := by decide +kernel
theorem dX11_act_47 : decode cX11_act 47 = .ok (.aload_n 0, 1) := by decide +kernel
theorem dX11_act_48 : decode cX11_act 48 = .ok (.getfield 420, 3) := by decide +kernel
theorem dX11_act_51 : decode cX11_act 51 = .ok (.iconst 0, 1) := by decide +kernel
theorem dX11_act_52 : decode cX11_act 52 = .ok (.invokevirtual 88, 3) := by decide +kernel
theorem dX11_act_55 : decode cX11_act 55 = .ok (.putfield 417, 3) := by decide +kernel
theorem dX11_act_58 : decode cX11_act 58 = .ok (.aload_n 0, 1) := by decide +kernel
theorem dX11_act_59 : decode cX11_act 59 = .ok (.aload_n 0, 1) := by decide +kernel
theorem dX11_act_60 : decode cX11_act 60 = .ok (.aload_n 0, 1) := by decide +kernel
theorem dX11_act_61 : decode cX11_act 61 = .ok (.getfield 420, 3) := by decide +kernel
theorem dX11_act_64 : decode cX11_act 64 = .ok (.iconst 2, 1) := by decide +kernel
theorem dX11_act_65 : decode cX11_act 65 = .ok (.invokevirtual 88, 3) := by decide +kernel
theorem dX11_act_68 : decode cX11_act 68 = .ok (.putfield 409, 3) := by decide +kernel
theorem dX11_act_71 : decode cX11_act 71 = .ok (.aload_n 0, 1) := by decide +kernel
theorem dX11_act_72 : decode cX11_act 72 = .ok (.iconst 0, 1) := by decide +kernel
theorem dX11_act_73 : decode cX11_act 73 = .ok (.putfield 402, 3) := by decide +kernel
theorem dX11_act_76 : decode cX11_act 76 = .ok (.iload_n 2, 1) := by decide +kernel
theorem dX11_act_77 : decode cX11_act 77 = .ok (.ifCond .ne 15, 3) := by decide +kernel
theorem dX11_act_80 : decode cX11_act 80 = .ok (.aload_n 0, 1) := by decide +kernel
theorem dX11_act_81 : decode cX11_act 81 = .ok (.aload_n 0, 1) := by decide +kernel
theorem dX11_act_82 : decode cX11_act 82 = .ok (.getfield 417, 3) := by decide +kernel
theorem dX11_act_85 : decode cX11_act 85 = .ok (.iload_n 3, 1) := by decide +kernel
theorem dX11_act_86 : decode cX11_act 86 = .ok (.invokevirtual 411, 3) := by decide +kernel
theorem dX11_act_89 : decode cX11_act 89 = .ok (.goto 46, 3) := by decide +kernel
theorem dX11_act_92 : decode cX11_act 92 = .ok (.iload_n 2, 1) := by decide +kernel
theorem dX11_act_93 : decode cX11_act 93 = .ok (.iconst 1, 1) := by decide +kernel
theorem dX11_act_94 : decode cX11_act 94 = .ok (.if_icmp .ne 15, 3) := by decide +kernel
theorem dX11_act_97 : decode cX11_act 97 = .ok (.aload_n 0, 1) := by decide +kernel
theorem dX11_act_98 : decode cX11_act 98 = .ok (.aload_n 0, 1) := by decide +kernel
theorem dX11_act_99 : decode cX11_act 99 = .ok (.getfield 417, 3) := by decide +kernel
theorem dX11_act_102 : decode cX11_act 102 = .ok (.iload_n 3, 1) := by decide +kernel
theorem dX11_act_103 : decode cX11_act 103 = .ok (.invokevirtual 422, 3) := by decide +kernel
theorem dX11_act_106 : decode cX11_act 106 = .ok (.goto 29, 3) := by decide +kernel
theorem dX11_act_109 : decode cX11_act 109 = .ok (.iload_n 2, 1) := by decide +kernel
theorem dX11_act_110 : decode cX11_act 110 = .ok (.iconst 2, 1) := by decide +kernel
theorem dX11_act_111 : decode cX11_act 111 = .ok (.if_icmp .ne 15, 3) := by decide +kernel
theorem dX11_act_114 : decode cX11_act 114 = .ok (.aload_n 0, 1) := by decide +kernel
theorem dX11_act_115 : decode cX11_act 115 = .ok (.aload_n 0, 1) := by decide +kernel
theorem dX11_act_116 : decode cX11_act 116 = .ok (.getfield 417, 3) := by decide +kernel
theorem dX11_act_119 : decode cX11_act 119 = .ok (.iload_n 3, 1) := by decide +kernel
theorem dX11_act_120 : decode cX11_act 120 = .ok (.invokevirtual 425, 3) := by decide +kernel
theorem dX11_act_123 : decode cX11_act 123 = .ok (.goto 12, 3) := by decide +kernel
theorem dX11_act_126 : decode cX11_act 126 = .ok (.aload_n 0, 1) := by decide +kernel
theorem dX11_act_127 : decode cX11_act 127 = .ok (.aload_n 0, 1) := by decide +kernel
theorem dX11_act_128 : decode cX11_act 128 = .ok (.getfield 417, 3) := by decide +kernel
theorem dX11_act_131 : decode cX11_act 131 = .ok (.iload_n 3, 1) := by decide +kernel
theorem dX11_act_132 : decode cX11_act 132 = .ok (.invokevirtual 428, 3) := by decide +kernel
theorem dX11_act_135 : decode cX11_act 135 = .ok (.istore 4, 2) := by decide +kernel
theorem dX11_act_137 : decode cX11_act 137 = .ok (.aload_n 0, 1) := by decide +kernel
theorem dX11_act_138 : decode cX11_act 138 = .ok (.getfield 402, 3) := by decide +kernel
theorem dX11_act_141 : decode cX11_act 141 = .ok (.ifCond .eq 8, 3) := by decide +kernel
theorem dX11_act_144 : decode cX11_act 144 = .ok (.bipush (-15), 2) := by decide +kernel
theorem dX11_act_146 : decode cX11_act 146 = .ok (.goto 5, 3) := by decide +kernel
theorem dX11_act_149 : decode cX11_act 149 = .ok (.iload 4, 2) := by decide +kernel
theorem dX11_act_151 : decode cX11_act 151 = .ok (.ireturn, 1) := by decide +kernel
theorem dX11_trace_0 : decode cX11_trace 0 = .ok (.iload_n 1, 1) := by decide +kernel
theorem dX11_trace_1 : decode cX11_trace 1 = .ok (.i2l, 1) := by decide +kernel
theorem dX11_trace_2 : decode cX11_trace 2 = .ok (.lconst 0, 1) := by decide +kernel
theorem dX11_trace_3 : decode cX11_trace 3 = .ok (.aload_n 0, 1) := by decide +kernel
theorem dX11_trace_4 : decode cX11_trace 4 = .ok (.getfield 399, 3) := by decide +kernel
theorem dX11_trace_7 : decode cX11_trace 7 = .ok (.iconst 1, 1) := by decide +kernel
theorem dX11_trace_8 : decode cX11_trace 8 = .ok (.isub, 1) := by decide +kernel
theorem dX11_trace_9 : decode cX11_trace 9 = .ok (.i2l, 1) := by decide +kernel
theorem dX11_trace_10 : decode cX11_trace 10 = .ok (.invokestatic 70, 3) := by decide +kernel
theorem dX11_trace_13 : decode cX11_trace 13 = .ok (.ifCond .eq 12, 3) := by decide +kernel
theorem dX11_trace_16 : decode cX11_trace 16 = .ok (.aload_n 0, 1) := by decide +kernel
theorem dX11_trace_17 : decode cX11_trace 17 = .ok (.getfield 67, 3) := by decide +kernel
theorem dX11_trace_20 : decode cX11_trace 20 = .ok (.iload_n 1, 1) := by decide +kernel
theorem dX11_trace_21 : decode cX11_trace 21 = .ok (.iaload, 1) := by decide +kernel
theorem dX11_trace_22 : decode cX11_trace 22 = .ok (.goto 5, 3) := by decide +kernel
theorem dX11_trace_25 : decode cX11_trace 25 = .ok (.bipush (-3), 2) := by decide +kernel
theorem dX11_trace_27 : decode cX11_trace 27 = .ok (.ireturn, 1) := by decide +kernel
theorem dX11_many_0 : decode cX11_many 0 = .ok (.iload_n 1, 1) := by decide +kernel
theorem dX11_many_1 : decode cX11_many 1 = .ok (.tableswitch 87 0 6 #[43, 50, 57, 64, 72, 77, 82], 43) := by decide +kernel
theorem dX11_many_44 : decode cX11_many 44 = .ok (.aload_n 0, 1) := by decide +kernel
theorem dX11_many_45 : decode cX11_many 45 = .ok (.getfield 9, 3) := by decide +kernel
theorem dX11_many_48 : decode cX11_many 48 = .ok (.iconst 0, 1) := by decide +kernel
theorem dX11_many_49 : decode cX11_many 49 = .ok (.iaload, 1) := by decide +kernel
theorem dX11_many_50 : decode cX11_many 50 = .ok (.ireturn, 1) := by decide +kernel
theorem dX11_many_51 : decode cX11_many 51 = .ok (.aload_n 0, 1) := by decide +kernel
theorem dX11_many_52 : decode cX11_many 52 = .ok (.getfield 9, 3) := by decide +kernel
theorem dX11_many_55 : decode cX11_many 55 = .ok (.iconst 5, 1) := by decide +kernel
theorem dX11_many_56 : decode cX11_many 56 = .ok (.iaload, 1) := by decide +kernel
theorem dX11_many_57 : decode cX11_many 57 = .ok (.ireturn, 1) := by decide +kernel
theorem dX11_many_58 : decode cX11_many 58 = .ok (.aload_n 0, 1) := by decide +kernel
theorem dX11_many_59 : decode cX11_many 59 = .ok (.getfield 9, 3) := by decide +kernel
theorem dX11_many_62 : decode cX11_many 62 = .ok (.iconst 1, 1) := by decide +kernel
theorem dX11_many_63 : decode cX11_many 63 = .ok (.iaload, 1) := by decide +kernel
theorem dX11_many_64 : decode cX11_many 64 = .ok (.ireturn, 1) := by decide +kernel
theorem dX11_many_65 : decode cX11_many 65 = .ok (.aload_n 0, 1) := by decide +kernel
theorem dX11_many_66 : decode cX11_many 66 = .ok (.getfield 9, 3) := by decide +kernel
theorem dX11_many_69 : decode cX11_many 69 = .ok (.bipush 6, 2) := by decide +kernel
theorem dX11_many_71 : decode cX11_many 71 = .ok (.iaload, 1) := by decide +kernel
theorem dX11_many_72 : decode cX11_many 72 = .ok (.ireturn, 1) := by decide +kernel
theorem dX11_many_73 : decode cX11_many 73 = .ok (.aload_n 0, 1) := by decide +kernel
theorem dX11_many_74 : decode cX11_many 74 = .ok (.getfield 361, 3) := by decide +kernel
theorem dX11_many_77 : decode cX11_many 77 = .ok (.ireturn, 1) := by decide +kernel
theorem dX11_many_78 : decode cX11_many 78 = .ok (.aload_n 0, 1) := by decide +kernel
theorem dX11_many_79 : decode cX11_many 79 = .ok (.getfield 155, 3) := by decide +kernel
theorem dX11_many_82 : decode cX11_many 82 = .ok (.ireturn, 1) := by decide +kernel
theorem dX11_many_83 : decode cX11_many 83 = .ok (.aload_n 0, 1) := by decide +kernel
theorem dX11_many_84 : decode cX11_many 84 = .ok (.getfield 399, 3) := by decide +kernel
theorem dX11_many_87 : decode cX11_many 87 = .ok (.ireturn, 1) := by decide +kernel
theorem dX11_many_88 : decode cX11_many 88 = .ok (.iconst (-1), 1) := by decide +kernel
theorem dX11_many_89 : decode cX11_many 89 = .ok (.ireturn, 1) := by decide +kernel
theorem dX11_keep_0 : decode cX11_keep 0 = .ok (.aload_n 0, 1) := by decide +kernel
theorem dX11_keep_1 : decode cX11_keep 1 = .ok (.getfield 9, 3) := by decide +kernel
theorem dX11_keep_4 : decode cX11_keep 4 = .ok (.aload_n 0, 1) := by decide +kernel
theorem dX11_keep_5 : decode cX11_keep 5 = .ok (.getfield 13, 3) := by decide +kernel
theorem dX11_keep_8 : decode cX11_keep 8 = .ok (.invokestatic 277, 3) := by decide +kernel
theorem dX11_keep_11 : decode cX11_keep 11 = .ok (.aload_n 0, 1) := by decide +kernel
theorem dX11_keep_12 : decode cX11_keep 12 = .ok (.iconst 1, 1) := by decide +kernel
theorem dX11_keep_13 : decode cX11_keep 13 = .ok (.putfield 431, 3) := by decide +kernel
theorem dX11_keep_16 : decode cX11_keep 16 = .ok (.iconst 1, 1) := by decide +kernel
theorem dX11_keep_17 : decode cX11_keep 17 = .ok (.ireturn, 1) := by decide +kernel
theorem dX11_again_0 : decode cX11_again 0 = .ok (.aload_n 0, 1) := by decide +kernel
theorem dX11_again_1 : decode cX11_again 1 = .ok (.getfield 431, 3) := by decide +kernel
theorem dX11_again_4 : decode cX11_again 4 = .ok (.ifCond .ne 6, 3) := by decide +kernel
theorem dX11_again_7 : decode cX11_again 7 = .ok (.bipush (-3), 2) := by decide +kernel
theorem dX11_again_9 : decode cX11_again 9 = .ok (.ireturn, 1) := by decide +kernel
theorem dX11_again_10 : decode cX11_again 10 = .ok (.aload_n 0, 1) := by decide +kernel
theorem dX11_again_11 : decode cX11_again 11 = .ok (.getfield 13, 3) := by decide +kernel
theorem dX11_again_14 : decode cX11_again 14 = .ok (.aload_n 0, 1) := by decide +kernel
theorem dX11_again_15 : decode cX11_again 15 = .ok (.getfield 9, 3) := by decide +kernel
theorem dX11_again_18 : decode cX11_again 18 = .ok (.invokestatic 277, 3) := by decide +kernel
theorem dX11_again_21 : decode cX11_again 21 = .ok (.aload_n 0, 1) := by decide +kernel
theorem dX11_again_22 : decode cX11_again 22 = .ok (.getfield 9, 3) := by decide +kernel
theorem dX11_again_25 : decode cX11_again 25 = .ok (.iconst 0, 1) := by decide +kernel
theorem dX11_again_26 : decode cX11_again 26 = .ok (.iaload, 1) := by decide +kernel
theorem dX11_again_27 : decode cX11_again 27 = .ok (.ireturn, 1) := by decide +kernel
theorem dJ6_compare_7cf53_0 : decode cJ6_compare_7cf53 0 = .ok (.iload_n 0, 1) := by decide +kernel
theorem dJ6_compare_7cf53_1 : decode cJ6_compare_7cf53 1 = .ok (.iload_n 1, 1) := by decide +kernel
theorem dJ6_compare_7cf53_2 : decode cJ6_compare_7cf53 2 = .ok (.if_icmp .ge 7, 3) := by decide +kernel
theorem dJ6_compare_7cf53_5 : decode cJ6_compare_7cf53 5 = .ok (.iconst (-1), 1) := by decide +kernel
theorem dJ6_compare_7cf53_6 : decode cJ6_compare_7cf53 6 = .ok (.goto 13, 3) := by decide +kernel
theorem dJ6_compare_7cf53_9 : decode cJ6_compare_7cf53 9 = .ok (.iload_n 0, 1) := by decide +kernel
theorem dJ6_compare_7cf53_10 : decode cJ6_compare_7cf53 10 = .ok (.iload_n 1, 1) := by decide +kernel
theorem dJ6_compare_7cf53_11 : decode cJ6_compare_7cf53 11 = .ok (.if_icmp .ne 7, 3) := by decide +kernel
theorem dJ6_compare_7cf53_14 : decode cJ6_compare_7cf53 14 = .ok (.iconst 0, 1) := by decide +kernel
theorem dJ6_compare_7cf53_15 : decode cJ6_compare_7cf53 15 = .ok (.goto 4, 3) := by decide +kernel
theorem dJ6_compare_7cf53_18 : decode cJ6_compare_7cf53 18 = .ok (.iconst 1, 1) := by decide +kernel
theorem dJ6_compare_7cf53_19 : decode cJ6_compare_7cf53 19 = .ok (.ireturn, 1) := by decide +kernel
theorem dJ6_bitCount_0f7a4_0 : decode cJ6_bitCount_0f7a4 0 = .ok (.iload_n 0, 1) := by decide +kernel
theorem dJ6_bitCount_0f7a4_1 : decode cJ6_bitCount_0f7a4 1 = .ok (.iload_n 0, 1) := by decide +kernel
theorem dJ6_bitCount_0f7a4_2 : decode cJ6_bitCount_0f7a4 2 = .ok (.iconst 1, 1) := by decide +kernel
theorem dJ6_bitCount_0f7a4_3 : decode cJ6_bitCount_0f7a4 3 = .ok (.iushr, 1) := by decide +kernel
theorem dJ6_bitCount_0f7a4_4 : decode cJ6_bitCount_0f7a4 4 = .ok (.ldc_w 265, 3) := by decide +kernel
theorem dJ6_bitCount_0f7a4_7 : decode cJ6_bitCount_0f7a4 7 = .ok (.iand, 1) := by decide +kernel
theorem dJ6_bitCount_0f7a4_8 : decode cJ6_bitCount_0f7a4 8 = .ok (.isub, 1) := by decide +kernel
theorem dJ6_bitCount_0f7a4_9 : decode cJ6_bitCount_0f7a4 9 = .ok (.istore_n 0, 1) := by decide +kernel
theorem dJ6_bitCount_0f7a4_10 : decode cJ6_bitCount_0f7a4 10 = .ok (.iload_n 0, 1) := by decide +kernel
theorem dJ6_bitCount_0f7a4_11 : decode cJ6_bitCount_0f7a4 11 = .ok (.ldc_w 266, 3) := by decide +kernel
theorem dJ6_bitCount_0f7a4_14 : decode cJ6_bitCount_0f7a4 14 = .ok (.iand, 1) := by decide +kernel
theorem dJ6_bitCount_0f7a4_15 : decode cJ6_bitCount_0f7a4 15 = .ok (.iload_n 0, 1) := by decide +kernel
theorem dJ6_bitCount_0f7a4_16 : decode cJ6_bitCount_0f7a4 16 = .ok (.iconst 2, 1) := by decide +kernel
theorem dJ6_bitCount_0f7a4_17 : decode cJ6_bitCount_0f7a4 17 = .ok (.iushr, 1) := by decide +kernel
theorem dJ6_bitCount_0f7a4_18 : decode cJ6_bitCount_0f7a4 18 = .ok (.ldc_w 266, 3) := by decide +kernel
theorem dJ6_bitCount_0f7a4_21 : decode cJ6_bitCount_0f7a4 21 = .ok (.iand, 1) := by decide +kernel
theorem dJ6_bitCount_0f7a4_22 : decode cJ6_bitCount_0f7a4 22 = .ok (.iadd, 1) := by decide +kernel
theorem dJ6_bitCount_0f7a4_23 : decode cJ6_bitCount_0f7a4 23 = .ok (.istore_n 0, 1) := by decide +kernel
theorem dJ6_bitCount_0f7a4_24 : decode cJ6_bitCount_0f7a4 24 = .ok (.iload_n 0, 1) := by decide +kernel
theorem dJ6_bitCount_0f7a4_25 : decode cJ6_bitCount_0f7a4 25 = .ok (.iload_n 0, 1) := by decide +kernel
theorem dJ6_bitCount_0f7a4_26 : decode cJ6_bitCount_0f7a4 26 = .ok (.iconst 4, 1) := by decide +kernel
theorem dJ6_bitCount_0f7a4_27 : decode cJ6_bitCount_0f7a4 27 = .ok (.iushr, 1) := by decide +kernel
theorem dJ6_bitCount_0f7a4_28 : decode cJ6_bitCount_0f7a4 28 = .ok (.iadd, 1) := by decide +kernel
theorem dJ6_bitCount_0f7a4_29 : decode cJ6_bitCount_0f7a4 29 = .ok (.ldc_w 267, 3) := by decide +kernel
theorem dJ6_bitCount_0f7a4_32 : decode cJ6_bitCount_0f7a4 32 = .ok (.iand, 1) := by decide +kernel
theorem dJ6_bitCount_0f7a4_33 : decode cJ6_bitCount_0f7a4 33 = .ok (.istore_n 0, 1) := by decide +kernel
theorem dJ6_bitCount_0f7a4_34 : decode cJ6_bitCount_0f7a4 34 = .ok (.iload_n 0, 1) := by decide +kernel
theorem dJ6_bitCount_0f7a4_35 : decode cJ6_bitCount_0f7a4 35 = .ok (.iload_n 0, 1) := by decide +kernel
theorem dJ6_bitCount_0f7a4_36 : decode cJ6_bitCount_0f7a4 36 = .ok (.bipush 8, 2) := by decide +kernel
theorem dJ6_bitCount_0f7a4_38 : decode cJ6_bitCount_0f7a4 38 = .ok (.iushr, 1) := by decide +kernel
theorem dJ6_bitCount_0f7a4_39 : decode cJ6_bitCount_0f7a4 39 = .ok (.iadd, 1) := by decide +kernel
theorem dJ6_bitCount_0f7a4_40 : decode cJ6_bitCount_0f7a4 40 = .ok (.istore_n 0, 1) := by decide +kernel
theorem dJ6_bitCount_0f7a4_41 : decode cJ6_bitCount_0f7a4 41 = .ok (.iload_n 0, 1) := by decide +kernel
theorem dJ6_bitCount_0f7a4_42 : decode cJ6_bitCount_0f7a4 42 = .ok (.iload_n 0, 1) := by decide +kernel
theorem dJ6_bitCount_0f7a4_43 : decode cJ6_bitCount_0f7a4 43 = .ok (.bipush 16, 2) := by decide +kernel
theorem dJ6_bitCount_0f7a4_45 : decode cJ6_bitCount_0f7a4 45 = .ok (.iushr, 1) := by decide +kernel
theorem dJ6_bitCount_0f7a4_46 : decode cJ6_bitCount_0f7a4 46 = .ok (.iadd, 1) := by decide +kernel
theorem dJ6_bitCount_0f7a4_47 : decode cJ6_bitCount_0f7a4 47 = .ok (.istore_n 0, 1) := by decide +kernel
theorem dJ6_bitCount_0f7a4_48 : decode cJ6_bitCount_0f7a4 48 = .ok (.iload_n 0, 1) := by decide +kernel
theorem dJ6_bitCount_0f7a4_49 : decode cJ6_bitCount_0f7a4 49 = .ok (.bipush 63, 2) := by decide +kernel
theorem dJ6_bitCount_0f7a4_51 : decode cJ6_bitCount_0f7a4 51 = .ok (.iand, 1) := by decide +kernel
theorem dJ6_bitCount_0f7a4_52 : decode cJ6_bitCount_0f7a4 52 = .ok (.ireturn, 1) := by decide +kernel
theorem dJ9_abs_0f7a4_0 : decode cJ9_abs_0f7a4 0 = .ok (.iload_n 0, 1) := by decide +kernel
theorem dJ9_abs_0f7a4_1 : decode cJ9_abs_0f7a4 1 = .ok (.ifCond .ge 8, 3) := by decide +kernel
theorem dJ9_abs_0f7a4_4 : decode cJ9_abs_0f7a4 4 = .ok (.iload_n 0, 1) := by decide +kernel
theorem dJ9_abs_0f7a4_5 : decode cJ9_abs_0f7a4 5 = .ok (.ineg, 1) := by decide +kernel
theorem dJ9_abs_0f7a4_6 : decode cJ9_abs_0f7a4 6 = .ok (.goto 4, 3) := by decide +kernel
theorem dJ9_abs_0f7a4_9 : decode cJ9_abs_0f7a4 9 = .ok (.iload_n 0, 1) := by decide +kernel
theorem dJ9_abs_0f7a4_10 : decode cJ9_abs_0f7a4 10 = .ok (.ireturn, 1) := by decide +kernel
theorem dJ9_max_7cf53_0 : decode cJ9_max_7cf53 0 = .ok (.iload_n 0, 1) := by decide +kernel
theorem dJ9_max_7cf53_1 : decode cJ9_max_7cf53 1 = .ok (.iload_n 1, 1) := by decide +kernel
theorem dJ9_max_7cf53_2 : decode cJ9_max_7cf53 2 = .ok (.if_icmp .lt 7, 3) := by decide +kernel
theorem dJ9_max_7cf53_5 : decode cJ9_max_7cf53 5 = .ok (.iload_n 0, 1) := by decide +kernel
theorem dJ9_max_7cf53_6 : decode cJ9_max_7cf53 6 = .ok (.goto 4, 3) := by decide +kernel
theorem dJ9_max_7cf53_9 : decode cJ9_max_7cf53 9 = .ok (.iload_n 1, 1) := by decide +kernel
theorem dJ9_max_7cf53_10 : decode cJ9_max_7cf53 10 = .ok (.ireturn, 1) := by decide +kernel
theorem dJ9_min_7cf53_0 : decode cJ9_min_7cf53 0 = .ok (.iload_n 0, 1) := by decide +kernel
theorem dJ9_min_7cf53_1 : decode cJ9_min_7cf53 1 = .ok (.iload_n 1, 1) := by decide +kernel
theorem dJ9_min_7cf53_2 : decode cJ9_min_7cf53 2 = .ok (.if_icmp .gt 7, 3) := by decide +kernel
theorem dJ9_min_7cf53_5 : decode cJ9_min_7cf53 5 = .ok (.iload_n 0, 1) := by decide +kernel
theorem dJ9_min_7cf53_6 : decode cJ9_min_7cf53 6 = .ok (.goto 4, 3) := by decide +kernel
theorem dJ9_min_7cf53_9 : decode cJ9_min_7cf53 9 = .ok (.iload_n 1, 1) := by decide +kernel
theorem dJ9_min_7cf53_10 : decode cJ9_min_7cf53 10 = .ok (.ireturn, 1) := by decide +kernel
theorem dJ0_length_8abf5_0 : decode cJ0_length_8abf5 0 = .ok (.aload_n 0, 1) := by decide +kernel
theorem dJ0_length_8abf5_1 : decode cJ0_length_8abf5 1 = .ok (.getfield 9, 3) := by decide +kernel
theorem dJ0_length_8abf5_4 : decode cJ0_length_8abf5 4 = .ok (.arraylength, 1) := by decide +kernel
theorem dJ0_length_8abf5_5 : decode cJ0_length_8abf5 5 = .ok (.aload_n 0, 1) := by decide +kernel
theorem dJ0_length_8abf5_6 : decode cJ0_length_8abf5 6 = .ok (.invokevirtual 335, 3) := by decide +kernel
theorem dJ0_length_8abf5_9 : decode cJ0_length_8abf5 9 = .ok (.ishr, 1) := by decide +kernel
theorem dJ0_length_8abf5_10 : decode cJ0_length_8abf5 10 = .ok (.ireturn, 1) := by decide +kernel
theorem dJ0_charAt_5068e_0 : decode cJ0_charAt_5068e 0 = .ok (.aload_n 0, 1) := by decide +kernel
theorem dJ0_charAt_5068e_1 : decode cJ0_charAt_5068e 1 = .ok (.invokevirtual 492, 3) := by decide +kernel
theorem dJ0_charAt_5068e_4 : decode cJ0_charAt_5068e 4 = .ok (.ifCond .eq 12, 3) := by decide +kernel
theorem dJ0_charAt_5068e_7 : decode cJ0_charAt_5068e 7 = .ok (.aload_n 0, 1) := by decide +kernel
theorem dJ0_charAt_5068e_8 : decode cJ0_charAt_5068e 8 = .ok (.getfield 9, 3) := by decide +kernel
theorem dJ0_charAt_5068e_11 : decode cJ0_charAt_5068e 11 = .ok (.iload_n 1, 1) := by decide +kernel
theorem dJ0_charAt_5068e_12 : decode cJ0_charAt_5068e 12 = .ok (.invokestatic 495, 3) := by decide +kernel
theorem dJ0_charAt_5068e_15 : decode cJ0_charAt_5068e 15 = .ok (.ireturn, 1) := by decide +kernel
theorem dJ0_charAt_5068e_16 : decode cJ0_charAt_5068e 16 = .ok (.aload_n 0, 1) := by decide +kernel
theorem dJ0_charAt_5068e_17 : decode cJ0_charAt_5068e 17 = .ok (.getfield 9, 3) := by decide +kernel
theorem dJ0_charAt_5068e_20 : decode cJ0_charAt_5068e 20 = .ok (.iload_n 1, 1) := by decide +kernel
theorem dJ0_charAt_5068e_21 : decode cJ0_charAt_5068e 21 = .ok (.invokestatic 498, 3) := by decide +kernel
theorem dJ0_charAt_5068e_24 : decode cJ0_charAt_5068e 24 = .ok (.ireturn, 1) := by decide +kernel
theorem dJ0_coder_7d493_0 : decode cJ0_coder_7d493 0 = .ok (.getstatic 38, 3) := by decide +kernel
theorem dJ0_coder_7d493_3 : decode cJ0_coder_7d493 3 = .ok (.ifCond .eq 10, 3) := by decide +kernel
theorem dJ0_coder_7d493_6 : decode cJ0_coder_7d493 6 = .ok (.aload_n 0, 1) := by decide +kernel
theorem dJ0_coder_7d493_7 : decode cJ0_coder_7d493 7 = .ok (.getfield 15, 3) := by decide +kernel
theorem dJ0_coder_7d493_10 : decode cJ0_coder_7d493 10 = .ok (.goto 4, 3) := by decide +kernel
theorem dJ0_coder_7d493_13 : decode cJ0_coder_7d493 13 = .ok (.iconst 1, 1) := by decide +kernel
theorem dJ0_coder_7d493_14 : decode cJ0_coder_7d493 14 = .ok (.ireturn, 1) := by decide +kernel
theorem dJ0_isLatin1_aae02_0 : decode cJ0_isLatin1_aae02 0 = .ok (.getstatic 38, 3) := by decide +kernel
theorem dJ0_isLatin1_aae02_3 : decode cJ0_isLatin1_aae02 3 = .ok (.ifCond .eq 14, 3) := by decide +kernel
theorem dJ0_isLatin1_aae02_6 : decode cJ0_isLatin1_aae02 6 = .ok (.aload_n 0, 1) := by decide +kernel
theorem dJ0_isLatin1_aae02_7 : decode cJ0_isLatin1_aae02 7 = .ok (.getfield 15, 3) := by decide +kernel
theorem dJ0_isLatin1_aae02_10 : decode cJ0_isLatin1_aae02 10 = .ok (.ifCond .ne 7, 3) := by decide +kernel
theorem dJ0_isLatin1_aae02_13 : decode cJ0_isLatin1_aae02 13 = .ok (.iconst 1, 1) := by decide +kernel
theorem dJ0_isLatin1_aae02_14 : decode cJ0_isLatin1_aae02 14 = .ok (.goto 4, 3) := by decide +kernel
theorem dJ0_isLatin1_aae02_17 : decode cJ0_isLatin1_aae02 17 = .ok (.iconst 0, 1) := by decide +kernel
theorem dJ0_isLatin1_aae02_18 : decode cJ0_isLatin1_aae02 18 = .ok (.ireturn, 1) := by decide +kernel
theorem dJ0_checkIndex_df160_0 : decode cJ0_checkIndex_df160 0 = .ok (.iload_n 0, 1) := by decide +kernel
theorem dJ0_checkIndex_df160_1 : decode cJ0_checkIndex_df160 1 = .ok (.iload_n 1, 1) := by decide +kernel
theorem dJ0_checkIndex_df160_2 : decode cJ0_checkIndex_df160 2 = .ok (.getstatic 1053, 3) := by decide +kernel
theorem dJ0_checkIndex_df160_5 : decode cJ0_checkIndex_df160 5 = .ok (.invokestatic 1059, 3) := by decide +kernel
theorem dJ0_checkIndex_df160_8 : decode cJ0_checkIndex_df160 8 = .ok (.pop, 1) := by decide +kernel
theorem dJ0_checkIndex_df160_9 : decode cJ0_checkIndex_df160 9 = .ok (.return_, 1) := by decide +kernel
theorem dJ1_charAt_3b067_0 : decode cJ1_charAt_3b067 0 = .ok (.iload_n 1, 1) := by decide +kernel
theorem dJ1_charAt_3b067_1 : decode cJ1_charAt_3b067 1 = .ok (.aload_n 0, 1) := by decide +kernel
theorem dJ1_charAt_3b067_2 : decode cJ1_charAt_3b067 2 = .ok (.arraylength, 1) := by decide +kernel
theorem dJ1_charAt_3b067_3 : decode cJ1_charAt_3b067 3 = .ok (.invokestatic 9, 3) := by decide +kernel
theorem dJ1_charAt_3b067_6 : decode cJ1_charAt_3b067 6 = .ok (.aload_n 0, 1) := by decide +kernel
theorem dJ1_charAt_3b067_7 : decode cJ1_charAt_3b067 7 = .ok (.iload_n 1, 1) := by decide +kernel
theorem dJ1_charAt_3b067_8 : decode cJ1_charAt_3b067 8 = .ok (.baload, 1) := by decide +kernel
theorem dJ1_charAt_3b067_9 : decode cJ1_charAt_3b067 9 = .ok (.sipush 255, 3) := by decide +kernel
theorem dJ1_charAt_3b067_12 : decode cJ1_charAt_3b067 12 = .ok (.iand, 1) := by decide +kernel
theorem dJ1_charAt_3b067_13 : decode cJ1_charAt_3b067 13 = .ok (.i2c, 1) := by decide +kernel
theorem dJ1_charAt_3b067_14 : decode cJ1_charAt_3b067 14 = .ok (.ireturn, 1) := by decide +kernel
theorem dJ2_getChar_3b067_0 : decode cJ2_getChar_3b067 0 = .ok (.getstatic 44, 3) := by decide +kernel
theorem dJ2_getChar_3b067_3 : decode cJ2_getChar_3b067 3 = .ok (.ifCond .ne 25, 3) := by decide +kernel
theorem dJ2_getChar_3b067_6 : decode cJ2_getChar_3b067 6 = .ok (.iload_n 1, 1) := by decide +kernel
theorem dJ2_getChar_3b067_7 : decode cJ2_getChar_3b067 7 = .ok (.ifCond .lt 11, 3) := by decide +kernel
theorem dJ2_getChar_3b067_10 : decode cJ2_getChar_3b067 10 = .ok (.iload_n 1, 1) := by decide +kernel
theorem dJ2_getChar_3b067_11 : decode cJ2_getChar_3b067 11 = .ok (.aload_n 0, 1) := by decide +kernel
theorem dJ2_getChar_3b067_12 : decode cJ2_getChar_3b067 12 = .ok (.invokestatic 48, 3) := by decide +kernel
theorem dJ2_getChar_3b067_15 : decode cJ2_getChar_3b067 15 = .ok (.if_icmp .lt 13, 3) := by decide +kernel
theorem dJ2_getChar_3b067_18 : decode cJ2_getChar_3b067 18 = .ok (.new 52, 3) := by decide +kernel
theorem dJ2_getChar_3b067_21 : decode cJ2_getChar_3b067 21 = .ok (.dup, 1) := by decide +kernel
theorem dJ2_getChar_3b067_22 : decode cJ2_getChar_3b067 22 = .ok (.ldc 54, 2) := by decide +kernel
theorem dJ2_getChar_3b067_24 : decode cJ2_getChar_3b067 24 = .ok (.invokespecial 56, 3) := by decide +kernel
theorem dJ2_getChar_3b067_27 : decode cJ2_getChar_3b067 27 = .ok (.athrow, 1) := by decide +kernel
theorem dJ2_getChar_3b067_28 : decode cJ2_getChar_3b067 28 = .ok (.iload_n 1, 1) := by decide +kernel
theorem dJ2_getChar_3b067_29 : decode cJ2_getChar_3b067 29 = .ok (.iconst 1, 1) := by decide +kernel
theorem dJ2_getChar_3b067_30 : decode cJ2_getChar_3b067 30 = .ok (.ishl, 1) := by decide +kernel
theorem dJ2_getChar_3b067_31 : decode cJ2_getChar_3b067 31 = .ok (.istore_n 1, 1) := by decide +kernel
theorem dJ2_getChar_3b067_32 : decode cJ2_getChar_3b067 32 = .ok (.aload_n 0, 1) := by decide +kernel
theorem dJ2_getChar_3b067_33 : decode cJ2_getChar_3b067 33 = .ok (.iload_n 1, 1) := by decide +kernel
theorem dJ2_getChar_3b067_34 : decode cJ2_getChar_3b067 34 = .ok (.iinc 1 1, 3) := by decide +kernel
theorem dJ2_getChar_3b067_37 : decode cJ2_getChar_3b067 37 = .ok (.baload, 1) := by decide +kernel
theorem dJ2_getChar_3b067_38 : decode cJ2_getChar_3b067 38 = .ok (.sipush 255, 3) := by decide +kernel
theorem dJ2_getChar_3b067_41 : decode cJ2_getChar_3b067 41 = .ok (.iand, 1) := by decide +kernel
theorem dJ2_getChar_3b067_42 : decode cJ2_getChar_3b067 42 = .ok (.getstatic 59, 3) := by decide +kernel
theorem dJ2_getChar_3b067_45 : decode cJ2_getChar_3b067 45 = .ok (.ishl, 1) := by decide +kernel
theorem dJ2_getChar_3b067_46 : decode cJ2_getChar_3b067 46 = .ok (.aload_n 0, 1) := by decide +kernel
theorem dJ2_getChar_3b067_47 : decode cJ2_getChar_3b067 47 = .ok (.iload_n 1, 1) := by decide +kernel
theorem dJ2_getChar_3b067_48 : decode cJ2_getChar_3b067 48 = .ok (.baload, 1) := by decide +kernel
theorem dJ2_getChar_3b067_49 : decode cJ2_getChar_3b067 49 = .ok (.sipush 255, 3) := by decide +kernel
theorem dJ2_getChar_3b067_52 : decode cJ2_getChar_3b067 52 = .ok (.iand, 1) := by decide +kernel
theorem dJ2_getChar_3b067_53 : decode cJ2_getChar_3b067 53 = .ok (.getstatic 63, 3) := by decide +kernel
theorem dJ2_getChar_3b067_56 : decode cJ2_getChar_3b067 56 = .ok (.ishl, 1) := by decide +kernel
theorem dJ2_getChar_3b067_57 : decode cJ2_getChar_3b067 57 = .ok (.ior, 1) := by decide +kernel
theorem dJ2_getChar_3b067_58 : decode cJ2_getChar_3b067 58 = .ok (.i2c, 1) := by decide +kernel
theorem dJ2_getChar_3b067_59 : decode cJ2_getChar_3b067 59 = .ok (.ireturn, 1) := by decide +kernel
theorem dJ2_length_9d52b_0 : decode cJ2_length_9d52b 0 = .ok (.aload_n 0, 1) := by decide +kernel
theorem dJ2_length_9d52b_1 : decode cJ2_length_9d52b 1 = .ok (.arraylength, 1) := by decide +kernel
theorem dJ2_length_9d52b_2 : decode cJ2_length_9d52b 2 = .ok (.iconst 1, 1) := by decide +kernel
theorem dJ2_length_9d52b_3 : decode cJ2_length_9d52b 3 = .ok (.ishr, 1) := by decide +kernel
theorem dJ2_length_9d52b_4 : decode cJ2_length_9d52b 4 = .ok (.ireturn, 1) := by decide +kernel
theorem dJ2_charAt_3b067_0 : decode cJ2_charAt_3b067 0 = .ok (.iload_n 1, 1) := by decide +kernel
theorem dJ2_charAt_3b067_1 : decode cJ2_charAt_3b067 1 = .ok (.aload_n 0, 1) := by decide +kernel
theorem dJ2_charAt_3b067_2 : decode cJ2_charAt_3b067 2 = .ok (.invokestatic 67, 3) := by decide +kernel
theorem dJ2_charAt_3b067_5 : decode cJ2_charAt_3b067 5 = .ok (.aload_n 0, 1) := by decide +kernel
theorem dJ2_charAt_3b067_6 : decode cJ2_charAt_3b067 6 = .ok (.iload_n 1, 1) := by decide +kernel
theorem dJ2_charAt_3b067_7 : decode cJ2_charAt_3b067 7 = .ok (.invokestatic 71, 3) := by decide +kernel
theorem dJ2_charAt_3b067_10 : decode cJ2_charAt_3b067 10 = .ok (.ireturn, 1) := by decide +kernel
theorem dJ2_checkIndex_2214a_0 : decode cJ2_checkIndex_2214a 0 = .ok (.iload_n 0, 1) := by decide +kernel
theorem dJ2_checkIndex_2214a_1 : decode cJ2_checkIndex_2214a 1 = .ok (.aload_n 1, 1) := by decide +kernel
theorem dJ2_checkIndex_2214a_2 : decode cJ2_checkIndex_2214a 2 = .ok (.invokestatic 48, 3) := by decide +kernel
theorem dJ2_checkIndex_2214a_5 : decode cJ2_checkIndex_2214a 5 = .ok (.invokestatic 414, 3) := by decide +kernel
theorem dJ2_checkIndex_2214a_8 : decode cJ2_checkIndex_2214a 8 = .ok (.return_, 1) := by decide +kernel
theorem dJ3_checkIndex_8e157_0 : decode cJ3_checkIndex_8e157 0 = .ok (.iload_n 0, 1) := by decide +kernel
theorem dJ3_checkIndex_8e157_1 : decode cJ3_checkIndex_8e157 1 = .ok (.ifCond .lt 8, 3) := by decide +kernel
theorem dJ3_checkIndex_8e157_4 : decode cJ3_checkIndex_8e157 4 = .ok (.iload_n 0, 1) := by decide +kernel
theorem dJ3_checkIndex_8e157_5 : decode cJ3_checkIndex_8e157 5 = .ok (.iload_n 1, 1) := by decide +kernel
theorem dJ3_checkIndex_8e157_6 : decode cJ3_checkIndex_8e157 6 = .ok (.if_icmp .lt 10, 3) := by decide +kernel
theorem dJ3_checkIndex_8e157_9 : decode cJ3_checkIndex_8e157 9 = .ok (.aload_n 2, 1) := by decide +kernel
theorem dJ3_checkIndex_8e157_10 : decode cJ3_checkIndex_8e157 10 = .ok (.iload_n 0, 1) := by decide +kernel
theorem dJ3_checkIndex_8e157_11 : decode cJ3_checkIndex_8e157 11 = .ok (.iload_n 1, 1) := by decide +kernel
theorem dJ3_checkIndex_8e157_12 : decode cJ3_checkIndex_8e157 12 = .ok (.invokestatic 95, 3) := by decide +kernel
theorem dJ3_checkIndex_8e157_15 : decode cJ3_checkIndex_8e157 15 = .ok (.athrow, 1) := by decide +kernel
theorem dJ3_checkIndex_8e157_16 : decode cJ3_checkIndex_8e157 16 = .ok (.iload_n 0, 1) := by decide +kernel
theorem dJ3_checkIndex_8e157_17 : decode cJ3_checkIndex_8e157 17 = .ok (.ireturn, 1) := by decide +kernel
theorem dL_law_0 : decode cL_law 0 = .ok (.new 7, 3) := by decide +kernel
theorem dL_law_3 : decode cL_law 3 = .ok (.dup, 1) := by decide +kernel
theorem dL_law_4 : decode cL_law 4 = .ok (.invokespecial 9, 3) := by decide +kernel
theorem dL_law_7 : decode cL_law 7 = .ok (.astore_n 1, 1) := by decide +kernel
theorem dL_law_8 : decode cL_law 8 = .ok (.new 10, 3) := by decide +kernel
theorem dL_law_11 : decode cL_law 11 = .ok (.dup, 1) := by decide +kernel
theorem dL_law_12 : decode cL_law 12 = .ok (.invokespecial 12, 3) := by decide +kernel
theorem dL_law_15 : decode cL_law 15 = .ok (.astore_n 2, 1) := by decide +kernel
theorem dL_law_16 : decode cL_law 16 = .ok (.iconst 0, 1) := by decide +kernel
theorem dL_law_17 : decode cL_law 17 = .ok (.istore_n 3, 1) := by decide +kernel
theorem dL_law_18 : decode cL_law 18 = .ok (.iload_n 3, 1) := by decide +kernel
theorem dL_law_19 : decode cL_law 19 = .ok (.aload_n 0, 1) := by decide +kernel
theorem dL_law_20 : decode cL_law 20 = .ok (.arraylength, 1) := by decide +kernel
theorem dL_law_21 : decode cL_law 21 = .ok (.iconst 5, 1) := by decide +kernel
theorem dL_law_22 : decode cL_law 22 = .ok (.isub, 1) := by decide +kernel
theorem dL_law_23 : decode cL_law 23 = .ok (.if_icmp .gt 1614, 3) := by decide +kernel
theorem dL_law_26 : decode cL_law 26 = .ok (.aload_n 0, 1) := by decide +kernel
theorem dL_law_27 : decode cL_law 27 = .ok (.iload_n 3, 1) := by decide +kernel
theorem dL_law_28 : decode cL_law 28 = .ok (.iaload, 1) := by decide +kernel
theorem dL_law_29 : decode cL_law 29 = .ok (.bipush 63, 2) := by decide +kernel
theorem dL_law_31 : decode cL_law 31 = .ok (.iand, 1) := by decide +kernel
theorem dL_law_32 : decode cL_law 32 = .ok (.tableswitch 1599 0 48 #[212, 265, 298, 341, 374, 397, 420, 453, 466, 489, 552, 565, 578, 601, 624, 647, 670, 703, 726, 749, 772, 785, 808, 841, 864, 887, 910, 963, 976, 999, 1012, 1035, 1048, 1081, 1104, 1137, 1180, 1193, 1236, 1279, 1322, 1365, 1408, 1451, 1484, 1527, 1550, 1573, 1586], 212) := by decide +kernel
theorem dL_law_244 : decode cL_law 244 = .ok (.aload_n 1, 1) := by decide +kernel
theorem dL_law_245 : decode cL_law 245 = .ok (.aload_n 0, 1) := by decide +kernel
theorem dL_law_246 : decode cL_law 246 = .ok (.iload_n 3, 1) := by decide +kernel
theorem dL_law_247 : decode cL_law 247 = .ok (.iconst 1, 1) := by decide +kernel
theorem dL_law_248 : decode cL_law 248 = .ok (.iadd, 1) := by decide +kernel
theorem dL_law_249 : decode cL_law 249 = .ok (.iaload, 1) := by decide +kernel
theorem dL_law_250 : decode cL_law 250 = .ok (.aload_n 0, 1) := by decide +kernel
theorem dL_law_251 : decode cL_law 251 = .ok (.iload_n 3, 1) := by decide +kernel
theorem dL_law_252 : decode cL_law 252 = .ok (.iconst 2, 1) := by decide +kernel
theorem dL_law_253 : decode cL_law 253 = .ok (.iadd, 1) := by decide +kernel
theorem dL_law_254 : decode cL_law 254 = .ok (.iaload, 1) := by decide +kernel
theorem dL_law_255 : decode cL_law 255 = .ok (.aload_n 0, 1) := by decide +kernel
theorem dL_law_256 : decode cL_law 256 = .ok (.iload_n 3, 1) := by decide +kernel
theorem dL_law_257 : decode cL_law 257 = .ok (.iconst 3, 1) := by decide +kernel
theorem dL_law_258 : decode cL_law 258 = .ok (.iadd, 1) := by decide +kernel
theorem dL_law_259 : decode cL_law 259 = .ok (.iaload, 1) := by decide +kernel
theorem dL_law_260 : decode cL_law 260 = .ok (.aload_n 0, 1) := by decide +kernel
theorem dL_law_261 : decode cL_law 261 = .ok (.iload_n 3, 1) := by decide +kernel
theorem dL_law_262 : decode cL_law 262 = .ok (.iconst 4, 1) := by decide +kernel
theorem dL_law_263 : decode cL_law 263 = .ok (.iadd, 1) := by decide +kernel
theorem dL_law_264 : decode cL_law 264 = .ok (.iaload, 1) := by decide +kernel
theorem dL_law_265 : decode cL_law 265 = .ok (.invokevirtual 13, 3) := by decide +kernel
theorem dL_law_268 : decode cL_law 268 = .ok (.aload_n 2, 1) := by decide +kernel
theorem dL_law_269 : decode cL_law 269 = .ok (.aload_n 0, 1) := by decide +kernel
theorem dL_law_270 : decode cL_law 270 = .ok (.iload_n 3, 1) := by decide +kernel
theorem dL_law_271 : decode cL_law 271 = .ok (.iconst 1, 1) := by decide +kernel
theorem dL_law_272 : decode cL_law 272 = .ok (.iadd, 1) := by decide +kernel
theorem dL_law_273 : decode cL_law 273 = .ok (.iaload, 1) := by decide +kernel
theorem dL_law_274 : decode cL_law 274 = .ok (.aload_n 0, 1) := by decide +kernel
theorem dL_law_275 : decode cL_law 275 = .ok (.iload_n 3, 1) := by decide +kernel
theorem dL_law_276 : decode cL_law 276 = .ok (.iconst 2, 1) := by decide +kernel
theorem dL_law_277 : decode cL_law 277 = .ok (.iadd, 1) := by decide +kernel
theorem dL_law_278 : decode cL_law 278 = .ok (.iaload, 1) := by decide +kernel
theorem dL_law_279 : decode cL_law 279 = .ok (.aload_n 0, 1) := by decide +kernel
theorem dL_law_280 : decode cL_law 280 = .ok (.iload_n 3, 1) := by decide +kernel
theorem dL_law_281 : decode cL_law 281 = .ok (.iconst 3, 1) := by decide +kernel
theorem dL_law_282 : decode cL_law 282 = .ok (.iadd, 1) := by decide +kernel
theorem dL_law_283 : decode cL_law 283 = .ok (.iaload, 1) := by decide +kernel
theorem dL_law_284 : decode cL_law 284 = .ok (.aload_n 0, 1) := by decide +kernel
theorem dL_law_285 : decode cL_law 285 = .ok (.iload_n 3, 1) := by decide +kernel
theorem dL_law_286 : decode cL_law 286 = .ok (.iconst 4, 1) := by decide +kernel
theorem dL_law_287 : decode cL_law 287 = .ok (.iadd, 1) := by decide +kernel
theorem dL_law_288 : decode cL_law 288 = .ok (.iaload, 1) := by decide +kernel
theorem dL_law_289 : decode cL_law 289 = .ok (.invokevirtual 17, 3) := by decide +kernel
theorem dL_law_292 : decode cL_law 292 = .ok (.if_icmp .eq 1339, 3) := by decide +kernel
theorem dL_law_295 : decode cL_law 295 = .ok (.iconst 0, 1) := by decide +kernel
theorem dL_law_296 : decode cL_law 296 = .ok (.ireturn, 1) := by decide +kernel
theorem dL_law_297 : decode cL_law 297 = .ok (.aload_n 1, 1) := by decide +kernel
theorem dL_law_298 : decode cL_law 298 = .ok (.aload_n 0, 1) := by decide +kernel
theorem dL_law_299 : decode cL_law 299 = .ok (.iload_n 3, 1) := by decide +kernel
theorem dL_law_300 : decode cL_law 300 = .ok (.iconst 1, 1) := by decide +kernel
theorem dL_law_301 : decode cL_law 301 = .ok (.iadd, 1) := by decide +kernel
theorem dL_law_302 : decode cL_law 302 = .ok (.iaload, 1) := by decide +kernel
theorem dL_law_303 : decode cL_law 303 = .ok (.aload_n 0, 1) := by decide +kernel
theorem dL_law_304 : decode cL_law 304 = .ok (.iload_n 3, 1) := by decide +kernel
theorem dL_law_305 : decode cL_law 305 = .ok (.iconst 2, 1) := by decide +kernel
theorem dL_law_306 : decode cL_law 306 = .ok (.iadd, 1) := by decide +kernel
theorem dL_law_307 : decode cL_law 307 = .ok (.iaload, 1) := by decide +kernel
theorem dL_law_308 : decode cL_law 308 = .ok (.invokevirtual 18, 3) := by decide +kernel
theorem dL_law_311 : decode cL_law 311 = .ok (.aload_n 2, 1) := by decide +kernel
theorem dL_law_312 : decode cL_law 312 = .ok (.aload_n 0, 1) := by decide +kernel
theorem dL_law_313 : decode cL_law 313 = .ok (.iload_n 3, 1) := by decide +kernel
theorem dL_law_314 : decode cL_law 314 = .ok (.iconst 1, 1) := by decide +kernel
theorem dL_law_315 : decode cL_law 315 = .ok (.iadd, 1) := by decide +kernel
theorem dL_law_316 : decode cL_law 316 = .ok (.iaload, 1) := by decide +kernel
theorem dL_law_317 : decode cL_law 317 = .ok (.aload_n 0, 1) := by decide +kernel
theorem dL_law_318 : decode cL_law 318 = .ok (.iload_n 3, 1) := by decide +kernel
theorem dL_law_319 : decode cL_law 319 = .ok (.iconst 2, 1) := by decide +kernel
theorem dL_law_320 : decode cL_law 320 = .ok (.iadd, 1) := by decide +kernel
theorem dL_law_321 : decode cL_law 321 = .ok (.iaload, 1) := by decide +kernel
theorem dL_law_322 : decode cL_law 322 = .ok (.invokevirtual 22, 3) := by decide +kernel
theorem dL_law_325 : decode cL_law 325 = .ok (.if_icmp .eq 1306, 3) := by decide +kernel
theorem dL_law_328 : decode cL_law 328 = .ok (.iconst 0, 1) := by decide +kernel
theorem dL_law_329 : decode cL_law 329 = .ok (.ireturn, 1) := by decide +kernel
theorem dL_law_330 : decode cL_law 330 = .ok (.aload_n 1, 1) := by decide +kernel
theorem dL_law_331 : decode cL_law 331 = .ok (.aload_n 0, 1) := by decide +kernel
theorem dL_law_332 : decode cL_law 332 = .ok (.iload_n 3, 1) := by decide +kernel
theorem dL_law_333 : decode cL_law 333 = .ok (.iconst 1, 1) := by decide +kernel
theorem dL_law_334 : decode cL_law 334 = .ok (.iadd, 1) := by decide +kernel
theorem dL_law_335 : decode cL_law 335 = .ok (.iaload, 1) := by decide +kernel
theorem dL_law_336 : decode cL_law 336 = .ok (.aload_n 0, 1) := by decide +kernel
theorem dL_law_337 : decode cL_law 337 = .ok (.iload_n 3, 1) := by decide +kernel
theorem dL_law_338 : decode cL_law 338 = .ok (.iconst 2, 1) := by decide +kernel
theorem dL_law_339 : decode cL_law 339 = .ok (.iadd, 1) := by decide +kernel
theorem dL_law_340 : decode cL_law 340 = .ok (.iaload, 1) := by decide +kernel
theorem dL_law_341 : decode cL_law 341 = .ok (.aload_n 0, 1) := by decide +kernel
theorem dL_law_342 : decode cL_law 342 = .ok (.iload_n 3, 1) := by decide +kernel
theorem dL_law_343 : decode cL_law 343 = .ok (.iconst 3, 1) := by decide +kernel
theorem dL_law_344 : decode cL_law 344 = .ok (.iadd, 1) := by decide +kernel
theorem dL_law_345 : decode cL_law 345 = .ok (.iaload, 1) := by decide +kernel
theorem dL_law_346 : decode cL_law 346 = .ok (.invokevirtual 23, 3) := by decide +kernel
theorem dL_law_349 : decode cL_law 349 = .ok (.aload_n 2, 1) := by decide +kernel
theorem dL_law_350 : decode cL_law 350 = .ok (.aload_n 0, 1) := by decide +kernel
theorem dL_law_351 : decode cL_law 351 = .ok (.iload_n 3, 1) := by decide +kernel
theorem dL_law_352 : decode cL_law 352 = .ok (.iconst 1, 1) := by decide +kernel
theorem dL_law_353 : decode cL_law 353 = .ok (.iadd, 1) := by decide +kernel
theorem dL_law_354 : decode cL_law 354 = .ok (.iaload, 1) := by decide +kernel
theorem dL_law_355 : decode cL_law 355 = .ok (.aload_n 0, 1) := by decide +kernel
theorem dL_law_356 : decode cL_law 356 = .ok (.iload_n 3, 1) := by decide +kernel
theorem dL_law_357 : decode cL_law 357 = .ok (.iconst 2, 1) := by decide +kernel
theorem dL_law_358 : decode cL_law 358 = .ok (.iadd, 1) := by decide +kernel
theorem dL_law_359 : decode cL_law 359 = .ok (.iaload, 1) := by decide +kernel
theorem dL_law_360 : decode cL_law 360 = .ok (.aload_n 0, 1) := by decide +kernel
theorem dL_law_361 : decode cL_law 361 = .ok (.iload_n 3, 1) := by decide +kernel
theorem dL_law_362 : decode cL_law 362 = .ok (.iconst 3, 1) := by decide +kernel
theorem dL_law_363 : decode cL_law 363 = .ok (.iadd, 1) := by decide +kernel
theorem dL_law_364 : decode cL_law 364 = .ok (.iaload, 1) := by decide +kernel
theorem dL_law_365 : decode cL_law 365 = .ok (.invokevirtual 27, 3) := by decide +kernel
theorem dL_law_368 : decode cL_law 368 = .ok (.if_icmp .eq 1263, 3) := by decide +kernel
theorem dL_law_371 : decode cL_law 371 = .ok (.iconst 0, 1) := by decide +kernel
theorem dL_law_372 : decode cL_law 372 = .ok (.ireturn, 1) := by decide +kernel
theorem dL_law_373 : decode cL_law 373 = .ok (.aload_n 1, 1) := by decide +kernel
theorem dL_law_374 : decode cL_law 374 = .ok (.aload_n 0, 1) := by decide +kernel
theorem dL_law_375 : decode cL_law 375 = .ok (.iload_n 3, 1) := by decide +kernel
theorem dL_law_376 : decode cL_law 376 = .ok (.iconst 1, 1) := by decide +kernel
theorem dL_law_377 : decode cL_law 377 = .ok (.iadd, 1) := by decide +kernel
theorem dL_law_378 : decode cL_law 378 = .ok (.iaload, 1) := by decide +kernel
theorem dL_law_379 : decode cL_law 379 = .ok (.aload_n 0, 1) := by decide +kernel
theorem dL_law_380 : decode cL_law 380 = .ok (.iload_n 3, 1) := by decide +kernel
theorem dL_law_381 : decode cL_law 381 = .ok (.iconst 2, 1) := by decide +kernel
theorem dL_law_382 : decode cL_law 382 = .ok (.iadd, 1) := by decide +kernel
theorem dL_law_383 : decode cL_law 383 = .ok (.iaload, 1) := by decide +kernel
theorem dL_law_384 : decode cL_law 384 = .ok (.invokevirtual 28, 3) := by decide +kernel
theorem dL_law_387 : decode cL_law 387 = .ok (.aload_n 2, 1) := by decide +kernel
theorem dL_law_388 : decode cL_law 388 = .ok (.aload_n 0, 1) := by decide +kernel
theorem dL_law_389 : decode cL_law 389 = .ok (.iload_n 3, 1) := by decide +kernel
theorem dL_law_390 : decode cL_law 390 = .ok (.iconst 1, 1) := by decide +kernel
theorem dL_law_391 : decode cL_law 391 = .ok (.iadd, 1) := by decide +kernel
theorem dL_law_392 : decode cL_law 392 = .ok (.iaload, 1) := by decide +kernel
theorem dL_law_393 : decode cL_law 393 = .ok (.aload_n 0, 1) := by decide +kernel
theorem dL_law_394 : decode cL_law 394 = .ok (.iload_n 3, 1) := by decide +kernel
theorem dL_law_395 : decode cL_law 395 = .ok (.iconst 2, 1) := by decide +kernel
theorem dL_law_396 : decode cL_law 396 = .ok (.iadd, 1) := by decide +kernel
theorem dL_law_397 : decode cL_law 397 = .ok (.iaload, 1) := by decide +kernel
theorem dL_law_398 : decode cL_law 398 = .ok (.invokevirtual 31, 3) := by decide +kernel
theorem dL_law_401 : decode cL_law 401 = .ok (.if_icmp .eq 1230, 3) := by decide +kernel
theorem dL_law_404 : decode cL_law 404 = .ok (.iconst 0, 1) := by decide +kernel
theorem dL_law_405 : decode cL_law 405 = .ok (.ireturn, 1) := by decide +kernel
theorem dL_law_406 : decode cL_law 406 = .ok (.aload_n 1, 1) := by decide +kernel
theorem dL_law_407 : decode cL_law 407 = .ok (.aload_n 0, 1) := by decide +kernel
theorem dL_law_408 : decode cL_law 408 = .ok (.iload_n 3, 1) := by decide +kernel
theorem dL_law_409 : decode cL_law 409 = .ok (.iconst 1, 1) := by decide +kernel
theorem dL_law_410 : decode cL_law 410 = .ok (.iadd, 1) := by decide +kernel
theorem dL_law_411 : decode cL_law 411 = .ok (.iaload, 1) := by decide +kernel
theorem dL_law_412 : decode cL_law 412 = .ok (.invokevirtual 32, 3) := by decide +kernel
theorem dL_law_415 : decode cL_law 415 = .ok (.aload_n 2, 1) := by decide +kernel
theorem dL_law_416 : decode cL_law 416 = .ok (.aload_n 0, 1) := by decide +kernel
theorem dL_law_417 : decode cL_law 417 = .ok (.iload_n 3, 1) := by decide +kernel
theorem dL_law_418 : decode cL_law 418 = .ok (.iconst 1, 1) := by decide +kernel
theorem dL_law_419 : decode cL_law 419 = .ok (.iadd, 1) := by decide +kernel
theorem dL_law_420 : decode cL_law 420 = .ok (.iaload, 1) := by decide +kernel
theorem dL_law_421 : decode cL_law 421 = .ok (.invokevirtual 36, 3) := by decide +kernel
theorem dL_law_424 : decode cL_law 424 = .ok (.if_icmp .eq 1207, 3) := by decide +kernel
theorem dL_law_427 : decode cL_law 427 = .ok (.iconst 0, 1) := by decide +kernel
theorem dL_law_428 : decode cL_law 428 = .ok (.ireturn, 1) := by decide +kernel
theorem dL_law_429 : decode cL_law 429 = .ok (.aload_n 1, 1) := by decide +kernel
theorem dL_law_430 : decode cL_law 430 = .ok (.aload_n 0, 1) := by decide +kernel
theorem dL_law_431 : decode cL_law 431 = .ok (.iload_n 3, 1) := by decide +kernel
theorem dL_law_432 : decode cL_law 432 = .ok (.iconst 1, 1) := by decide +kernel
theorem dL_law_433 : decode cL_law 433 = .ok (.iadd, 1) := by decide +kernel
theorem dL_law_434 : decode cL_law 434 = .ok (.iaload, 1) := by decide +kernel
theorem dL_law_435 : decode cL_law 435 = .ok (.invokevirtual 37, 3) := by decide +kernel
theorem dL_law_438 : decode cL_law 438 = .ok (.aload_n 2, 1) := by decide +kernel
theorem dL_law_439 : decode cL_law 439 = .ok (.aload_n 0, 1) := by decide +kernel
theorem dL_law_440 : decode cL_law 440 = .ok (.iload_n 3, 1) := by decide +kernel
theorem dL_law_441 : decode cL_law 441 = .ok (.iconst 1, 1) := by decide +kernel
theorem dL_law_442 : decode cL_law 442 = .ok (.iadd, 1) := by decide +kernel
theorem dL_law_443 : decode cL_law 443 = .ok (.iaload, 1) := by decide +kernel
theorem dL_law_444 : decode cL_law 444 = .ok (.invokevirtual 40, 3) := by decide +kernel
theorem dL_law_447 : decode cL_law 447 = .ok (.if_icmp .eq 1184, 3) := by decide +kernel
theorem dL_law_450 : decode cL_law 450 = .ok (.iconst 0, 1) := by decide +kernel
theorem dL_law_451 : decode cL_law 451 = .ok (.ireturn, 1) := by decide +kernel
theorem dL_law_452 : decode cL_law 452 = .ok (.aload_n 1, 1) := by decide +kernel
theorem dL_law_453 : decode cL_law 453 = .ok (.aload_n 0, 1) := by decide +kernel
theorem dL_law_454 : decode cL_law 454 = .ok (.iload_n 3, 1) := by decide +kernel
theorem dL_law_455 : decode cL_law 455 = .ok (.iconst 1, 1) := by decide +kernel
theorem dL_law_456 : decode cL_law 456 = .ok (.iadd, 1) := by decide +kernel
theorem dL_law_457 : decode cL_law 457 = .ok (.iaload, 1) := by decide +kernel
theorem dL_law_458 : decode cL_law 458 = .ok (.aload_n 0, 1) := by decide +kernel
theorem dL_law_459 : decode cL_law 459 = .ok (.iload_n 3, 1) := by decide +kernel
theorem dL_law_460 : decode cL_law 460 = .ok (.iconst 2, 1) := by decide +kernel
theorem dL_law_461 : decode cL_law 461 = .ok (.iadd, 1) := by decide +kernel
theorem dL_law_462 : decode cL_law 462 = .ok (.iaload, 1) := by decide +kernel
theorem dL_law_463 : decode cL_law 463 = .ok (.invokevirtual 41, 3) := by decide +kernel
theorem dL_law_466 : decode cL_law 466 = .ok (.aload_n 2, 1) := by decide +kernel
theorem dL_law_467 : decode cL_law 467 = .ok (.aload_n 0, 1) := by decide +kernel
theorem dL_law_468 : decode cL_law 468 = .ok (.iload_n 3, 1) := by decide +kernel
theorem dL_law_469 : decode cL_law 469 = .ok (.iconst 1, 1) := by decide +kernel
theorem dL_law_470 : decode cL_law 470 = .ok (.iadd, 1) := by decide +kernel
theorem dL_law_471 : decode cL_law 471 = .ok (.iaload, 1) := by decide +kernel
theorem dL_law_472 : decode cL_law 472 = .ok (.aload_n 0, 1) := by decide +kernel
theorem dL_law_473 : decode cL_law 473 = .ok (.iload_n 3, 1) := by decide +kernel
theorem dL_law_474 : decode cL_law 474 = .ok (.iconst 2, 1) := by decide +kernel
theorem dL_law_475 : decode cL_law 475 = .ok (.iadd, 1) := by decide +kernel
theorem dL_law_476 : decode cL_law 476 = .ok (.iaload, 1) := by decide +kernel
theorem dL_law_477 : decode cL_law 477 = .ok (.invokevirtual 44, 3) := by decide +kernel
theorem dL_law_480 : decode cL_law 480 = .ok (.if_icmp .eq 1151, 3) := by decide +kernel
theorem dL_law_483 : decode cL_law 483 = .ok (.iconst 0, 1) := by decide +kernel
theorem dL_law_484 : decode cL_law 484 = .ok (.ireturn, 1) := by decide +kernel
theorem dL_law_485 : decode cL_law 485 = .ok (.aload_n 1, 1) := by decide +kernel
theorem dL_law_486 : decode cL_law 486 = .ok (.invokevirtual 45, 3) := by decide +kernel
theorem dL_law_489 : decode cL_law 489 = .ok (.aload_n 2, 1) := by decide +kernel
theorem dL_law_490 : decode cL_law 490 = .ok (.invokevirtual 49, 3) := by decide +kernel
theorem dL_law_493 : decode cL_law 493 = .ok (.if_icmp .eq 1138, 3) := by decide +kernel
theorem dL_law_496 : decode cL_law 496 = .ok (.iconst 0, 1) := by decide +kernel
theorem dL_law_497 : decode cL_law 497 = .ok (.ireturn, 1) := by decide +kernel
theorem dL_law_498 : decode cL_law 498 = .ok (.aload_n 1, 1) := by decide +kernel
theorem dL_law_499 : decode cL_law 499 = .ok (.aload_n 0, 1) := by decide +kernel
theorem dL_law_500 : decode cL_law 500 = .ok (.iload_n 3, 1) := by decide +kernel
theorem dL_law_501 : decode cL_law 501 = .ok (.iconst 1, 1) := by decide +kernel
theorem dL_law_502 : decode cL_law 502 = .ok (.iadd, 1) := by decide +kernel
theorem dL_law_503 : decode cL_law 503 = .ok (.iaload, 1) := by decide +kernel
theorem dL_law_504 : decode cL_law 504 = .ok (.invokevirtual 50, 3) := by decide +kernel
theorem dL_law_507 : decode cL_law 507 = .ok (.aload_n 2, 1) := by decide +kernel
theorem dL_law_508 : decode cL_law 508 = .ok (.aload_n 0, 1) := by decide +kernel
theorem dL_law_509 : decode cL_law 509 = .ok (.iload_n 3, 1) := by decide +kernel
theorem dL_law_510 : decode cL_law 510 = .ok (.iconst 1, 1) := by decide +kernel
theorem dL_law_511 : decode cL_law 511 = .ok (.iadd, 1) := by decide +kernel
theorem dL_law_512 : decode cL_law 512 = .ok (.iaload, 1) := by decide +kernel
theorem dL_law_513 : decode cL_law 513 = .ok (.invokevirtual 53, 3) := by decide +kernel
theorem dL_law_516 : decode cL_law 516 = .ok (.if_icmp .eq 1115, 3) := by decide +kernel
theorem dL_law_519 : decode cL_law 519 = .ok (.iconst 0, 1) := by decide +kernel
theorem dL_law_520 : decode cL_law 520 = .ok (.ireturn, 1) := by decide +kernel
theorem dL_law_521 : decode cL_law 521 = .ok (.aload_n 1, 1) := by decide +kernel
theorem dL_law_522 : decode cL_law 522 = .ok (.aload_n 0, 1) := by decide +kernel
theorem dL_law_523 : decode cL_law 523 = .ok (.iload_n 3, 1) := by decide +kernel
theorem dL_law_524 : decode cL_law 524 = .ok (.iconst 1, 1) := by decide +kernel
theorem dL_law_525 : decode cL_law 525 = .ok (.iadd, 1) := by decide +kernel
theorem dL_law_526 : decode cL_law 526 = .ok (.iaload, 1) := by decide +kernel
theorem dL_law_527 : decode cL_law 527 = .ok (.i2l, 1) := by decide +kernel
theorem dL_law_528 : decode cL_law 528 = .ok (.bipush 32, 2) := by decide +kernel
theorem dL_law_530 : decode cL_law 530 = .ok (.lshl, 1) := by decide +kernel
theorem dL_law_531 : decode cL_law 531 = .ok (.aload_n 0, 1) := by decide +kernel
theorem dL_law_532 : decode cL_law 532 = .ok (.iload_n 3, 1) := by decide +kernel
theorem dL_law_533 : decode cL_law 533 = .ok (.iconst 2, 1) := by decide +kernel
theorem dL_law_534 : decode cL_law 534 = .ok (.iadd, 1) := by decide +kernel
theorem dL_law_535 : decode cL_law 535 = .ok (.iaload, 1) := by decide +kernel
theorem dL_law_536 : decode cL_law 536 = .ok (.i2l, 1) := by decide +kernel
theorem dL_law_537 : decode cL_law 537 = .ok (.ldc2_w 54, 3) := by decide +kernel
theorem dL_law_540 : decode cL_law 540 = .ok (.land, 1) := by decide +kernel
theorem dL_law_541 : decode cL_law 541 = .ok (.lor, 1) := by decide +kernel
theorem dL_law_542 : decode cL_law 542 = .ok (.aload_n 0, 1) := by decide +kernel
theorem dL_law_543 : decode cL_law 543 = .ok (.iload_n 3, 1) := by decide +kernel
theorem dL_law_544 : decode cL_law 544 = .ok (.iconst 3, 1) := by decide +kernel
theorem dL_law_545 : decode cL_law 545 = .ok (.iadd, 1) := by decide +kernel
theorem dL_law_546 : decode cL_law 546 = .ok (.iaload, 1) := by decide +kernel
theorem dL_law_547 : decode cL_law 547 = .ok (.invokevirtual 56, 3) := by decide +kernel
theorem dL_law_550 : decode cL_law 550 = .ok (.aload_n 2, 1) := by decide +kernel
theorem dL_law_551 : decode cL_law 551 = .ok (.aload_n 0, 1) := by decide +kernel
theorem dL_law_552 : decode cL_law 552 = .ok (.iload_n 3, 1) := by decide +kernel
theorem dL_law_553 : decode cL_law 553 = .ok (.iconst 1, 1) := by decide +kernel
theorem dL_law_554 : decode cL_law 554 = .ok (.iadd, 1) := by decide +kernel
theorem dL_law_555 : decode cL_law 555 = .ok (.iaload, 1) := by decide +kernel
theorem dL_law_556 : decode cL_law 556 = .ok (.i2l, 1) := by decide +kernel
theorem dL_law_557 : decode cL_law 557 = .ok (.bipush 32, 2) := by decide +kernel
theorem dL_law_559 : decode cL_law 559 = .ok (.lshl, 1) := by decide +kernel
theorem dL_law_560 : decode cL_law 560 = .ok (.aload_n 0, 1) := by decide +kernel
theorem dL_law_561 : decode cL_law 561 = .ok (.iload_n 3, 1) := by decide +kernel
theorem dL_law_562 : decode cL_law 562 = .ok (.iconst 2, 1) := by decide +kernel
theorem dL_law_563 : decode cL_law 563 = .ok (.iadd, 1) := by decide +kernel
theorem dL_law_564 : decode cL_law 564 = .ok (.iaload, 1) := by decide +kernel
theorem dL_law_565 : decode cL_law 565 = .ok (.i2l, 1) := by decide +kernel
theorem dL_law_566 : decode cL_law 566 = .ok (.ldc2_w 54, 3) := by decide +kernel
theorem dL_law_569 : decode cL_law 569 = .ok (.land, 1) := by decide +kernel
theorem dL_law_570 : decode cL_law 570 = .ok (.lor, 1) := by decide +kernel
theorem dL_law_571 : decode cL_law 571 = .ok (.aload_n 0, 1) := by decide +kernel
theorem dL_law_572 : decode cL_law 572 = .ok (.iload_n 3, 1) := by decide +kernel
theorem dL_law_573 : decode cL_law 573 = .ok (.iconst 3, 1) := by decide +kernel
theorem dL_law_574 : decode cL_law 574 = .ok (.iadd, 1) := by decide +kernel
theorem dL_law_575 : decode cL_law 575 = .ok (.iaload, 1) := by decide +kernel
theorem dL_law_576 : decode cL_law 576 = .ok (.invokevirtual 60, 3) := by decide +kernel
theorem dL_law_579 : decode cL_law 579 = .ok (.if_icmp .eq 1052, 3) := by decide +kernel
theorem dL_law_582 : decode cL_law 582 = .ok (.iconst 0, 1) := by decide +kernel
theorem dL_law_583 : decode cL_law 583 = .ok (.ireturn, 1) := by decide +kernel
theorem dL_law_584 : decode cL_law 584 = .ok (.aload_n 1, 1) := by decide +kernel
theorem dL_law_585 : decode cL_law 585 = .ok (.invokevirtual 61, 3) := by decide +kernel
theorem dL_law_588 : decode cL_law 588 = .ok (.aload_n 2, 1) := by decide +kernel
theorem dL_law_589 : decode cL_law 589 = .ok (.invokevirtual 64, 3) := by decide +kernel
theorem dL_law_592 : decode cL_law 592 = .ok (.if_icmp .eq 1039, 3) := by decide +kernel
theorem dL_law_595 : decode cL_law 595 = .ok (.iconst 0, 1) := by decide +kernel
theorem dL_law_596 : decode cL_law 596 = .ok (.ireturn, 1) := by decide +kernel
theorem dL_law_597 : decode cL_law 597 = .ok (.aload_n 1, 1) := by decide +kernel
theorem dL_law_598 : decode cL_law 598 = .ok (.invokevirtual 65, 3) := by decide +kernel
theorem dL_law_601 : decode cL_law 601 = .ok (.aload_n 2, 1) := by decide +kernel
theorem dL_law_602 : decode cL_law 602 = .ok (.invokevirtual 68, 3) := by decide +kernel
theorem dL_law_605 : decode cL_law 605 = .ok (.if_icmp .eq 1026, 3) := by decide +kernel
theorem dL_law_608 : decode cL_law 608 = .ok (.iconst 0, 1) := by decide +kernel
theorem dL_law_609 : decode cL_law 609 = .ok (.ireturn, 1) := by decide +kernel
theorem dL_law_610 : decode cL_law 610 = .ok (.aload_n 1, 1) := by decide +kernel
theorem dL_law_611 : decode cL_law 611 = .ok (.aload_n 0, 1) := by decide +kernel
theorem dL_law_612 : decode cL_law 612 = .ok (.iload_n 3, 1) := by decide +kernel
theorem dL_law_613 : decode cL_law 613 = .ok (.iconst 1, 1) := by decide +kernel
theorem dL_law_614 : decode cL_law 614 = .ok (.iadd, 1) := by decide +kernel
theorem dL_law_615 : decode cL_law 615 = .ok (.iaload, 1) := by decide +kernel
theorem dL_law_616 : decode cL_law 616 = .ok (.invokevirtual 69, 3) := by decide +kernel
theorem dL_law_619 : decode cL_law 619 = .ok (.aload_n 2, 1) := by decide +kernel
theorem dL_law_620 : decode cL_law 620 = .ok (.aload_n 0, 1) := by decide +kernel
theorem dL_law_621 : decode cL_law 621 = .ok (.iload_n 3, 1) := by decide +kernel
theorem dL_law_622 : decode cL_law 622 = .ok (.iconst 1, 1) := by decide +kernel
theorem dL_law_623 : decode cL_law 623 = .ok (.iadd, 1) := by decide +kernel
theorem dL_law_624 : decode cL_law 624 = .ok (.iaload, 1) := by decide +kernel
theorem dL_law_625 : decode cL_law 625 = .ok (.invokevirtual 72, 3) := by decide +kernel
theorem dL_law_628 : decode cL_law 628 = .ok (.if_icmp .eq 1003, 3) := by decide +kernel
theorem dL_law_631 : decode cL_law 631 = .ok (.iconst 0, 1) := by decide +kernel
theorem dL_law_632 : decode cL_law 632 = .ok (.ireturn, 1) := by decide +kernel
theorem dL_law_633 : decode cL_law 633 = .ok (.aload_n 1, 1) := by decide +kernel
theorem dL_law_634 : decode cL_law 634 = .ok (.aload_n 0, 1) := by decide +kernel
theorem dL_law_635 : decode cL_law 635 = .ok (.iload_n 3, 1) := by decide +kernel
theorem dL_law_636 : decode cL_law 636 = .ok (.iconst 1, 1) := by decide +kernel
theorem dL_law_637 : decode cL_law 637 = .ok (.iadd, 1) := by decide +kernel
theorem dL_law_638 : decode cL_law 638 = .ok (.iaload, 1) := by decide +kernel
theorem dL_law_639 : decode cL_law 639 = .ok (.invokevirtual 73, 3) := by decide +kernel
theorem dL_law_642 : decode cL_law 642 = .ok (.aload_n 2, 1) := by decide +kernel
theorem dL_law_643 : decode cL_law 643 = .ok (.aload_n 0, 1) := by decide +kernel
theorem dL_law_644 : decode cL_law 644 = .ok (.iload_n 3, 1) := by decide +kernel
theorem dL_law_645 : decode cL_law 645 = .ok (.iconst 1, 1) := by decide +kernel
theorem dL_law_646 : decode cL_law 646 = .ok (.iadd, 1) := by decide +kernel
theorem dL_law_647 : decode cL_law 647 = .ok (.iaload, 1) := by decide +kernel
theorem dL_law_648 : decode cL_law 648 = .ok (.invokevirtual 76, 3) := by decide +kernel
theorem dL_law_651 : decode cL_law 651 = .ok (.if_icmp .eq 980, 3) := by decide +kernel
theorem dL_law_654 : decode cL_law 654 = .ok (.iconst 0, 1) := by decide +kernel
theorem dL_law_655 : decode cL_law 655 = .ok (.ireturn, 1) := by decide +kernel
theorem dL_law_656 : decode cL_law 656 = .ok (.aload_n 1, 1) := by decide +kernel
theorem dL_law_657 : decode cL_law 657 = .ok (.aload_n 0, 1) := by decide +kernel
theorem dL_law_658 : decode cL_law 658 = .ok (.iload_n 3, 1) := by decide +kernel
theorem dL_law_659 : decode cL_law 659 = .ok (.iconst 1, 1) := by decide +kernel
theorem dL_law_660 : decode cL_law 660 = .ok (.iadd, 1) := by decide +kernel
theorem dL_law_661 : decode cL_law 661 = .ok (.iaload, 1) := by decide +kernel
theorem dL_law_662 : decode cL_law 662 = .ok (.invokevirtual 77, 3) := by decide +kernel
theorem dL_law_665 : decode cL_law 665 = .ok (.aload_n 2, 1) := by decide +kernel
theorem dL_law_666 : decode cL_law 666 = .ok (.aload_n 0, 1) := by decide +kernel
theorem dL_law_667 : decode cL_law 667 = .ok (.iload_n 3, 1) := by decide +kernel
theorem dL_law_668 : decode cL_law 668 = .ok (.iconst 1, 1) := by decide +kernel
theorem dL_law_669 : decode cL_law 669 = .ok (.iadd, 1) := by decide +kernel
theorem dL_law_670 : decode cL_law 670 = .ok (.iaload, 1) := by decide +kernel
theorem dL_law_671 : decode cL_law 671 = .ok (.invokevirtual 80, 3) := by decide +kernel
theorem dL_law_674 : decode cL_law 674 = .ok (.if_icmp .eq 957, 3) := by decide +kernel
theorem dL_law_677 : decode cL_law 677 = .ok (.iconst 0, 1) := by decide +kernel
theorem dL_law_678 : decode cL_law 678 = .ok (.ireturn, 1) := by decide +kernel
theorem dL_law_679 : decode cL_law 679 = .ok (.aload_n 1, 1) := by decide +kernel
theorem dL_law_680 : decode cL_law 680 = .ok (.aload_n 0, 1) := by decide +kernel
theorem dL_law_681 : decode cL_law 681 = .ok (.iload_n 3, 1) := by decide +kernel
theorem dL_law_682 : decode cL_law 682 = .ok (.iconst 1, 1) := by decide +kernel
theorem dL_law_683 : decode cL_law 683 = .ok (.iadd, 1) := by decide +kernel
theorem dL_law_684 : decode cL_law 684 = .ok (.iaload, 1) := by decide +kernel
theorem dL_law_685 : decode cL_law 685 = .ok (.invokevirtual 81, 3) := by decide +kernel
theorem dL_law_688 : decode cL_law 688 = .ok (.aload_n 2, 1) := by decide +kernel
theorem dL_law_689 : decode cL_law 689 = .ok (.aload_n 0, 1) := by decide +kernel
theorem dL_law_690 : decode cL_law 690 = .ok (.iload_n 3, 1) := by decide +kernel
theorem dL_law_691 : decode cL_law 691 = .ok (.iconst 1, 1) := by decide +kernel
theorem dL_law_692 : decode cL_law 692 = .ok (.iadd, 1) := by decide +kernel
theorem dL_law_693 : decode cL_law 693 = .ok (.iaload, 1) := by decide +kernel
theorem dL_law_694 : decode cL_law 694 = .ok (.invokevirtual 84, 3) := by decide +kernel
theorem dL_law_697 : decode cL_law 697 = .ok (.if_icmp .eq 934, 3) := by decide +kernel
theorem dL_law_700 : decode cL_law 700 = .ok (.iconst 0, 1) := by decide +kernel
theorem dL_law_701 : decode cL_law 701 = .ok (.ireturn, 1) := by decide +kernel
theorem dL_law_702 : decode cL_law 702 = .ok (.aload_n 1, 1) := by decide +kernel
theorem dL_law_703 : decode cL_law 703 = .ok (.aload_n 0, 1) := by decide +kernel
theorem dL_law_704 : decode cL_law 704 = .ok (.iload_n 3, 1) := by decide +kernel
theorem dL_law_705 : decode cL_law 705 = .ok (.iconst 1, 1) := by decide +kernel
theorem dL_law_706 : decode cL_law 706 = .ok (.iadd, 1) := by decide +kernel
theorem dL_law_707 : decode cL_law 707 = .ok (.iaload, 1) := by decide +kernel
theorem dL_law_708 : decode cL_law 708 = .ok (.aload_n 0, 1) := by decide +kernel
theorem dL_law_709 : decode cL_law 709 = .ok (.iload_n 3, 1) := by decide +kernel
theorem dL_law_710 : decode cL_law 710 = .ok (.iconst 2, 1) := by decide +kernel
theorem dL_law_711 : decode cL_law 711 = .ok (.iadd, 1) := by decide +kernel
theorem dL_law_712 : decode cL_law 712 = .ok (.iaload, 1) := by decide +kernel
theorem dL_law_713 : decode cL_law 713 = .ok (.invokevirtual 85, 3) := by decide +kernel
theorem dL_law_716 : decode cL_law 716 = .ok (.aload_n 2, 1) := by decide +kernel
theorem dL_law_717 : decode cL_law 717 = .ok (.aload_n 0, 1) := by decide +kernel
theorem dL_law_718 : decode cL_law 718 = .ok (.iload_n 3, 1) := by decide +kernel
theorem dL_law_719 : decode cL_law 719 = .ok (.iconst 1, 1) := by decide +kernel
theorem dL_law_720 : decode cL_law 720 = .ok (.iadd, 1) := by decide +kernel
theorem dL_law_721 : decode cL_law 721 = .ok (.iaload, 1) := by decide +kernel
theorem dL_law_722 : decode cL_law 722 = .ok (.aload_n 0, 1) := by decide +kernel
theorem dL_law_723 : decode cL_law 723 = .ok (.iload_n 3, 1) := by decide +kernel
theorem dL_law_724 : decode cL_law 724 = .ok (.iconst 2, 1) := by decide +kernel
theorem dL_law_725 : decode cL_law 725 = .ok (.iadd, 1) := by decide +kernel
theorem dL_law_726 : decode cL_law 726 = .ok (.iaload, 1) := by decide +kernel
theorem dL_law_727 : decode cL_law 727 = .ok (.invokevirtual 88, 3) := by decide +kernel
theorem dL_law_730 : decode cL_law 730 = .ok (.if_icmp .eq 901, 3) := by decide +kernel
theorem dL_law_733 : decode cL_law 733 = .ok (.iconst 0, 1) := by decide +kernel
theorem dL_law_734 : decode cL_law 734 = .ok (.ireturn, 1) := by decide +kernel
theorem dL_law_735 : decode cL_law 735 = .ok (.aload_n 1, 1) := by decide +kernel
theorem dL_law_736 : decode cL_law 736 = .ok (.aload_n 0, 1) := by decide +kernel
theorem dL_law_737 : decode cL_law 737 = .ok (.iload_n 3, 1) := by decide +kernel
theorem dL_law_738 : decode cL_law 738 = .ok (.iconst 1, 1) := by decide +kernel
theorem dL_law_739 : decode cL_law 739 = .ok (.iadd, 1) := by decide +kernel
theorem dL_law_740 : decode cL_law 740 = .ok (.iaload, 1) := by decide +kernel
theorem dL_law_741 : decode cL_law 741 = .ok (.invokevirtual 89, 3) := by decide +kernel
theorem dL_law_744 : decode cL_law 744 = .ok (.aload_n 2, 1) := by decide +kernel
theorem dL_law_745 : decode cL_law 745 = .ok (.aload_n 0, 1) := by decide +kernel
theorem dL_law_746 : decode cL_law 746 = .ok (.iload_n 3, 1) := by decide +kernel
theorem dL_law_747 : decode cL_law 747 = .ok (.iconst 1, 1) := by decide +kernel
theorem dL_law_748 : decode cL_law 748 = .ok (.iadd, 1) := by decide +kernel
theorem dL_law_749 : decode cL_law 749 = .ok (.iaload, 1) := by decide +kernel
theorem dL_law_750 : decode cL_law 750 = .ok (.invokevirtual 92, 3) := by decide +kernel
theorem dL_law_753 : decode cL_law 753 = .ok (.if_icmp .eq 878, 3) := by decide +kernel
theorem dL_law_756 : decode cL_law 756 = .ok (.iconst 0, 1) := by decide +kernel
theorem dL_law_757 : decode cL_law 757 = .ok (.ireturn, 1) := by decide +kernel
theorem dL_law_758 : decode cL_law 758 = .ok (.aload_n 1, 1) := by decide +kernel
theorem dL_law_759 : decode cL_law 759 = .ok (.aload_n 0, 1) := by decide +kernel
theorem dL_law_760 : decode cL_law 760 = .ok (.iload_n 3, 1) := by decide +kernel
theorem dL_law_761 : decode cL_law 761 = .ok (.iconst 1, 1) := by decide +kernel
theorem dL_law_762 : decode cL_law 762 = .ok (.iadd, 1) := by decide +kernel
theorem dL_law_763 : decode cL_law 763 = .ok (.iaload, 1) := by decide +kernel
theorem dL_law_764 : decode cL_law 764 = .ok (.invokevirtual 93, 3) := by decide +kernel
theorem dL_law_767 : decode cL_law 767 = .ok (.aload_n 2, 1) := by decide +kernel
theorem dL_law_768 : decode cL_law 768 = .ok (.aload_n 0, 1) := by decide +kernel
theorem dL_law_769 : decode cL_law 769 = .ok (.iload_n 3, 1) := by decide +kernel
theorem dL_law_770 : decode cL_law 770 = .ok (.iconst 1, 1) := by decide +kernel
theorem dL_law_771 : decode cL_law 771 = .ok (.iadd, 1) := by decide +kernel
theorem dL_law_772 : decode cL_law 772 = .ok (.iaload, 1) := by decide +kernel
theorem dL_law_773 : decode cL_law 773 = .ok (.invokevirtual 96, 3) := by decide +kernel
theorem dL_law_776 : decode cL_law 776 = .ok (.if_icmp .eq 855, 3) := by decide +kernel
theorem dL_law_779 : decode cL_law 779 = .ok (.iconst 0, 1) := by decide +kernel
theorem dL_law_780 : decode cL_law 780 = .ok (.ireturn, 1) := by decide +kernel
theorem dL_law_781 : decode cL_law 781 = .ok (.aload_n 1, 1) := by decide +kernel
theorem dL_law_782 : decode cL_law 782 = .ok (.aload_n 0, 1) := by decide +kernel
theorem dL_law_783 : decode cL_law 783 = .ok (.iload_n 3, 1) := by decide +kernel
theorem dL_law_784 : decode cL_law 784 = .ok (.iconst 1, 1) := by decide +kernel
theorem dL_law_785 : decode cL_law 785 = .ok (.iadd, 1) := by decide +kernel
theorem dL_law_786 : decode cL_law 786 = .ok (.iaload, 1) := by decide +kernel
theorem dL_law_787 : decode cL_law 787 = .ok (.invokevirtual 97, 3) := by decide +kernel
theorem dL_law_790 : decode cL_law 790 = .ok (.aload_n 2, 1) := by decide +kernel
theorem dL_law_791 : decode cL_law 791 = .ok (.aload_n 0, 1) := by decide +kernel
theorem dL_law_792 : decode cL_law 792 = .ok (.iload_n 3, 1) := by decide +kernel
theorem dL_law_793 : decode cL_law 793 = .ok (.iconst 1, 1) := by decide +kernel
theorem dL_law_794 : decode cL_law 794 = .ok (.iadd, 1) := by decide +kernel
theorem dL_law_795 : decode cL_law 795 = .ok (.iaload, 1) := by decide +kernel
theorem dL_law_796 : decode cL_law 796 = .ok (.invokevirtual 100, 3) := by decide +kernel
theorem dL_law_799 : decode cL_law 799 = .ok (.if_icmp .eq 832, 3) := by decide +kernel
theorem dL_law_802 : decode cL_law 802 = .ok (.iconst 0, 1) := by decide +kernel
theorem dL_law_803 : decode cL_law 803 = .ok (.ireturn, 1) := by decide +kernel
theorem dL_law_804 : decode cL_law 804 = .ok (.aload_n 1, 1) := by decide +kernel
theorem dL_law_805 : decode cL_law 805 = .ok (.invokevirtual 101, 3) := by decide +kernel
theorem dL_law_808 : decode cL_law 808 = .ok (.aload_n 2, 1) := by decide +kernel
theorem dL_law_809 : decode cL_law 809 = .ok (.invokevirtual 104, 3) := by decide +kernel
theorem dL_law_812 : decode cL_law 812 = .ok (.if_icmp .eq 819, 3) := by decide +kernel
theorem dL_law_815 : decode cL_law 815 = .ok (.iconst 0, 1) := by decide +kernel
theorem dL_law_816 : decode cL_law 816 = .ok (.ireturn, 1) := by decide +kernel
theorem dL_law_817 : decode cL_law 817 = .ok (.aload_n 1, 1) := by decide +kernel
theorem dL_law_818 : decode cL_law 818 = .ok (.aload_n 0, 1) := by decide +kernel
theorem dL_law_819 : decode cL_law 819 = .ok (.iload_n 3, 1) := by decide +kernel
theorem dL_law_820 : decode cL_law 820 = .ok (.iconst 1, 1) := by decide +kernel
theorem dL_law_821 : decode cL_law 821 = .ok (.iadd, 1) := by decide +kernel
theorem dL_law_822 : decode cL_law 822 = .ok (.iaload, 1) := by decide +kernel
theorem dL_law_823 : decode cL_law 823 = .ok (.invokevirtual 105, 3) := by decide +kernel
theorem dL_law_826 : decode cL_law 826 = .ok (.aload_n 2, 1) := by decide +kernel
theorem dL_law_827 : decode cL_law 827 = .ok (.aload_n 0, 1) := by decide +kernel
theorem dL_law_828 : decode cL_law 828 = .ok (.iload_n 3, 1) := by decide +kernel
theorem dL_law_829 : decode cL_law 829 = .ok (.iconst 1, 1) := by decide +kernel
theorem dL_law_830 : decode cL_law 830 = .ok (.iadd, 1) := by decide +kernel
theorem dL_law_831 : decode cL_law 831 = .ok (.iaload, 1) := by decide +kernel
theorem dL_law_832 : decode cL_law 832 = .ok (.invokevirtual 108, 3) := by decide +kernel
theorem dL_law_835 : decode cL_law 835 = .ok (.if_icmp .eq 796, 3) := by decide +kernel
theorem dL_law_838 : decode cL_law 838 = .ok (.iconst 0, 1) := by decide +kernel
theorem dL_law_839 : decode cL_law 839 = .ok (.ireturn, 1) := by decide +kernel
theorem dL_law_840 : decode cL_law 840 = .ok (.aload_n 1, 1) := by decide +kernel
theorem dL_law_841 : decode cL_law 841 = .ok (.aload_n 0, 1) := by decide +kernel
theorem dL_law_842 : decode cL_law 842 = .ok (.iload_n 3, 1) := by decide +kernel
theorem dL_law_843 : decode cL_law 843 = .ok (.iconst 1, 1) := by decide +kernel
theorem dL_law_844 : decode cL_law 844 = .ok (.iadd, 1) := by decide +kernel
theorem dL_law_845 : decode cL_law 845 = .ok (.iaload, 1) := by decide +kernel
theorem dL_law_846 : decode cL_law 846 = .ok (.aload_n 0, 1) := by decide +kernel
theorem dL_law_847 : decode cL_law 847 = .ok (.iload_n 3, 1) := by decide +kernel
theorem dL_law_848 : decode cL_law 848 = .ok (.iconst 2, 1) := by decide +kernel
theorem dL_law_849 : decode cL_law 849 = .ok (.iadd, 1) := by decide +kernel
theorem dL_law_850 : decode cL_law 850 = .ok (.iaload, 1) := by decide +kernel
theorem dL_law_851 : decode cL_law 851 = .ok (.invokevirtual 109, 3) := by decide +kernel
theorem dL_law_854 : decode cL_law 854 = .ok (.aload_n 2, 1) := by decide +kernel
theorem dL_law_855 : decode cL_law 855 = .ok (.aload_n 0, 1) := by decide +kernel
theorem dL_law_856 : decode cL_law 856 = .ok (.iload_n 3, 1) := by decide +kernel
theorem dL_law_857 : decode cL_law 857 = .ok (.iconst 1, 1) := by decide +kernel
theorem dL_law_858 : decode cL_law 858 = .ok (.iadd, 1) := by decide +kernel
theorem dL_law_859 : decode cL_law 859 = .ok (.iaload, 1) := by decide +kernel
theorem dL_law_860 : decode cL_law 860 = .ok (.aload_n 0, 1) := by decide +kernel
theorem dL_law_861 : decode cL_law 861 = .ok (.iload_n 3, 1) := by decide +kernel
theorem dL_law_862 : decode cL_law 862 = .ok (.iconst 2, 1) := by decide +kernel
theorem dL_law_863 : decode cL_law 863 = .ok (.iadd, 1) := by decide +kernel
theorem dL_law_864 : decode cL_law 864 = .ok (.iaload, 1) := by decide +kernel
theorem dL_law_865 : decode cL_law 865 = .ok (.invokevirtual 112, 3) := by decide +kernel
theorem dL_law_868 : decode cL_law 868 = .ok (.if_icmp .eq 763, 3) := by decide +kernel
theorem dL_law_871 : decode cL_law 871 = .ok (.iconst 0, 1) := by decide +kernel
theorem dL_law_872 : decode cL_law 872 = .ok (.ireturn, 1) := by decide +kernel
theorem dL_law_873 : decode cL_law 873 = .ok (.aload_n 1, 1) := by decide +kernel
theorem dL_law_874 : decode cL_law 874 = .ok (.aload_n 0, 1) := by decide +kernel
theorem dL_law_875 : decode cL_law 875 = .ok (.iload_n 3, 1) := by decide +kernel
theorem dL_law_876 : decode cL_law 876 = .ok (.iconst 1, 1) := by decide +kernel
theorem dL_law_877 : decode cL_law 877 = .ok (.iadd, 1) := by decide +kernel
theorem dL_law_878 : decode cL_law 878 = .ok (.iaload, 1) := by decide +kernel
theorem dL_law_879 : decode cL_law 879 = .ok (.invokevirtual 113, 3) := by decide +kernel
theorem dL_law_882 : decode cL_law 882 = .ok (.aload_n 2, 1) := by decide +kernel
theorem dL_law_883 : decode cL_law 883 = .ok (.aload_n 0, 1) := by decide +kernel
theorem dL_law_884 : decode cL_law 884 = .ok (.iload_n 3, 1) := by decide +kernel
theorem dL_law_885 : decode cL_law 885 = .ok (.iconst 1, 1) := by decide +kernel
theorem dL_law_886 : decode cL_law 886 = .ok (.iadd, 1) := by decide +kernel
theorem dL_law_887 : decode cL_law 887 = .ok (.iaload, 1) := by decide +kernel
theorem dL_law_888 : decode cL_law 888 = .ok (.invokevirtual 116, 3) := by decide +kernel
theorem dL_law_891 : decode cL_law 891 = .ok (.if_icmp .eq 740, 3) := by decide +kernel
theorem dL_law_894 : decode cL_law 894 = .ok (.iconst 0, 1) := by decide +kernel
theorem dL_law_895 : decode cL_law 895 = .ok (.ireturn, 1) := by decide +kernel
theorem dL_law_896 : decode cL_law 896 = .ok (.aload_n 1, 1) := by decide +kernel
theorem dL_law_897 : decode cL_law 897 = .ok (.aload_n 0, 1) := by decide +kernel
theorem dL_law_898 : decode cL_law 898 = .ok (.iload_n 3, 1) := by decide +kernel
theorem dL_law_899 : decode cL_law 899 = .ok (.iconst 1, 1) := by decide +kernel
theorem dL_law_900 : decode cL_law 900 = .ok (.iadd, 1) := by decide +kernel
theorem dL_law_901 : decode cL_law 901 = .ok (.iaload, 1) := by decide +kernel
theorem dL_law_902 : decode cL_law 902 = .ok (.invokevirtual 117, 3) := by decide +kernel
theorem dL_law_905 : decode cL_law 905 = .ok (.aload_n 2, 1) := by decide +kernel
theorem dL_law_906 : decode cL_law 906 = .ok (.aload_n 0, 1) := by decide +kernel
theorem dL_law_907 : decode cL_law 907 = .ok (.iload_n 3, 1) := by decide +kernel
theorem dL_law_908 : decode cL_law 908 = .ok (.iconst 1, 1) := by decide +kernel
theorem dL_law_909 : decode cL_law 909 = .ok (.iadd, 1) := by decide +kernel
theorem dL_law_910 : decode cL_law 910 = .ok (.iaload, 1) := by decide +kernel
theorem dL_law_911 : decode cL_law 911 = .ok (.invokevirtual 120, 3) := by decide +kernel
theorem dL_law_914 : decode cL_law 914 = .ok (.if_icmp .eq 717, 3) := by decide +kernel
theorem dL_law_917 : decode cL_law 917 = .ok (.iconst 0, 1) := by decide +kernel
theorem dL_law_918 : decode cL_law 918 = .ok (.ireturn, 1) := by decide +kernel
theorem dL_law_919 : decode cL_law 919 = .ok (.aload_n 1, 1) := by decide +kernel
theorem dL_law_920 : decode cL_law 920 = .ok (.aload_n 0, 1) := by decide +kernel
theorem dL_law_921 : decode cL_law 921 = .ok (.iload_n 3, 1) := by decide +kernel
theorem dL_law_922 : decode cL_law 922 = .ok (.iconst 1, 1) := by decide +kernel
theorem dL_law_923 : decode cL_law 923 = .ok (.iadd, 1) := by decide +kernel
theorem dL_law_924 : decode cL_law 924 = .ok (.iaload, 1) := by decide +kernel
theorem dL_law_925 : decode cL_law 925 = .ok (.invokevirtual 121, 3) := by decide +kernel
theorem dL_law_928 : decode cL_law 928 = .ok (.aload_n 2, 1) := by decide +kernel
theorem dL_law_929 : decode cL_law 929 = .ok (.aload_n 0, 1) := by decide +kernel
theorem dL_law_930 : decode cL_law 930 = .ok (.iload_n 3, 1) := by decide +kernel
theorem dL_law_931 : decode cL_law 931 = .ok (.iconst 1, 1) := by decide +kernel
theorem dL_law_932 : decode cL_law 932 = .ok (.iadd, 1) := by decide +kernel
theorem dL_law_933 : decode cL_law 933 = .ok (.iaload, 1) := by decide +kernel
theorem dL_law_934 : decode cL_law 934 = .ok (.invokevirtual 124, 3) := by decide +kernel
theorem dL_law_937 : decode cL_law 937 = .ok (.if_icmp .eq 694, 3) := by decide +kernel
theorem dL_law_940 : decode cL_law 940 = .ok (.iconst 0, 1) := by decide +kernel
theorem dL_law_941 : decode cL_law 941 = .ok (.ireturn, 1) := by decide +kernel
theorem dL_law_942 : decode cL_law 942 = .ok (.aload_n 1, 1) := by decide +kernel
theorem dL_law_943 : decode cL_law 943 = .ok (.aload_n 0, 1) := by decide +kernel
theorem dL_law_944 : decode cL_law 944 = .ok (.iload_n 3, 1) := by decide +kernel
theorem dL_law_945 : decode cL_law 945 = .ok (.iconst 1, 1) := by decide +kernel
theorem dL_law_946 : decode cL_law 946 = .ok (.iadd, 1) := by decide +kernel
theorem dL_law_947 : decode cL_law 947 = .ok (.iaload, 1) := by decide +kernel
theorem dL_law_948 : decode cL_law 948 = .ok (.aload_n 0, 1) := by decide +kernel
theorem dL_law_949 : decode cL_law 949 = .ok (.iload_n 3, 1) := by decide +kernel
theorem dL_law_950 : decode cL_law 950 = .ok (.iconst 2, 1) := by decide +kernel
theorem dL_law_951 : decode cL_law 951 = .ok (.iadd, 1) := by decide +kernel
theorem dL_law_952 : decode cL_law 952 = .ok (.iaload, 1) := by decide +kernel
theorem dL_law_953 : decode cL_law 953 = .ok (.aload_n 0, 1) := by decide +kernel
theorem dL_law_954 : decode cL_law 954 = .ok (.iload_n 3, 1) := by decide +kernel
theorem dL_law_955 : decode cL_law 955 = .ok (.iconst 3, 1) := by decide +kernel
theorem dL_law_956 : decode cL_law 956 = .ok (.iadd, 1) := by decide +kernel
theorem dL_law_957 : decode cL_law 957 = .ok (.iaload, 1) := by decide +kernel
theorem dL_law_958 : decode cL_law 958 = .ok (.aload_n 0, 1) := by decide +kernel
theorem dL_law_959 : decode cL_law 959 = .ok (.iload_n 3, 1) := by decide +kernel
theorem dL_law_960 : decode cL_law 960 = .ok (.iconst 4, 1) := by decide +kernel
theorem dL_law_961 : decode cL_law 961 = .ok (.iadd, 1) := by decide +kernel
theorem dL_law_962 : decode cL_law 962 = .ok (.iaload, 1) := by decide +kernel
theorem dL_law_963 : decode cL_law 963 = .ok (.invokevirtual 125, 3) := by decide +kernel
theorem dL_law_966 : decode cL_law 966 = .ok (.aload_n 2, 1) := by decide +kernel
theorem dL_law_967 : decode cL_law 967 = .ok (.aload_n 0, 1) := by decide +kernel
theorem dL_law_968 : decode cL_law 968 = .ok (.iload_n 3, 1) := by decide +kernel
theorem dL_law_969 : decode cL_law 969 = .ok (.iconst 1, 1) := by decide +kernel
theorem dL_law_970 : decode cL_law 970 = .ok (.iadd, 1) := by decide +kernel
theorem dL_law_971 : decode cL_law 971 = .ok (.iaload, 1) := by decide +kernel
theorem dL_law_972 : decode cL_law 972 = .ok (.aload_n 0, 1) := by decide +kernel
theorem dL_law_973 : decode cL_law 973 = .ok (.iload_n 3, 1) := by decide +kernel
theorem dL_law_974 : decode cL_law 974 = .ok (.iconst 2, 1) := by decide +kernel
theorem dL_law_975 : decode cL_law 975 = .ok (.iadd, 1) := by decide +kernel
theorem dL_law_976 : decode cL_law 976 = .ok (.iaload, 1) := by decide +kernel
theorem dL_law_977 : decode cL_law 977 = .ok (.aload_n 0, 1) := by decide +kernel
theorem dL_law_978 : decode cL_law 978 = .ok (.iload_n 3, 1) := by decide +kernel
theorem dL_law_979 : decode cL_law 979 = .ok (.iconst 3, 1) := by decide +kernel
theorem dL_law_980 : decode cL_law 980 = .ok (.iadd, 1) := by decide +kernel
theorem dL_law_981 : decode cL_law 981 = .ok (.iaload, 1) := by decide +kernel
theorem dL_law_982 : decode cL_law 982 = .ok (.aload_n 0, 1) := by decide +kernel
theorem dL_law_983 : decode cL_law 983 = .ok (.iload_n 3, 1) := by decide +kernel
theorem dL_law_984 : decode cL_law 984 = .ok (.iconst 4, 1) := by decide +kernel
theorem dL_law_985 : decode cL_law 985 = .ok (.iadd, 1) := by decide +kernel
theorem dL_law_986 : decode cL_law 986 = .ok (.iaload, 1) := by decide +kernel
theorem dL_law_987 : decode cL_law 987 = .ok (.invokevirtual 128, 3) := by decide +kernel
theorem dL_law_990 : decode cL_law 990 = .ok (.if_icmp .eq 641, 3) := by decide +kernel
theorem dL_law_993 : decode cL_law 993 = .ok (.iconst 0, 1) := by decide +kernel
theorem dL_law_994 : decode cL_law 994 = .ok (.ireturn, 1) := by decide +kernel
theorem dL_law_995 : decode cL_law 995 = .ok (.aload_n 1, 1) := by decide +kernel
theorem dL_law_996 : decode cL_law 996 = .ok (.invokevirtual 129, 3) := by decide +kernel
theorem dL_law_999 : decode cL_law 999 = .ok (.aload_n 2, 1) := by decide +kernel
theorem dL_law_1000 : decode cL_law 1000 = .ok (.invokevirtual 132, 3) := by decide +kernel
theorem dL_law_1003 : decode cL_law 1003 = .ok (.if_icmp .eq 628, 3) := by decide +kernel
theorem dL_law_1006 : decode cL_law 1006 = .ok (.iconst 0, 1) := by decide +kernel
theorem dL_law_1007 : decode cL_law 1007 = .ok (.ireturn, 1) := by decide +kernel
theorem dL_law_1008 : decode cL_law 1008 = .ok (.aload_n 1, 1) := by decide +kernel
theorem dL_law_1009 : decode cL_law 1009 = .ok (.aload_n 0, 1) := by decide +kernel
theorem dL_law_1010 : decode cL_law 1010 = .ok (.iload_n 3, 1) := by decide +kernel
theorem dL_law_1011 : decode cL_law 1011 = .ok (.iconst 1, 1) := by decide +kernel
theorem dL_law_1012 : decode cL_law 1012 = .ok (.iadd, 1) := by decide +kernel
theorem dL_law_1013 : decode cL_law 1013 = .ok (.iaload, 1) := by decide +kernel
theorem dL_law_1014 : decode cL_law 1014 = .ok (.invokevirtual 133, 3) := by decide +kernel
theorem dL_law_1017 : decode cL_law 1017 = .ok (.aload_n 2, 1) := by decide +kernel
theorem dL_law_1018 : decode cL_law 1018 = .ok (.aload_n 0, 1) := by decide +kernel
theorem dL_law_1019 : decode cL_law 1019 = .ok (.iload_n 3, 1) := by decide +kernel
theorem dL_law_1020 : decode cL_law 1020 = .ok (.iconst 1, 1) := by decide +kernel
theorem dL_law_1021 : decode cL_law 1021 = .ok (.iadd, 1) := by decide +kernel
theorem dL_law_1022 : decode cL_law 1022 = .ok (.iaload, 1) := by decide +kernel
theorem dL_law_1023 : decode cL_law 1023 = .ok (.invokevirtual 136, 3) := by decide +kernel
theorem dL_law_1026 : decode cL_law 1026 = .ok (.if_icmp .eq 605, 3) := by decide +kernel
theorem dL_law_1029 : decode cL_law 1029 = .ok (.iconst 0, 1) := by decide +kernel
theorem dL_law_1030 : decode cL_law 1030 = .ok (.ireturn, 1) := by decide +kernel
theorem dL_law_1031 : decode cL_law 1031 = .ok (.aload_n 1, 1) := by decide +kernel
theorem dL_law_1032 : decode cL_law 1032 = .ok (.invokevirtual 137, 3) := by decide +kernel
theorem dL_law_1035 : decode cL_law 1035 = .ok (.aload_n 2, 1) := by decide +kernel
theorem dL_law_1036 : decode cL_law 1036 = .ok (.invokevirtual 140, 3) := by decide +kernel
theorem dL_law_1039 : decode cL_law 1039 = .ok (.if_icmp .eq 592, 3) := by decide +kernel
theorem dL_law_1042 : decode cL_law 1042 = .ok (.iconst 0, 1) := by decide +kernel
theorem dL_law_1043 : decode cL_law 1043 = .ok (.ireturn, 1) := by decide +kernel
theorem dL_law_1044 : decode cL_law 1044 = .ok (.aload_n 1, 1) := by decide +kernel
theorem dL_law_1045 : decode cL_law 1045 = .ok (.aload_n 0, 1) := by decide +kernel
theorem dL_law_1046 : decode cL_law 1046 = .ok (.iload_n 3, 1) := by decide +kernel
theorem dL_law_1047 : decode cL_law 1047 = .ok (.iconst 1, 1) := by decide +kernel
theorem dL_law_1048 : decode cL_law 1048 = .ok (.iadd, 1) := by decide +kernel
theorem dL_law_1049 : decode cL_law 1049 = .ok (.iaload, 1) := by decide +kernel
theorem dL_law_1050 : decode cL_law 1050 = .ok (.invokevirtual 141, 3) := by decide +kernel
theorem dL_law_1053 : decode cL_law 1053 = .ok (.aload_n 2, 1) := by decide +kernel
theorem dL_law_1054 : decode cL_law 1054 = .ok (.aload_n 0, 1) := by decide +kernel
theorem dL_law_1055 : decode cL_law 1055 = .ok (.iload_n 3, 1) := by decide +kernel
theorem dL_law_1056 : decode cL_law 1056 = .ok (.iconst 1, 1) := by decide +kernel
theorem dL_law_1057 : decode cL_law 1057 = .ok (.iadd, 1) := by decide +kernel
theorem dL_law_1058 : decode cL_law 1058 = .ok (.iaload, 1) := by decide +kernel
theorem dL_law_1059 : decode cL_law 1059 = .ok (.invokevirtual 144, 3) := by decide +kernel
theorem dL_law_1062 : decode cL_law 1062 = .ok (.if_icmp .eq 569, 3) := by decide +kernel
theorem dL_law_1065 : decode cL_law 1065 = .ok (.iconst 0, 1) := by decide +kernel
theorem dL_law_1066 : decode cL_law 1066 = .ok (.ireturn, 1) := by decide +kernel
theorem dL_law_1067 : decode cL_law 1067 = .ok (.aload_n 1, 1) := by decide +kernel
theorem dL_law_1068 : decode cL_law 1068 = .ok (.invokevirtual 145, 3) := by decide +kernel
theorem dL_law_1071 : decode cL_law 1071 = .ok (.aload_n 2, 1) := by decide +kernel
theorem dL_law_1072 : decode cL_law 1072 = .ok (.invokevirtual 148, 3) := by decide +kernel
theorem dL_law_1075 : decode cL_law 1075 = .ok (.if_icmp .eq 556, 3) := by decide +kernel
theorem dL_law_1078 : decode cL_law 1078 = .ok (.iconst 0, 1) := by decide +kernel
theorem dL_law_1079 : decode cL_law 1079 = .ok (.ireturn, 1) := by decide +kernel
theorem dL_law_1080 : decode cL_law 1080 = .ok (.aload_n 1, 1) := by decide +kernel
theorem dL_law_1081 : decode cL_law 1081 = .ok (.aload_n 0, 1) := by decide +kernel
theorem dL_law_1082 : decode cL_law 1082 = .ok (.iload_n 3, 1) := by decide +kernel
theorem dL_law_1083 : decode cL_law 1083 = .ok (.iconst 1, 1) := by decide +kernel
theorem dL_law_1084 : decode cL_law 1084 = .ok (.iadd, 1) := by decide +kernel
theorem dL_law_1085 : decode cL_law 1085 = .ok (.iaload, 1) := by decide +kernel
theorem dL_law_1086 : decode cL_law 1086 = .ok (.aload_n 0, 1) := by decide +kernel
theorem dL_law_1087 : decode cL_law 1087 = .ok (.iload_n 3, 1) := by decide +kernel
theorem dL_law_1088 : decode cL_law 1088 = .ok (.iconst 2, 1) := by decide +kernel
theorem dL_law_1089 : decode cL_law 1089 = .ok (.iadd, 1) := by decide +kernel
theorem dL_law_1090 : decode cL_law 1090 = .ok (.iaload, 1) := by decide +kernel
theorem dL_law_1091 : decode cL_law 1091 = .ok (.invokevirtual 149, 3) := by decide +kernel
theorem dL_law_1094 : decode cL_law 1094 = .ok (.aload_n 2, 1) := by decide +kernel
theorem dL_law_1095 : decode cL_law 1095 = .ok (.aload_n 0, 1) := by decide +kernel
theorem dL_law_1096 : decode cL_law 1096 = .ok (.iload_n 3, 1) := by decide +kernel
theorem dL_law_1097 : decode cL_law 1097 = .ok (.iconst 1, 1) := by decide +kernel
theorem dL_law_1098 : decode cL_law 1098 = .ok (.iadd, 1) := by decide +kernel
theorem dL_law_1099 : decode cL_law 1099 = .ok (.iaload, 1) := by decide +kernel
theorem dL_law_1100 : decode cL_law 1100 = .ok (.aload_n 0, 1) := by decide +kernel
theorem dL_law_1101 : decode cL_law 1101 = .ok (.iload_n 3, 1) := by decide +kernel
theorem dL_law_1102 : decode cL_law 1102 = .ok (.iconst 2, 1) := by decide +kernel
theorem dL_law_1103 : decode cL_law 1103 = .ok (.iadd, 1) := by decide +kernel
theorem dL_law_1104 : decode cL_law 1104 = .ok (.iaload, 1) := by decide +kernel
theorem dL_law_1105 : decode cL_law 1105 = .ok (.invokevirtual 152, 3) := by decide +kernel
theorem dL_law_1108 : decode cL_law 1108 = .ok (.if_icmp .eq 523, 3) := by decide +kernel
theorem dL_law_1111 : decode cL_law 1111 = .ok (.iconst 0, 1) := by decide +kernel
theorem dL_law_1112 : decode cL_law 1112 = .ok (.ireturn, 1) := by decide +kernel
theorem dL_law_1113 : decode cL_law 1113 = .ok (.aload_n 1, 1) := by decide +kernel
theorem dL_law_1114 : decode cL_law 1114 = .ok (.aload_n 0, 1) := by decide +kernel
theorem dL_law_1115 : decode cL_law 1115 = .ok (.iload_n 3, 1) := by decide +kernel
theorem dL_law_1116 : decode cL_law 1116 = .ok (.iconst 1, 1) := by decide +kernel
theorem dL_law_1117 : decode cL_law 1117 = .ok (.iadd, 1) := by decide +kernel
theorem dL_law_1118 : decode cL_law 1118 = .ok (.iaload, 1) := by decide +kernel
theorem dL_law_1119 : decode cL_law 1119 = .ok (.invokevirtual 153, 3) := by decide +kernel
theorem dL_law_1122 : decode cL_law 1122 = .ok (.aload_n 2, 1) := by decide +kernel
theorem dL_law_1123 : decode cL_law 1123 = .ok (.aload_n 0, 1) := by decide +kernel
theorem dL_law_1124 : decode cL_law 1124 = .ok (.iload_n 3, 1) := by decide +kernel
theorem dL_law_1125 : decode cL_law 1125 = .ok (.iconst 1, 1) := by decide +kernel
theorem dL_law_1126 : decode cL_law 1126 = .ok (.iadd, 1) := by decide +kernel
theorem dL_law_1127 : decode cL_law 1127 = .ok (.iaload, 1) := by decide +kernel
theorem dL_law_1128 : decode cL_law 1128 = .ok (.invokevirtual 156, 3) := by decide +kernel
theorem dL_law_1131 : decode cL_law 1131 = .ok (.if_icmp .eq 500, 3) := by decide +kernel
theorem dL_law_1134 : decode cL_law 1134 = .ok (.iconst 0, 1) := by decide +kernel
theorem dL_law_1135 : decode cL_law 1135 = .ok (.ireturn, 1) := by decide +kernel
theorem dL_law_1136 : decode cL_law 1136 = .ok (.aload_n 1, 1) := by decide +kernel
theorem dL_law_1137 : decode cL_law 1137 = .ok (.aload_n 0, 1) := by decide +kernel
theorem dL_law_1138 : decode cL_law 1138 = .ok (.iload_n 3, 1) := by decide +kernel
theorem dL_law_1139 : decode cL_law 1139 = .ok (.iconst 1, 1) := by decide +kernel
theorem dL_law_1140 : decode cL_law 1140 = .ok (.iadd, 1) := by decide +kernel
theorem dL_law_1141 : decode cL_law 1141 = .ok (.iaload, 1) := by decide +kernel
theorem dL_law_1142 : decode cL_law 1142 = .ok (.aload_n 0, 1) := by decide +kernel
theorem dL_law_1143 : decode cL_law 1143 = .ok (.iload_n 3, 1) := by decide +kernel
theorem dL_law_1144 : decode cL_law 1144 = .ok (.iconst 2, 1) := by decide +kernel
theorem dL_law_1145 : decode cL_law 1145 = .ok (.iadd, 1) := by decide +kernel
theorem dL_law_1146 : decode cL_law 1146 = .ok (.iaload, 1) := by decide +kernel
theorem dL_law_1147 : decode cL_law 1147 = .ok (.invokevirtual 157, 3) := by decide +kernel
theorem dL_law_1150 : decode cL_law 1150 = .ok (.aload_n 2, 1) := by decide +kernel
theorem dL_law_1151 : decode cL_law 1151 = .ok (.aload_n 0, 1) := by decide +kernel
theorem dL_law_1152 : decode cL_law 1152 = .ok (.iload_n 3, 1) := by decide +kernel
theorem dL_law_1153 : decode cL_law 1153 = .ok (.iconst 1, 1) := by decide +kernel
theorem dL_law_1154 : decode cL_law 1154 = .ok (.iadd, 1) := by decide +kernel
theorem dL_law_1155 : decode cL_law 1155 = .ok (.iaload, 1) := by decide +kernel
theorem dL_law_1156 : decode cL_law 1156 = .ok (.aload_n 0, 1) := by decide +kernel
theorem dL_law_1157 : decode cL_law 1157 = .ok (.iload_n 3, 1) := by decide +kernel
theorem dL_law_1158 : decode cL_law 1158 = .ok (.iconst 2, 1) := by decide +kernel
theorem dL_law_1159 : decode cL_law 1159 = .ok (.iadd, 1) := by decide +kernel
theorem dL_law_1160 : decode cL_law 1160 = .ok (.iaload, 1) := by decide +kernel
theorem dL_law_1161 : decode cL_law 1161 = .ok (.invokevirtual 160, 3) := by decide +kernel
theorem dL_law_1164 : decode cL_law 1164 = .ok (.if_icmp .eq 467, 3) := by decide +kernel
theorem dL_law_1167 : decode cL_law 1167 = .ok (.iconst 0, 1) := by decide +kernel
theorem dL_law_1168 : decode cL_law 1168 = .ok (.ireturn, 1) := by decide +kernel
theorem dL_law_1169 : decode cL_law 1169 = .ok (.aload_n 1, 1) := by decide +kernel
theorem dL_law_1170 : decode cL_law 1170 = .ok (.aload_n 0, 1) := by decide +kernel
theorem dL_law_1171 : decode cL_law 1171 = .ok (.iload_n 3, 1) := by decide +kernel
theorem dL_law_1172 : decode cL_law 1172 = .ok (.iconst 1, 1) := by decide +kernel
theorem dL_law_1173 : decode cL_law 1173 = .ok (.iadd, 1) := by decide +kernel
theorem dL_law_1174 : decode cL_law 1174 = .ok (.iaload, 1) := by decide +kernel
theorem dL_law_1175 : decode cL_law 1175 = .ok (.aload_n 0, 1) := by decide +kernel
theorem dL_law_1176 : decode cL_law 1176 = .ok (.iload_n 3, 1) := by decide +kernel
theorem dL_law_1177 : decode cL_law 1177 = .ok (.iconst 2, 1) := by decide +kernel
theorem dL_law_1178 : decode cL_law 1178 = .ok (.iadd, 1) := by decide +kernel
theorem dL_law_1179 : decode cL_law 1179 = .ok (.iaload, 1) := by decide +kernel
theorem dL_law_1180 : decode cL_law 1180 = .ok (.aload_n 0, 1) := by decide +kernel
theorem dL_law_1181 : decode cL_law 1181 = .ok (.iload_n 3, 1) := by decide +kernel
theorem dL_law_1182 : decode cL_law 1182 = .ok (.iconst 3, 1) := by decide +kernel
theorem dL_law_1183 : decode cL_law 1183 = .ok (.iadd, 1) := by decide +kernel
theorem dL_law_1184 : decode cL_law 1184 = .ok (.iaload, 1) := by decide +kernel
theorem dL_law_1185 : decode cL_law 1185 = .ok (.invokevirtual 161, 3) := by decide +kernel
theorem dL_law_1188 : decode cL_law 1188 = .ok (.aload_n 2, 1) := by decide +kernel
theorem dL_law_1189 : decode cL_law 1189 = .ok (.aload_n 0, 1) := by decide +kernel
theorem dL_law_1190 : decode cL_law 1190 = .ok (.iload_n 3, 1) := by decide +kernel
theorem dL_law_1191 : decode cL_law 1191 = .ok (.iconst 1, 1) := by decide +kernel
theorem dL_law_1192 : decode cL_law 1192 = .ok (.iadd, 1) := by decide +kernel
theorem dL_law_1193 : decode cL_law 1193 = .ok (.iaload, 1) := by decide +kernel
theorem dL_law_1194 : decode cL_law 1194 = .ok (.aload_n 0, 1) := by decide +kernel
theorem dL_law_1195 : decode cL_law 1195 = .ok (.iload_n 3, 1) := by decide +kernel
theorem dL_law_1196 : decode cL_law 1196 = .ok (.iconst 2, 1) := by decide +kernel
theorem dL_law_1197 : decode cL_law 1197 = .ok (.iadd, 1) := by decide +kernel
theorem dL_law_1198 : decode cL_law 1198 = .ok (.iaload, 1) := by decide +kernel
theorem dL_law_1199 : decode cL_law 1199 = .ok (.aload_n 0, 1) := by decide +kernel
theorem dL_law_1200 : decode cL_law 1200 = .ok (.iload_n 3, 1) := by decide +kernel
theorem dL_law_1201 : decode cL_law 1201 = .ok (.iconst 3, 1) := by decide +kernel
theorem dL_law_1202 : decode cL_law 1202 = .ok (.iadd, 1) := by decide +kernel
theorem dL_law_1203 : decode cL_law 1203 = .ok (.iaload, 1) := by decide +kernel
theorem dL_law_1204 : decode cL_law 1204 = .ok (.invokevirtual 164, 3) := by decide +kernel
theorem dL_law_1207 : decode cL_law 1207 = .ok (.if_icmp .eq 424, 3) := by decide +kernel
theorem dL_law_1210 : decode cL_law 1210 = .ok (.iconst 0, 1) := by decide +kernel
theorem dL_law_1211 : decode cL_law 1211 = .ok (.ireturn, 1) := by decide +kernel
theorem dL_law_1212 : decode cL_law 1212 = .ok (.aload_n 1, 1) := by decide +kernel
theorem dL_law_1213 : decode cL_law 1213 = .ok (.invokevirtual 165, 3) := by decide +kernel
theorem dL_law_1216 : decode cL_law 1216 = .ok (.aload_n 2, 1) := by decide +kernel
theorem dL_law_1217 : decode cL_law 1217 = .ok (.invokevirtual 168, 3) := by decide +kernel
theorem dL_law_1220 : decode cL_law 1220 = .ok (.if_icmp .eq 411, 3) := by decide +kernel
theorem dL_law_1223 : decode cL_law 1223 = .ok (.iconst 0, 1) := by decide +kernel
theorem dL_law_1224 : decode cL_law 1224 = .ok (.ireturn, 1) := by decide +kernel
theorem dL_law_1225 : decode cL_law 1225 = .ok (.aload_n 1, 1) := by decide +kernel
theorem dL_law_1226 : decode cL_law 1226 = .ok (.aload_n 0, 1) := by decide +kernel
theorem dL_law_1227 : decode cL_law 1227 = .ok (.iload_n 3, 1) := by decide +kernel
theorem dL_law_1228 : decode cL_law 1228 = .ok (.iconst 1, 1) := by decide +kernel
theorem dL_law_1229 : decode cL_law 1229 = .ok (.iadd, 1) := by decide +kernel
theorem dL_law_1230 : decode cL_law 1230 = .ok (.iaload, 1) := by decide +kernel
theorem dL_law_1231 : decode cL_law 1231 = .ok (.aload_n 0, 1) := by decide +kernel
theorem dL_law_1232 : decode cL_law 1232 = .ok (.iload_n 3, 1) := by decide +kernel
theorem dL_law_1233 : decode cL_law 1233 = .ok (.iconst 2, 1) := by decide +kernel
theorem dL_law_1234 : decode cL_law 1234 = .ok (.iadd, 1) := by decide +kernel
theorem dL_law_1235 : decode cL_law 1235 = .ok (.iaload, 1) := by decide +kernel
theorem dL_law_1236 : decode cL_law 1236 = .ok (.aload_n 0, 1) := by decide +kernel
theorem dL_law_1237 : decode cL_law 1237 = .ok (.iload_n 3, 1) := by decide +kernel
theorem dL_law_1238 : decode cL_law 1238 = .ok (.iconst 3, 1) := by decide +kernel
theorem dL_law_1239 : decode cL_law 1239 = .ok (.iadd, 1) := by decide +kernel
theorem dL_law_1240 : decode cL_law 1240 = .ok (.iaload, 1) := by decide +kernel
theorem dL_law_1241 : decode cL_law 1241 = .ok (.invokevirtual 169, 3) := by decide +kernel
theorem dL_law_1244 : decode cL_law 1244 = .ok (.aload_n 2, 1) := by decide +kernel
theorem dL_law_1245 : decode cL_law 1245 = .ok (.aload_n 0, 1) := by decide +kernel
theorem dL_law_1246 : decode cL_law 1246 = .ok (.iload_n 3, 1) := by decide +kernel
theorem dL_law_1247 : decode cL_law 1247 = .ok (.iconst 1, 1) := by decide +kernel
theorem dL_law_1248 : decode cL_law 1248 = .ok (.iadd, 1) := by decide +kernel
theorem dL_law_1249 : decode cL_law 1249 = .ok (.iaload, 1) := by decide +kernel
theorem dL_law_1250 : decode cL_law 1250 = .ok (.aload_n 0, 1) := by decide +kernel
theorem dL_law_1251 : decode cL_law 1251 = .ok (.iload_n 3, 1) := by decide +kernel
theorem dL_law_1252 : decode cL_law 1252 = .ok (.iconst 2, 1) := by decide +kernel
theorem dL_law_1253 : decode cL_law 1253 = .ok (.iadd, 1) := by decide +kernel
theorem dL_law_1254 : decode cL_law 1254 = .ok (.iaload, 1) := by decide +kernel
theorem dL_law_1255 : decode cL_law 1255 = .ok (.aload_n 0, 1) := by decide +kernel
theorem dL_law_1256 : decode cL_law 1256 = .ok (.iload_n 3, 1) := by decide +kernel
theorem dL_law_1257 : decode cL_law 1257 = .ok (.iconst 3, 1) := by decide +kernel
theorem dL_law_1258 : decode cL_law 1258 = .ok (.iadd, 1) := by decide +kernel
theorem dL_law_1259 : decode cL_law 1259 = .ok (.iaload, 1) := by decide +kernel
theorem dL_law_1260 : decode cL_law 1260 = .ok (.invokevirtual 172, 3) := by decide +kernel
theorem dL_law_1263 : decode cL_law 1263 = .ok (.if_icmp .eq 368, 3) := by decide +kernel
theorem dL_law_1266 : decode cL_law 1266 = .ok (.iconst 0, 1) := by decide +kernel
theorem dL_law_1267 : decode cL_law 1267 = .ok (.ireturn, 1) := by decide +kernel
theorem dL_law_1268 : decode cL_law 1268 = .ok (.aload_n 1, 1) := by decide +kernel
theorem dL_law_1269 : decode cL_law 1269 = .ok (.aload_n 0, 1) := by decide +kernel
theorem dL_law_1270 : decode cL_law 1270 = .ok (.iload_n 3, 1) := by decide +kernel
theorem dL_law_1271 : decode cL_law 1271 = .ok (.iconst 1, 1) := by decide +kernel
theorem dL_law_1272 : decode cL_law 1272 = .ok (.iadd, 1) := by decide +kernel
theorem dL_law_1273 : decode cL_law 1273 = .ok (.iaload, 1) := by decide +kernel
theorem dL_law_1274 : decode cL_law 1274 = .ok (.aload_n 0, 1) := by decide +kernel
theorem dL_law_1275 : decode cL_law 1275 = .ok (.iload_n 3, 1) := by decide +kernel
theorem dL_law_1276 : decode cL_law 1276 = .ok (.iconst 2, 1) := by decide +kernel
theorem dL_law_1277 : decode cL_law 1277 = .ok (.iadd, 1) := by decide +kernel
theorem dL_law_1278 : decode cL_law 1278 = .ok (.iaload, 1) := by decide +kernel
theorem dL_law_1279 : decode cL_law 1279 = .ok (.aload_n 0, 1) := by decide +kernel
theorem dL_law_1280 : decode cL_law 1280 = .ok (.iload_n 3, 1) := by decide +kernel
theorem dL_law_1281 : decode cL_law 1281 = .ok (.iconst 3, 1) := by decide +kernel
theorem dL_law_1282 : decode cL_law 1282 = .ok (.iadd, 1) := by decide +kernel
theorem dL_law_1283 : decode cL_law 1283 = .ok (.iaload, 1) := by decide +kernel
theorem dL_law_1284 : decode cL_law 1284 = .ok (.invokevirtual 173, 3) := by decide +kernel
theorem dL_law_1287 : decode cL_law 1287 = .ok (.aload_n 2, 1) := by decide +kernel
theorem dL_law_1288 : decode cL_law 1288 = .ok (.aload_n 0, 1) := by decide +kernel
theorem dL_law_1289 : decode cL_law 1289 = .ok (.iload_n 3, 1) := by decide +kernel
theorem dL_law_1290 : decode cL_law 1290 = .ok (.iconst 1, 1) := by decide +kernel
theorem dL_law_1291 : decode cL_law 1291 = .ok (.iadd, 1) := by decide +kernel
theorem dL_law_1292 : decode cL_law 1292 = .ok (.iaload, 1) := by decide +kernel
theorem dL_law_1293 : decode cL_law 1293 = .ok (.aload_n 0, 1) := by decide +kernel
theorem dL_law_1294 : decode cL_law 1294 = .ok (.iload_n 3, 1) := by decide +kernel
theorem dL_law_1295 : decode cL_law 1295 = .ok (.iconst 2, 1) := by decide +kernel
theorem dL_law_1296 : decode cL_law 1296 = .ok (.iadd, 1) := by decide +kernel
theorem dL_law_1297 : decode cL_law 1297 = .ok (.iaload, 1) := by decide +kernel
theorem dL_law_1298 : decode cL_law 1298 = .ok (.aload_n 0, 1) := by decide +kernel
theorem dL_law_1299 : decode cL_law 1299 = .ok (.iload_n 3, 1) := by decide +kernel
theorem dL_law_1300 : decode cL_law 1300 = .ok (.iconst 3, 1) := by decide +kernel
theorem dL_law_1301 : decode cL_law 1301 = .ok (.iadd, 1) := by decide +kernel
theorem dL_law_1302 : decode cL_law 1302 = .ok (.iaload, 1) := by decide +kernel
theorem dL_law_1303 : decode cL_law 1303 = .ok (.invokevirtual 176, 3) := by decide +kernel
theorem dL_law_1306 : decode cL_law 1306 = .ok (.if_icmp .eq 325, 3) := by decide +kernel
theorem dL_law_1309 : decode cL_law 1309 = .ok (.iconst 0, 1) := by decide +kernel
theorem dL_law_1310 : decode cL_law 1310 = .ok (.ireturn, 1) := by decide +kernel
theorem dL_law_1311 : decode cL_law 1311 = .ok (.aload_n 1, 1) := by decide +kernel
theorem dL_law_1312 : decode cL_law 1312 = .ok (.aload_n 0, 1) := by decide +kernel
theorem dL_law_1313 : decode cL_law 1313 = .ok (.iload_n 3, 1) := by decide +kernel
theorem dL_law_1314 : decode cL_law 1314 = .ok (.iconst 1, 1) := by decide +kernel
theorem dL_law_1315 : decode cL_law 1315 = .ok (.iadd, 1) := by decide +kernel
theorem dL_law_1316 : decode cL_law 1316 = .ok (.iaload, 1) := by decide +kernel
theorem dL_law_1317 : decode cL_law 1317 = .ok (.aload_n 0, 1) := by decide +kernel
theorem dL_law_1318 : decode cL_law 1318 = .ok (.iload_n 3, 1) := by decide +kernel
theorem dL_law_1319 : decode cL_law 1319 = .ok (.iconst 2, 1) := by decide +kernel
theorem dL_law_1320 : decode cL_law 1320 = .ok (.iadd, 1) := by decide +kernel
theorem dL_law_1321 : decode cL_law 1321 = .ok (.iaload, 1) := by decide +kernel
theorem dL_law_1322 : decode cL_law 1322 = .ok (.aload_n 0, 1) := by decide +kernel
theorem dL_law_1323 : decode cL_law 1323 = .ok (.iload_n 3, 1) := by decide +kernel
theorem dL_law_1324 : decode cL_law 1324 = .ok (.iconst 3, 1) := by decide +kernel
theorem dL_law_1325 : decode cL_law 1325 = .ok (.iadd, 1) := by decide +kernel
theorem dL_law_1326 : decode cL_law 1326 = .ok (.iaload, 1) := by decide +kernel
theorem dL_law_1327 : decode cL_law 1327 = .ok (.invokevirtual 177, 3) := by decide +kernel
theorem dL_law_1330 : decode cL_law 1330 = .ok (.aload_n 2, 1) := by decide +kernel
theorem dL_law_1331 : decode cL_law 1331 = .ok (.aload_n 0, 1) := by decide +kernel
theorem dL_law_1332 : decode cL_law 1332 = .ok (.iload_n 3, 1) := by decide +kernel
theorem dL_law_1333 : decode cL_law 1333 = .ok (.iconst 1, 1) := by decide +kernel
theorem dL_law_1334 : decode cL_law 1334 = .ok (.iadd, 1) := by decide +kernel
theorem dL_law_1335 : decode cL_law 1335 = .ok (.iaload, 1) := by decide +kernel
theorem dL_law_1336 : decode cL_law 1336 = .ok (.aload_n 0, 1) := by decide +kernel
theorem dL_law_1337 : decode cL_law 1337 = .ok (.iload_n 3, 1) := by decide +kernel
theorem dL_law_1338 : decode cL_law 1338 = .ok (.iconst 2, 1) := by decide +kernel
theorem dL_law_1339 : decode cL_law 1339 = .ok (.iadd, 1) := by decide +kernel
theorem dL_law_1340 : decode cL_law 1340 = .ok (.iaload, 1) := by decide +kernel
theorem dL_law_1341 : decode cL_law 1341 = .ok (.aload_n 0, 1) := by decide +kernel
theorem dL_law_1342 : decode cL_law 1342 = .ok (.iload_n 3, 1) := by decide +kernel
theorem dL_law_1343 : decode cL_law 1343 = .ok (.iconst 3, 1) := by decide +kernel
theorem dL_law_1344 : decode cL_law 1344 = .ok (.iadd, 1) := by decide +kernel
theorem dL_law_1345 : decode cL_law 1345 = .ok (.iaload, 1) := by decide +kernel
theorem dL_law_1346 : decode cL_law 1346 = .ok (.invokevirtual 180, 3) := by decide +kernel
theorem dL_law_1349 : decode cL_law 1349 = .ok (.if_icmp .eq 282, 3) := by decide +kernel
theorem dL_law_1352 : decode cL_law 1352 = .ok (.iconst 0, 1) := by decide +kernel
theorem dL_law_1353 : decode cL_law 1353 = .ok (.ireturn, 1) := by decide +kernel
theorem dL_law_1354 : decode cL_law 1354 = .ok (.aload_n 1, 1) := by decide +kernel
theorem dL_law_1355 : decode cL_law 1355 = .ok (.aload_n 0, 1) := by decide +kernel
theorem dL_law_1356 : decode cL_law 1356 = .ok (.iload_n 3, 1) := by decide +kernel
theorem dL_law_1357 : decode cL_law 1357 = .ok (.iconst 1, 1) := by decide +kernel
theorem dL_law_1358 : decode cL_law 1358 = .ok (.iadd, 1) := by decide +kernel
theorem dL_law_1359 : decode cL_law 1359 = .ok (.iaload, 1) := by decide +kernel
theorem dL_law_1360 : decode cL_law 1360 = .ok (.aload_n 0, 1) := by decide +kernel
theorem dL_law_1361 : decode cL_law 1361 = .ok (.iload_n 3, 1) := by decide +kernel
theorem dL_law_1362 : decode cL_law 1362 = .ok (.iconst 2, 1) := by decide +kernel
theorem dL_law_1363 : decode cL_law 1363 = .ok (.iadd, 1) := by decide +kernel
theorem dL_law_1364 : decode cL_law 1364 = .ok (.iaload, 1) := by decide +kernel
theorem dL_law_1365 : decode cL_law 1365 = .ok (.aload_n 0, 1) := by decide +kernel
theorem dL_law_1366 : decode cL_law 1366 = .ok (.iload_n 3, 1) := by decide +kernel
theorem dL_law_1367 : decode cL_law 1367 = .ok (.iconst 3, 1) := by decide +kernel
theorem dL_law_1368 : decode cL_law 1368 = .ok (.iadd, 1) := by decide +kernel
theorem dL_law_1369 : decode cL_law 1369 = .ok (.iaload, 1) := by decide +kernel
theorem dL_law_1370 : decode cL_law 1370 = .ok (.invokevirtual 181, 3) := by decide +kernel
theorem dL_law_1373 : decode cL_law 1373 = .ok (.aload_n 2, 1) := by decide +kernel
theorem dL_law_1374 : decode cL_law 1374 = .ok (.aload_n 0, 1) := by decide +kernel
theorem dL_law_1375 : decode cL_law 1375 = .ok (.iload_n 3, 1) := by decide +kernel
theorem dL_law_1376 : decode cL_law 1376 = .ok (.iconst 1, 1) := by decide +kernel
theorem dL_law_1377 : decode cL_law 1377 = .ok (.iadd, 1) := by decide +kernel
theorem dL_law_1378 : decode cL_law 1378 = .ok (.iaload, 1) := by decide +kernel
theorem dL_law_1379 : decode cL_law 1379 = .ok (.aload_n 0, 1) := by decide +kernel
theorem dL_law_1380 : decode cL_law 1380 = .ok (.iload_n 3, 1) := by decide +kernel
theorem dL_law_1381 : decode cL_law 1381 = .ok (.iconst 2, 1) := by decide +kernel
theorem dL_law_1382 : decode cL_law 1382 = .ok (.iadd, 1) := by decide +kernel
theorem dL_law_1383 : decode cL_law 1383 = .ok (.iaload, 1) := by decide +kernel
theorem dL_law_1384 : decode cL_law 1384 = .ok (.aload_n 0, 1) := by decide +kernel
theorem dL_law_1385 : decode cL_law 1385 = .ok (.iload_n 3, 1) := by decide +kernel
theorem dL_law_1386 : decode cL_law 1386 = .ok (.iconst 3, 1) := by decide +kernel
theorem dL_law_1387 : decode cL_law 1387 = .ok (.iadd, 1) := by decide +kernel
theorem dL_law_1388 : decode cL_law 1388 = .ok (.iaload, 1) := by decide +kernel
theorem dL_law_1389 : decode cL_law 1389 = .ok (.invokevirtual 184, 3) := by decide +kernel
theorem dL_law_1392 : decode cL_law 1392 = .ok (.if_icmp .eq 239, 3) := by decide +kernel
theorem dL_law_1395 : decode cL_law 1395 = .ok (.iconst 0, 1) := by decide +kernel
theorem dL_law_1396 : decode cL_law 1396 = .ok (.ireturn, 1) := by decide +kernel
theorem dL_law_1397 : decode cL_law 1397 = .ok (.aload_n 1, 1) := by decide +kernel
theorem dL_law_1398 : decode cL_law 1398 = .ok (.aload_n 0, 1) := by decide +kernel
theorem dL_law_1399 : decode cL_law 1399 = .ok (.iload_n 3, 1) := by decide +kernel
theorem dL_law_1400 : decode cL_law 1400 = .ok (.iconst 1, 1) := by decide +kernel
theorem dL_law_1401 : decode cL_law 1401 = .ok (.iadd, 1) := by decide +kernel
theorem dL_law_1402 : decode cL_law 1402 = .ok (.iaload, 1) := by decide +kernel
theorem dL_law_1403 : decode cL_law 1403 = .ok (.aload_n 0, 1) := by decide +kernel
theorem dL_law_1404 : decode cL_law 1404 = .ok (.iload_n 3, 1) := by decide +kernel
theorem dL_law_1405 : decode cL_law 1405 = .ok (.iconst 2, 1) := by decide +kernel
theorem dL_law_1406 : decode cL_law 1406 = .ok (.iadd, 1) := by decide +kernel
theorem dL_law_1407 : decode cL_law 1407 = .ok (.iaload, 1) := by decide +kernel
theorem dL_law_1408 : decode cL_law 1408 = .ok (.aload_n 0, 1) := by decide +kernel
theorem dL_law_1409 : decode cL_law 1409 = .ok (.iload_n 3, 1) := by decide +kernel
theorem dL_law_1410 : decode cL_law 1410 = .ok (.iconst 3, 1) := by decide +kernel
theorem dL_law_1411 : decode cL_law 1411 = .ok (.iadd, 1) := by decide +kernel
theorem dL_law_1412 : decode cL_law 1412 = .ok (.iaload, 1) := by decide +kernel
theorem dL_law_1413 : decode cL_law 1413 = .ok (.invokevirtual 185, 3) := by decide +kernel
theorem dL_law_1416 : decode cL_law 1416 = .ok (.aload_n 2, 1) := by decide +kernel
theorem dL_law_1417 : decode cL_law 1417 = .ok (.aload_n 0, 1) := by decide +kernel
theorem dL_law_1418 : decode cL_law 1418 = .ok (.iload_n 3, 1) := by decide +kernel
theorem dL_law_1419 : decode cL_law 1419 = .ok (.iconst 1, 1) := by decide +kernel
theorem dL_law_1420 : decode cL_law 1420 = .ok (.iadd, 1) := by decide +kernel
theorem dL_law_1421 : decode cL_law 1421 = .ok (.iaload, 1) := by decide +kernel
theorem dL_law_1422 : decode cL_law 1422 = .ok (.aload_n 0, 1) := by decide +kernel
theorem dL_law_1423 : decode cL_law 1423 = .ok (.iload_n 3, 1) := by decide +kernel
theorem dL_law_1424 : decode cL_law 1424 = .ok (.iconst 2, 1) := by decide +kernel
theorem dL_law_1425 : decode cL_law 1425 = .ok (.iadd, 1) := by decide +kernel
theorem dL_law_1426 : decode cL_law 1426 = .ok (.iaload, 1) := by decide +kernel
theorem dL_law_1427 : decode cL_law 1427 = .ok (.aload_n 0, 1) := by decide +kernel
theorem dL_law_1428 : decode cL_law 1428 = .ok (.iload_n 3, 1) := by decide +kernel
theorem dL_law_1429 : decode cL_law 1429 = .ok (.iconst 3, 1) := by decide +kernel
theorem dL_law_1430 : decode cL_law 1430 = .ok (.iadd, 1) := by decide +kernel
theorem dL_law_1431 : decode cL_law 1431 = .ok (.iaload, 1) := by decide +kernel
theorem dL_law_1432 : decode cL_law 1432 = .ok (.invokevirtual 188, 3) := by decide +kernel
theorem dL_law_1435 : decode cL_law 1435 = .ok (.if_icmp .eq 196, 3) := by decide +kernel
theorem dL_law_1438 : decode cL_law 1438 = .ok (.iconst 0, 1) := by decide +kernel
theorem dL_law_1439 : decode cL_law 1439 = .ok (.ireturn, 1) := by decide +kernel
theorem dL_law_1440 : decode cL_law 1440 = .ok (.aload_n 1, 1) := by decide +kernel
theorem dL_law_1441 : decode cL_law 1441 = .ok (.aload_n 0, 1) := by decide +kernel
theorem dL_law_1442 : decode cL_law 1442 = .ok (.iload_n 3, 1) := by decide +kernel
theorem dL_law_1443 : decode cL_law 1443 = .ok (.iconst 1, 1) := by decide +kernel
theorem dL_law_1444 : decode cL_law 1444 = .ok (.iadd, 1) := by decide +kernel
theorem dL_law_1445 : decode cL_law 1445 = .ok (.iaload, 1) := by decide +kernel
theorem dL_law_1446 : decode cL_law 1446 = .ok (.aload_n 0, 1) := by decide +kernel
theorem dL_law_1447 : decode cL_law 1447 = .ok (.iload_n 3, 1) := by decide +kernel
theorem dL_law_1448 : decode cL_law 1448 = .ok (.iconst 2, 1) := by decide +kernel
theorem dL_law_1449 : decode cL_law 1449 = .ok (.iadd, 1) := by decide +kernel
theorem dL_law_1450 : decode cL_law 1450 = .ok (.iaload, 1) := by decide +kernel
theorem dL_law_1451 : decode cL_law 1451 = .ok (.aload_n 0, 1) := by decide +kernel
theorem dL_law_1452 : decode cL_law 1452 = .ok (.iload_n 3, 1) := by decide +kernel
theorem dL_law_1453 : decode cL_law 1453 = .ok (.iconst 3, 1) := by decide +kernel
theorem dL_law_1454 : decode cL_law 1454 = .ok (.iadd, 1) := by decide +kernel
theorem dL_law_1455 : decode cL_law 1455 = .ok (.iaload, 1) := by decide +kernel
theorem dL_law_1456 : decode cL_law 1456 = .ok (.invokevirtual 189, 3) := by decide +kernel
theorem dL_law_1459 : decode cL_law 1459 = .ok (.aload_n 2, 1) := by decide +kernel
theorem dL_law_1460 : decode cL_law 1460 = .ok (.aload_n 0, 1) := by decide +kernel
theorem dL_law_1461 : decode cL_law 1461 = .ok (.iload_n 3, 1) := by decide +kernel
theorem dL_law_1462 : decode cL_law 1462 = .ok (.iconst 1, 1) := by decide +kernel
theorem dL_law_1463 : decode cL_law 1463 = .ok (.iadd, 1) := by decide +kernel
theorem dL_law_1464 : decode cL_law 1464 = .ok (.iaload, 1) := by decide +kernel
theorem dL_law_1465 : decode cL_law 1465 = .ok (.aload_n 0, 1) := by decide +kernel
theorem dL_law_1466 : decode cL_law 1466 = .ok (.iload_n 3, 1) := by decide +kernel
theorem dL_law_1467 : decode cL_law 1467 = .ok (.iconst 2, 1) := by decide +kernel
theorem dL_law_1468 : decode cL_law 1468 = .ok (.iadd, 1) := by decide +kernel
theorem dL_law_1469 : decode cL_law 1469 = .ok (.iaload, 1) := by decide +kernel
theorem dL_law_1470 : decode cL_law 1470 = .ok (.aload_n 0, 1) := by decide +kernel
theorem dL_law_1471 : decode cL_law 1471 = .ok (.iload_n 3, 1) := by decide +kernel
theorem dL_law_1472 : decode cL_law 1472 = .ok (.iconst 3, 1) := by decide +kernel
theorem dL_law_1473 : decode cL_law 1473 = .ok (.iadd, 1) := by decide +kernel
theorem dL_law_1474 : decode cL_law 1474 = .ok (.iaload, 1) := by decide +kernel
theorem dL_law_1475 : decode cL_law 1475 = .ok (.invokevirtual 192, 3) := by decide +kernel
theorem dL_law_1478 : decode cL_law 1478 = .ok (.if_icmp .eq 153, 3) := by decide +kernel
theorem dL_law_1481 : decode cL_law 1481 = .ok (.iconst 0, 1) := by decide +kernel
theorem dL_law_1482 : decode cL_law 1482 = .ok (.ireturn, 1) := by decide +kernel
theorem dL_law_1483 : decode cL_law 1483 = .ok (.aload_n 1, 1) := by decide +kernel
theorem dL_law_1484 : decode cL_law 1484 = .ok (.aload_n 0, 1) := by decide +kernel
theorem dL_law_1485 : decode cL_law 1485 = .ok (.iload_n 3, 1) := by decide +kernel
theorem dL_law_1486 : decode cL_law 1486 = .ok (.iconst 1, 1) := by decide +kernel
theorem dL_law_1487 : decode cL_law 1487 = .ok (.iadd, 1) := by decide +kernel
theorem dL_law_1488 : decode cL_law 1488 = .ok (.iaload, 1) := by decide +kernel
theorem dL_law_1489 : decode cL_law 1489 = .ok (.aload_n 0, 1) := by decide +kernel
theorem dL_law_1490 : decode cL_law 1490 = .ok (.iload_n 3, 1) := by decide +kernel
theorem dL_law_1491 : decode cL_law 1491 = .ok (.iconst 2, 1) := by decide +kernel
theorem dL_law_1492 : decode cL_law 1492 = .ok (.iadd, 1) := by decide +kernel
theorem dL_law_1493 : decode cL_law 1493 = .ok (.iaload, 1) := by decide +kernel
theorem dL_law_1494 : decode cL_law 1494 = .ok (.invokevirtual 193, 3) := by decide +kernel
theorem dL_law_1497 : decode cL_law 1497 = .ok (.aload_n 2, 1) := by decide +kernel
theorem dL_law_1498 : decode cL_law 1498 = .ok (.aload_n 0, 1) := by decide +kernel
theorem dL_law_1499 : decode cL_law 1499 = .ok (.iload_n 3, 1) := by decide +kernel
theorem dL_law_1500 : decode cL_law 1500 = .ok (.iconst 1, 1) := by decide +kernel
theorem dL_law_1501 : decode cL_law 1501 = .ok (.iadd, 1) := by decide +kernel
theorem dL_law_1502 : decode cL_law 1502 = .ok (.iaload, 1) := by decide +kernel
theorem dL_law_1503 : decode cL_law 1503 = .ok (.aload_n 0, 1) := by decide +kernel
theorem dL_law_1504 : decode cL_law 1504 = .ok (.iload_n 3, 1) := by decide +kernel
theorem dL_law_1505 : decode cL_law 1505 = .ok (.iconst 2, 1) := by decide +kernel
theorem dL_law_1506 : decode cL_law 1506 = .ok (.iadd, 1) := by decide +kernel
theorem dL_law_1507 : decode cL_law 1507 = .ok (.iaload, 1) := by decide +kernel
theorem dL_law_1508 : decode cL_law 1508 = .ok (.invokevirtual 196, 3) := by decide +kernel
theorem dL_law_1511 : decode cL_law 1511 = .ok (.if_icmp .eq 120, 3) := by decide +kernel
theorem dL_law_1514 : decode cL_law 1514 = .ok (.iconst 0, 1) := by decide +kernel
theorem dL_law_1515 : decode cL_law 1515 = .ok (.ireturn, 1) := by decide +kernel
theorem dL_law_1516 : decode cL_law 1516 = .ok (.aload_n 1, 1) := by decide +kernel
theorem dL_law_1517 : decode cL_law 1517 = .ok (.aload_n 0, 1) := by decide +kernel
theorem dL_law_1518 : decode cL_law 1518 = .ok (.iload_n 3, 1) := by decide +kernel
theorem dL_law_1519 : decode cL_law 1519 = .ok (.iconst 1, 1) := by decide +kernel
theorem dL_law_1520 : decode cL_law 1520 = .ok (.iadd, 1) := by decide +kernel
theorem dL_law_1521 : decode cL_law 1521 = .ok (.iaload, 1) := by decide +kernel
theorem dL_law_1522 : decode cL_law 1522 = .ok (.aload_n 0, 1) := by decide +kernel
theorem dL_law_1523 : decode cL_law 1523 = .ok (.iload_n 3, 1) := by decide +kernel
theorem dL_law_1524 : decode cL_law 1524 = .ok (.iconst 2, 1) := by decide +kernel
theorem dL_law_1525 : decode cL_law 1525 = .ok (.iadd, 1) := by decide +kernel
theorem dL_law_1526 : decode cL_law 1526 = .ok (.iaload, 1) := by decide +kernel
theorem dL_law_1527 : decode cL_law 1527 = .ok (.aload_n 0, 1) := by decide +kernel
theorem dL_law_1528 : decode cL_law 1528 = .ok (.iload_n 3, 1) := by decide +kernel
theorem dL_law_1529 : decode cL_law 1529 = .ok (.iconst 3, 1) := by decide +kernel
theorem dL_law_1530 : decode cL_law 1530 = .ok (.iadd, 1) := by decide +kernel
theorem dL_law_1531 : decode cL_law 1531 = .ok (.iaload, 1) := by decide +kernel
theorem dL_law_1532 : decode cL_law 1532 = .ok (.invokevirtual 197, 3) := by decide +kernel
theorem dL_law_1535 : decode cL_law 1535 = .ok (.aload_n 2, 1) := by decide +kernel
theorem dL_law_1536 : decode cL_law 1536 = .ok (.aload_n 0, 1) := by decide +kernel
theorem dL_law_1537 : decode cL_law 1537 = .ok (.iload_n 3, 1) := by decide +kernel
theorem dL_law_1538 : decode cL_law 1538 = .ok (.iconst 1, 1) := by decide +kernel
theorem dL_law_1539 : decode cL_law 1539 = .ok (.iadd, 1) := by decide +kernel
theorem dL_law_1540 : decode cL_law 1540 = .ok (.iaload, 1) := by decide +kernel
theorem dL_law_1541 : decode cL_law 1541 = .ok (.aload_n 0, 1) := by decide +kernel
theorem dL_law_1542 : decode cL_law 1542 = .ok (.iload_n 3, 1) := by decide +kernel
theorem dL_law_1543 : decode cL_law 1543 = .ok (.iconst 2, 1) := by decide +kernel
theorem dL_law_1544 : decode cL_law 1544 = .ok (.iadd, 1) := by decide +kernel
theorem dL_law_1545 : decode cL_law 1545 = .ok (.iaload, 1) := by decide +kernel
theorem dL_law_1546 : decode cL_law 1546 = .ok (.aload_n 0, 1) := by decide +kernel
theorem dL_law_1547 : decode cL_law 1547 = .ok (.iload_n 3, 1) := by decide +kernel
theorem dL_law_1548 : decode cL_law 1548 = .ok (.iconst 3, 1) := by decide +kernel
theorem dL_law_1549 : decode cL_law 1549 = .ok (.iadd, 1) := by decide +kernel
theorem dL_law_1550 : decode cL_law 1550 = .ok (.iaload, 1) := by decide +kernel
theorem dL_law_1551 : decode cL_law 1551 = .ok (.invokevirtual 200, 3) := by decide +kernel
theorem dL_law_1554 : decode cL_law 1554 = .ok (.if_icmp .eq 77, 3) := by decide +kernel
theorem dL_law_1557 : decode cL_law 1557 = .ok (.iconst 0, 1) := by decide +kernel
theorem dL_law_1558 : decode cL_law 1558 = .ok (.ireturn, 1) := by decide +kernel
theorem dL_law_1559 : decode cL_law 1559 = .ok (.aload_n 1, 1) := by decide +kernel
theorem dL_law_1560 : decode cL_law 1560 = .ok (.aload_n 0, 1) := by decide +kernel
theorem dL_law_1561 : decode cL_law 1561 = .ok (.iload_n 3, 1) := by decide +kernel
theorem dL_law_1562 : decode cL_law 1562 = .ok (.iconst 1, 1) := by decide +kernel
theorem dL_law_1563 : decode cL_law 1563 = .ok (.iadd, 1) := by decide +kernel
theorem dL_law_1564 : decode cL_law 1564 = .ok (.iaload, 1) := by decide +kernel
theorem dL_law_1565 : decode cL_law 1565 = .ok (.invokevirtual 201, 3) := by decide +kernel
theorem dL_law_1568 : decode cL_law 1568 = .ok (.aload_n 2, 1) := by decide +kernel
theorem dL_law_1569 : decode cL_law 1569 = .ok (.aload_n 0, 1) := by decide +kernel
theorem dL_law_1570 : decode cL_law 1570 = .ok (.iload_n 3, 1) := by decide +kernel
theorem dL_law_1571 : decode cL_law 1571 = .ok (.iconst 1, 1) := by decide +kernel
theorem dL_law_1572 : decode cL_law 1572 = .ok (.iadd, 1) := by decide +kernel
theorem dL_law_1573 : decode cL_law 1573 = .ok (.iaload, 1) := by decide +kernel
theorem dL_law_1574 : decode cL_law 1574 = .ok (.invokevirtual 204, 3) := by decide +kernel
theorem dL_law_1577 : decode cL_law 1577 = .ok (.if_icmp .eq 54, 3) := by decide +kernel
theorem dL_law_1580 : decode cL_law 1580 = .ok (.iconst 0, 1) := by decide +kernel
theorem dL_law_1581 : decode cL_law 1581 = .ok (.ireturn, 1) := by decide +kernel
theorem dL_law_1582 : decode cL_law 1582 = .ok (.aload_n 1, 1) := by decide +kernel
theorem dL_law_1583 : decode cL_law 1583 = .ok (.aload_n 0, 1) := by decide +kernel
theorem dL_law_1584 : decode cL_law 1584 = .ok (.iload_n 3, 1) := by decide +kernel
theorem dL_law_1585 : decode cL_law 1585 = .ok (.iconst 1, 1) := by decide +kernel
theorem dL_law_1586 : decode cL_law 1586 = .ok (.iadd, 1) := by decide +kernel
theorem dL_law_1587 : decode cL_law 1587 = .ok (.iaload, 1) := by decide +kernel
theorem dL_law_1588 : decode cL_law 1588 = .ok (.invokevirtual 205, 3) := by decide +kernel
theorem dL_law_1591 : decode cL_law 1591 = .ok (.aload_n 2, 1) := by decide +kernel
theorem dL_law_1592 : decode cL_law 1592 = .ok (.aload_n 0, 1) := by decide +kernel
theorem dL_law_1593 : decode cL_law 1593 = .ok (.iload_n 3, 1) := by decide +kernel
theorem dL_law_1594 : decode cL_law 1594 = .ok (.iconst 1, 1) := by decide +kernel
theorem dL_law_1595 : decode cL_law 1595 = .ok (.iadd, 1) := by decide +kernel
theorem dL_law_1596 : decode cL_law 1596 = .ok (.iaload, 1) := by decide +kernel
theorem dL_law_1597 : decode cL_law 1597 = .ok (.invokevirtual 208, 3) := by decide +kernel
theorem dL_law_1600 : decode cL_law 1600 = .ok (.if_icmp .eq 31, 3) := by decide +kernel
theorem dL_law_1603 : decode cL_law 1603 = .ok (.iconst 0, 1) := by decide +kernel
theorem dL_law_1604 : decode cL_law 1604 = .ok (.ireturn, 1) := by decide +kernel
theorem dL_law_1605 : decode cL_law 1605 = .ok (.aload_n 1, 1) := by decide +kernel
theorem dL_law_1606 : decode cL_law 1606 = .ok (.invokevirtual 209, 3) := by decide +kernel
theorem dL_law_1609 : decode cL_law 1609 = .ok (.aload_n 2, 1) := by decide +kernel
theorem dL_law_1610 : decode cL_law 1610 = .ok (.invokevirtual 212, 3) := by decide +kernel
theorem dL_law_1613 : decode cL_law 1613 = .ok (.if_icmp .eq 18, 3) := by decide +kernel
theorem dL_law_1616 : decode cL_law 1616 = .ok (.iconst 0, 1) := by decide +kernel
theorem dL_law_1617 : decode cL_law 1617 = .ok (.ireturn, 1) := by decide +kernel
theorem dL_law_1618 : decode cL_law 1618 = .ok (.aload_n 1, 1) := by decide +kernel
theorem dL_law_1619 : decode cL_law 1619 = .ok (.invokevirtual 213, 3) := by decide +kernel
theorem dL_law_1622 : decode cL_law 1622 = .ok (.aload_n 2, 1) := by decide +kernel
theorem dL_law_1623 : decode cL_law 1623 = .ok (.invokevirtual 216, 3) := by decide +kernel
theorem dL_law_1626 : decode cL_law 1626 = .ok (.if_icmp .eq 5, 3) := by decide +kernel
theorem dL_law_1629 : decode cL_law 1629 = .ok (.iconst 0, 1) := by decide +kernel
theorem dL_law_1630 : decode cL_law 1630 = .ok (.ireturn, 1) := by decide +kernel
theorem dL_law_1631 : decode cL_law 1631 = .ok (.iinc 3 5, 3) := by decide +kernel
theorem dL_law_1634 : decode cL_law 1634 = .ok (.goto (-1616), 3) := by decide +kernel
theorem dL_law_1637 : decode cL_law 1637 = .ok (.iconst 1, 1) := by decide +kernel
theorem dL_law_1638 : decode cL_law 1638 = .ok (.ireturn, 1) := by decide +kernel
