theorem dX11_init_0 : decode cX11_init 0 = .ok (.aload_n 0, 1) := by decide +kernel
theorem dX11_init_1 : decode cX11_init 1 = .ok (.invokespecial 1, 3) := by decide +kernel
theorem dX11_init_4 : decode cX11_init 4 = .ok (.aload_n 0, 1) := by decide +kernel
theorem dX11_init_5 : decode cX11_init 5 = .ok (.bipush 48, 2) := by decide +kernel
theorem dX11_init_7 : decode cX11_init 7 = .ok (.newarray .int, 2) := by decide +kernel
theorem dX11_init_9 : decode cX11_init 9 = .ok (.putfield 7, 3) := by decide +kernel
theorem dX11_init_12 : decode cX11_init 12 = .ok (.aload_n 0, 1) := by decide +kernel
theorem dX11_init_13 : decode cX11_init 13 = .ok (.bipush 48, 2) := by decide +kernel
theorem dX11_init_15 : decode cX11_init 15 = .ok (.newarray .int, 2) := by decide +kernel
theorem dX11_init_17 : decode cX11_init 17 = .ok (.putfield 13, 3) := by decide +kernel
theorem dX11_init_20 : decode cX11_init 20 = .ok (.aload_n 0, 1) := by decide +kernel
theorem dX11_init_21 : decode cX11_init 21 = .ok (.sipush 384, 3) := by decide +kernel
theorem dX11_init_24 : decode cX11_init 24 = .ok (.newarray .int, 2) := by decide +kernel
theorem dX11_init_26 : decode cX11_init 26 = .ok (.putfield 16, 3) := by decide +kernel
theorem dX11_init_29 : decode cX11_init 29 = .ok (.aload_n 0, 1) := by decide +kernel
theorem dX11_init_30 : decode cX11_init 30 = .ok (.bipush 48, 2) := by decide +kernel
theorem dX11_init_32 : decode cX11_init 32 = .ok (.newarray .int, 2) := by decide +kernel
theorem dX11_init_34 : decode cX11_init 34 = .ok (.putfield 19, 3) := by decide +kernel
theorem dX11_init_37 : decode cX11_init 37 = .ok (.aload_n 0, 1) := by decide +kernel
theorem dX11_init_38 : decode cX11_init 38 = .ok (.bipush 60, 2) := by decide +kernel
theorem dX11_init_40 : decode cX11_init 40 = .ok (.newarray .char, 2) := by decide +kernel
theorem dX11_init_42 : decode cX11_init 42 = .ok (.putfield 22, 3) := by decide +kernel
theorem dX11_init_45 : decode cX11_init 45 = .ok (.aload_n 0, 1) := by decide +kernel
theorem dX11_init_46 : decode cX11_init 46 = .ok (.iconst (-1), 1) := by decide +kernel
theorem dX11_init_47 : decode cX11_init 47 = .ok (.putfield 26, 3) := by decide +kernel
theorem dX11_init_50 : decode cX11_init 50 = .ok (.aload_n 0, 1) := by decide +kernel
theorem dX11_init_51 : decode cX11_init 51 = .ok (.iconst (-1), 1) := by decide +kernel
theorem dX11_init_52 : decode cX11_init 52 = .ok (.putfield 30, 3) := by decide +kernel
theorem dX11_init_55 : decode cX11_init 55 = .ok (.aload_n 0, 1) := by decide +kernel
theorem dX11_init_56 : decode cX11_init 56 = .ok (.bipush 60, 2) := by decide +kernel
theorem dX11_init_58 : decode cX11_init 58 = .ok (.newarray .char, 2) := by decide +kernel
theorem dX11_init_60 : decode cX11_init 60 = .ok (.putfield 33, 3) := by decide +kernel
theorem dX11_init_63 : decode cX11_init 63 = .ok (.aload_n 0, 1) := by decide +kernel
theorem dX11_init_64 : decode cX11_init 64 = .ok (.sipush 256, 3) := by decide +kernel
theorem dX11_init_67 : decode cX11_init 67 = .ok (.newarray .int, 2) := by decide +kernel
theorem dX11_init_69 : decode cX11_init 69 = .ok (.putfield 36, 3) := by decide +kernel
theorem dX11_init_72 : decode cX11_init 72 = .ok (.aload_n 0, 1) := by decide +kernel
theorem dX11_init_73 : decode cX11_init 73 = .ok (.sipush 180, 3) := by decide +kernel
theorem dX11_init_76 : decode cX11_init 76 = .ok (.newarray .int, 2) := by decide +kernel
theorem dX11_init_78 : decode cX11_init 78 = .ok (.putfield 39, 3) := by decide +kernel
theorem dX11_init_81 : decode cX11_init 81 = .ok (.aload_n 0, 1) := by decide +kernel
theorem dX11_init_82 : decode cX11_init 82 = .ok (.getfield 7, 3) := by decide +kernel
theorem dX11_init_85 : decode cX11_init 85 = .ok (.iconst 1, 1) := by decide +kernel
theorem dX11_init_86 : decode cX11_init 86 = .ok (.iconst 5, 1) := by decide +kernel
theorem dX11_init_87 : decode cX11_init 87 = .ok (.iastore, 1) := by decide +kernel
theorem dX11_init_88 : decode cX11_init 88 = .ok (.return_, 1) := by decide +kernel
theorem dX11_thrown_0 : decode cX11_thrown 0 = .ok (.aload_n 0, 1) := by decide +kernel
theorem dX11_thrown_1 : decode cX11_thrown 1 = .ok (.getfield 42, 3) := by decide +kernel
theorem dX11_thrown_4 : decode cX11_thrown 4 = .ok (.ireturn, 1) := by decide +kernel
theorem dX11_in_0 : decode cX11_in 0 = .ok (.iload_n 0, 1) := by decide +kernel
theorem dX11_in_1 : decode cX11_in 1 = .ok (.iload_n 1, 1) := by decide +kernel
theorem dX11_in_2 : decode cX11_in 2 = .ok (.if_icmp .lt 12, 3) := by decide +kernel
theorem dX11_in_5 : decode cX11_in 5 = .ok (.iload_n 0, 1) := by decide +kernel
theorem dX11_in_6 : decode cX11_in 6 = .ok (.iload_n 2, 1) := by decide +kernel
theorem dX11_in_7 : decode cX11_in 7 = .ok (.if_icmp .gt 7, 3) := by decide +kernel
theorem dX11_in_10 : decode cX11_in 10 = .ok (.iconst 1, 1) := by decide +kernel
theorem dX11_in_11 : decode cX11_in 11 = .ok (.goto 4, 3) := by decide +kernel
theorem dX11_in_14 : decode cX11_in 14 = .ok (.iconst 0, 1) := by decide +kernel
theorem dX11_in_15 : decode cX11_in 15 = .ok (.ireturn, 1) := by decide +kernel
theorem dX11_size_0 : decode cX11_size 0 = .ok (.iload_n 0, 1) := by decide +kernel
theorem dX11_size_1 : decode cX11_size 1 = .ok (.ifCond .ge 8, 3) := by decide +kernel
theorem dX11_size_4 : decode cX11_size 4 = .ok (.iload_n 0, 1) := by decide +kernel
theorem dX11_size_5 : decode cX11_size 5 = .ok (.ineg, 1) := by decide +kernel
theorem dX11_size_6 : decode cX11_size 6 = .ok (.goto 4, 3) := by decide +kernel
theorem dX11_size_9 : decode cX11_size 9 = .ok (.iload_n 0, 1) := by decide +kernel
theorem dX11_size_10 : decode cX11_size 10 = .ok (.ireturn, 1) := by decide +kernel
theorem dX11_done_0 : decode cX11_done 0 = .ok (.aload_n 0, 1) := by decide +kernel
theorem dX11_done_1 : decode cX11_done 1 = .ok (.iconst 0, 1) := by decide +kernel
theorem dX11_done_2 : decode cX11_done 2 = .ok (.putfield 42, 3) := by decide +kernel
theorem dX11_done_5 : decode cX11_done 5 = .ok (.iload_n 1, 1) := by decide +kernel
theorem dX11_done_6 : decode cX11_done 6 = .ok (.ireturn, 1) := by decide +kernel
theorem dX11_fails_0 : decode cX11_fails 0 = .ok (.aload_n 0, 1) := by decide +kernel
theorem dX11_fails_1 : decode cX11_fails 1 = .ok (.iload_n 1, 1) := by decide +kernel
theorem dX11_fails_2 : decode cX11_fails 2 = .ok (.putfield 42, 3) := by decide +kernel
theorem dX11_fails_5 : decode cX11_fails 5 = .ok (.iconst 0, 1) := by decide +kernel
theorem dX11_fails_6 : decode cX11_fails 6 = .ok (.ireturn, 1) := by decide +kernel
theorem dX11_copy_0 : decode cX11_copy 0 = .ok (.iconst 0, 1) := by decide +kernel
theorem dX11_copy_1 : decode cX11_copy 1 = .ok (.istore 4, 2) := by decide +kernel
theorem dX11_copy_3 : decode cX11_copy 3 = .ok (.iload 4, 2) := by decide +kernel
theorem dX11_copy_5 : decode cX11_copy 5 = .ok (.bipush 48, 2) := by decide +kernel
theorem dX11_copy_7 : decode cX11_copy 7 = .ok (.if_icmp .ge 21, 3) := by decide +kernel
theorem dX11_copy_10 : decode cX11_copy 10 = .ok (.aload_n 2, 1) := by decide +kernel
theorem dX11_copy_11 : decode cX11_copy 11 = .ok (.iload_n 3, 1) := by decide +kernel
theorem dX11_copy_12 : decode cX11_copy 12 = .ok (.iload 4, 2) := by decide +kernel
theorem dX11_copy_14 : decode cX11_copy 14 = .ok (.iadd, 1) := by decide +kernel
theorem dX11_copy_15 : decode cX11_copy 15 = .ok (.aload_n 0, 1) := by decide +kernel
theorem dX11_copy_16 : decode cX11_copy 16 = .ok (.iload_n 1, 1) := by decide +kernel
theorem dX11_copy_17 : decode cX11_copy 17 = .ok (.iload 4, 2) := by decide +kernel
theorem dX11_copy_19 : decode cX11_copy 19 = .ok (.iadd, 1) := by decide +kernel
theorem dX11_copy_20 : decode cX11_copy 20 = .ok (.iaload, 1) := by decide +kernel
theorem dX11_copy_21 : decode cX11_copy 21 = .ok (.iastore, 1) := by decide +kernel
theorem dX11_copy_22 : decode cX11_copy 22 = .ok (.iinc 4 1, 3) := by decide +kernel
theorem dX11_copy_25 : decode cX11_copy 25 = .ok (.goto (-22), 3) := by decide +kernel
theorem dX11_copy_28 : decode cX11_copy 28 = .ok (.return_, 1) := by decide +kernel
theorem dX11_begin_0 : decode cX11_begin 0 = .ok (.aload_n 0, 1) := by decide +kernel
theorem dX11_begin_1 : decode cX11_begin 1 = .ok (.getfield 7, 3) := by decide +kernel
theorem dX11_begin_4 : decode cX11_begin 4 = .ok (.iconst 0, 1) := by decide +kernel
theorem dX11_begin_5 : decode cX11_begin 5 = .ok (.aload_n 0, 1) := by decide +kernel
theorem dX11_begin_6 : decode cX11_begin 6 = .ok (.getfield 13, 3) := by decide +kernel
theorem dX11_begin_9 : decode cX11_begin 9 = .ok (.iconst 0, 1) := by decide +kernel
theorem dX11_begin_10 : decode cX11_begin 10 = .ok (.invokestatic 45, 3) := by decide +kernel
theorem dX11_begin_13 : decode cX11_begin 13 = .ok (.return_, 1) := by decide +kernel
theorem dX11_kept_0 : decode cX11_kept 0 = .ok (.aload_n 0, 1) := by decide +kernel
theorem dX11_kept_1 : decode cX11_kept 1 = .ok (.getfield 42, 3) := by decide +kernel
theorem dX11_kept_4 : decode cX11_kept 4 = .ok (.ifCond .eq 18, 3) := by decide +kernel
theorem dX11_kept_7 : decode cX11_kept 7 = .ok (.aload_n 0, 1) := by decide +kernel
theorem dX11_kept_8 : decode cX11_kept 8 = .ok (.getfield 13, 3) := by decide +kernel
theorem dX11_kept_11 : decode cX11_kept 11 = .ok (.iconst 0, 1) := by decide +kernel
theorem dX11_kept_12 : decode cX11_kept 12 = .ok (.aload_n 0, 1) := by decide +kernel
theorem dX11_kept_13 : decode cX11_kept 13 = .ok (.getfield 7, 3) := by decide +kernel
theorem dX11_kept_16 : decode cX11_kept 16 = .ok (.iconst 0, 1) := by decide +kernel
theorem dX11_kept_17 : decode cX11_kept 17 = .ok (.invokestatic 45, 3) := by decide +kernel
theorem dX11_kept_20 : decode cX11_kept 20 = .ok (.iconst 0, 1) := by decide +kernel
theorem dX11_kept_21 : decode cX11_kept 21 = .ok (.ireturn, 1) := by decide +kernel
theorem dX11_kept_22 : decode cX11_kept 22 = .ok (.aload_n 0, 1) := by decide +kernel
theorem dX11_kept_23 : decode cX11_kept 23 = .ok (.getfield 49, 3) := by decide +kernel
theorem dX11_kept_26 : decode cX11_kept 26 = .ok (.bipush 8, 2) := by decide +kernel
theorem dX11_kept_28 : decode cX11_kept 28 = .ok (.if_icmp .ne 43, 3) := by decide +kernel
theorem dX11_kept_31 : decode cX11_kept 31 = .ok (.iconst 0, 1) := by decide +kernel
theorem dX11_kept_32 : decode cX11_kept 32 = .ok (.istore_n 2, 1) := by decide +kernel
theorem dX11_kept_33 : decode cX11_kept 33 = .ok (.iload_n 2, 1) := by decide +kernel
theorem dX11_kept_34 : decode cX11_kept 34 = .ok (.sipush 336, 3) := by decide +kernel
theorem dX11_kept_37 : decode cX11_kept 37 = .ok (.if_icmp .ge 24, 3) := by decide +kernel
theorem dX11_kept_40 : decode cX11_kept 40 = .ok (.aload_n 0, 1) := by decide +kernel
theorem dX11_kept_41 : decode cX11_kept 41 = .ok (.getfield 16, 3) := by decide +kernel
theorem dX11_kept_44 : decode cX11_kept 44 = .ok (.iload_n 2, 1) := by decide +kernel
theorem dX11_kept_45 : decode cX11_kept 45 = .ok (.aload_n 0, 1) := by decide +kernel
theorem dX11_kept_46 : decode cX11_kept 46 = .ok (.getfield 16, 3) := by decide +kernel
theorem dX11_kept_49 : decode cX11_kept 49 = .ok (.iload_n 2, 1) := by decide +kernel
theorem dX11_kept_50 : decode cX11_kept 50 = .ok (.bipush 48, 2) := by decide +kernel
theorem dX11_kept_52 : decode cX11_kept 52 = .ok (.iadd, 1) := by decide +kernel
theorem dX11_kept_53 : decode cX11_kept 53 = .ok (.iaload, 1) := by decide +kernel
theorem dX11_kept_54 : decode cX11_kept 54 = .ok (.iastore, 1) := by decide +kernel
theorem dX11_kept_55 : decode cX11_kept 55 = .ok (.iinc 2 1, 3) := by decide +kernel
theorem dX11_kept_58 : decode cX11_kept 58 = .ok (.goto (-25), 3) := by decide +kernel
theorem dX11_kept_61 : decode cX11_kept 61 = .ok (.aload_n 0, 1) := by decide +kernel
theorem dX11_kept_62 : decode cX11_kept 62 = .ok (.dup, 1) := by decide +kernel
theorem dX11_kept_63 : decode cX11_kept 63 = .ok (.getfield 49, 3) := by decide +kernel
theorem dX11_kept_66 : decode cX11_kept 66 = .ok (.iconst 1, 1) := by decide +kernel
theorem dX11_kept_67 : decode cX11_kept 67 = .ok (.isub, 1) := by decide +kernel
theorem dX11_kept_68 : decode cX11_kept 68 = .ok (.putfield 49, 3) := by decide +kernel
theorem dX11_kept_71 : decode cX11_kept 71 = .ok (.aload_n 0, 1) := by decide +kernel
theorem dX11_kept_72 : decode cX11_kept 72 = .ok (.getfield 13, 3) := by decide +kernel
theorem dX11_kept_75 : decode cX11_kept 75 = .ok (.iconst 0, 1) := by decide +kernel
theorem dX11_kept_76 : decode cX11_kept 76 = .ok (.aload_n 0, 1) := by decide +kernel
theorem dX11_kept_77 : decode cX11_kept 77 = .ok (.getfield 16, 3) := by decide +kernel
theorem dX11_kept_80 : decode cX11_kept 80 = .ok (.aload_n 0, 1) := by decide +kernel
theorem dX11_kept_81 : decode cX11_kept 81 = .ok (.getfield 49, 3) := by decide +kernel
theorem dX11_kept_84 : decode cX11_kept 84 = .ok (.bipush 48, 2) := by decide +kernel
theorem dX11_kept_86 : decode cX11_kept 86 = .ok (.imul, 1) := by decide +kernel
theorem dX11_kept_87 : decode cX11_kept 87 = .ok (.invokestatic 45, 3) := by decide +kernel
theorem dX11_kept_90 : decode cX11_kept 90 = .ok (.aload_n 0, 1) := by decide +kernel
theorem dX11_kept_91 : decode cX11_kept 91 = .ok (.dup, 1) := by decide +kernel
theorem dX11_kept_92 : decode cX11_kept 92 = .ok (.getfield 49, 3) := by decide +kernel
theorem dX11_kept_95 : decode cX11_kept 95 = .ok (.iconst 1, 1) := by decide +kernel
theorem dX11_kept_96 : decode cX11_kept 96 = .ok (.iadd, 1) := by decide +kernel
theorem dX11_kept_97 : decode cX11_kept 97 = .ok (.putfield 49, 3) := by decide +kernel
theorem dX11_kept_100 : decode cX11_kept 100 = .ok (.iload_n 1, 1) := by decide +kernel
theorem dX11_kept_101 : decode cX11_kept 101 = .ok (.ireturn, 1) := by decide +kernel
theorem dX11_isPendulum_0 : decode cX11_isPendulum 0 = .ok (.iload_n 1, 1) := by decide +kernel
theorem dX11_isPendulum_1 : decode cX11_isPendulum 1 = .ok (.iconst 0, 1) := by decide +kernel
theorem dX11_isPendulum_2 : decode cX11_isPendulum 2 = .ok (.aload_n 0, 1) := by decide +kernel
theorem dX11_isPendulum_3 : decode cX11_isPendulum 3 = .ok (.getfield 7, 3) := by decide +kernel
theorem dX11_isPendulum_6 : decode cX11_isPendulum 6 = .ok (.iconst 2, 1) := by decide +kernel
theorem dX11_isPendulum_7 : decode cX11_isPendulum 7 = .ok (.iaload, 1) := by decide +kernel
theorem dX11_isPendulum_8 : decode cX11_isPendulum 8 = .ok (.iconst 1, 1) := by decide +kernel
theorem dX11_isPendulum_9 : decode cX11_isPendulum 9 = .ok (.isub, 1) := by decide +kernel
theorem dX11_isPendulum_10 : decode cX11_isPendulum 10 = .ok (.invokestatic 52, 3) := by decide +kernel
theorem dX11_isPendulum_13 : decode cX11_isPendulum 13 = .ok (.ireturn, 1) := by decide +kernel
theorem dX11_rests_0 : decode cX11_rests 0 = .ok (.aload_n 0, 1) := by decide +kernel
theorem dX11_rests_1 : decode cX11_rests 1 = .ok (.getfield 7, 3) := by decide +kernel
theorem dX11_rests_4 : decode cX11_rests 4 = .ok (.bipush 12, 2) := by decide +kernel
theorem dX11_rests_6 : decode cX11_rests 6 = .ok (.iload_n 1, 1) := by decide +kernel
theorem dX11_rests_7 : decode cX11_rests 7 = .ok (.iadd, 1) := by decide +kernel
theorem dX11_rests_8 : decode cX11_rests 8 = .ok (.iaload, 1) := by decide +kernel
theorem dX11_rests_9 : decode cX11_rests 9 = .ok (.ifCond .ne 7, 3) := by decide +kernel
theorem dX11_rests_12 : decode cX11_rests 12 = .ok (.iconst 1, 1) := by decide +kernel
theorem dX11_rests_13 : decode cX11_rests 13 = .ok (.goto 4, 3) := by decide +kernel
theorem dX11_rests_16 : decode cX11_rests 16 = .ok (.iconst 0, 1) := by decide +kernel
theorem dX11_rests_17 : decode cX11_rests 17 = .ok (.ireturn, 1) := by decide +kernel
theorem dX11_kind_0 : decode cX11_kind 0 = .ok (.aload_n 0, 1) := by decide +kernel
theorem dX11_kind_1 : decode cX11_kind 1 = .ok (.getfield 7, 3) := by decide +kernel
theorem dX11_kind_4 : decode cX11_kind 4 = .ok (.iconst 4, 1) := by decide +kernel
theorem dX11_kind_5 : decode cX11_kind 5 = .ok (.iload_n 1, 1) := by decide +kernel
theorem dX11_kind_6 : decode cX11_kind 6 = .ok (.iadd, 1) := by decide +kernel
theorem dX11_kind_7 : decode cX11_kind 7 = .ok (.iaload, 1) := by decide +kernel
theorem dX11_kind_8 : decode cX11_kind 8 = .ok (.istore_n 2, 1) := by decide +kernel
theorem dX11_kind_9 : decode cX11_kind 9 = .ok (.iload_n 2, 1) := by decide +kernel
theorem dX11_kind_10 : decode cX11_kind 10 = .ok (.bipush 30, 2) := by decide +kernel
theorem dX11_kind_12 : decode cX11_kind 12 = .ok (.if_icmp .ge 7, 3) := by decide +kernel
theorem dX11_kind_15 : decode cX11_kind 15 = .ok (.iconst 0, 1) := by decide +kernel
theorem dX11_kind_16 : decode cX11_kind 16 = .ok (.goto 14, 3) := by decide +kernel
theorem dX11_kind_19 : decode cX11_kind 19 = .ok (.iload_n 2, 1) := by decide +kernel
theorem dX11_kind_20 : decode cX11_kind 20 = .ok (.bipush 60, 2) := by decide +kernel
theorem dX11_kind_22 : decode cX11_kind 22 = .ok (.if_icmp .ge 7, 3) := by decide +kernel
theorem dX11_kind_25 : decode cX11_kind 25 = .ok (.iconst 1, 1) := by decide +kernel
theorem dX11_kind_26 : decode cX11_kind 26 = .ok (.goto 4, 3) := by decide +kernel
theorem dX11_kind_29 : decode cX11_kind 29 = .ok (.iconst 2, 1) := by decide +kernel
theorem dX11_kind_30 : decode cX11_kind 30 = .ok (.ireturn, 1) := by decide +kernel
theorem dX11_period_0 : decode cX11_period 0 = .ok (.iconst 0, 1) := by decide +kernel
theorem dX11_period_1 : decode cX11_period 1 = .ok (.istore_n 2, 1) := by decide +kernel
theorem dX11_period_2 : decode cX11_period 2 = .ok (.iload_n 2, 1) := by decide +kernel
theorem dX11_period_3 : decode cX11_period 3 = .ok (.iconst 1, 1) := by decide +kernel
theorem dX11_period_4 : decode cX11_period 4 = .ok (.iadd, 1) := by decide +kernel
theorem dX11_period_5 : decode cX11_period 5 = .ok (.iload_n 2, 1) := by decide +kernel
theorem dX11_period_6 : decode cX11_period 6 = .ok (.iconst 1, 1) := by decide +kernel
theorem dX11_period_7 : decode cX11_period 7 = .ok (.iadd, 1) := by decide +kernel
theorem dX11_period_8 : decode cX11_period 8 = .ok (.imul, 1) := by decide +kernel
theorem dX11_period_9 : decode cX11_period 9 = .ok (.bipush 36, 2) := by decide +kernel
theorem dX11_period_11 : decode cX11_period 11 = .ok (.aload_n 0, 1) := by decide +kernel
theorem dX11_period_12 : decode cX11_period 12 = .ok (.getfield 7, 3) := by decide +kernel
theorem dX11_period_15 : decode cX11_period 15 = .ok (.iconst 4, 1) := by decide +kernel
theorem dX11_period_16 : decode cX11_period 16 = .ok (.iload_n 1, 1) := by decide +kernel
theorem dX11_period_17 : decode cX11_period 17 = .ok (.iadd, 1) := by decide +kernel
theorem dX11_period_18 : decode cX11_period 18 = .ok (.iaload, 1) := by decide +kernel
theorem dX11_period_19 : decode cX11_period 19 = .ok (.imul, 1) := by decide +kernel
theorem dX11_period_20 : decode cX11_period 20 = .ok (.if_icmp .gt 9, 3) := by decide +kernel
theorem dX11_period_23 : decode cX11_period 23 = .ok (.iinc 2 1, 3) := by decide +kernel
theorem dX11_period_26 : decode cX11_period 26 = .ok (.goto (-24), 3) := by decide +kernel
theorem dX11_period_29 : decode cX11_period 29 = .ok (.iload_n 2, 1) := by decide +kernel
theorem dX11_period_30 : decode cX11_period 30 = .ok (.ireturn, 1) := by decide +kernel
theorem dX11_behindSwing_0 : decode cX11_behindSwing 0 = .ok (.iload_n 1, 1) := by decide +kernel
theorem dX11_behindSwing_1 : decode cX11_behindSwing 1 = .ok (.aload_n 0, 1) := by decide +kernel
theorem dX11_behindSwing_2 : decode cX11_behindSwing 2 = .ok (.getfield 7, 3) := by decide +kernel
theorem dX11_behindSwing_5 : decode cX11_behindSwing 5 = .ok (.iconst 1, 1) := by decide +kernel
theorem dX11_behindSwing_6 : decode cX11_behindSwing 6 = .ok (.iaload, 1) := by decide +kernel
theorem dX11_behindSwing_7 : decode cX11_behindSwing 7 = .ok (.imul, 1) := by decide +kernel
theorem dX11_behindSwing_8 : decode cX11_behindSwing 8 = .ok (.bipush 100, 2) := by decide +kernel
theorem dX11_behindSwing_10 : decode cX11_behindSwing 10 = .ok (.idiv, 1) := by decide +kernel
theorem dX11_behindSwing_11 : decode cX11_behindSwing 11 = .ok (.istore_n 2, 1) := by decide +kernel
theorem dX11_behindSwing_12 : decode cX11_behindSwing 12 = .ok (.iload_n 1, 1) := by decide +kernel
theorem dX11_behindSwing_13 : decode cX11_behindSwing 13 = .ok (.iload_n 2, 1) := by decide +kernel
theorem dX11_behindSwing_14 : decode cX11_behindSwing 14 = .ok (.iconst 1, 1) := by decide +kernel
theorem dX11_behindSwing_15 : decode cX11_behindSwing 15 = .ok (.if_icmp .ge 7, 3) := by decide +kernel
theorem dX11_behindSwing_18 : decode cX11_behindSwing 18 = .ok (.iconst 1, 1) := by decide +kernel
theorem dX11_behindSwing_19 : decode cX11_behindSwing 19 = .ok (.goto 4, 3) := by decide +kernel
theorem dX11_behindSwing_22 : decode cX11_behindSwing 22 = .ok (.iload_n 2, 1) := by decide +kernel
theorem dX11_behindSwing_23 : decode cX11_behindSwing 23 = .ok (.isub, 1) := by decide +kernel
theorem dX11_behindSwing_24 : decode cX11_behindSwing 24 = .ok (.ireturn, 1) := by decide +kernel
theorem dX11_divisor_0 : decode cX11_divisor 0 = .ok (.iload_n 0, 1) := by decide +kernel
theorem dX11_divisor_1 : decode cX11_divisor 1 = .ok (.istore_n 2, 1) := by decide +kernel
theorem dX11_divisor_2 : decode cX11_divisor 2 = .ok (.iload_n 1, 1) := by decide +kernel
theorem dX11_divisor_3 : decode cX11_divisor 3 = .ok (.istore_n 3, 1) := by decide +kernel
theorem dX11_divisor_4 : decode cX11_divisor 4 = .ok (.iload_n 3, 1) := by decide +kernel
theorem dX11_divisor_5 : decode cX11_divisor 5 = .ok (.ifCond .le 16, 3) := by decide +kernel
theorem dX11_divisor_8 : decode cX11_divisor 8 = .ok (.iload_n 2, 1) := by decide +kernel
theorem dX11_divisor_9 : decode cX11_divisor 9 = .ok (.iload_n 3, 1) := by decide +kernel
theorem dX11_divisor_10 : decode cX11_divisor 10 = .ok (.irem, 1) := by decide +kernel
theorem dX11_divisor_11 : decode cX11_divisor 11 = .ok (.istore 4, 2) := by decide +kernel
theorem dX11_divisor_13 : decode cX11_divisor 13 = .ok (.iload_n 3, 1) := by decide +kernel
theorem dX11_divisor_14 : decode cX11_divisor 14 = .ok (.istore_n 2, 1) := by decide +kernel
theorem dX11_divisor_15 : decode cX11_divisor 15 = .ok (.iload 4, 2) := by decide +kernel
theorem dX11_divisor_17 : decode cX11_divisor 17 = .ok (.istore_n 3, 1) := by decide +kernel
theorem dX11_divisor_18 : decode cX11_divisor 18 = .ok (.goto (-14), 3) := by decide +kernel
theorem dX11_divisor_21 : decode cX11_divisor 21 = .ok (.iload_n 2, 1) := by decide +kernel
theorem dX11_divisor_22 : decode cX11_divisor 22 = .ok (.ireturn, 1) := by decide +kernel
theorem dX11_adds_0 : decode cX11_adds 0 = .ok (.iload_n 1, 1) := by decide +kernel
theorem dX11_adds_1 : decode cX11_adds 1 = .ok (.iconst 1, 1) := by decide +kernel
theorem dX11_adds_2 : decode cX11_adds 2 = .ok (.bipush 99, 2) := by decide +kernel
theorem dX11_adds_4 : decode cX11_adds 4 = .ok (.invokestatic 52, 3) := by decide +kernel
theorem dX11_adds_7 : decode cX11_adds 7 = .ok (.ifCond .ne 9, 3) := by decide +kernel
theorem dX11_adds_10 : decode cX11_adds 10 = .ok (.aload_n 0, 1) := by decide +kernel
theorem dX11_adds_11 : decode cX11_adds 11 = .ok (.iconst 1, 1) := by decide +kernel
theorem dX11_adds_12 : decode cX11_adds 12 = .ok (.invokevirtual 56, 3) := by decide +kernel
theorem dX11_adds_15 : decode cX11_adds 15 = .ok (.ireturn, 1) := by decide +kernel
theorem dX11_adds_16 : decode cX11_adds 16 = .ok (.aload_n 0, 1) := by decide +kernel
theorem dX11_adds_17 : decode cX11_adds 17 = .ok (.getfield 7, 3) := by decide +kernel
theorem dX11_adds_20 : decode cX11_adds 20 = .ok (.iconst 2, 1) := by decide +kernel
theorem dX11_adds_21 : decode cX11_adds 21 = .ok (.iaload, 1) := by decide +kernel
theorem dX11_adds_22 : decode cX11_adds 22 = .ok (.bipush 8, 2) := by decide +kernel
theorem dX11_adds_24 : decode cX11_adds 24 = .ok (.if_icmp .ne 9, 3) := by decide +kernel
theorem dX11_adds_27 : decode cX11_adds 27 = .ok (.aload_n 0, 1) := by decide +kernel
theorem dX11_adds_28 : decode cX11_adds 28 = .ok (.iconst 2, 1) := by decide +kernel
theorem dX11_adds_29 : decode cX11_adds 29 = .ok (.invokevirtual 56, 3) := by decide +kernel
theorem dX11_adds_32 : decode cX11_adds 32 = .ok (.ireturn, 1) := by decide +kernel
theorem dX11_adds_33 : decode cX11_adds 33 = .ok (.aload_n 0, 1) := by decide +kernel
theorem dX11_adds_34 : decode cX11_adds 34 = .ok (.getfield 7, 3) := by decide +kernel
theorem dX11_adds_37 : decode cX11_adds 37 = .ok (.iconst 4, 1) := by decide +kernel
theorem dX11_adds_38 : decode cX11_adds 38 = .ok (.aload_n 0, 1) := by decide +kernel
theorem dX11_adds_39 : decode cX11_adds 39 = .ok (.getfield 7, 3) := by decide +kernel
theorem dX11_adds_42 : decode cX11_adds 42 = .ok (.iconst 2, 1) := by decide +kernel
theorem dX11_adds_43 : decode cX11_adds 43 = .ok (.iaload, 1) := by decide +kernel
theorem dX11_adds_44 : decode cX11_adds 44 = .ok (.iadd, 1) := by decide +kernel
theorem dX11_adds_45 : decode cX11_adds 45 = .ok (.iload_n 1, 1) := by decide +kernel
theorem dX11_adds_46 : decode cX11_adds 46 = .ok (.iastore, 1) := by decide +kernel
theorem dX11_adds_47 : decode cX11_adds 47 = .ok (.aload_n 0, 1) := by decide +kernel
theorem dX11_adds_48 : decode cX11_adds 48 = .ok (.getfield 7, 3) := by decide +kernel
theorem dX11_adds_51 : decode cX11_adds 51 = .ok (.iconst 2, 1) := by decide +kernel
theorem dX11_adds_52 : decode cX11_adds 52 = .ok (.dup2, 1) := by decide +kernel
theorem dX11_adds_53 : decode cX11_adds 53 = .ok (.iaload, 1) := by decide +kernel
theorem dX11_adds_54 : decode cX11_adds 54 = .ok (.iconst 1, 1) := by decide +kernel
theorem dX11_adds_55 : decode cX11_adds 55 = .ok (.iadd, 1) := by decide +kernel
theorem dX11_adds_56 : decode cX11_adds 56 = .ok (.iastore, 1) := by decide +kernel
theorem dX11_adds_57 : decode cX11_adds 57 = .ok (.aload_n 0, 1) := by decide +kernel
theorem dX11_adds_58 : decode cX11_adds 58 = .ok (.aload_n 0, 1) := by decide +kernel
theorem dX11_adds_59 : decode cX11_adds 59 = .ok (.getfield 7, 3) := by decide +kernel
theorem dX11_adds_62 : decode cX11_adds 62 = .ok (.iconst 2, 1) := by decide +kernel
theorem dX11_adds_63 : decode cX11_adds 63 = .ok (.iaload, 1) := by decide +kernel
theorem dX11_adds_64 : decode cX11_adds 64 = .ok (.iconst 1, 1) := by decide +kernel
theorem dX11_adds_65 : decode cX11_adds 65 = .ok (.isub, 1) := by decide +kernel
theorem dX11_adds_66 : decode cX11_adds 66 = .ok (.invokevirtual 60, 3) := by decide +kernel
theorem dX11_adds_69 : decode cX11_adds 69 = .ok (.ireturn, 1) := by decide +kernel
theorem dX11_addPendulum_0 : decode cX11_addPendulum 0 = .ok (.aload_n 0, 1) := by decide +kernel
theorem dX11_addPendulum_1 : decode cX11_addPendulum 1 = .ok (.invokevirtual 63, 3) := by decide +kernel
theorem dX11_addPendulum_4 : decode cX11_addPendulum 4 = .ok (.aload_n 0, 1) := by decide +kernel
theorem dX11_addPendulum_5 : decode cX11_addPendulum 5 = .ok (.aload_n 0, 1) := by decide +kernel
theorem dX11_addPendulum_6 : decode cX11_addPendulum 6 = .ok (.iload_n 1, 1) := by decide +kernel
theorem dX11_addPendulum_7 : decode cX11_addPendulum 7 = .ok (.invokevirtual 66, 3) := by decide +kernel
theorem dX11_addPendulum_10 : decode cX11_addPendulum 10 = .ok (.invokevirtual 69, 3) := by decide +kernel
theorem dX11_addPendulum_13 : decode cX11_addPendulum 13 = .ok (.ireturn, 1) := by decide +kernel
theorem dX11_pushes_0 : decode cX11_pushes 0 = .ok (.aload_n 0, 1) := by decide +kernel
theorem dX11_pushes_1 : decode cX11_pushes 1 = .ok (.iload_n 1, 1) := by decide +kernel
theorem dX11_pushes_2 : decode cX11_pushes 2 = .ok (.invokevirtual 72, 3) := by decide +kernel
theorem dX11_pushes_5 : decode cX11_pushes 5 = .ok (.ifCond .ne 9, 3) := by decide +kernel
theorem dX11_pushes_8 : decode cX11_pushes 8 = .ok (.aload_n 0, 1) := by decide +kernel
theorem dX11_pushes_9 : decode cX11_pushes 9 = .ok (.iconst 1, 1) := by decide +kernel
theorem dX11_pushes_10 : decode cX11_pushes 10 = .ok (.invokevirtual 56, 3) := by decide +kernel
theorem dX11_pushes_13 : decode cX11_pushes 13 = .ok (.ireturn, 1) := by decide +kernel
theorem dX11_pushes_14 : decode cX11_pushes 14 = .ok (.iload_n 2, 1) := by decide +kernel
theorem dX11_pushes_15 : decode cX11_pushes 15 = .ok (.iconst 1, 1) := by decide +kernel
theorem dX11_pushes_16 : decode cX11_pushes 16 = .ok (.bipush 60, 2) := by decide +kernel
theorem dX11_pushes_18 : decode cX11_pushes 18 = .ok (.invokestatic 52, 3) := by decide +kernel
theorem dX11_pushes_21 : decode cX11_pushes 21 = .ok (.ifCond .ne 9, 3) := by decide +kernel
theorem dX11_pushes_24 : decode cX11_pushes 24 = .ok (.aload_n 0, 1) := by decide +kernel
theorem dX11_pushes_25 : decode cX11_pushes 25 = .ok (.iconst 2, 1) := by decide +kernel
theorem dX11_pushes_26 : decode cX11_pushes 26 = .ok (.invokevirtual 56, 3) := by decide +kernel
theorem dX11_pushes_29 : decode cX11_pushes 29 = .ok (.ireturn, 1) := by decide +kernel
theorem dX11_pushes_30 : decode cX11_pushes 30 = .ok (.aload_n 0, 1) := by decide +kernel
theorem dX11_pushes_31 : decode cX11_pushes 31 = .ok (.getfield 7, 3) := by decide +kernel
theorem dX11_pushes_34 : decode cX11_pushes 34 = .ok (.bipush 12, 2) := by decide +kernel
theorem dX11_pushes_36 : decode cX11_pushes 36 = .ok (.iload_n 1, 1) := by decide +kernel
theorem dX11_pushes_37 : decode cX11_pushes 37 = .ok (.iadd, 1) := by decide +kernel
theorem dX11_pushes_38 : decode cX11_pushes 38 = .ok (.iaload, 1) := by decide +kernel
theorem dX11_pushes_39 : decode cX11_pushes 39 = .ok (.iload_n 2, 1) := by decide +kernel
theorem dX11_pushes_40 : decode cX11_pushes 40 = .ok (.iadd, 1) := by decide +kernel
theorem dX11_pushes_41 : decode cX11_pushes 41 = .ok (.istore_n 3, 1) := by decide +kernel
theorem dX11_pushes_42 : decode cX11_pushes 42 = .ok (.iload_n 3, 1) := by decide +kernel
theorem dX11_pushes_43 : decode cX11_pushes 43 = .ok (.bipush 60, 2) := by decide +kernel
theorem dX11_pushes_45 : decode cX11_pushes 45 = .ok (.if_icmp .le 9, 3) := by decide +kernel
theorem dX11_pushes_48 : decode cX11_pushes 48 = .ok (.aload_n 0, 1) := by decide +kernel
theorem dX11_pushes_49 : decode cX11_pushes 49 = .ok (.iconst 3, 1) := by decide +kernel
theorem dX11_pushes_50 : decode cX11_pushes 50 = .ok (.invokevirtual 56, 3) := by decide +kernel
theorem dX11_pushes_53 : decode cX11_pushes 53 = .ok (.ireturn, 1) := by decide +kernel
theorem dX11_pushes_54 : decode cX11_pushes 54 = .ok (.aload_n 0, 1) := by decide +kernel
theorem dX11_pushes_55 : decode cX11_pushes 55 = .ok (.iload_n 1, 1) := by decide +kernel
theorem dX11_pushes_56 : decode cX11_pushes 56 = .ok (.invokevirtual 76, 3) := by decide +kernel
theorem dX11_pushes_59 : decode cX11_pushes 59 = .ok (.ifCond .eq 18, 3) := by decide +kernel
theorem dX11_pushes_62 : decode cX11_pushes 62 = .ok (.aload_n 0, 1) := by decide +kernel
theorem dX11_pushes_63 : decode cX11_pushes 63 = .ok (.getfield 7, 3) := by decide +kernel
theorem dX11_pushes_66 : decode cX11_pushes 66 = .ok (.bipush 20, 2) := by decide +kernel
theorem dX11_pushes_68 : decode cX11_pushes 68 = .ok (.iload_n 1, 1) := by decide +kernel
theorem dX11_pushes_69 : decode cX11_pushes 69 = .ok (.iadd, 1) := by decide +kernel
theorem dX11_pushes_70 : decode cX11_pushes 70 = .ok (.aload_n 0, 1) := by decide +kernel
theorem dX11_pushes_71 : decode cX11_pushes 71 = .ok (.getfield 7, 3) := by decide +kernel
theorem dX11_pushes_74 : decode cX11_pushes 74 = .ok (.iconst 0, 1) := by decide +kernel
theorem dX11_pushes_75 : decode cX11_pushes 75 = .ok (.iaload, 1) := by decide +kernel
theorem dX11_pushes_76 : decode cX11_pushes 76 = .ok (.iastore, 1) := by decide +kernel
theorem dX11_pushes_77 : decode cX11_pushes 77 = .ok (.aload_n 0, 1) := by decide +kernel
theorem dX11_pushes_78 : decode cX11_pushes 78 = .ok (.getfield 7, 3) := by decide +kernel
theorem dX11_pushes_81 : decode cX11_pushes 81 = .ok (.bipush 12, 2) := by decide +kernel
theorem dX11_pushes_83 : decode cX11_pushes 83 = .ok (.iload_n 1, 1) := by decide +kernel
theorem dX11_pushes_84 : decode cX11_pushes 84 = .ok (.iadd, 1) := by decide +kernel
theorem dX11_pushes_85 : decode cX11_pushes 85 = .ok (.iload_n 3, 1) := by decide +kernel
theorem dX11_pushes_86 : decode cX11_pushes 86 = .ok (.iastore, 1) := by decide +kernel
theorem dX11_pushes_87 : decode cX11_pushes 87 = .ok (.iload_n 3, 1) := by decide +kernel
theorem dX11_pushes_88 : decode cX11_pushes 88 = .ok (.aload_n 0, 1) := by decide +kernel
theorem dX11_pushes_89 : decode cX11_pushes 89 = .ok (.getfield 7, 3) := by decide +kernel
theorem dX11_pushes_92 : decode cX11_pushes 92 = .ok (.bipush 36, 2) := by decide +kernel
theorem dX11_pushes_94 : decode cX11_pushes 94 = .ok (.aload_n 0, 1) := by decide +kernel
theorem dX11_pushes_95 : decode cX11_pushes 95 = .ok (.iload_n 1, 1) := by decide +kernel
theorem dX11_pushes_96 : decode cX11_pushes 96 = .ok (.invokevirtual 79, 3) := by decide +kernel
theorem dX11_pushes_99 : decode cX11_pushes 99 = .ok (.iadd, 1) := by decide +kernel
theorem dX11_pushes_100 : decode cX11_pushes 100 = .ok (.iaload, 1) := by decide +kernel
theorem dX11_pushes_101 : decode cX11_pushes 101 = .ok (.if_icmp .le 31, 3) := by decide +kernel
theorem dX11_pushes_104 : decode cX11_pushes 104 = .ok (.aload_n 0, 1) := by decide +kernel
theorem dX11_pushes_105 : decode cX11_pushes 105 = .ok (.getfield 7, 3) := by decide +kernel
theorem dX11_pushes_108 : decode cX11_pushes 108 = .ok (.bipush 36, 2) := by decide +kernel
theorem dX11_pushes_110 : decode cX11_pushes 110 = .ok (.aload_n 0, 1) := by decide +kernel
theorem dX11_pushes_111 : decode cX11_pushes 111 = .ok (.iload_n 1, 1) := by decide +kernel
theorem dX11_pushes_112 : decode cX11_pushes 112 = .ok (.invokevirtual 79, 3) := by decide +kernel
theorem dX11_pushes_115 : decode cX11_pushes 115 = .ok (.iadd, 1) := by decide +kernel
theorem dX11_pushes_116 : decode cX11_pushes 116 = .ok (.iload_n 3, 1) := by decide +kernel
theorem dX11_pushes_117 : decode cX11_pushes 117 = .ok (.iastore, 1) := by decide +kernel
theorem dX11_pushes_118 : decode cX11_pushes 118 = .ok (.aload_n 0, 1) := by decide +kernel
theorem dX11_pushes_119 : decode cX11_pushes 119 = .ok (.getfield 7, 3) := by decide +kernel
theorem dX11_pushes_122 : decode cX11_pushes 122 = .ok (.bipush 39, 2) := by decide +kernel
theorem dX11_pushes_124 : decode cX11_pushes 124 = .ok (.aload_n 0, 1) := by decide +kernel
theorem dX11_pushes_125 : decode cX11_pushes 125 = .ok (.iload_n 1, 1) := by decide +kernel
theorem dX11_pushes_126 : decode cX11_pushes 126 = .ok (.invokevirtual 79, 3) := by decide +kernel
theorem dX11_pushes_129 : decode cX11_pushes 129 = .ok (.iadd, 1) := by decide +kernel
theorem dX11_pushes_130 : decode cX11_pushes 130 = .ok (.iload_n 1, 1) := by decide +kernel
theorem dX11_pushes_131 : decode cX11_pushes 131 = .ok (.iastore, 1) := by decide +kernel
theorem dX11_pushes_132 : decode cX11_pushes 132 = .ok (.aload_n 0, 1) := by decide +kernel
theorem dX11_pushes_133 : decode cX11_pushes 133 = .ok (.iload_n 3, 1) := by decide +kernel
theorem dX11_pushes_134 : decode cX11_pushes 134 = .ok (.invokevirtual 60, 3) := by decide +kernel
theorem dX11_pushes_137 : decode cX11_pushes 137 = .ok (.ireturn, 1) := by decide +kernel
theorem dX11_push_0 : decode cX11_push 0 = .ok (.aload_n 0, 1) := by decide +kernel
theorem dX11_push_1 : decode cX11_push 1 = .ok (.invokevirtual 63, 3) := by decide +kernel
theorem dX11_push_4 : decode cX11_push 4 = .ok (.aload_n 0, 1) := by decide +kernel
theorem dX11_push_5 : decode cX11_push 5 = .ok (.aload_n 0, 1) := by decide +kernel
theorem dX11_push_6 : decode cX11_push 6 = .ok (.iload_n 1, 1) := by decide +kernel
theorem dX11_push_7 : decode cX11_push 7 = .ok (.iload_n 2, 1) := by decide +kernel
theorem dX11_push_8 : decode cX11_push 8 = .ok (.invokevirtual 82, 3) := by decide +kernel
theorem dX11_push_11 : decode cX11_push 11 = .ok (.invokevirtual 69, 3) := by decide +kernel
theorem dX11_push_14 : decode cX11_push 14 = .ok (.ireturn, 1) := by decide +kernel
theorem dX11_catches_0 : decode cX11_catches 0 = .ok (.aload_n 0, 1) := by decide +kernel
theorem dX11_catches_1 : decode cX11_catches 1 = .ok (.iload_n 1, 1) := by decide +kernel
theorem dX11_catches_2 : decode cX11_catches 2 = .ok (.invokevirtual 72, 3) := by decide +kernel
theorem dX11_catches_5 : decode cX11_catches 5 = .ok (.ifCond .ne 9, 3) := by decide +kernel
theorem dX11_catches_8 : decode cX11_catches 8 = .ok (.aload_n 0, 1) := by decide +kernel
theorem dX11_catches_9 : decode cX11_catches 9 = .ok (.iconst 1, 1) := by decide +kernel
theorem dX11_catches_10 : decode cX11_catches 10 = .ok (.invokevirtual 56, 3) := by decide +kernel
theorem dX11_catches_13 : decode cX11_catches 13 = .ok (.ireturn, 1) := by decide +kernel
theorem dX11_catches_14 : decode cX11_catches 14 = .ok (.aload_n 0, 1) := by decide +kernel
theorem dX11_catches_15 : decode cX11_catches 15 = .ok (.iload_n 1, 1) := by decide +kernel
theorem dX11_catches_16 : decode cX11_catches 16 = .ok (.invokevirtual 76, 3) := by decide +kernel
theorem dX11_catches_19 : decode cX11_catches 19 = .ok (.ifCond .eq 9, 3) := by decide +kernel
theorem dX11_catches_22 : decode cX11_catches 22 = .ok (.aload_n 0, 1) := by decide +kernel
theorem dX11_catches_23 : decode cX11_catches 23 = .ok (.iconst 2, 1) := by decide +kernel
theorem dX11_catches_24 : decode cX11_catches 24 = .ok (.invokevirtual 56, 3) := by decide +kernel
theorem dX11_catches_27 : decode cX11_catches 27 = .ok (.ireturn, 1) := by decide +kernel
theorem dX11_catches_28 : decode cX11_catches 28 = .ok (.aload_n 0, 1) := by decide +kernel
theorem dX11_catches_29 : decode cX11_catches 29 = .ok (.getfield 7, 3) := by decide +kernel
theorem dX11_catches_32 : decode cX11_catches 32 = .ok (.bipush 12, 2) := by decide +kernel
theorem dX11_catches_34 : decode cX11_catches 34 = .ok (.iload_n 1, 1) := by decide +kernel
theorem dX11_catches_35 : decode cX11_catches 35 = .ok (.iadd, 1) := by decide +kernel
theorem dX11_catches_36 : decode cX11_catches 36 = .ok (.iaload, 1) := by decide +kernel
theorem dX11_catches_37 : decode cX11_catches 37 = .ok (.istore_n 2, 1) := by decide +kernel
theorem dX11_catches_38 : decode cX11_catches 38 = .ok (.aload_n 0, 1) := by decide +kernel
theorem dX11_catches_39 : decode cX11_catches 39 = .ok (.getfield 7, 3) := by decide +kernel
theorem dX11_catches_42 : decode cX11_catches 42 = .ok (.bipush 12, 2) := by decide +kernel
theorem dX11_catches_44 : decode cX11_catches 44 = .ok (.iload_n 1, 1) := by decide +kernel
theorem dX11_catches_45 : decode cX11_catches 45 = .ok (.iadd, 1) := by decide +kernel
theorem dX11_catches_46 : decode cX11_catches 46 = .ok (.iconst 0, 1) := by decide +kernel
theorem dX11_catches_47 : decode cX11_catches 47 = .ok (.iastore, 1) := by decide +kernel
theorem dX11_catches_48 : decode cX11_catches 48 = .ok (.aload_n 0, 1) := by decide +kernel
theorem dX11_catches_49 : decode cX11_catches 49 = .ok (.iload_n 2, 1) := by decide +kernel
theorem dX11_catches_50 : decode cX11_catches 50 = .ok (.invokevirtual 60, 3) := by decide +kernel
theorem dX11_catches_53 : decode cX11_catches 53 = .ok (.ireturn, 1) := by decide +kernel
theorem dX11_catchPendulum_0 : decode cX11_catchPendulum 0 = .ok (.aload_n 0, 1) := by decide +kernel
theorem dX11_catchPendulum_1 : decode cX11_catchPendulum 1 = .ok (.invokevirtual 63, 3) := by decide +kernel
theorem dX11_catchPendulum_4 : decode cX11_catchPendulum 4 = .ok (.aload_n 0, 1) := by decide +kernel
theorem dX11_catchPendulum_5 : decode cX11_catchPendulum 5 = .ok (.aload_n 0, 1) := by decide +kernel
theorem dX11_catchPendulum_6 : decode cX11_catchPendulum 6 = .ok (.iload_n 1, 1) := by decide +kernel
theorem dX11_catchPendulum_7 : decode cX11_catchPendulum 7 = .ok (.invokevirtual 86, 3) := by decide +kernel
theorem dX11_catchPendulum_10 : decode cX11_catchPendulum 10 = .ok (.invokevirtual 69, 3) := by decide +kernel
theorem dX11_catchPendulum_13 : decode cX11_catchPendulum 13 = .ok (.ireturn, 1) := by decide +kernel
theorem dX11_rubs_0 : decode cX11_rubs 0 = .ok (.iload_n 1, 1) := by decide +kernel
theorem dX11_rubs_1 : decode cX11_rubs 1 = .ok (.iconst 0, 1) := by decide +kernel
theorem dX11_rubs_2 : decode cX11_rubs 2 = .ok (.bipush 30, 2) := by decide +kernel
theorem dX11_rubs_4 : decode cX11_rubs 4 = .ok (.invokestatic 52, 3) := by decide +kernel
theorem dX11_rubs_7 : decode cX11_rubs 7 = .ok (.ifCond .ne 9, 3) := by decide +kernel
theorem dX11_rubs_10 : decode cX11_rubs 10 = .ok (.aload_n 0, 1) := by decide +kernel
theorem dX11_rubs_11 : decode cX11_rubs 11 = .ok (.iconst 1, 1) := by decide +kernel
theorem dX11_rubs_12 : decode cX11_rubs 12 = .ok (.invokevirtual 56, 3) := by decide +kernel
theorem dX11_rubs_15 : decode cX11_rubs 15 = .ok (.ireturn, 1) := by decide +kernel
theorem dX11_rubs_16 : decode cX11_rubs 16 = .ok (.aload_n 0, 1) := by decide +kernel
theorem dX11_rubs_17 : decode cX11_rubs 17 = .ok (.getfield 7, 3) := by decide +kernel
theorem dX11_rubs_20 : decode cX11_rubs 20 = .ok (.iconst 1, 1) := by decide +kernel
theorem dX11_rubs_21 : decode cX11_rubs 21 = .ok (.iaload, 1) := by decide +kernel
theorem dX11_rubs_22 : decode cX11_rubs 22 = .ok (.istore_n 2, 1) := by decide +kernel
theorem dX11_rubs_23 : decode cX11_rubs 23 = .ok (.aload_n 0, 1) := by decide +kernel
theorem dX11_rubs_24 : decode cX11_rubs 24 = .ok (.getfield 7, 3) := by decide +kernel
theorem dX11_rubs_27 : decode cX11_rubs 27 = .ok (.iconst 1, 1) := by decide +kernel
theorem dX11_rubs_28 : decode cX11_rubs 28 = .ok (.iload_n 1, 1) := by decide +kernel
theorem dX11_rubs_29 : decode cX11_rubs 29 = .ok (.iastore, 1) := by decide +kernel
theorem dX11_rubs_30 : decode cX11_rubs 30 = .ok (.aload_n 0, 1) := by decide +kernel
theorem dX11_rubs_31 : decode cX11_rubs 31 = .ok (.iload_n 2, 1) := by decide +kernel
theorem dX11_rubs_32 : decode cX11_rubs 32 = .ok (.invokevirtual 60, 3) := by decide +kernel
theorem dX11_rubs_35 : decode cX11_rubs 35 = .ok (.ireturn, 1) := by decide +kernel
theorem dX11_setFriction_0 : decode cX11_setFriction 0 = .ok (.aload_n 0, 1) := by decide +kernel
theorem dX11_setFriction_1 : decode cX11_setFriction 1 = .ok (.invokevirtual 63, 3) := by decide +kernel
theorem dX11_setFriction_4 : decode cX11_setFriction 4 = .ok (.aload_n 0, 1) := by decide +kernel
theorem dX11_setFriction_5 : decode cX11_setFriction 5 = .ok (.aload_n 0, 1) := by decide +kernel
theorem dX11_setFriction_6 : decode cX11_setFriction 6 = .ok (.iload_n 1, 1) := by decide +kernel
theorem dX11_setFriction_7 : decode cX11_setFriction 7 = .ok (.invokevirtual 89, 3) := by decide +kernel
theorem dX11_setFriction_10 : decode cX11_setFriction 10 = .ok (.invokevirtual 69, 3) := by decide +kernel
theorem dX11_setFriction_13 : decode cX11_setFriction 13 = .ok (.ireturn, 1) := by decide +kernel
theorem dX11_passesTick_0 : decode cX11_passesTick 0 = .ok (.aload_n 0, 1) := by decide +kernel
theorem dX11_passesTick_1 : decode cX11_passesTick 1 = .ok (.getfield 7, 3) := by decide +kernel
theorem dX11_passesTick_4 : decode cX11_passesTick 4 = .ok (.iconst 0, 1) := by decide +kernel
theorem dX11_passesTick_5 : decode cX11_passesTick 5 = .ok (.dup2, 1) := by decide +kernel
theorem dX11_passesTick_6 : decode cX11_passesTick 6 = .ok (.iaload, 1) := by decide +kernel
theorem dX11_passesTick_7 : decode cX11_passesTick 7 = .ok (.iconst 1, 1) := by decide +kernel
theorem dX11_passesTick_8 : decode cX11_passesTick 8 = .ok (.iadd, 1) := by decide +kernel
theorem dX11_passesTick_9 : decode cX11_passesTick 9 = .ok (.iastore, 1) := by decide +kernel
theorem dX11_passesTick_10 : decode cX11_passesTick 10 = .ok (.iconst 0, 1) := by decide +kernel
theorem dX11_passesTick_11 : decode cX11_passesTick 11 = .ok (.istore_n 1, 1) := by decide +kernel
theorem dX11_passesTick_12 : decode cX11_passesTick 12 = .ok (.iconst 0, 1) := by decide +kernel
theorem dX11_passesTick_13 : decode cX11_passesTick 13 = .ok (.istore_n 2, 1) := by decide +kernel
theorem dX11_passesTick_14 : decode cX11_passesTick 14 = .ok (.iload_n 2, 1) := by decide +kernel
theorem dX11_passesTick_15 : decode cX11_passesTick 15 = .ok (.aload_n 0, 1) := by decide +kernel
theorem dX11_passesTick_16 : decode cX11_passesTick 16 = .ok (.getfield 7, 3) := by decide +kernel
theorem dX11_passesTick_19 : decode cX11_passesTick 19 = .ok (.iconst 2, 1) := by decide +kernel
theorem dX11_passesTick_20 : decode cX11_passesTick 20 = .ok (.iaload, 1) := by decide +kernel
theorem dX11_passesTick_21 : decode cX11_passesTick 21 = .ok (.if_icmp .ge 80, 3) := by decide +kernel
theorem dX11_passesTick_24 : decode cX11_passesTick 24 = .ok (.aload_n 0, 1) := by decide +kernel
theorem dX11_passesTick_25 : decode cX11_passesTick 25 = .ok (.iload_n 2, 1) := by decide +kernel
theorem dX11_passesTick_26 : decode cX11_passesTick 26 = .ok (.invokevirtual 76, 3) := by decide +kernel
theorem dX11_passesTick_29 : decode cX11_passesTick 29 = .ok (.ifCond .ne 66, 3) := by decide +kernel
theorem dX11_passesTick_32 : decode cX11_passesTick 32 = .ok (.aload_n 0, 1) := by decide +kernel
theorem dX11_passesTick_33 : decode cX11_passesTick 33 = .ok (.getfield 7, 3) := by decide +kernel
theorem dX11_passesTick_36 : decode cX11_passesTick 36 = .ok (.iconst 0, 1) := by decide +kernel
theorem dX11_passesTick_37 : decode cX11_passesTick 37 = .ok (.iaload, 1) := by decide +kernel
theorem dX11_passesTick_38 : decode cX11_passesTick 38 = .ok (.aload_n 0, 1) := by decide +kernel
theorem dX11_passesTick_39 : decode cX11_passesTick 39 = .ok (.getfield 7, 3) := by decide +kernel
theorem dX11_passesTick_42 : decode cX11_passesTick 42 = .ok (.bipush 20, 2) := by decide +kernel
theorem dX11_passesTick_44 : decode cX11_passesTick 44 = .ok (.iload_n 2, 1) := by decide +kernel
theorem dX11_passesTick_45 : decode cX11_passesTick 45 = .ok (.iadd, 1) := by decide +kernel
theorem dX11_passesTick_46 : decode cX11_passesTick 46 = .ok (.iaload, 1) := by decide +kernel
theorem dX11_passesTick_47 : decode cX11_passesTick 47 = .ok (.isub, 1) := by decide +kernel
theorem dX11_passesTick_48 : decode cX11_passesTick 48 = .ok (.aload_n 0, 1) := by decide +kernel
theorem dX11_passesTick_49 : decode cX11_passesTick 49 = .ok (.iload_n 2, 1) := by decide +kernel
theorem dX11_passesTick_50 : decode cX11_passesTick 50 = .ok (.invokevirtual 92, 3) := by decide +kernel
theorem dX11_passesTick_53 : decode cX11_passesTick 53 = .ok (.irem, 1) := by decide +kernel
theorem dX11_passesTick_54 : decode cX11_passesTick 54 = .ok (.ifCond .ne 41, 3) := by decide +kernel
theorem dX11_passesTick_57 : decode cX11_passesTick 57 = .ok (.aload_n 0, 1) := by decide +kernel
theorem dX11_passesTick_58 : decode cX11_passesTick 58 = .ok (.getfield 7, 3) := by decide +kernel
theorem dX11_passesTick_61 : decode cX11_passesTick 61 = .ok (.bipush 12, 2) := by decide +kernel
theorem dX11_passesTick_63 : decode cX11_passesTick 63 = .ok (.iload_n 2, 1) := by decide +kernel
theorem dX11_passesTick_64 : decode cX11_passesTick 64 = .ok (.iadd, 1) := by decide +kernel
theorem dX11_passesTick_65 : decode cX11_passesTick 65 = .ok (.aload_n 0, 1) := by decide +kernel
theorem dX11_passesTick_66 : decode cX11_passesTick 66 = .ok (.aload_n 0, 1) := by decide +kernel
theorem dX11_passesTick_67 : decode cX11_passesTick 67 = .ok (.getfield 7, 3) := by decide +kernel
theorem dX11_passesTick_70 : decode cX11_passesTick 70 = .ok (.bipush 12, 2) := by decide +kernel
theorem dX11_passesTick_72 : decode cX11_passesTick 72 = .ok (.iload_n 2, 1) := by decide +kernel
theorem dX11_passesTick_73 : decode cX11_passesTick 73 = .ok (.iadd, 1) := by decide +kernel
theorem dX11_passesTick_74 : decode cX11_passesTick 74 = .ok (.iaload, 1) := by decide +kernel
theorem dX11_passesTick_75 : decode cX11_passesTick 75 = .ok (.invokevirtual 95, 3) := by decide +kernel
theorem dX11_passesTick_78 : decode cX11_passesTick 78 = .ok (.iastore, 1) := by decide +kernel
theorem dX11_passesTick_79 : decode cX11_passesTick 79 = .ok (.aload_n 0, 1) := by decide +kernel
theorem dX11_passesTick_80 : decode cX11_passesTick 80 = .ok (.getfield 7, 3) := by decide +kernel
theorem dX11_passesTick_83 : decode cX11_passesTick 83 = .ok (.bipush 28, 2) := by decide +kernel
theorem dX11_passesTick_85 : decode cX11_passesTick 85 = .ok (.iload_n 2, 1) := by decide +kernel
theorem dX11_passesTick_86 : decode cX11_passesTick 86 = .ok (.iadd, 1) := by decide +kernel
theorem dX11_passesTick_87 : decode cX11_passesTick 87 = .ok (.dup2, 1) := by decide +kernel
theorem dX11_passesTick_88 : decode cX11_passesTick 88 = .ok (.iaload, 1) := by decide +kernel
theorem dX11_passesTick_89 : decode cX11_passesTick 89 = .ok (.iconst 1, 1) := by decide +kernel
theorem dX11_passesTick_90 : decode cX11_passesTick 90 = .ok (.iadd, 1) := by decide +kernel
theorem dX11_passesTick_91 : decode cX11_passesTick 91 = .ok (.iastore, 1) := by decide +kernel
theorem dX11_passesTick_92 : decode cX11_passesTick 92 = .ok (.iinc 1 1, 3) := by decide +kernel
theorem dX11_passesTick_95 : decode cX11_passesTick 95 = .ok (.iinc 2 1, 3) := by decide +kernel
theorem dX11_passesTick_98 : decode cX11_passesTick 98 = .ok (.goto (-84), 3) := by decide +kernel
theorem dX11_passesTick_101 : decode cX11_passesTick 101 = .ok (.iload_n 1, 1) := by decide +kernel
theorem dX11_passesTick_102 : decode cX11_passesTick 102 = .ok (.ireturn, 1) := by decide +kernel
theorem dX11_passes_0 : decode cX11_passes 0 = .ok (.iload_n 1, 1) := by decide +kernel
theorem dX11_passes_1 : decode cX11_passes 1 = .ok (.iconst 1, 1) := by decide +kernel
theorem dX11_passes_2 : decode cX11_passes 2 = .ok (.sipush 500, 3) := by decide +kernel
theorem dX11_passes_5 : decode cX11_passes 5 = .ok (.invokestatic 52, 3) := by decide +kernel
theorem dX11_passes_8 : decode cX11_passes 8 = .ok (.ifCond .ne 9, 3) := by decide +kernel
theorem dX11_passes_11 : decode cX11_passes 11 = .ok (.aload_n 0, 1) := by decide +kernel
theorem dX11_passes_12 : decode cX11_passes 12 = .ok (.iconst 1, 1) := by decide +kernel
theorem dX11_passes_13 : decode cX11_passes 13 = .ok (.invokevirtual 56, 3) := by decide +kernel
theorem dX11_passes_16 : decode cX11_passes 16 = .ok (.ireturn, 1) := by decide +kernel
theorem dX11_passes_17 : decode cX11_passes 17 = .ok (.iconst 0, 1) := by decide +kernel
theorem dX11_passes_18 : decode cX11_passes 18 = .ok (.istore_n 2, 1) := by decide +kernel
theorem dX11_passes_19 : decode cX11_passes 19 = .ok (.iconst 0, 1) := by decide +kernel
theorem dX11_passes_20 : decode cX11_passes 20 = .ok (.istore_n 3, 1) := by decide +kernel
theorem dX11_passes_21 : decode cX11_passes 21 = .ok (.iload_n 3, 1) := by decide +kernel
theorem dX11_passes_22 : decode cX11_passes 22 = .ok (.iload_n 1, 1) := by decide +kernel
theorem dX11_passes_23 : decode cX11_passes 23 = .ok (.if_icmp .ge 16, 3) := by decide +kernel
theorem dX11_passes_26 : decode cX11_passes 26 = .ok (.iload_n 2, 1) := by decide +kernel
theorem dX11_passes_27 : decode cX11_passes 27 = .ok (.aload_n 0, 1) := by decide +kernel
theorem dX11_passes_28 : decode cX11_passes 28 = .ok (.invokevirtual 98, 3) := by decide +kernel
theorem dX11_passes_31 : decode cX11_passes 31 = .ok (.iadd, 1) := by decide +kernel
theorem dX11_passes_32 : decode cX11_passes 32 = .ok (.istore_n 2, 1) := by decide +kernel
theorem dX11_passes_33 : decode cX11_passes 33 = .ok (.iinc 3 1, 3) := by decide +kernel
theorem dX11_passes_36 : decode cX11_passes 36 = .ok (.goto (-15), 3) := by decide +kernel
theorem dX11_passes_39 : decode cX11_passes 39 = .ok (.aload_n 0, 1) := by decide +kernel
theorem dX11_passes_40 : decode cX11_passes 40 = .ok (.iload_n 2, 1) := by decide +kernel
theorem dX11_passes_41 : decode cX11_passes 41 = .ok (.invokevirtual 60, 3) := by decide +kernel
theorem dX11_passes_44 : decode cX11_passes 44 = .ok (.ireturn, 1) := by decide +kernel
theorem dX11_pass_0 : decode cX11_pass 0 = .ok (.aload_n 0, 1) := by decide +kernel
theorem dX11_pass_1 : decode cX11_pass 1 = .ok (.invokevirtual 63, 3) := by decide +kernel
theorem dX11_pass_4 : decode cX11_pass 4 = .ok (.aload_n 0, 1) := by decide +kernel
theorem dX11_pass_5 : decode cX11_pass 5 = .ok (.aload_n 0, 1) := by decide +kernel
theorem dX11_pass_6 : decode cX11_pass 6 = .ok (.iload_n 1, 1) := by decide +kernel
theorem dX11_pass_7 : decode cX11_pass 7 = .ok (.invokevirtual 102, 3) := by decide +kernel
theorem dX11_pass_10 : decode cX11_pass 10 = .ok (.invokevirtual 69, 3) := by decide +kernel
theorem dX11_pass_13 : decode cX11_pass 13 = .ok (.ireturn, 1) := by decide +kernel
theorem dX11_pendulumCount_0 : decode cX11_pendulumCount 0 = .ok (.aload_n 0, 1) := by decide +kernel
theorem dX11_pendulumCount_1 : decode cX11_pendulumCount 1 = .ok (.aload_n 0, 1) := by decide +kernel
theorem dX11_pendulumCount_2 : decode cX11_pendulumCount 2 = .ok (.getfield 7, 3) := by decide +kernel
theorem dX11_pendulumCount_5 : decode cX11_pendulumCount 5 = .ok (.iconst 2, 1) := by decide +kernel
theorem dX11_pendulumCount_6 : decode cX11_pendulumCount 6 = .ok (.iaload, 1) := by decide +kernel
theorem dX11_pendulumCount_7 : decode cX11_pendulumCount 7 = .ok (.invokevirtual 60, 3) := by decide +kernel
theorem dX11_pendulumCount_10 : decode cX11_pendulumCount 10 = .ok (.ireturn, 1) := by decide +kernel
theorem dX11_pendulumNumber_0 : decode cX11_pendulumNumber 0 = .ok (.aload_n 0, 1) := by decide +kernel
theorem dX11_pendulumNumber_1 : decode cX11_pendulumNumber 1 = .ok (.iload_n 2, 1) := by decide +kernel
theorem dX11_pendulumNumber_2 : decode cX11_pendulumNumber 2 = .ok (.invokevirtual 72, 3) := by decide +kernel
theorem dX11_pendulumNumber_5 : decode cX11_pendulumNumber 5 = .ok (.ifCond .eq 18, 3) := by decide +kernel
theorem dX11_pendulumNumber_8 : decode cX11_pendulumNumber 8 = .ok (.aload_n 0, 1) := by decide +kernel
theorem dX11_pendulumNumber_9 : decode cX11_pendulumNumber 9 = .ok (.aload_n 0, 1) := by decide +kernel
theorem dX11_pendulumNumber_10 : decode cX11_pendulumNumber 10 = .ok (.getfield 7, 3) := by decide +kernel
theorem dX11_pendulumNumber_13 : decode cX11_pendulumNumber 13 = .ok (.iload_n 1, 1) := by decide +kernel
theorem dX11_pendulumNumber_14 : decode cX11_pendulumNumber 14 = .ok (.iload_n 2, 1) := by decide +kernel
theorem dX11_pendulumNumber_15 : decode cX11_pendulumNumber 15 = .ok (.iadd, 1) := by decide +kernel
theorem dX11_pendulumNumber_16 : decode cX11_pendulumNumber 16 = .ok (.iaload, 1) := by decide +kernel
theorem dX11_pendulumNumber_17 : decode cX11_pendulumNumber 17 = .ok (.invokevirtual 60, 3) := by decide +kernel
theorem dX11_pendulumNumber_20 : decode cX11_pendulumNumber 20 = .ok (.goto 8, 3) := by decide +kernel
theorem dX11_pendulumNumber_23 : decode cX11_pendulumNumber 23 = .ok (.aload_n 0, 1) := by decide +kernel
theorem dX11_pendulumNumber_24 : decode cX11_pendulumNumber 24 = .ok (.iconst 1, 1) := by decide +kernel
theorem dX11_pendulumNumber_25 : decode cX11_pendulumNumber 25 = .ok (.invokevirtual 56, 3) := by decide +kernel
theorem dX11_pendulumNumber_28 : decode cX11_pendulumNumber 28 = .ok (.ireturn, 1) := by decide +kernel
theorem dX11_lengthOf_0 : decode cX11_lengthOf 0 = .ok (.aload_n 0, 1) := by decide +kernel
theorem dX11_lengthOf_1 : decode cX11_lengthOf 1 = .ok (.iconst 4, 1) := by decide +kernel
theorem dX11_lengthOf_2 : decode cX11_lengthOf 2 = .ok (.iload_n 1, 1) := by decide +kernel
theorem dX11_lengthOf_3 : decode cX11_lengthOf 3 = .ok (.invokevirtual 105, 3) := by decide +kernel
theorem dX11_lengthOf_6 : decode cX11_lengthOf 6 = .ok (.ireturn, 1) := by decide +kernel
theorem dX11_classOf_0 : decode cX11_classOf 0 = .ok (.aload_n 0, 1) := by decide +kernel
theorem dX11_classOf_1 : decode cX11_classOf 1 = .ok (.iload_n 1, 1) := by decide +kernel
theorem dX11_classOf_2 : decode cX11_classOf 2 = .ok (.invokevirtual 72, 3) := by decide +kernel
theorem dX11_classOf_5 : decode cX11_classOf 5 = .ok (.ifCond .eq 15, 3) := by decide +kernel
theorem dX11_classOf_8 : decode cX11_classOf 8 = .ok (.aload_n 0, 1) := by decide +kernel
theorem dX11_classOf_9 : decode cX11_classOf 9 = .ok (.aload_n 0, 1) := by decide +kernel
theorem dX11_classOf_10 : decode cX11_classOf 10 = .ok (.iload_n 1, 1) := by decide +kernel
theorem dX11_classOf_11 : decode cX11_classOf 11 = .ok (.invokevirtual 79, 3) := by decide +kernel
theorem dX11_classOf_14 : decode cX11_classOf 14 = .ok (.invokevirtual 60, 3) := by decide +kernel
theorem dX11_classOf_17 : decode cX11_classOf 17 = .ok (.goto 8, 3) := by decide +kernel
theorem dX11_classOf_20 : decode cX11_classOf 20 = .ok (.aload_n 0, 1) := by decide +kernel
theorem dX11_classOf_21 : decode cX11_classOf 21 = .ok (.iconst 1, 1) := by decide +kernel
theorem dX11_classOf_22 : decode cX11_classOf 22 = .ok (.invokevirtual 56, 3) := by decide +kernel
theorem dX11_classOf_25 : decode cX11_classOf 25 = .ok (.ireturn, 1) := by decide +kernel
theorem dX11_amplitudeOf_0 : decode cX11_amplitudeOf 0 = .ok (.aload_n 0, 1) := by decide +kernel
theorem dX11_amplitudeOf_1 : decode cX11_amplitudeOf 1 = .ok (.bipush 12, 2) := by decide +kernel
theorem dX11_amplitudeOf_3 : decode cX11_amplitudeOf 3 = .ok (.iload_n 1, 1) := by decide +kernel
theorem dX11_amplitudeOf_4 : decode cX11_amplitudeOf 4 = .ok (.invokevirtual 105, 3) := by decide +kernel
theorem dX11_amplitudeOf_7 : decode cX11_amplitudeOf 7 = .ok (.ireturn, 1) := by decide +kernel
theorem dX11_startOf_0 : decode cX11_startOf 0 = .ok (.aload_n 0, 1) := by decide +kernel
theorem dX11_startOf_1 : decode cX11_startOf 1 = .ok (.iload_n 1, 1) := by decide +kernel
theorem dX11_startOf_2 : decode cX11_startOf 2 = .ok (.invokevirtual 72, 3) := by decide +kernel
theorem dX11_startOf_5 : decode cX11_startOf 5 = .ok (.ifCond .ne 9, 3) := by decide +kernel
theorem dX11_startOf_8 : decode cX11_startOf 8 = .ok (.aload_n 0, 1) := by decide +kernel
theorem dX11_startOf_9 : decode cX11_startOf 9 = .ok (.iconst 1, 1) := by decide +kernel
theorem dX11_startOf_10 : decode cX11_startOf 10 = .ok (.invokevirtual 56, 3) := by decide +kernel
theorem dX11_startOf_13 : decode cX11_startOf 13 = .ok (.ireturn, 1) := by decide +kernel
theorem dX11_startOf_14 : decode cX11_startOf 14 = .ok (.aload_n 0, 1) := by decide +kernel
theorem dX11_startOf_15 : decode cX11_startOf 15 = .ok (.iload_n 1, 1) := by decide +kernel
theorem dX11_startOf_16 : decode cX11_startOf 16 = .ok (.invokevirtual 76, 3) := by decide +kernel
theorem dX11_startOf_19 : decode cX11_startOf 19 = .ok (.ifCond .eq 11, 3) := by decide +kernel
theorem dX11_startOf_22 : decode cX11_startOf 22 = .ok (.aload_n 0, 1) := by decide +kernel
theorem dX11_startOf_23 : decode cX11_startOf 23 = .ok (.iconst 2, 1) := by decide +kernel
theorem dX11_startOf_24 : decode cX11_startOf 24 = .ok (.invokevirtual 56, 3) := by decide +kernel
theorem dX11_startOf_27 : decode cX11_startOf 27 = .ok (.goto 16, 3) := by decide +kernel
theorem dX11_startOf_30 : decode cX11_startOf 30 = .ok (.aload_n 0, 1) := by decide +kernel
theorem dX11_startOf_31 : decode cX11_startOf 31 = .ok (.aload_n 0, 1) := by decide +kernel
theorem dX11_startOf_32 : decode cX11_startOf 32 = .ok (.getfield 7, 3) := by decide +kernel
theorem dX11_startOf_35 : decode cX11_startOf 35 = .ok (.bipush 20, 2) := by decide +kernel
theorem dX11_startOf_37 : decode cX11_startOf 37 = .ok (.iload_n 1, 1) := by decide +kernel
theorem dX11_startOf_38 : decode cX11_startOf 38 = .ok (.iadd, 1) := by decide +kernel
theorem dX11_startOf_39 : decode cX11_startOf 39 = .ok (.iaload, 1) := by decide +kernel
theorem dX11_startOf_40 : decode cX11_startOf 40 = .ok (.invokevirtual 60, 3) := by decide +kernel
theorem dX11_startOf_43 : decode cX11_startOf 43 = .ok (.ireturn, 1) := by decide +kernel
theorem dX11_periodOf_0 : decode cX11_periodOf 0 = .ok (.aload_n 0, 1) := by decide +kernel
theorem dX11_periodOf_1 : decode cX11_periodOf 1 = .ok (.iload_n 1, 1) := by decide +kernel
theorem dX11_periodOf_2 : decode cX11_periodOf 2 = .ok (.invokevirtual 72, 3) := by decide +kernel
theorem dX11_periodOf_5 : decode cX11_periodOf 5 = .ok (.ifCond .eq 15, 3) := by decide +kernel
theorem dX11_periodOf_8 : decode cX11_periodOf 8 = .ok (.aload_n 0, 1) := by decide +kernel
theorem dX11_periodOf_9 : decode cX11_periodOf 9 = .ok (.aload_n 0, 1) := by decide +kernel
theorem dX11_periodOf_10 : decode cX11_periodOf 10 = .ok (.iload_n 1, 1) := by decide +kernel
theorem dX11_periodOf_11 : decode cX11_periodOf 11 = .ok (.invokevirtual 92, 3) := by decide +kernel
theorem dX11_periodOf_14 : decode cX11_periodOf 14 = .ok (.invokevirtual 60, 3) := by decide +kernel
theorem dX11_periodOf_17 : decode cX11_periodOf 17 = .ok (.goto 8, 3) := by decide +kernel
theorem dX11_periodOf_20 : decode cX11_periodOf 20 = .ok (.aload_n 0, 1) := by decide +kernel
theorem dX11_periodOf_21 : decode cX11_periodOf 21 = .ok (.iconst 1, 1) := by decide +kernel
theorem dX11_periodOf_22 : decode cX11_periodOf 22 = .ok (.invokevirtual 56, 3) := by decide +kernel
theorem dX11_periodOf_25 : decode cX11_periodOf 25 = .ok (.ireturn, 1) := by decide +kernel
theorem dX11_periodByEstimates_0 : decode cX11_periodByEstimates 0 = .ok (.aload_n 0, 1) := by decide +kernel
theorem dX11_periodByEstimates_1 : decode cX11_periodByEstimates 1 = .ok (.iload_n 1, 1) := by decide +kernel
theorem dX11_periodByEstimates_2 : decode cX11_periodByEstimates 2 = .ok (.invokevirtual 108, 3) := by decide +kernel
theorem dX11_periodByEstimates_5 : decode cX11_periodByEstimates 5 = .ok (.ireturn, 1) := by decide +kernel
theorem dX11_swingsOf_0 : decode cX11_swingsOf 0 = .ok (.aload_n 0, 1) := by decide +kernel
theorem dX11_swingsOf_1 : decode cX11_swingsOf 1 = .ok (.bipush 28, 2) := by decide +kernel
theorem dX11_swingsOf_3 : decode cX11_swingsOf 3 = .ok (.iload_n 1, 1) := by decide +kernel
theorem dX11_swingsOf_4 : decode cX11_swingsOf 4 = .ok (.invokevirtual 105, 3) := by decide +kernel
theorem dX11_swingsOf_7 : decode cX11_swingsOf 7 = .ok (.ireturn, 1) := by decide +kernel
theorem dX11_clock_0 : decode cX11_clock 0 = .ok (.aload_n 0, 1) := by decide +kernel
theorem dX11_clock_1 : decode cX11_clock 1 = .ok (.aload_n 0, 1) := by decide +kernel
theorem dX11_clock_2 : decode cX11_clock 2 = .ok (.getfield 7, 3) := by decide +kernel
theorem dX11_clock_5 : decode cX11_clock 5 = .ok (.iconst 0, 1) := by decide +kernel
theorem dX11_clock_6 : decode cX11_clock 6 = .ok (.iaload, 1) := by decide +kernel
theorem dX11_clock_7 : decode cX11_clock 7 = .ok (.invokevirtual 60, 3) := by decide +kernel
theorem dX11_clock_10 : decode cX11_clock 10 = .ok (.ireturn, 1) := by decide +kernel
theorem dX11_friction_0 : decode cX11_friction 0 = .ok (.aload_n 0, 1) := by decide +kernel
theorem dX11_friction_1 : decode cX11_friction 1 = .ok (.aload_n 0, 1) := by decide +kernel
theorem dX11_friction_2 : decode cX11_friction 2 = .ok (.getfield 7, 3) := by decide +kernel
theorem dX11_friction_5 : decode cX11_friction 5 = .ok (.iconst 1, 1) := by decide +kernel
theorem dX11_friction_6 : decode cX11_friction 6 = .ok (.iaload, 1) := by decide +kernel
theorem dX11_friction_7 : decode cX11_friction 7 = .ok (.invokevirtual 60, 3) := by decide +kernel
theorem dX11_friction_10 : decode cX11_friction 10 = .ok (.ireturn, 1) := by decide +kernel
theorem dX11_whyNoRecord_0 : decode cX11_whyNoRecord 0 = .ok (.iload_n 1, 1) := by decide +kernel
theorem dX11_whyNoRecord_1 : decode cX11_whyNoRecord 1 = .ok (.iconst 0, 1) := by decide +kernel
theorem dX11_whyNoRecord_2 : decode cX11_whyNoRecord 2 = .ok (.iconst 2, 1) := by decide +kernel
theorem dX11_whyNoRecord_3 : decode cX11_whyNoRecord 3 = .ok (.invokestatic 52, 3) := by decide +kernel
theorem dX11_whyNoRecord_6 : decode cX11_whyNoRecord 6 = .ok (.ifCond .ne 7, 3) := by decide +kernel
theorem dX11_whyNoRecord_9 : decode cX11_whyNoRecord 9 = .ok (.iconst 1, 1) := by decide +kernel
theorem dX11_whyNoRecord_10 : decode cX11_whyNoRecord 10 = .ok (.goto 20, 3) := by decide +kernel
theorem dX11_whyNoRecord_13 : decode cX11_whyNoRecord 13 = .ok (.aload_n 0, 1) := by decide +kernel
theorem dX11_whyNoRecord_14 : decode cX11_whyNoRecord 14 = .ok (.getfield 7, 3) := by decide +kernel
theorem dX11_whyNoRecord_17 : decode cX11_whyNoRecord 17 = .ok (.bipush 36, 2) := by decide +kernel
theorem dX11_whyNoRecord_19 : decode cX11_whyNoRecord 19 = .ok (.iload_n 1, 1) := by decide +kernel
theorem dX11_whyNoRecord_20 : decode cX11_whyNoRecord 20 = .ok (.iadd, 1) := by decide +kernel
theorem dX11_whyNoRecord_21 : decode cX11_whyNoRecord 21 = .ok (.iaload, 1) := by decide +kernel
theorem dX11_whyNoRecord_22 : decode cX11_whyNoRecord 22 = .ok (.ifCond .ne 7, 3) := by decide +kernel
theorem dX11_whyNoRecord_25 : decode cX11_whyNoRecord 25 = .ok (.iconst 2, 1) := by decide +kernel
theorem dX11_whyNoRecord_26 : decode cX11_whyNoRecord 26 = .ok (.goto 4, 3) := by decide +kernel
theorem dX11_whyNoRecord_29 : decode cX11_whyNoRecord 29 = .ok (.iconst 0, 1) := by decide +kernel
theorem dX11_whyNoRecord_30 : decode cX11_whyNoRecord 30 = .ok (.ireturn, 1) := by decide +kernel
theorem dX11_recordOf_0 : decode cX11_recordOf 0 = .ok (.aload_n 0, 1) := by decide +kernel
theorem dX11_recordOf_1 : decode cX11_recordOf 1 = .ok (.iload_n 1, 1) := by decide +kernel
theorem dX11_recordOf_2 : decode cX11_recordOf 2 = .ok (.invokevirtual 111, 3) := by decide +kernel
theorem dX11_recordOf_5 : decode cX11_recordOf 5 = .ok (.istore_n 2, 1) := by decide +kernel
theorem dX11_recordOf_6 : decode cX11_recordOf 6 = .ok (.iload_n 2, 1) := by decide +kernel
theorem dX11_recordOf_7 : decode cX11_recordOf 7 = .ok (.ifCond .le 11, 3) := by decide +kernel
theorem dX11_recordOf_10 : decode cX11_recordOf 10 = .ok (.aload_n 0, 1) := by decide +kernel
theorem dX11_recordOf_11 : decode cX11_recordOf 11 = .ok (.iload_n 2, 1) := by decide +kernel
theorem dX11_recordOf_12 : decode cX11_recordOf 12 = .ok (.invokevirtual 56, 3) := by decide +kernel
theorem dX11_recordOf_15 : decode cX11_recordOf 15 = .ok (.goto 16, 3) := by decide +kernel
theorem dX11_recordOf_18 : decode cX11_recordOf 18 = .ok (.aload_n 0, 1) := by decide +kernel
theorem dX11_recordOf_19 : decode cX11_recordOf 19 = .ok (.aload_n 0, 1) := by decide +kernel
theorem dX11_recordOf_20 : decode cX11_recordOf 20 = .ok (.getfield 7, 3) := by decide +kernel
theorem dX11_recordOf_23 : decode cX11_recordOf 23 = .ok (.bipush 36, 2) := by decide +kernel
theorem dX11_recordOf_25 : decode cX11_recordOf 25 = .ok (.iload_n 1, 1) := by decide +kernel
theorem dX11_recordOf_26 : decode cX11_recordOf 26 = .ok (.iadd, 1) := by decide +kernel
theorem dX11_recordOf_27 : decode cX11_recordOf 27 = .ok (.iaload, 1) := by decide +kernel
theorem dX11_recordOf_28 : decode cX11_recordOf 28 = .ok (.invokevirtual 60, 3) := by decide +kernel
theorem dX11_recordOf_31 : decode cX11_recordOf 31 = .ok (.ireturn, 1) := by decide +kernel
theorem dX11_holderOf_0 : decode cX11_holderOf 0 = .ok (.aload_n 0, 1) := by decide +kernel
theorem dX11_holderOf_1 : decode cX11_holderOf 1 = .ok (.iload_n 1, 1) := by decide +kernel
theorem dX11_holderOf_2 : decode cX11_holderOf 2 = .ok (.invokevirtual 111, 3) := by decide +kernel
theorem dX11_holderOf_5 : decode cX11_holderOf 5 = .ok (.istore_n 2, 1) := by decide +kernel
theorem dX11_holderOf_6 : decode cX11_holderOf 6 = .ok (.iload_n 2, 1) := by decide +kernel
theorem dX11_holderOf_7 : decode cX11_holderOf 7 = .ok (.ifCond .le 11, 3) := by decide +kernel
theorem dX11_holderOf_10 : decode cX11_holderOf 10 = .ok (.aload_n 0, 1) := by decide +kernel
theorem dX11_holderOf_11 : decode cX11_holderOf 11 = .ok (.iload_n 2, 1) := by decide +kernel
theorem dX11_holderOf_12 : decode cX11_holderOf 12 = .ok (.invokevirtual 56, 3) := by decide +kernel
theorem dX11_holderOf_15 : decode cX11_holderOf 15 = .ok (.goto 16, 3) := by decide +kernel
theorem dX11_holderOf_18 : decode cX11_holderOf 18 = .ok (.aload_n 0, 1) := by decide +kernel
theorem dX11_holderOf_19 : decode cX11_holderOf 19 = .ok (.aload_n 0, 1) := by decide +kernel
theorem dX11_holderOf_20 : decode cX11_holderOf 20 = .ok (.getfield 7, 3) := by decide +kernel
theorem dX11_holderOf_23 : decode cX11_holderOf 23 = .ok (.bipush 39, 2) := by decide +kernel
theorem dX11_holderOf_25 : decode cX11_holderOf 25 = .ok (.iload_n 1, 1) := by decide +kernel
theorem dX11_holderOf_26 : decode cX11_holderOf 26 = .ok (.iadd, 1) := by decide +kernel
theorem dX11_holderOf_27 : decode cX11_holderOf 27 = .ok (.iaload, 1) := by decide +kernel
theorem dX11_holderOf_28 : decode cX11_holderOf 28 = .ok (.invokevirtual 60, 3) := by decide +kernel
theorem dX11_holderOf_31 : decode cX11_holderOf 31 = .ok (.ireturn, 1) := by decide +kernel
theorem dX11_isAhead_0 : decode cX11_isAhead 0 = .ok (.aload_n 0, 1) := by decide +kernel
theorem dX11_isAhead_1 : decode cX11_isAhead 1 = .ok (.getfield 7, 3) := by decide +kernel
theorem dX11_isAhead_4 : decode cX11_isAhead 4 = .ok (.bipush 12, 2) := by decide +kernel
theorem dX11_isAhead_6 : decode cX11_isAhead 6 = .ok (.iload_n 1, 1) := by decide +kernel
theorem dX11_isAhead_7 : decode cX11_isAhead 7 = .ok (.iadd, 1) := by decide +kernel
theorem dX11_isAhead_8 : decode cX11_isAhead 8 = .ok (.iaload, 1) := by decide +kernel
theorem dX11_isAhead_9 : decode cX11_isAhead 9 = .ok (.aload_n 0, 1) := by decide +kernel
theorem dX11_isAhead_10 : decode cX11_isAhead 10 = .ok (.getfield 7, 3) := by decide +kernel
theorem dX11_isAhead_13 : decode cX11_isAhead 13 = .ok (.bipush 12, 2) := by decide +kernel
theorem dX11_isAhead_15 : decode cX11_isAhead 15 = .ok (.iload_n 2, 1) := by decide +kernel
theorem dX11_isAhead_16 : decode cX11_isAhead 16 = .ok (.iadd, 1) := by decide +kernel
theorem dX11_isAhead_17 : decode cX11_isAhead 17 = .ok (.iaload, 1) := by decide +kernel
theorem dX11_isAhead_18 : decode cX11_isAhead 18 = .ok (.isub, 1) := by decide +kernel
theorem dX11_isAhead_19 : decode cX11_isAhead 19 = .ok (.istore_n 3, 1) := by decide +kernel
theorem dX11_isAhead_20 : decode cX11_isAhead 20 = .ok (.aload_n 0, 1) := by decide +kernel
theorem dX11_isAhead_21 : decode cX11_isAhead 21 = .ok (.getfield 7, 3) := by decide +kernel
theorem dX11_isAhead_24 : decode cX11_isAhead 24 = .ok (.bipush 28, 2) := by decide +kernel
theorem dX11_isAhead_26 : decode cX11_isAhead 26 = .ok (.iload_n 1, 1) := by decide +kernel
theorem dX11_isAhead_27 : decode cX11_isAhead 27 = .ok (.iadd, 1) := by decide +kernel
theorem dX11_isAhead_28 : decode cX11_isAhead 28 = .ok (.iaload, 1) := by decide +kernel
theorem dX11_isAhead_29 : decode cX11_isAhead 29 = .ok (.aload_n 0, 1) := by decide +kernel
theorem dX11_isAhead_30 : decode cX11_isAhead 30 = .ok (.getfield 7, 3) := by decide +kernel
theorem dX11_isAhead_33 : decode cX11_isAhead 33 = .ok (.bipush 28, 2) := by decide +kernel
theorem dX11_isAhead_35 : decode cX11_isAhead 35 = .ok (.iload_n 2, 1) := by decide +kernel
theorem dX11_isAhead_36 : decode cX11_isAhead 36 = .ok (.iadd, 1) := by decide +kernel
theorem dX11_isAhead_37 : decode cX11_isAhead 37 = .ok (.iaload, 1) := by decide +kernel
theorem dX11_isAhead_38 : decode cX11_isAhead 38 = .ok (.isub, 1) := by decide +kernel
theorem dX11_isAhead_39 : decode cX11_isAhead 39 = .ok (.istore 4, 2) := by decide +kernel
theorem dX11_isAhead_41 : decode cX11_isAhead 41 = .ok (.iload_n 3, 1) := by decide +kernel
theorem dX11_isAhead_42 : decode cX11_isAhead 42 = .ok (.ifCond .gt 22, 3) := by decide +kernel
theorem dX11_isAhead_45 : decode cX11_isAhead 45 = .ok (.iload_n 3, 1) := by decide +kernel
theorem dX11_isAhead_46 : decode cX11_isAhead 46 = .ok (.ifCond .ne 22, 3) := by decide +kernel
theorem dX11_isAhead_49 : decode cX11_isAhead 49 = .ok (.iload 4, 2) := by decide +kernel
theorem dX11_isAhead_51 : decode cX11_isAhead 51 = .ok (.ifCond .gt 13, 3) := by decide +kernel
theorem dX11_isAhead_54 : decode cX11_isAhead 54 = .ok (.iload 4, 2) := by decide +kernel
theorem dX11_isAhead_56 : decode cX11_isAhead 56 = .ok (.ifCond .ne 12, 3) := by decide +kernel
theorem dX11_isAhead_59 : decode cX11_isAhead 59 = .ok (.iload_n 1, 1) := by decide +kernel
theorem dX11_isAhead_60 : decode cX11_isAhead 60 = .ok (.iload_n 2, 1) := by decide +kernel
theorem dX11_isAhead_61 : decode cX11_isAhead 61 = .ok (.if_icmp .ge 7, 3) := by decide +kernel
theorem dX11_isAhead_64 : decode cX11_isAhead 64 = .ok (.iconst 1, 1) := by decide +kernel
theorem dX11_isAhead_65 : decode cX11_isAhead 65 = .ok (.goto 4, 3) := by decide +kernel
theorem dX11_isAhead_68 : decode cX11_isAhead 68 = .ok (.iconst 0, 1) := by decide +kernel
theorem dX11_isAhead_69 : decode cX11_isAhead 69 = .ok (.ireturn, 1) := by decide +kernel
theorem dX11_pendulumAtRank_0 : decode cX11_pendulumAtRank 0 = .ok (.iconst 0, 1) := by decide +kernel
theorem dX11_pendulumAtRank_1 : decode cX11_pendulumAtRank 1 = .ok (.istore_n 2, 1) := by decide +kernel
theorem dX11_pendulumAtRank_2 : decode cX11_pendulumAtRank 2 = .ok (.iload_n 2, 1) := by decide +kernel
theorem dX11_pendulumAtRank_3 : decode cX11_pendulumAtRank 3 = .ok (.aload_n 0, 1) := by decide +kernel
theorem dX11_pendulumAtRank_4 : decode cX11_pendulumAtRank 4 = .ok (.getfield 7, 3) := by decide +kernel
theorem dX11_pendulumAtRank_7 : decode cX11_pendulumAtRank 7 = .ok (.iconst 2, 1) := by decide +kernel
theorem dX11_pendulumAtRank_8 : decode cX11_pendulumAtRank 8 = .ok (.iaload, 1) := by decide +kernel
theorem dX11_pendulumAtRank_9 : decode cX11_pendulumAtRank 9 = .ok (.if_icmp .ge 60, 3) := by decide +kernel
theorem dX11_pendulumAtRank_12 : decode cX11_pendulumAtRank 12 = .ok (.iconst 0, 1) := by decide +kernel
theorem dX11_pendulumAtRank_13 : decode cX11_pendulumAtRank 13 = .ok (.istore_n 3, 1) := by decide +kernel
theorem dX11_pendulumAtRank_14 : decode cX11_pendulumAtRank 14 = .ok (.iconst 0, 1) := by decide +kernel
theorem dX11_pendulumAtRank_15 : decode cX11_pendulumAtRank 15 = .ok (.istore 4, 2) := by decide +kernel
theorem dX11_pendulumAtRank_17 : decode cX11_pendulumAtRank 17 = .ok (.iload 4, 2) := by decide +kernel
theorem dX11_pendulumAtRank_19 : decode cX11_pendulumAtRank 19 = .ok (.aload_n 0, 1) := by decide +kernel
theorem dX11_pendulumAtRank_20 : decode cX11_pendulumAtRank 20 = .ok (.getfield 7, 3) := by decide +kernel
theorem dX11_pendulumAtRank_23 : decode cX11_pendulumAtRank 23 = .ok (.iconst 2, 1) := by decide +kernel
theorem dX11_pendulumAtRank_24 : decode cX11_pendulumAtRank 24 = .ok (.iaload, 1) := by decide +kernel
theorem dX11_pendulumAtRank_25 : decode cX11_pendulumAtRank 25 = .ok (.if_icmp .ge 27, 3) := by decide +kernel
theorem dX11_pendulumAtRank_28 : decode cX11_pendulumAtRank 28 = .ok (.iload_n 3, 1) := by decide +kernel
theorem dX11_pendulumAtRank_29 : decode cX11_pendulumAtRank 29 = .ok (.aload_n 0, 1) := by decide +kernel
theorem dX11_pendulumAtRank_30 : decode cX11_pendulumAtRank 30 = .ok (.iload 4, 2) := by decide +kernel
theorem dX11_pendulumAtRank_32 : decode cX11_pendulumAtRank 32 = .ok (.iload_n 2, 1) := by decide +kernel
theorem dX11_pendulumAtRank_33 : decode cX11_pendulumAtRank 33 = .ok (.invokevirtual 114, 3) := by decide +kernel
theorem dX11_pendulumAtRank_36 : decode cX11_pendulumAtRank 36 = .ok (.ifCond .eq 7, 3) := by decide +kernel
theorem dX11_pendulumAtRank_39 : decode cX11_pendulumAtRank 39 = .ok (.iconst 1, 1) := by decide +kernel
theorem dX11_pendulumAtRank_40 : decode cX11_pendulumAtRank 40 = .ok (.goto 4, 3) := by decide +kernel
theorem dX11_pendulumAtRank_43 : decode cX11_pendulumAtRank 43 = .ok (.iconst 0, 1) := by decide +kernel
theorem dX11_pendulumAtRank_44 : decode cX11_pendulumAtRank 44 = .ok (.iadd, 1) := by decide +kernel
theorem dX11_pendulumAtRank_45 : decode cX11_pendulumAtRank 45 = .ok (.istore_n 3, 1) := by decide +kernel
theorem dX11_pendulumAtRank_46 : decode cX11_pendulumAtRank 46 = .ok (.iinc 4 1, 3) := by decide +kernel
theorem dX11_pendulumAtRank_49 : decode cX11_pendulumAtRank 49 = .ok (.goto (-32), 3) := by decide +kernel
theorem dX11_pendulumAtRank_52 : decode cX11_pendulumAtRank 52 = .ok (.iload_n 3, 1) := by decide +kernel
theorem dX11_pendulumAtRank_53 : decode cX11_pendulumAtRank 53 = .ok (.iload_n 1, 1) := by decide +kernel
theorem dX11_pendulumAtRank_54 : decode cX11_pendulumAtRank 54 = .ok (.if_icmp .ne 9, 3) := by decide +kernel
theorem dX11_pendulumAtRank_57 : decode cX11_pendulumAtRank 57 = .ok (.aload_n 0, 1) := by decide +kernel
theorem dX11_pendulumAtRank_58 : decode cX11_pendulumAtRank 58 = .ok (.iload_n 2, 1) := by decide +kernel
theorem dX11_pendulumAtRank_59 : decode cX11_pendulumAtRank 59 = .ok (.invokevirtual 60, 3) := by decide +kernel
theorem dX11_pendulumAtRank_62 : decode cX11_pendulumAtRank 62 = .ok (.ireturn, 1) := by decide +kernel
theorem dX11_pendulumAtRank_63 : decode cX11_pendulumAtRank 63 = .ok (.iinc 2 1, 3) := by decide +kernel
theorem dX11_pendulumAtRank_66 : decode cX11_pendulumAtRank 66 = .ok (.goto (-64), 3) := by decide +kernel
theorem dX11_pendulumAtRank_69 : decode cX11_pendulumAtRank 69 = .ok (.aload_n 0, 1) := by decide +kernel
theorem dX11_pendulumAtRank_70 : decode cX11_pendulumAtRank 70 = .ok (.iconst 1, 1) := by decide +kernel
theorem dX11_pendulumAtRank_71 : decode cX11_pendulumAtRank 71 = .ok (.invokevirtual 56, 3) := by decide +kernel
theorem dX11_pendulumAtRank_74 : decode cX11_pendulumAtRank 74 = .ok (.ireturn, 1) := by decide +kernel
theorem dX11_swingsLeft_0 : decode cX11_swingsLeft 0 = .ok (.iconst 0, 1) := by decide +kernel
theorem dX11_swingsLeft_1 : decode cX11_swingsLeft 1 = .ok (.istore_n 2, 1) := by decide +kernel
theorem dX11_swingsLeft_2 : decode cX11_swingsLeft 2 = .ok (.aload_n 0, 1) := by decide +kernel
theorem dX11_swingsLeft_3 : decode cX11_swingsLeft 3 = .ok (.getfield 7, 3) := by decide +kernel
theorem dX11_swingsLeft_6 : decode cX11_swingsLeft 6 = .ok (.bipush 12, 2) := by decide +kernel
theorem dX11_swingsLeft_8 : decode cX11_swingsLeft 8 = .ok (.iload_n 1, 1) := by decide +kernel
theorem dX11_swingsLeft_9 : decode cX11_swingsLeft 9 = .ok (.iadd, 1) := by decide +kernel
theorem dX11_swingsLeft_10 : decode cX11_swingsLeft 10 = .ok (.iaload, 1) := by decide +kernel
theorem dX11_swingsLeft_11 : decode cX11_swingsLeft 11 = .ok (.istore_n 3, 1) := by decide +kernel
theorem dX11_swingsLeft_12 : decode cX11_swingsLeft 12 = .ok (.iload_n 3, 1) := by decide +kernel
theorem dX11_swingsLeft_13 : decode cX11_swingsLeft 13 = .ok (.ifCond .le 15, 3) := by decide +kernel
theorem dX11_swingsLeft_16 : decode cX11_swingsLeft 16 = .ok (.iinc 2 1, 3) := by decide +kernel
theorem dX11_swingsLeft_19 : decode cX11_swingsLeft 19 = .ok (.aload_n 0, 1) := by decide +kernel
theorem dX11_swingsLeft_20 : decode cX11_swingsLeft 20 = .ok (.iload_n 3, 1) := by decide +kernel
theorem dX11_swingsLeft_21 : decode cX11_swingsLeft 21 = .ok (.invokevirtual 95, 3) := by decide +kernel
theorem dX11_swingsLeft_24 : decode cX11_swingsLeft 24 = .ok (.istore_n 3, 1) := by decide +kernel
theorem dX11_swingsLeft_25 : decode cX11_swingsLeft 25 = .ok (.goto (-13), 3) := by decide +kernel
theorem dX11_swingsLeft_28 : decode cX11_swingsLeft 28 = .ok (.iload_n 2, 1) := by decide +kernel
theorem dX11_swingsLeft_29 : decode cX11_swingsLeft 29 = .ok (.ireturn, 1) := by decide +kernel
theorem dX11_swingsToRest_0 : decode cX11_swingsToRest 0 = .ok (.aload_n 0, 1) := by decide +kernel
theorem dX11_swingsToRest_1 : decode cX11_swingsToRest 1 = .ok (.iload_n 1, 1) := by decide +kernel
theorem dX11_swingsToRest_2 : decode cX11_swingsToRest 2 = .ok (.invokevirtual 72, 3) := by decide +kernel
theorem dX11_swingsToRest_5 : decode cX11_swingsToRest 5 = .ok (.ifCond .eq 15, 3) := by decide +kernel
theorem dX11_swingsToRest_8 : decode cX11_swingsToRest 8 = .ok (.aload_n 0, 1) := by decide +kernel
theorem dX11_swingsToRest_9 : decode cX11_swingsToRest 9 = .ok (.aload_n 0, 1) := by decide +kernel
theorem dX11_swingsToRest_10 : decode cX11_swingsToRest 10 = .ok (.iload_n 1, 1) := by decide +kernel
theorem dX11_swingsToRest_11 : decode cX11_swingsToRest 11 = .ok (.invokevirtual 118, 3) := by decide +kernel
theorem dX11_swingsToRest_14 : decode cX11_swingsToRest 14 = .ok (.invokevirtual 60, 3) := by decide +kernel
theorem dX11_swingsToRest_17 : decode cX11_swingsToRest 17 = .ok (.goto 8, 3) := by decide +kernel
theorem dX11_swingsToRest_20 : decode cX11_swingsToRest 20 = .ok (.aload_n 0, 1) := by decide +kernel
theorem dX11_swingsToRest_21 : decode cX11_swingsToRest 21 = .ok (.iconst 1, 1) := by decide +kernel
theorem dX11_swingsToRest_22 : decode cX11_swingsToRest 22 = .ok (.invokevirtual 56, 3) := by decide +kernel
theorem dX11_swingsToRest_25 : decode cX11_swingsToRest 25 = .ok (.ireturn, 1) := by decide +kernel
theorem dX11_swingsToRestByTable_0 : decode cX11_swingsToRestByTable 0 = .ok (.aload_n 0, 1) := by decide +kernel
theorem dX11_swingsToRestByTable_1 : decode cX11_swingsToRestByTable 1 = .ok (.iload_n 1, 1) := by decide +kernel
theorem dX11_swingsToRestByTable_2 : decode cX11_swingsToRestByTable 2 = .ok (.invokevirtual 121, 3) := by decide +kernel
theorem dX11_swingsToRestByTable_5 : decode cX11_swingsToRestByTable 5 = .ok (.ireturn, 1) := by decide +kernel
theorem dX11_swingsUntil_0 : decode cX11_swingsUntil 0 = .ok (.iload_n 2, 1) := by decide +kernel
theorem dX11_swingsUntil_1 : decode cX11_swingsUntil 1 = .ok (.aload_n 0, 1) := by decide +kernel
theorem dX11_swingsUntil_2 : decode cX11_swingsUntil 2 = .ok (.getfield 7, 3) := by decide +kernel
theorem dX11_swingsUntil_5 : decode cX11_swingsUntil 5 = .ok (.bipush 20, 2) := by decide +kernel
theorem dX11_swingsUntil_7 : decode cX11_swingsUntil 7 = .ok (.iload_n 1, 1) := by decide +kernel
theorem dX11_swingsUntil_8 : decode cX11_swingsUntil 8 = .ok (.iadd, 1) := by decide +kernel
theorem dX11_swingsUntil_9 : decode cX11_swingsUntil 9 = .ok (.iaload, 1) := by decide +kernel
theorem dX11_swingsUntil_10 : decode cX11_swingsUntil 10 = .ok (.isub, 1) := by decide +kernel
theorem dX11_swingsUntil_11 : decode cX11_swingsUntil 11 = .ok (.aload_n 0, 1) := by decide +kernel
theorem dX11_swingsUntil_12 : decode cX11_swingsUntil 12 = .ok (.iload_n 1, 1) := by decide +kernel
theorem dX11_swingsUntil_13 : decode cX11_swingsUntil 13 = .ok (.invokevirtual 92, 3) := by decide +kernel
theorem dX11_swingsUntil_16 : decode cX11_swingsUntil 16 = .ok (.idiv, 1) := by decide +kernel
theorem dX11_swingsUntil_17 : decode cX11_swingsUntil 17 = .ok (.ireturn, 1) := by decide +kernel
theorem dX11_restTick_0 : decode cX11_restTick 0 = .ok (.aload_n 0, 1) := by decide +kernel
theorem dX11_restTick_1 : decode cX11_restTick 1 = .ok (.iload_n 1, 1) := by decide +kernel
theorem dX11_restTick_2 : decode cX11_restTick 2 = .ok (.invokevirtual 72, 3) := by decide +kernel
theorem dX11_restTick_5 : decode cX11_restTick 5 = .ok (.ifCond .ne 9, 3) := by decide +kernel
theorem dX11_restTick_8 : decode cX11_restTick 8 = .ok (.aload_n 0, 1) := by decide +kernel
theorem dX11_restTick_9 : decode cX11_restTick 9 = .ok (.iconst 1, 1) := by decide +kernel
theorem dX11_restTick_10 : decode cX11_restTick 10 = .ok (.invokevirtual 56, 3) := by decide +kernel
theorem dX11_restTick_13 : decode cX11_restTick 13 = .ok (.ireturn, 1) := by decide +kernel
theorem dX11_restTick_14 : decode cX11_restTick 14 = .ok (.aload_n 0, 1) := by decide +kernel
theorem dX11_restTick_15 : decode cX11_restTick 15 = .ok (.iload_n 1, 1) := by decide +kernel
theorem dX11_restTick_16 : decode cX11_restTick 16 = .ok (.invokevirtual 76, 3) := by decide +kernel
theorem dX11_restTick_19 : decode cX11_restTick 19 = .ok (.ifCond .eq 9, 3) := by decide +kernel
theorem dX11_restTick_22 : decode cX11_restTick 22 = .ok (.aload_n 0, 1) := by decide +kernel
theorem dX11_restTick_23 : decode cX11_restTick 23 = .ok (.iconst 2, 1) := by decide +kernel
theorem dX11_restTick_24 : decode cX11_restTick 24 = .ok (.invokevirtual 56, 3) := by decide +kernel
theorem dX11_restTick_27 : decode cX11_restTick 27 = .ok (.ireturn, 1) := by decide +kernel
theorem dX11_restTick_28 : decode cX11_restTick 28 = .ok (.aload_n 0, 1) := by decide +kernel
theorem dX11_restTick_29 : decode cX11_restTick 29 = .ok (.iload_n 1, 1) := by decide +kernel
theorem dX11_restTick_30 : decode cX11_restTick 30 = .ok (.aload_n 0, 1) := by decide +kernel
theorem dX11_restTick_31 : decode cX11_restTick 31 = .ok (.getfield 7, 3) := by decide +kernel
theorem dX11_restTick_34 : decode cX11_restTick 34 = .ok (.iconst 0, 1) := by decide +kernel
theorem dX11_restTick_35 : decode cX11_restTick 35 = .ok (.iaload, 1) := by decide +kernel
theorem dX11_restTick_36 : decode cX11_restTick 36 = .ok (.invokevirtual 124, 3) := by decide +kernel
theorem dX11_restTick_39 : decode cX11_restTick 39 = .ok (.aload_n 0, 1) := by decide +kernel
theorem dX11_restTick_40 : decode cX11_restTick 40 = .ok (.iload_n 1, 1) := by decide +kernel
theorem dX11_restTick_41 : decode cX11_restTick 41 = .ok (.invokevirtual 118, 3) := by decide +kernel
theorem dX11_restTick_44 : decode cX11_restTick 44 = .ok (.iadd, 1) := by decide +kernel
theorem dX11_restTick_45 : decode cX11_restTick 45 = .ok (.istore_n 2, 1) := by decide +kernel
theorem dX11_restTick_46 : decode cX11_restTick 46 = .ok (.aload_n 0, 1) := by decide +kernel
theorem dX11_restTick_47 : decode cX11_restTick 47 = .ok (.aload_n 0, 1) := by decide +kernel
theorem dX11_restTick_48 : decode cX11_restTick 48 = .ok (.getfield 7, 3) := by decide +kernel
theorem dX11_restTick_51 : decode cX11_restTick 51 = .ok (.bipush 20, 2) := by decide +kernel
theorem dX11_restTick_53 : decode cX11_restTick 53 = .ok (.iload_n 1, 1) := by decide +kernel
theorem dX11_restTick_54 : decode cX11_restTick 54 = .ok (.iadd, 1) := by decide +kernel
theorem dX11_restTick_55 : decode cX11_restTick 55 = .ok (.iaload, 1) := by decide +kernel
theorem dX11_restTick_56 : decode cX11_restTick 56 = .ok (.iload_n 2, 1) := by decide +kernel
theorem dX11_restTick_57 : decode cX11_restTick 57 = .ok (.aload_n 0, 1) := by decide +kernel
theorem dX11_restTick_58 : decode cX11_restTick 58 = .ok (.iload_n 1, 1) := by decide +kernel
theorem dX11_restTick_59 : decode cX11_restTick 59 = .ok (.invokevirtual 92, 3) := by decide +kernel
theorem dX11_restTick_62 : decode cX11_restTick 62 = .ok (.imul, 1) := by decide +kernel
theorem dX11_restTick_63 : decode cX11_restTick 63 = .ok (.iadd, 1) := by decide +kernel
theorem dX11_restTick_64 : decode cX11_restTick 64 = .ok (.invokevirtual 60, 3) := by decide +kernel
theorem dX11_restTick_67 : decode cX11_restTick 67 = .ok (.ireturn, 1) := by decide +kernel
theorem dX11_amplitudeAfter_0 : decode cX11_amplitudeAfter 0 = .ok (.aload_n 0, 1) := by decide +kernel
theorem dX11_amplitudeAfter_1 : decode cX11_amplitudeAfter 1 = .ok (.iload_n 1, 1) := by decide +kernel
theorem dX11_amplitudeAfter_2 : decode cX11_amplitudeAfter 2 = .ok (.invokevirtual 72, 3) := by decide +kernel
theorem dX11_amplitudeAfter_5 : decode cX11_amplitudeAfter 5 = .ok (.ifCond .ne 9, 3) := by decide +kernel
theorem dX11_amplitudeAfter_8 : decode cX11_amplitudeAfter 8 = .ok (.aload_n 0, 1) := by decide +kernel
theorem dX11_amplitudeAfter_9 : decode cX11_amplitudeAfter 9 = .ok (.iconst 1, 1) := by decide +kernel
theorem dX11_amplitudeAfter_10 : decode cX11_amplitudeAfter 10 = .ok (.invokevirtual 56, 3) := by decide +kernel
theorem dX11_amplitudeAfter_13 : decode cX11_amplitudeAfter 13 = .ok (.ireturn, 1) := by decide +kernel
theorem dX11_amplitudeAfter_14 : decode cX11_amplitudeAfter 14 = .ok (.iload_n 2, 1) := by decide +kernel
theorem dX11_amplitudeAfter_15 : decode cX11_amplitudeAfter 15 = .ok (.iconst 0, 1) := by decide +kernel
theorem dX11_amplitudeAfter_16 : decode cX11_amplitudeAfter 16 = .ok (.sipush 500, 3) := by decide +kernel
theorem dX11_amplitudeAfter_19 : decode cX11_amplitudeAfter 19 = .ok (.invokestatic 52, 3) := by decide +kernel
theorem dX11_amplitudeAfter_22 : decode cX11_amplitudeAfter 22 = .ok (.ifCond .ne 9, 3) := by decide +kernel
theorem dX11_amplitudeAfter_25 : decode cX11_amplitudeAfter 25 = .ok (.aload_n 0, 1) := by decide +kernel
theorem dX11_amplitudeAfter_26 : decode cX11_amplitudeAfter 26 = .ok (.iconst 2, 1) := by decide +kernel
theorem dX11_amplitudeAfter_27 : decode cX11_amplitudeAfter 27 = .ok (.invokevirtual 56, 3) := by decide +kernel
theorem dX11_amplitudeAfter_30 : decode cX11_amplitudeAfter 30 = .ok (.ireturn, 1) := by decide +kernel
theorem dX11_amplitudeAfter_31 : decode cX11_amplitudeAfter 31 = .ok (.aload_n 0, 1) := by decide +kernel
theorem dX11_amplitudeAfter_32 : decode cX11_amplitudeAfter 32 = .ok (.getfield 7, 3) := by decide +kernel
theorem dX11_amplitudeAfter_35 : decode cX11_amplitudeAfter 35 = .ok (.bipush 12, 2) := by decide +kernel
theorem dX11_amplitudeAfter_37 : decode cX11_amplitudeAfter 37 = .ok (.iload_n 1, 1) := by decide +kernel
theorem dX11_amplitudeAfter_38 : decode cX11_amplitudeAfter 38 = .ok (.iadd, 1) := by decide +kernel
theorem dX11_amplitudeAfter_39 : decode cX11_amplitudeAfter 39 = .ok (.iaload, 1) := by decide +kernel
theorem dX11_amplitudeAfter_40 : decode cX11_amplitudeAfter 40 = .ok (.istore_n 3, 1) := by decide +kernel
theorem dX11_amplitudeAfter_41 : decode cX11_amplitudeAfter 41 = .ok (.iload_n 3, 1) := by decide +kernel
theorem dX11_amplitudeAfter_42 : decode cX11_amplitudeAfter 42 = .ok (.ifCond .le 31, 3) := by decide +kernel
theorem dX11_amplitudeAfter_45 : decode cX11_amplitudeAfter 45 = .ok (.aload_n 0, 1) := by decide +kernel
theorem dX11_amplitudeAfter_46 : decode cX11_amplitudeAfter 46 = .ok (.iload_n 1, 1) := by decide +kernel
theorem dX11_amplitudeAfter_47 : decode cX11_amplitudeAfter 47 = .ok (.aload_n 0, 1) := by decide +kernel
theorem dX11_amplitudeAfter_48 : decode cX11_amplitudeAfter 48 = .ok (.getfield 7, 3) := by decide +kernel
theorem dX11_amplitudeAfter_51 : decode cX11_amplitudeAfter 51 = .ok (.iconst 0, 1) := by decide +kernel
theorem dX11_amplitudeAfter_52 : decode cX11_amplitudeAfter 52 = .ok (.iaload, 1) := by decide +kernel
theorem dX11_amplitudeAfter_53 : decode cX11_amplitudeAfter 53 = .ok (.iload_n 2, 1) := by decide +kernel
theorem dX11_amplitudeAfter_54 : decode cX11_amplitudeAfter 54 = .ok (.iadd, 1) := by decide +kernel
theorem dX11_amplitudeAfter_55 : decode cX11_amplitudeAfter 55 = .ok (.invokevirtual 124, 3) := by decide +kernel
theorem dX11_amplitudeAfter_58 : decode cX11_amplitudeAfter 58 = .ok (.aload_n 0, 1) := by decide +kernel
theorem dX11_amplitudeAfter_59 : decode cX11_amplitudeAfter 59 = .ok (.iload_n 1, 1) := by decide +kernel
theorem dX11_amplitudeAfter_60 : decode cX11_amplitudeAfter 60 = .ok (.aload_n 0, 1) := by decide +kernel
theorem dX11_amplitudeAfter_61 : decode cX11_amplitudeAfter 61 = .ok (.getfield 7, 3) := by decide +kernel
theorem dX11_amplitudeAfter_64 : decode cX11_amplitudeAfter 64 = .ok (.iconst 0, 1) := by decide +kernel
theorem dX11_amplitudeAfter_65 : decode cX11_amplitudeAfter 65 = .ok (.iaload, 1) := by decide +kernel
theorem dX11_amplitudeAfter_66 : decode cX11_amplitudeAfter 66 = .ok (.invokevirtual 124, 3) := by decide +kernel
theorem dX11_amplitudeAfter_69 : decode cX11_amplitudeAfter 69 = .ok (.isub, 1) := by decide +kernel
theorem dX11_amplitudeAfter_70 : decode cX11_amplitudeAfter 70 = .ok (.goto 4, 3) := by decide +kernel
theorem dX11_amplitudeAfter_73 : decode cX11_amplitudeAfter 73 = .ok (.iconst 0, 1) := by decide +kernel
theorem dX11_amplitudeAfter_74 : decode cX11_amplitudeAfter 74 = .ok (.istore 4, 2) := by decide +kernel
theorem dX11_amplitudeAfter_76 : decode cX11_amplitudeAfter 76 = .ok (.iconst 0, 1) := by decide +kernel
theorem dX11_amplitudeAfter_77 : decode cX11_amplitudeAfter 77 = .ok (.istore 5, 2) := by decide +kernel
theorem dX11_amplitudeAfter_79 : decode cX11_amplitudeAfter 79 = .ok (.iload 5, 2) := by decide +kernel
theorem dX11_amplitudeAfter_81 : decode cX11_amplitudeAfter 81 = .ok (.iload 4, 2) := by decide +kernel
theorem dX11_amplitudeAfter_83 : decode cX11_amplitudeAfter 83 = .ok (.if_icmp .ge 19, 3) := by decide +kernel
theorem dX11_amplitudeAfter_86 : decode cX11_amplitudeAfter 86 = .ok (.iload_n 3, 1) := by decide +kernel
theorem dX11_amplitudeAfter_87 : decode cX11_amplitudeAfter 87 = .ok (.ifCond .le 15, 3) := by decide +kernel
theorem dX11_amplitudeAfter_90 : decode cX11_amplitudeAfter 90 = .ok (.aload_n 0, 1) := by decide +kernel
theorem dX11_amplitudeAfter_91 : decode cX11_amplitudeAfter 91 = .ok (.iload_n 3, 1) := by decide +kernel
theorem dX11_amplitudeAfter_92 : decode cX11_amplitudeAfter 92 = .ok (.invokevirtual 95, 3) := by decide +kernel
theorem dX11_amplitudeAfter_95 : decode cX11_amplitudeAfter 95 = .ok (.istore_n 3, 1) := by decide +kernel
theorem dX11_amplitudeAfter_96 : decode cX11_amplitudeAfter 96 = .ok (.iinc 5 1, 3) := by decide +kernel
theorem dX11_amplitudeAfter_99 : decode cX11_amplitudeAfter 99 = .ok (.goto (-20), 3) := by decide +kernel
theorem dX11_amplitudeAfter_102 : decode cX11_amplitudeAfter 102 = .ok (.aload_n 0, 1) := by decide +kernel
theorem dX11_amplitudeAfter_103 : decode cX11_amplitudeAfter 103 = .ok (.iload_n 3, 1) := by decide +kernel
theorem dX11_amplitudeAfter_104 : decode cX11_amplitudeAfter 104 = .ok (.invokevirtual 60, 3) := by decide +kernel
theorem dX11_amplitudeAfter_107 : decode cX11_amplitudeAfter 107 = .ok (.ireturn, 1) := by decide +kernel
theorem dX11_cycle_0 : decode cX11_cycle 0 = .ok (.aload_n 0, 1) := by decide +kernel
theorem dX11_cycle_1 : decode cX11_cycle 1 = .ok (.iload_n 1, 1) := by decide +kernel
theorem dX11_cycle_2 : decode cX11_cycle 2 = .ok (.invokevirtual 92, 3) := by decide +kernel
theorem dX11_cycle_5 : decode cX11_cycle 5 = .ok (.aload_n 0, 1) := by decide +kernel
theorem dX11_cycle_6 : decode cX11_cycle 6 = .ok (.iload_n 1, 1) := by decide +kernel
theorem dX11_cycle_7 : decode cX11_cycle 7 = .ok (.invokevirtual 92, 3) := by decide +kernel
theorem dX11_cycle_10 : decode cX11_cycle 10 = .ok (.aload_n 0, 1) := by decide +kernel
theorem dX11_cycle_11 : decode cX11_cycle 11 = .ok (.iload_n 2, 1) := by decide +kernel
theorem dX11_cycle_12 : decode cX11_cycle 12 = .ok (.invokevirtual 92, 3) := by decide +kernel
theorem dX11_cycle_15 : decode cX11_cycle 15 = .ok (.invokestatic 127, 3) := by decide +kernel
theorem dX11_cycle_18 : decode cX11_cycle 18 = .ok (.idiv, 1) := by decide +kernel
theorem dX11_cycle_19 : decode cX11_cycle 19 = .ok (.aload_n 0, 1) := by decide +kernel
theorem dX11_cycle_20 : decode cX11_cycle 20 = .ok (.iload_n 2, 1) := by decide +kernel
theorem dX11_cycle_21 : decode cX11_cycle 21 = .ok (.invokevirtual 92, 3) := by decide +kernel
theorem dX11_cycle_24 : decode cX11_cycle 24 = .ok (.imul, 1) := by decide +kernel
theorem dX11_cycle_25 : decode cX11_cycle 25 = .ok (.ireturn, 1) := by decide +kernel
theorem dX11_meets_0 : decode cX11_meets 0 = .ok (.aload_n 0, 1) := by decide +kernel
theorem dX11_meets_1 : decode cX11_meets 1 = .ok (.iload_n 1, 1) := by decide +kernel
theorem dX11_meets_2 : decode cX11_meets 2 = .ok (.iload_n 2, 1) := by decide +kernel
theorem dX11_meets_3 : decode cX11_meets 3 = .ok (.invokevirtual 130, 3) := by decide +kernel
theorem dX11_meets_6 : decode cX11_meets 6 = .ok (.istore_n 3, 1) := by decide +kernel
theorem dX11_meets_7 : decode cX11_meets 7 = .ok (.aload_n 0, 1) := by decide +kernel
theorem dX11_meets_8 : decode cX11_meets 8 = .ok (.getfield 7, 3) := by decide +kernel
theorem dX11_meets_11 : decode cX11_meets 11 = .ok (.iconst 0, 1) := by decide +kernel
theorem dX11_meets_12 : decode cX11_meets 12 = .ok (.iaload, 1) := by decide +kernel
theorem dX11_meets_13 : decode cX11_meets 13 = .ok (.iconst 1, 1) := by decide +kernel
theorem dX11_meets_14 : decode cX11_meets 14 = .ok (.iadd, 1) := by decide +kernel
theorem dX11_meets_15 : decode cX11_meets 15 = .ok (.istore 4, 2) := by decide +kernel
theorem dX11_meets_17 : decode cX11_meets 17 = .ok (.iload 4, 2) := by decide +kernel
theorem dX11_meets_19 : decode cX11_meets 19 = .ok (.aload_n 0, 1) := by decide +kernel
theorem dX11_meets_20 : decode cX11_meets 20 = .ok (.getfield 7, 3) := by decide +kernel
theorem dX11_meets_23 : decode cX11_meets 23 = .ok (.iconst 0, 1) := by decide +kernel
theorem dX11_meets_24 : decode cX11_meets 24 = .ok (.iaload, 1) := by decide +kernel
theorem dX11_meets_25 : decode cX11_meets 25 = .ok (.iload_n 3, 1) := by decide +kernel
theorem dX11_meets_26 : decode cX11_meets 26 = .ok (.iadd, 1) := by decide +kernel
theorem dX11_meets_27 : decode cX11_meets 27 = .ok (.if_icmp .gt 54, 3) := by decide +kernel
theorem dX11_meets_30 : decode cX11_meets 30 = .ok (.iload 4, 2) := by decide +kernel
theorem dX11_meets_32 : decode cX11_meets 32 = .ok (.aload_n 0, 1) := by decide +kernel
theorem dX11_meets_33 : decode cX11_meets 33 = .ok (.getfield 7, 3) := by decide +kernel
theorem dX11_meets_36 : decode cX11_meets 36 = .ok (.bipush 20, 2) := by decide +kernel
theorem dX11_meets_38 : decode cX11_meets 38 = .ok (.iload_n 1, 1) := by decide +kernel
theorem dX11_meets_39 : decode cX11_meets 39 = .ok (.iadd, 1) := by decide +kernel
theorem dX11_meets_40 : decode cX11_meets 40 = .ok (.iaload, 1) := by decide +kernel
theorem dX11_meets_41 : decode cX11_meets 41 = .ok (.isub, 1) := by decide +kernel
theorem dX11_meets_42 : decode cX11_meets 42 = .ok (.aload_n 0, 1) := by decide +kernel
theorem dX11_meets_43 : decode cX11_meets 43 = .ok (.iload_n 1, 1) := by decide +kernel
theorem dX11_meets_44 : decode cX11_meets 44 = .ok (.invokevirtual 92, 3) := by decide +kernel
theorem dX11_meets_47 : decode cX11_meets 47 = .ok (.irem, 1) := by decide +kernel
theorem dX11_meets_48 : decode cX11_meets 48 = .ok (.ifCond .ne 27, 3) := by decide +kernel
theorem dX11_meets_51 : decode cX11_meets 51 = .ok (.iload 4, 2) := by decide +kernel
theorem dX11_meets_53 : decode cX11_meets 53 = .ok (.aload_n 0, 1) := by decide +kernel
theorem dX11_meets_54 : decode cX11_meets 54 = .ok (.getfield 7, 3) := by decide +kernel
theorem dX11_meets_57 : decode cX11_meets 57 = .ok (.bipush 20, 2) := by decide +kernel
theorem dX11_meets_59 : decode cX11_meets 59 = .ok (.iload_n 2, 1) := by decide +kernel
theorem dX11_meets_60 : decode cX11_meets 60 = .ok (.iadd, 1) := by decide +kernel
theorem dX11_meets_61 : decode cX11_meets 61 = .ok (.iaload, 1) := by decide +kernel
theorem dX11_meets_62 : decode cX11_meets 62 = .ok (.isub, 1) := by decide +kernel
theorem dX11_meets_63 : decode cX11_meets 63 = .ok (.aload_n 0, 1) := by decide +kernel
theorem dX11_meets_64 : decode cX11_meets 64 = .ok (.iload_n 2, 1) := by decide +kernel
theorem dX11_meets_65 : decode cX11_meets 65 = .ok (.invokevirtual 92, 3) := by decide +kernel
theorem dX11_meets_68 : decode cX11_meets 68 = .ok (.irem, 1) := by decide +kernel
theorem dX11_meets_69 : decode cX11_meets 69 = .ok (.ifCond .ne 6, 3) := by decide +kernel
theorem dX11_meets_72 : decode cX11_meets 72 = .ok (.iload 4, 2) := by decide +kernel
theorem dX11_meets_74 : decode cX11_meets 74 = .ok (.ireturn, 1) := by decide +kernel
theorem dX11_meets_75 : decode cX11_meets 75 = .ok (.iinc 4 1, 3) := by decide +kernel
theorem dX11_meets_78 : decode cX11_meets 78 = .ok (.goto (-61), 3) := by decide +kernel
theorem dX11_meets_81 : decode cX11_meets 81 = .ok (.iconst (-1), 1) := by decide +kernel
theorem dX11_meets_82 : decode cX11_meets 82 = .ok (.ireturn, 1) := by decide +kernel
theorem dX11_meeting_0 : decode cX11_meeting 0 = .ok (.aload_n 0, 1) := by decide +kernel
theorem dX11_meeting_1 : decode cX11_meeting 1 = .ok (.iload_n 1, 1) := by decide +kernel
theorem dX11_meeting_2 : decode cX11_meeting 2 = .ok (.invokevirtual 72, 3) := by decide +kernel
theorem dX11_meeting_5 : decode cX11_meeting 5 = .ok (.ifCond .eq 11, 3) := by decide +kernel
theorem dX11_meeting_8 : decode cX11_meeting 8 = .ok (.aload_n 0, 1) := by decide +kernel
theorem dX11_meeting_9 : decode cX11_meeting 9 = .ok (.iload_n 2, 1) := by decide +kernel
theorem dX11_meeting_10 : decode cX11_meeting 10 = .ok (.invokevirtual 72, 3) := by decide +kernel
theorem dX11_meeting_13 : decode cX11_meeting 13 = .ok (.ifCond .ne 9, 3) := by decide +kernel
theorem dX11_meeting_16 : decode cX11_meeting 16 = .ok (.aload_n 0, 1) := by decide +kernel
theorem dX11_meeting_17 : decode cX11_meeting 17 = .ok (.iconst 1, 1) := by decide +kernel
theorem dX11_meeting_18 : decode cX11_meeting 18 = .ok (.invokevirtual 56, 3) := by decide +kernel
theorem dX11_meeting_21 : decode cX11_meeting 21 = .ok (.ireturn, 1) := by decide +kernel
theorem dX11_meeting_22 : decode cX11_meeting 22 = .ok (.aload_n 0, 1) := by decide +kernel
theorem dX11_meeting_23 : decode cX11_meeting 23 = .ok (.iload_n 1, 1) := by decide +kernel
theorem dX11_meeting_24 : decode cX11_meeting 24 = .ok (.invokevirtual 76, 3) := by decide +kernel
theorem dX11_meeting_27 : decode cX11_meeting 27 = .ok (.ifCond .ne 11, 3) := by decide +kernel
theorem dX11_meeting_30 : decode cX11_meeting 30 = .ok (.aload_n 0, 1) := by decide +kernel
theorem dX11_meeting_31 : decode cX11_meeting 31 = .ok (.iload_n 2, 1) := by decide +kernel
theorem dX11_meeting_32 : decode cX11_meeting 32 = .ok (.invokevirtual 76, 3) := by decide +kernel
theorem dX11_meeting_35 : decode cX11_meeting 35 = .ok (.ifCond .eq 9, 3) := by decide +kernel
theorem dX11_meeting_38 : decode cX11_meeting 38 = .ok (.aload_n 0, 1) := by decide +kernel
theorem dX11_meeting_39 : decode cX11_meeting 39 = .ok (.iconst 2, 1) := by decide +kernel
theorem dX11_meeting_40 : decode cX11_meeting 40 = .ok (.invokevirtual 56, 3) := by decide +kernel
theorem dX11_meeting_43 : decode cX11_meeting 43 = .ok (.ireturn, 1) := by decide +kernel
theorem dX11_meeting_44 : decode cX11_meeting 44 = .ok (.aload_n 0, 1) := by decide +kernel
theorem dX11_meeting_45 : decode cX11_meeting 45 = .ok (.iload_n 1, 1) := by decide +kernel
theorem dX11_meeting_46 : decode cX11_meeting 46 = .ok (.iload_n 2, 1) := by decide +kernel
theorem dX11_meeting_47 : decode cX11_meeting 47 = .ok (.invokevirtual 133, 3) := by decide +kernel
theorem dX11_meeting_50 : decode cX11_meeting 50 = .ok (.istore_n 3, 1) := by decide +kernel
theorem dX11_meeting_51 : decode cX11_meeting 51 = .ok (.iload_n 3, 1) := by decide +kernel
theorem dX11_meeting_52 : decode cX11_meeting 52 = .ok (.iconst (-1), 1) := by decide +kernel
theorem dX11_meeting_53 : decode cX11_meeting 53 = .ok (.if_icmp .ne 11, 3) := by decide +kernel
theorem dX11_meeting_56 : decode cX11_meeting 56 = .ok (.aload_n 0, 1) := by decide +kernel
theorem dX11_meeting_57 : decode cX11_meeting 57 = .ok (.iconst 3, 1) := by decide +kernel
theorem dX11_meeting_58 : decode cX11_meeting 58 = .ok (.invokevirtual 56, 3) := by decide +kernel
theorem dX11_meeting_61 : decode cX11_meeting 61 = .ok (.goto 8, 3) := by decide +kernel
theorem dX11_meeting_64 : decode cX11_meeting 64 = .ok (.aload_n 0, 1) := by decide +kernel
theorem dX11_meeting_65 : decode cX11_meeting 65 = .ok (.iload_n 3, 1) := by decide +kernel
theorem dX11_meeting_66 : decode cX11_meeting 66 = .ok (.invokevirtual 60, 3) := by decide +kernel
theorem dX11_meeting_69 : decode cX11_meeting 69 = .ok (.ireturn, 1) := by decide +kernel
theorem dX11_meetingByDivisors_0 : decode cX11_meetingByDivisors 0 = .ok (.aload_n 0, 1) := by decide +kernel
theorem dX11_meetingByDivisors_1 : decode cX11_meetingByDivisors 1 = .ok (.iload_n 1, 1) := by decide +kernel
theorem dX11_meetingByDivisors_2 : decode cX11_meetingByDivisors 2 = .ok (.iload_n 2, 1) := by decide +kernel
theorem dX11_meetingByDivisors_3 : decode cX11_meetingByDivisors 3 = .ok (.invokevirtual 136, 3) := by decide +kernel
theorem dX11_meetingByDivisors_6 : decode cX11_meetingByDivisors 6 = .ok (.ireturn, 1) := by decide +kernel
theorem dX11_meetingPairs_0 : decode cX11_meetingPairs 0 = .ok (.iconst 0, 1) := by decide +kernel
theorem dX11_meetingPairs_1 : decode cX11_meetingPairs 1 = .ok (.istore_n 1, 1) := by decide +kernel
theorem dX11_meetingPairs_2 : decode cX11_meetingPairs 2 = .ok (.iconst 0, 1) := by decide +kernel
theorem dX11_meetingPairs_3 : decode cX11_meetingPairs 3 = .ok (.istore_n 2, 1) := by decide +kernel
theorem dX11_meetingPairs_4 : decode cX11_meetingPairs 4 = .ok (.iload_n 2, 1) := by decide +kernel
theorem dX11_meetingPairs_5 : decode cX11_meetingPairs 5 = .ok (.aload_n 0, 1) := by decide +kernel
theorem dX11_meetingPairs_6 : decode cX11_meetingPairs 6 = .ok (.getfield 7, 3) := by decide +kernel
theorem dX11_meetingPairs_9 : decode cX11_meetingPairs 9 = .ok (.iconst 2, 1) := by decide +kernel
theorem dX11_meetingPairs_10 : decode cX11_meetingPairs 10 = .ok (.iaload, 1) := by decide +kernel
theorem dX11_meetingPairs_11 : decode cX11_meetingPairs 11 = .ok (.if_icmp .ge 101, 3) := by decide +kernel
theorem dX11_meetingPairs_14 : decode cX11_meetingPairs 14 = .ok (.iconst 0, 1) := by decide +kernel
theorem dX11_meetingPairs_15 : decode cX11_meetingPairs 15 = .ok (.istore_n 3, 1) := by decide +kernel
theorem dX11_meetingPairs_16 : decode cX11_meetingPairs 16 = .ok (.iload_n 3, 1) := by decide +kernel
theorem dX11_meetingPairs_17 : decode cX11_meetingPairs 17 = .ok (.iload_n 2, 1) := by decide +kernel
theorem dX11_meetingPairs_18 : decode cX11_meetingPairs 18 = .ok (.if_icmp .ge 88, 3) := by decide +kernel
theorem dX11_meetingPairs_21 : decode cX11_meetingPairs 21 = .ok (.aload_n 0, 1) := by decide +kernel
theorem dX11_meetingPairs_22 : decode cX11_meetingPairs 22 = .ok (.getfield 7, 3) := by decide +kernel
theorem dX11_meetingPairs_25 : decode cX11_meetingPairs 25 = .ok (.bipush 20, 2) := by decide +kernel
theorem dX11_meetingPairs_27 : decode cX11_meetingPairs 27 = .ok (.iload_n 3, 1) := by decide +kernel
theorem dX11_meetingPairs_28 : decode cX11_meetingPairs 28 = .ok (.iadd, 1) := by decide +kernel
theorem dX11_meetingPairs_29 : decode cX11_meetingPairs 29 = .ok (.iaload, 1) := by decide +kernel
theorem dX11_meetingPairs_30 : decode cX11_meetingPairs 30 = .ok (.aload_n 0, 1) := by decide +kernel
theorem dX11_meetingPairs_31 : decode cX11_meetingPairs 31 = .ok (.getfield 7, 3) := by decide +kernel
theorem dX11_meetingPairs_34 : decode cX11_meetingPairs 34 = .ok (.bipush 20, 2) := by decide +kernel
theorem dX11_meetingPairs_36 : decode cX11_meetingPairs 36 = .ok (.iload_n 2, 1) := by decide +kernel
theorem dX11_meetingPairs_37 : decode cX11_meetingPairs 37 = .ok (.iadd, 1) := by decide +kernel
theorem dX11_meetingPairs_38 : decode cX11_meetingPairs 38 = .ok (.iaload, 1) := by decide +kernel
theorem dX11_meetingPairs_39 : decode cX11_meetingPairs 39 = .ok (.isub, 1) := by decide +kernel
theorem dX11_meetingPairs_40 : decode cX11_meetingPairs 40 = .ok (.invokestatic 139, 3) := by decide +kernel
theorem dX11_meetingPairs_43 : decode cX11_meetingPairs 43 = .ok (.istore 4, 2) := by decide +kernel
theorem dX11_meetingPairs_45 : decode cX11_meetingPairs 45 = .ok (.aload_n 0, 1) := by decide +kernel
theorem dX11_meetingPairs_46 : decode cX11_meetingPairs 46 = .ok (.iload_n 3, 1) := by decide +kernel
theorem dX11_meetingPairs_47 : decode cX11_meetingPairs 47 = .ok (.invokevirtual 76, 3) := by decide +kernel
theorem dX11_meetingPairs_50 : decode cX11_meetingPairs 50 = .ok (.ifCond .ne 15, 3) := by decide +kernel
theorem dX11_meetingPairs_53 : decode cX11_meetingPairs 53 = .ok (.aload_n 0, 1) := by decide +kernel
theorem dX11_meetingPairs_54 : decode cX11_meetingPairs 54 = .ok (.iload_n 2, 1) := by decide +kernel
theorem dX11_meetingPairs_55 : decode cX11_meetingPairs 55 = .ok (.invokevirtual 76, 3) := by decide +kernel
theorem dX11_meetingPairs_58 : decode cX11_meetingPairs 58 = .ok (.ifCond .ne 7, 3) := by decide +kernel
theorem dX11_meetingPairs_61 : decode cX11_meetingPairs 61 = .ok (.iconst 1, 1) := by decide +kernel
theorem dX11_meetingPairs_62 : decode cX11_meetingPairs 62 = .ok (.goto 4, 3) := by decide +kernel
theorem dX11_meetingPairs_65 : decode cX11_meetingPairs 65 = .ok (.iconst 0, 1) := by decide +kernel
theorem dX11_meetingPairs_66 : decode cX11_meetingPairs 66 = .ok (.istore 5, 2) := by decide +kernel
theorem dX11_meetingPairs_68 : decode cX11_meetingPairs 68 = .ok (.iload_n 1, 1) := by decide +kernel
theorem dX11_meetingPairs_69 : decode cX11_meetingPairs 69 = .ok (.iload 5, 2) := by decide +kernel
theorem dX11_meetingPairs_71 : decode cX11_meetingPairs 71 = .ok (.ifCond .eq 26, 3) := by decide +kernel
theorem dX11_meetingPairs_74 : decode cX11_meetingPairs 74 = .ok (.iload 4, 2) := by decide +kernel
theorem dX11_meetingPairs_76 : decode cX11_meetingPairs 76 = .ok (.aload_n 0, 1) := by decide +kernel
theorem dX11_meetingPairs_77 : decode cX11_meetingPairs 77 = .ok (.iload_n 3, 1) := by decide +kernel
theorem dX11_meetingPairs_78 : decode cX11_meetingPairs 78 = .ok (.invokevirtual 92, 3) := by decide +kernel
theorem dX11_meetingPairs_81 : decode cX11_meetingPairs 81 = .ok (.aload_n 0, 1) := by decide +kernel
theorem dX11_meetingPairs_82 : decode cX11_meetingPairs 82 = .ok (.iload_n 2, 1) := by decide +kernel
theorem dX11_meetingPairs_83 : decode cX11_meetingPairs 83 = .ok (.invokevirtual 92, 3) := by decide +kernel
theorem dX11_meetingPairs_86 : decode cX11_meetingPairs 86 = .ok (.invokestatic 127, 3) := by decide +kernel
theorem dX11_meetingPairs_89 : decode cX11_meetingPairs 89 = .ok (.irem, 1) := by decide +kernel
theorem dX11_meetingPairs_90 : decode cX11_meetingPairs 90 = .ok (.ifCond .ne 7, 3) := by decide +kernel
theorem dX11_meetingPairs_93 : decode cX11_meetingPairs 93 = .ok (.iconst 1, 1) := by decide +kernel
theorem dX11_meetingPairs_94 : decode cX11_meetingPairs 94 = .ok (.goto 4, 3) := by decide +kernel
theorem dX11_meetingPairs_97 : decode cX11_meetingPairs 97 = .ok (.iconst 0, 1) := by decide +kernel
theorem dX11_meetingPairs_98 : decode cX11_meetingPairs 98 = .ok (.iadd, 1) := by decide +kernel
theorem dX11_meetingPairs_99 : decode cX11_meetingPairs 99 = .ok (.istore_n 1, 1) := by decide +kernel
theorem dX11_meetingPairs_100 : decode cX11_meetingPairs 100 = .ok (.iinc 3 1, 3) := by decide +kernel
theorem dX11_meetingPairs_103 : decode cX11_meetingPairs 103 = .ok (.goto (-87), 3) := by decide +kernel
theorem dX11_meetingPairs_106 : decode cX11_meetingPairs 106 = .ok (.iinc 2 1, 3) := by decide +kernel
theorem dX11_meetingPairs_109 : decode cX11_meetingPairs 109 = .ok (.goto (-105), 3) := by decide +kernel
theorem dX11_meetingPairs_112 : decode cX11_meetingPairs 112 = .ok (.aload_n 0, 1) := by decide +kernel
theorem dX11_meetingPairs_113 : decode cX11_meetingPairs 113 = .ok (.iload_n 1, 1) := by decide +kernel
theorem dX11_meetingPairs_114 : decode cX11_meetingPairs 114 = .ok (.invokevirtual 60, 3) := by decide +kernel
theorem dX11_meetingPairs_117 : decode cX11_meetingPairs 117 = .ok (.ireturn, 1) := by decide +kernel
theorem dX11_cycleOf_0 : decode cX11_cycleOf 0 = .ok (.aload_n 0, 1) := by decide +kernel
theorem dX11_cycleOf_1 : decode cX11_cycleOf 1 = .ok (.iload_n 1, 1) := by decide +kernel
theorem dX11_cycleOf_2 : decode cX11_cycleOf 2 = .ok (.invokevirtual 72, 3) := by decide +kernel
theorem dX11_cycleOf_5 : decode cX11_cycleOf 5 = .ok (.ifCond .eq 24, 3) := by decide +kernel
theorem dX11_cycleOf_8 : decode cX11_cycleOf 8 = .ok (.aload_n 0, 1) := by decide +kernel
theorem dX11_cycleOf_9 : decode cX11_cycleOf 9 = .ok (.iload_n 2, 1) := by decide +kernel
theorem dX11_cycleOf_10 : decode cX11_cycleOf 10 = .ok (.invokevirtual 72, 3) := by decide +kernel
theorem dX11_cycleOf_13 : decode cX11_cycleOf 13 = .ok (.ifCond .eq 16, 3) := by decide +kernel
theorem dX11_cycleOf_16 : decode cX11_cycleOf 16 = .ok (.aload_n 0, 1) := by decide +kernel
theorem dX11_cycleOf_17 : decode cX11_cycleOf 17 = .ok (.aload_n 0, 1) := by decide +kernel
theorem dX11_cycleOf_18 : decode cX11_cycleOf 18 = .ok (.iload_n 1, 1) := by decide +kernel
theorem dX11_cycleOf_19 : decode cX11_cycleOf 19 = .ok (.iload_n 2, 1) := by decide +kernel
theorem dX11_cycleOf_20 : decode cX11_cycleOf 20 = .ok (.invokevirtual 130, 3) := by decide +kernel
theorem dX11_cycleOf_23 : decode cX11_cycleOf 23 = .ok (.invokevirtual 60, 3) := by decide +kernel
theorem dX11_cycleOf_26 : decode cX11_cycleOf 26 = .ok (.goto 8, 3) := by decide +kernel
theorem dX11_cycleOf_29 : decode cX11_cycleOf 29 = .ok (.aload_n 0, 1) := by decide +kernel
theorem dX11_cycleOf_30 : decode cX11_cycleOf 30 = .ok (.iconst 1, 1) := by decide +kernel
theorem dX11_cycleOf_31 : decode cX11_cycleOf 31 = .ok (.invokevirtual 56, 3) := by decide +kernel
theorem dX11_cycleOf_34 : decode cX11_cycleOf 34 = .ok (.ireturn, 1) := by decide +kernel
theorem dX11_addsLeg_0 : decode cX11_addsLeg 0 = .ok (.iload_n 1, 1) := by decide +kernel
theorem dX11_addsLeg_1 : decode cX11_addsLeg 1 = .ok (.iconst 1, 1) := by decide +kernel
theorem dX11_addsLeg_2 : decode cX11_addsLeg 2 = .ok (.bipush 60, 2) := by decide +kernel
theorem dX11_addsLeg_4 : decode cX11_addsLeg 4 = .ok (.invokestatic 52, 3) := by decide +kernel
theorem dX11_addsLeg_7 : decode cX11_addsLeg 7 = .ok (.ifCond .ne 9, 3) := by decide +kernel
theorem dX11_addsLeg_10 : decode cX11_addsLeg 10 = .ok (.aload_n 0, 1) := by decide +kernel
theorem dX11_addsLeg_11 : decode cX11_addsLeg 11 = .ok (.iconst 1, 1) := by decide +kernel
theorem dX11_addsLeg_12 : decode cX11_addsLeg 12 = .ok (.invokevirtual 56, 3) := by decide +kernel
theorem dX11_addsLeg_15 : decode cX11_addsLeg 15 = .ok (.ireturn, 1) := by decide +kernel
theorem dX11_addsLeg_16 : decode cX11_addsLeg 16 = .ok (.aload_n 0, 1) := by decide +kernel
theorem dX11_addsLeg_17 : decode cX11_addsLeg 17 = .ok (.getfield 7, 3) := by decide +kernel
theorem dX11_addsLeg_20 : decode cX11_addsLeg 20 = .ok (.iconst 3, 1) := by decide +kernel
theorem dX11_addsLeg_21 : decode cX11_addsLeg 21 = .ok (.iaload, 1) := by decide +kernel
theorem dX11_addsLeg_22 : decode cX11_addsLeg 22 = .ok (.bipush 6, 2) := by decide +kernel
theorem dX11_addsLeg_24 : decode cX11_addsLeg 24 = .ok (.if_icmp .ne 9, 3) := by decide +kernel
theorem dX11_addsLeg_27 : decode cX11_addsLeg 27 = .ok (.aload_n 0, 1) := by decide +kernel
theorem dX11_addsLeg_28 : decode cX11_addsLeg 28 = .ok (.iconst 2, 1) := by decide +kernel
theorem dX11_addsLeg_29 : decode cX11_addsLeg 29 = .ok (.invokevirtual 56, 3) := by decide +kernel
theorem dX11_addsLeg_32 : decode cX11_addsLeg 32 = .ok (.ireturn, 1) := by decide +kernel
theorem dX11_addsLeg_33 : decode cX11_addsLeg 33 = .ok (.aload_n 0, 1) := by decide +kernel
theorem dX11_addsLeg_34 : decode cX11_addsLeg 34 = .ok (.getfield 7, 3) := by decide +kernel
theorem dX11_addsLeg_37 : decode cX11_addsLeg 37 = .ok (.bipush 42, 2) := by decide +kernel
theorem dX11_addsLeg_39 : decode cX11_addsLeg 39 = .ok (.aload_n 0, 1) := by decide +kernel
theorem dX11_addsLeg_40 : decode cX11_addsLeg 40 = .ok (.getfield 7, 3) := by decide +kernel
theorem dX11_addsLeg_43 : decode cX11_addsLeg 43 = .ok (.iconst 3, 1) := by decide +kernel
theorem dX11_addsLeg_44 : decode cX11_addsLeg 44 = .ok (.iaload, 1) := by decide +kernel
theorem dX11_addsLeg_45 : decode cX11_addsLeg 45 = .ok (.iadd, 1) := by decide +kernel
theorem dX11_addsLeg_46 : decode cX11_addsLeg 46 = .ok (.iload_n 1, 1) := by decide +kernel
theorem dX11_addsLeg_47 : decode cX11_addsLeg 47 = .ok (.iastore, 1) := by decide +kernel
theorem dX11_addsLeg_48 : decode cX11_addsLeg 48 = .ok (.aload_n 0, 1) := by decide +kernel
theorem dX11_addsLeg_49 : decode cX11_addsLeg 49 = .ok (.getfield 7, 3) := by decide +kernel
theorem dX11_addsLeg_52 : decode cX11_addsLeg 52 = .ok (.iconst 3, 1) := by decide +kernel
theorem dX11_addsLeg_53 : decode cX11_addsLeg 53 = .ok (.dup2, 1) := by decide +kernel
theorem dX11_addsLeg_54 : decode cX11_addsLeg 54 = .ok (.iaload, 1) := by decide +kernel
theorem dX11_addsLeg_55 : decode cX11_addsLeg 55 = .ok (.iconst 1, 1) := by decide +kernel
theorem dX11_addsLeg_56 : decode cX11_addsLeg 56 = .ok (.iadd, 1) := by decide +kernel
theorem dX11_addsLeg_57 : decode cX11_addsLeg 57 = .ok (.iastore, 1) := by decide +kernel
theorem dX11_addsLeg_58 : decode cX11_addsLeg 58 = .ok (.aload_n 0, 1) := by decide +kernel
theorem dX11_addsLeg_59 : decode cX11_addsLeg 59 = .ok (.aload_n 0, 1) := by decide +kernel
theorem dX11_addsLeg_60 : decode cX11_addsLeg 60 = .ok (.getfield 7, 3) := by decide +kernel
theorem dX11_addsLeg_63 : decode cX11_addsLeg 63 = .ok (.iconst 3, 1) := by decide +kernel
theorem dX11_addsLeg_64 : decode cX11_addsLeg 64 = .ok (.iaload, 1) := by decide +kernel
theorem dX11_addsLeg_65 : decode cX11_addsLeg 65 = .ok (.invokevirtual 60, 3) := by decide +kernel
theorem dX11_addsLeg_68 : decode cX11_addsLeg 68 = .ok (.ireturn, 1) := by decide +kernel
theorem dX11_addLeg_0 : decode cX11_addLeg 0 = .ok (.aload_n 0, 1) := by decide +kernel
theorem dX11_addLeg_1 : decode cX11_addLeg 1 = .ok (.invokevirtual 63, 3) := by decide +kernel
theorem dX11_addLeg_4 : decode cX11_addLeg 4 = .ok (.aload_n 0, 1) := by decide +kernel
theorem dX11_addLeg_5 : decode cX11_addLeg 5 = .ok (.aload_n 0, 1) := by decide +kernel
theorem dX11_addLeg_6 : decode cX11_addLeg 6 = .ok (.iload_n 1, 1) := by decide +kernel
theorem dX11_addLeg_7 : decode cX11_addLeg 7 = .ok (.invokevirtual 142, 3) := by decide +kernel
theorem dX11_addLeg_10 : decode cX11_addLeg 10 = .ok (.invokevirtual 69, 3) := by decide +kernel
theorem dX11_addLeg_13 : decode cX11_addLeg 13 = .ok (.ireturn, 1) := by decide +kernel
theorem dX11_isLeg_0 : decode cX11_isLeg 0 = .ok (.iload_n 1, 1) := by decide +kernel
theorem dX11_isLeg_1 : decode cX11_isLeg 1 = .ok (.iconst 0, 1) := by decide +kernel
theorem dX11_isLeg_2 : decode cX11_isLeg 2 = .ok (.aload_n 0, 1) := by decide +kernel
theorem dX11_isLeg_3 : decode cX11_isLeg 3 = .ok (.getfield 7, 3) := by decide +kernel
theorem dX11_isLeg_6 : decode cX11_isLeg 6 = .ok (.iconst 3, 1) := by decide +kernel
theorem dX11_isLeg_7 : decode cX11_isLeg 7 = .ok (.iaload, 1) := by decide +kernel
theorem dX11_isLeg_8 : decode cX11_isLeg 8 = .ok (.iconst 1, 1) := by decide +kernel
theorem dX11_isLeg_9 : decode cX11_isLeg 9 = .ok (.isub, 1) := by decide +kernel
theorem dX11_isLeg_10 : decode cX11_isLeg 10 = .ok (.invokestatic 52, 3) := by decide +kernel
theorem dX11_isLeg_13 : decode cX11_isLeg 13 = .ok (.ireturn, 1) := by decide +kernel
theorem dX11_cuts_0 : decode cX11_cuts 0 = .ok (.aload_n 0, 1) := by decide +kernel
theorem dX11_cuts_1 : decode cX11_cuts 1 = .ok (.iload_n 1, 1) := by decide +kernel
theorem dX11_cuts_2 : decode cX11_cuts 2 = .ok (.invokevirtual 145, 3) := by decide +kernel
theorem dX11_cuts_5 : decode cX11_cuts 5 = .ok (.ifCond .ne 9, 3) := by decide +kernel
theorem dX11_cuts_8 : decode cX11_cuts 8 = .ok (.aload_n 0, 1) := by decide +kernel
theorem dX11_cuts_9 : decode cX11_cuts 9 = .ok (.iconst 1, 1) := by decide +kernel
theorem dX11_cuts_10 : decode cX11_cuts 10 = .ok (.invokevirtual 56, 3) := by decide +kernel
theorem dX11_cuts_13 : decode cX11_cuts 13 = .ok (.ireturn, 1) := by decide +kernel
theorem dX11_cuts_14 : decode cX11_cuts 14 = .ok (.aload_n 0, 1) := by decide +kernel
theorem dX11_cuts_15 : decode cX11_cuts 15 = .ok (.getfield 7, 3) := by decide +kernel
theorem dX11_cuts_18 : decode cX11_cuts 18 = .ok (.bipush 42, 2) := by decide +kernel
theorem dX11_cuts_20 : decode cX11_cuts 20 = .ok (.iload_n 1, 1) := by decide +kernel
theorem dX11_cuts_21 : decode cX11_cuts 21 = .ok (.iadd, 1) := by decide +kernel
theorem dX11_cuts_22 : decode cX11_cuts 22 = .ok (.iaload, 1) := by decide +kernel
theorem dX11_cuts_23 : decode cX11_cuts 23 = .ok (.istore_n 2, 1) := by decide +kernel
theorem dX11_cuts_24 : decode cX11_cuts 24 = .ok (.iload_n 1, 1) := by decide +kernel
theorem dX11_cuts_25 : decode cX11_cuts 25 = .ok (.istore_n 3, 1) := by decide +kernel
theorem dX11_cuts_26 : decode cX11_cuts 26 = .ok (.iload_n 3, 1) := by decide +kernel
theorem dX11_cuts_27 : decode cX11_cuts 27 = .ok (.iconst 5, 1) := by decide +kernel
theorem dX11_cuts_28 : decode cX11_cuts 28 = .ok (.if_icmp .ge 29, 3) := by decide +kernel
theorem dX11_cuts_31 : decode cX11_cuts 31 = .ok (.aload_n 0, 1) := by decide +kernel
theorem dX11_cuts_32 : decode cX11_cuts 32 = .ok (.getfield 7, 3) := by decide +kernel
theorem dX11_cuts_35 : decode cX11_cuts 35 = .ok (.bipush 42, 2) := by decide +kernel
theorem dX11_cuts_37 : decode cX11_cuts 37 = .ok (.iload_n 3, 1) := by decide +kernel
theorem dX11_cuts_38 : decode cX11_cuts 38 = .ok (.iadd, 1) := by decide +kernel
theorem dX11_cuts_39 : decode cX11_cuts 39 = .ok (.aload_n 0, 1) := by decide +kernel
theorem dX11_cuts_40 : decode cX11_cuts 40 = .ok (.getfield 7, 3) := by decide +kernel
theorem dX11_cuts_43 : decode cX11_cuts 43 = .ok (.bipush 42, 2) := by decide +kernel
theorem dX11_cuts_45 : decode cX11_cuts 45 = .ok (.iload_n 3, 1) := by decide +kernel
theorem dX11_cuts_46 : decode cX11_cuts 46 = .ok (.iadd, 1) := by decide +kernel
theorem dX11_cuts_47 : decode cX11_cuts 47 = .ok (.iconst 1, 1) := by decide +kernel
theorem dX11_cuts_48 : decode cX11_cuts 48 = .ok (.iadd, 1) := by decide +kernel
theorem dX11_cuts_49 : decode cX11_cuts 49 = .ok (.iaload, 1) := by decide +kernel
theorem dX11_cuts_50 : decode cX11_cuts 50 = .ok (.iastore, 1) := by decide +kernel
theorem dX11_cuts_51 : decode cX11_cuts 51 = .ok (.iinc 3 1, 3) := by decide +kernel
theorem dX11_cuts_54 : decode cX11_cuts 54 = .ok (.goto (-28), 3) := by decide +kernel
theorem dX11_cuts_57 : decode cX11_cuts 57 = .ok (.aload_n 0, 1) := by decide +kernel
theorem dX11_cuts_58 : decode cX11_cuts 58 = .ok (.getfield 7, 3) := by decide +kernel
theorem dX11_cuts_61 : decode cX11_cuts 61 = .ok (.iconst 3, 1) := by decide +kernel
theorem dX11_cuts_62 : decode cX11_cuts 62 = .ok (.dup2, 1) := by decide +kernel
theorem dX11_cuts_63 : decode cX11_cuts 63 = .ok (.iaload, 1) := by decide +kernel
theorem dX11_cuts_64 : decode cX11_cuts 64 = .ok (.iconst 1, 1) := by decide +kernel
theorem dX11_cuts_65 : decode cX11_cuts 65 = .ok (.isub, 1) := by decide +kernel
theorem dX11_cuts_66 : decode cX11_cuts 66 = .ok (.iastore, 1) := by decide +kernel
theorem dX11_cuts_67 : decode cX11_cuts 67 = .ok (.aload_n 0, 1) := by decide +kernel
theorem dX11_cuts_68 : decode cX11_cuts 68 = .ok (.iload_n 2, 1) := by decide +kernel
theorem dX11_cuts_69 : decode cX11_cuts 69 = .ok (.invokevirtual 60, 3) := by decide +kernel
theorem dX11_cuts_72 : decode cX11_cuts 72 = .ok (.ireturn, 1) := by decide +kernel
theorem dX11_removeLeg_0 : decode cX11_removeLeg 0 = .ok (.aload_n 0, 1) := by decide +kernel
theorem dX11_removeLeg_1 : decode cX11_removeLeg 1 = .ok (.invokevirtual 63, 3) := by decide +kernel
theorem dX11_removeLeg_4 : decode cX11_removeLeg 4 = .ok (.aload_n 0, 1) := by decide +kernel
theorem dX11_removeLeg_5 : decode cX11_removeLeg 5 = .ok (.aload_n 0, 1) := by decide +kernel
theorem dX11_removeLeg_6 : decode cX11_removeLeg 6 = .ok (.iload_n 1, 1) := by decide +kernel
theorem dX11_removeLeg_7 : decode cX11_removeLeg 7 = .ok (.invokevirtual 148, 3) := by decide +kernel
theorem dX11_removeLeg_10 : decode cX11_removeLeg 10 = .ok (.invokevirtual 69, 3) := by decide +kernel
theorem dX11_removeLeg_13 : decode cX11_removeLeg 13 = .ok (.ireturn, 1) := by decide +kernel
theorem dX11_legCount_0 : decode cX11_legCount 0 = .ok (.aload_n 0, 1) := by decide +kernel
theorem dX11_legCount_1 : decode cX11_legCount 1 = .ok (.aload_n 0, 1) := by decide +kernel
theorem dX11_legCount_2 : decode cX11_legCount 2 = .ok (.getfield 7, 3) := by decide +kernel
theorem dX11_legCount_5 : decode cX11_legCount 5 = .ok (.iconst 3, 1) := by decide +kernel
theorem dX11_legCount_6 : decode cX11_legCount 6 = .ok (.iaload, 1) := by decide +kernel
theorem dX11_legCount_7 : decode cX11_legCount 7 = .ok (.invokevirtual 60, 3) := by decide +kernel
theorem dX11_legCount_10 : decode cX11_legCount 10 = .ok (.ireturn, 1) := by decide +kernel
theorem dX11_wishOf_0 : decode cX11_wishOf 0 = .ok (.aload_n 0, 1) := by decide +kernel
theorem dX11_wishOf_1 : decode cX11_wishOf 1 = .ok (.iload_n 1, 1) := by decide +kernel
theorem dX11_wishOf_2 : decode cX11_wishOf 2 = .ok (.invokevirtual 145, 3) := by decide +kernel
theorem dX11_wishOf_5 : decode cX11_wishOf 5 = .ok (.ifCond .eq 19, 3) := by decide +kernel
theorem dX11_wishOf_8 : decode cX11_wishOf 8 = .ok (.aload_n 0, 1) := by decide +kernel
theorem dX11_wishOf_9 : decode cX11_wishOf 9 = .ok (.aload_n 0, 1) := by decide +kernel
theorem dX11_wishOf_10 : decode cX11_wishOf 10 = .ok (.getfield 7, 3) := by decide +kernel
theorem dX11_wishOf_13 : decode cX11_wishOf 13 = .ok (.bipush 42, 2) := by decide +kernel
theorem dX11_wishOf_15 : decode cX11_wishOf 15 = .ok (.iload_n 1, 1) := by decide +kernel
theorem dX11_wishOf_16 : decode cX11_wishOf 16 = .ok (.iadd, 1) := by decide +kernel
theorem dX11_wishOf_17 : decode cX11_wishOf 17 = .ok (.iaload, 1) := by decide +kernel
theorem dX11_wishOf_18 : decode cX11_wishOf 18 = .ok (.invokevirtual 60, 3) := by decide +kernel
theorem dX11_wishOf_21 : decode cX11_wishOf 21 = .ok (.goto 8, 3) := by decide +kernel
theorem dX11_wishOf_24 : decode cX11_wishOf 24 = .ok (.aload_n 0, 1) := by decide +kernel
theorem dX11_wishOf_25 : decode cX11_wishOf 25 = .ok (.iconst 1, 1) := by decide +kernel
theorem dX11_wishOf_26 : decode cX11_wishOf 26 = .ok (.invokevirtual 56, 3) := by decide +kernel
theorem dX11_wishOf_29 : decode cX11_wishOf 29 = .ok (.ireturn, 1) := by decide +kernel
theorem dX11_members_0 : decode cX11_members 0 = .ok (.iconst 0, 1) := by decide +kernel
theorem dX11_members_1 : decode cX11_members 1 = .ok (.istore_n 1, 1) := by decide +kernel
theorem dX11_members_2 : decode cX11_members 2 = .ok (.iconst 0, 1) := by decide +kernel
theorem dX11_members_3 : decode cX11_members 3 = .ok (.istore_n 2, 1) := by decide +kernel
theorem dX11_members_4 : decode cX11_members 4 = .ok (.iload_n 2, 1) := by decide +kernel
theorem dX11_members_5 : decode cX11_members 5 = .ok (.bipush 8, 2) := by decide +kernel
theorem dX11_members_7 : decode cX11_members 7 = .ok (.if_icmp .ge 17, 3) := by decide +kernel
theorem dX11_members_10 : decode cX11_members 10 = .ok (.iload_n 1, 1) := by decide +kernel
theorem dX11_members_11 : decode cX11_members 11 = .ok (.iload_n 0, 1) := by decide +kernel
theorem dX11_members_12 : decode cX11_members 12 = .ok (.iload_n 2, 1) := by decide +kernel
theorem dX11_members_13 : decode cX11_members 13 = .ok (.ishr, 1) := by decide +kernel
theorem dX11_members_14 : decode cX11_members 14 = .ok (.iconst 1, 1) := by decide +kernel
theorem dX11_members_15 : decode cX11_members 15 = .ok (.iand, 1) := by decide +kernel
theorem dX11_members_16 : decode cX11_members 16 = .ok (.iadd, 1) := by decide +kernel
theorem dX11_members_17 : decode cX11_members 17 = .ok (.istore_n 1, 1) := by decide +kernel
theorem dX11_members_18 : decode cX11_members 18 = .ok (.iinc 2 1, 3) := by decide +kernel
theorem dX11_members_21 : decode cX11_members 21 = .ok (.goto (-17), 3) := by decide +kernel
theorem dX11_members_24 : decode cX11_members 24 = .ok (.iload_n 1, 1) := by decide +kernel
theorem dX11_members_25 : decode cX11_members 25 = .ok (.ireturn, 1) := by decide +kernel
theorem dX11_costWith_0 : decode cX11_costWith 0 = .ok (.aload_n 0, 1) := by decide +kernel
theorem dX11_costWith_1 : decode cX11_costWith 1 = .ok (.iload_n 3, 1) := by decide +kernel
theorem dX11_costWith_2 : decode cX11_costWith 2 = .ok (.invokevirtual 92, 3) := by decide +kernel
theorem dX11_costWith_5 : decode cX11_costWith 5 = .ok (.aload_n 0, 1) := by decide +kernel
theorem dX11_costWith_6 : decode cX11_costWith 6 = .ok (.getfield 7, 3) := by decide +kernel
theorem dX11_costWith_9 : decode cX11_costWith 9 = .ok (.bipush 42, 2) := by decide +kernel
theorem dX11_costWith_11 : decode cX11_costWith 11 = .ok (.iload_n 2, 1) := by decide +kernel
theorem dX11_costWith_12 : decode cX11_costWith 12 = .ok (.iadd, 1) := by decide +kernel
theorem dX11_costWith_13 : decode cX11_costWith 13 = .ok (.iaload, 1) := by decide +kernel
theorem dX11_costWith_14 : decode cX11_costWith 14 = .ok (.isub, 1) := by decide +kernel
theorem dX11_costWith_15 : decode cX11_costWith 15 = .ok (.invokestatic 139, 3) := by decide +kernel
theorem dX11_costWith_18 : decode cX11_costWith 18 = .ok (.istore 4, 2) := by decide +kernel
theorem dX11_costWith_20 : decode cX11_costWith 20 = .ok (.iload_n 1, 1) := by decide +kernel
theorem dX11_costWith_21 : decode cX11_costWith 21 = .ok (.iload_n 3, 1) := by decide +kernel
theorem dX11_costWith_22 : decode cX11_costWith 22 = .ok (.ishr, 1) := by decide +kernel
theorem dX11_costWith_23 : decode cX11_costWith 23 = .ok (.iconst 1, 1) := by decide +kernel
theorem dX11_costWith_24 : decode cX11_costWith 24 = .ok (.iand, 1) := by decide +kernel
theorem dX11_costWith_25 : decode cX11_costWith 25 = .ok (.iconst 1, 1) := by decide +kernel
theorem dX11_costWith_26 : decode cX11_costWith 26 = .ok (.if_icmp .ne 8, 3) := by decide +kernel
theorem dX11_costWith_29 : decode cX11_costWith 29 = .ok (.ldc 151, 2) := by decide +kernel
theorem dX11_costWith_31 : decode cX11_costWith 31 = .ok (.goto 16, 3) := by decide +kernel
theorem dX11_costWith_34 : decode cX11_costWith 34 = .ok (.iload 4, 2) := by decide +kernel
theorem dX11_costWith_36 : decode cX11_costWith 36 = .ok (.aload_n 0, 1) := by decide +kernel
theorem dX11_costWith_37 : decode cX11_costWith 37 = .ok (.getfield 36, 3) := by decide +kernel
theorem dX11_costWith_40 : decode cX11_costWith 40 = .ok (.iload_n 1, 1) := by decide +kernel
theorem dX11_costWith_41 : decode cX11_costWith 41 = .ok (.iconst 1, 1) := by decide +kernel
theorem dX11_costWith_42 : decode cX11_costWith 42 = .ok (.iload_n 3, 1) := by decide +kernel
theorem dX11_costWith_43 : decode cX11_costWith 43 = .ok (.ishl, 1) := by decide +kernel
theorem dX11_costWith_44 : decode cX11_costWith 44 = .ok (.ior, 1) := by decide +kernel
theorem dX11_costWith_45 : decode cX11_costWith 45 = .ok (.iaload, 1) := by decide +kernel
theorem dX11_costWith_46 : decode cX11_costWith 46 = .ok (.iadd, 1) := by decide +kernel
theorem dX11_costWith_47 : decode cX11_costWith 47 = .ok (.ireturn, 1) := by decide +kernel
theorem dX11_finds_0 : decode cX11_finds 0 = .ok (.sipush 255, 3) := by decide +kernel
theorem dX11_finds_3 : decode cX11_finds 3 = .ok (.istore_n 1, 1) := by decide +kernel
theorem dX11_finds_4 : decode cX11_finds 4 = .ok (.iload_n 1, 1) := by decide +kernel
theorem dX11_finds_5 : decode cX11_finds 5 = .ok (.ifCond .lt 101, 3) := by decide +kernel
theorem dX11_finds_8 : decode cX11_finds 8 = .ok (.iload_n 1, 1) := by decide +kernel
theorem dX11_finds_9 : decode cX11_finds 9 = .ok (.invokestatic 152, 3) := by decide +kernel
theorem dX11_finds_12 : decode cX11_finds 12 = .ok (.istore_n 2, 1) := by decide +kernel
theorem dX11_finds_13 : decode cX11_finds 13 = .ok (.aload_n 0, 1) := by decide +kernel
theorem dX11_finds_14 : decode cX11_finds 14 = .ok (.getfield 36, 3) := by decide +kernel
theorem dX11_finds_17 : decode cX11_finds 17 = .ok (.iload_n 1, 1) := by decide +kernel
theorem dX11_finds_18 : decode cX11_finds 18 = .ok (.iload_n 2, 1) := by decide +kernel
theorem dX11_finds_19 : decode cX11_finds 19 = .ok (.aload_n 0, 1) := by decide +kernel
theorem dX11_finds_20 : decode cX11_finds 20 = .ok (.getfield 7, 3) := by decide +kernel
theorem dX11_finds_23 : decode cX11_finds 23 = .ok (.iconst 3, 1) := by decide +kernel
theorem dX11_finds_24 : decode cX11_finds 24 = .ok (.iaload, 1) := by decide +kernel
theorem dX11_finds_25 : decode cX11_finds 25 = .ok (.if_icmp .lt 7, 3) := by decide +kernel
theorem dX11_finds_28 : decode cX11_finds 28 = .ok (.iconst 0, 1) := by decide +kernel
theorem dX11_finds_29 : decode cX11_finds 29 = .ok (.goto 5, 3) := by decide +kernel
theorem dX11_finds_32 : decode cX11_finds 32 = .ok (.ldc 151, 2) := by decide +kernel
theorem dX11_finds_34 : decode cX11_finds 34 = .ok (.iastore, 1) := by decide +kernel
theorem dX11_finds_35 : decode cX11_finds 35 = .ok (.iconst 0, 1) := by decide +kernel
theorem dX11_finds_36 : decode cX11_finds 36 = .ok (.istore_n 3, 1) := by decide +kernel
theorem dX11_finds_37 : decode cX11_finds 37 = .ok (.iload_n 3, 1) := by decide +kernel
theorem dX11_finds_38 : decode cX11_finds 38 = .ok (.aload_n 0, 1) := by decide +kernel
theorem dX11_finds_39 : decode cX11_finds 39 = .ok (.getfield 7, 3) := by decide +kernel
theorem dX11_finds_42 : decode cX11_finds 42 = .ok (.iconst 2, 1) := by decide +kernel
theorem dX11_finds_43 : decode cX11_finds 43 = .ok (.iaload, 1) := by decide +kernel
theorem dX11_finds_44 : decode cX11_finds 44 = .ok (.if_icmp .ge 56, 3) := by decide +kernel
theorem dX11_finds_47 : decode cX11_finds 47 = .ok (.iload_n 2, 1) := by decide +kernel
theorem dX11_finds_48 : decode cX11_finds 48 = .ok (.aload_n 0, 1) := by decide +kernel
theorem dX11_finds_49 : decode cX11_finds 49 = .ok (.getfield 7, 3) := by decide +kernel
theorem dX11_finds_52 : decode cX11_finds 52 = .ok (.iconst 3, 1) := by decide +kernel
theorem dX11_finds_53 : decode cX11_finds 53 = .ok (.iaload, 1) := by decide +kernel
theorem dX11_finds_54 : decode cX11_finds 54 = .ok (.if_icmp .ge 46, 3) := by decide +kernel
theorem dX11_finds_57 : decode cX11_finds 57 = .ok (.aload_n 0, 1) := by decide +kernel
theorem dX11_finds_58 : decode cX11_finds 58 = .ok (.iload_n 1, 1) := by decide +kernel
theorem dX11_finds_59 : decode cX11_finds 59 = .ok (.iload_n 2, 1) := by decide +kernel
theorem dX11_finds_60 : decode cX11_finds 60 = .ok (.iload_n 3, 1) := by decide +kernel
theorem dX11_finds_61 : decode cX11_finds 61 = .ok (.invokevirtual 155, 3) := by decide +kernel
theorem dX11_finds_64 : decode cX11_finds 64 = .ok (.istore 4, 2) := by decide +kernel
theorem dX11_finds_66 : decode cX11_finds 66 = .ok (.aload_n 0, 1) := by decide +kernel
theorem dX11_finds_67 : decode cX11_finds 67 = .ok (.getfield 36, 3) := by decide +kernel
theorem dX11_finds_70 : decode cX11_finds 70 = .ok (.iload_n 1, 1) := by decide +kernel
theorem dX11_finds_71 : decode cX11_finds 71 = .ok (.iload 4, 2) := by decide +kernel
theorem dX11_finds_73 : decode cX11_finds 73 = .ok (.aload_n 0, 1) := by decide +kernel
theorem dX11_finds_74 : decode cX11_finds 74 = .ok (.getfield 36, 3) := by decide +kernel
theorem dX11_finds_77 : decode cX11_finds 77 = .ok (.iload_n 1, 1) := by decide +kernel
theorem dX11_finds_78 : decode cX11_finds 78 = .ok (.iaload, 1) := by decide +kernel
theorem dX11_finds_79 : decode cX11_finds 79 = .ok (.if_icmp .ge 8, 3) := by decide +kernel
theorem dX11_finds_82 : decode cX11_finds 82 = .ok (.iload 4, 2) := by decide +kernel
theorem dX11_finds_84 : decode cX11_finds 84 = .ok (.goto 9, 3) := by decide +kernel
theorem dX11_finds_87 : decode cX11_finds 87 = .ok (.aload_n 0, 1) := by decide +kernel
theorem dX11_finds_88 : decode cX11_finds 88 = .ok (.getfield 36, 3) := by decide +kernel
theorem dX11_finds_91 : decode cX11_finds 91 = .ok (.iload_n 1, 1) := by decide +kernel
theorem dX11_finds_92 : decode cX11_finds 92 = .ok (.iaload, 1) := by decide +kernel
theorem dX11_finds_93 : decode cX11_finds 93 = .ok (.iastore, 1) := by decide +kernel
theorem dX11_finds_94 : decode cX11_finds 94 = .ok (.iinc 3 1, 3) := by decide +kernel
theorem dX11_finds_97 : decode cX11_finds 97 = .ok (.goto (-60), 3) := by decide +kernel
theorem dX11_finds_100 : decode cX11_finds 100 = .ok (.iinc 1 (-1), 3) := by decide +kernel
theorem dX11_finds_103 : decode cX11_finds 103 = .ok (.goto (-99), 3) := by decide +kernel
theorem dX11_finds_106 : decode cX11_finds 106 = .ok (.return_, 1) := by decide +kernel
theorem dX11_leastRelay_0 : decode cX11_leastRelay 0 = .ok (.aload_n 0, 1) := by decide +kernel
theorem dX11_leastRelay_1 : decode cX11_leastRelay 1 = .ok (.getfield 7, 3) := by decide +kernel
theorem dX11_leastRelay_4 : decode cX11_leastRelay 4 = .ok (.iconst 2, 1) := by decide +kernel
theorem dX11_leastRelay_5 : decode cX11_leastRelay 5 = .ok (.iaload, 1) := by decide +kernel
theorem dX11_leastRelay_6 : decode cX11_leastRelay 6 = .ok (.aload_n 0, 1) := by decide +kernel
theorem dX11_leastRelay_7 : decode cX11_leastRelay 7 = .ok (.getfield 7, 3) := by decide +kernel
theorem dX11_leastRelay_10 : decode cX11_leastRelay 10 = .ok (.iconst 3, 1) := by decide +kernel
theorem dX11_leastRelay_11 : decode cX11_leastRelay 11 = .ok (.iaload, 1) := by decide +kernel
theorem dX11_leastRelay_12 : decode cX11_leastRelay 12 = .ok (.if_icmp .ge 9, 3) := by decide +kernel
theorem dX11_leastRelay_15 : decode cX11_leastRelay 15 = .ok (.aload_n 0, 1) := by decide +kernel
theorem dX11_leastRelay_16 : decode cX11_leastRelay 16 = .ok (.iconst 1, 1) := by decide +kernel
theorem dX11_leastRelay_17 : decode cX11_leastRelay 17 = .ok (.invokevirtual 56, 3) := by decide +kernel
theorem dX11_leastRelay_20 : decode cX11_leastRelay 20 = .ok (.ireturn, 1) := by decide +kernel
theorem dX11_leastRelay_21 : decode cX11_leastRelay 21 = .ok (.aload_n 0, 1) := by decide +kernel
theorem dX11_leastRelay_22 : decode cX11_leastRelay 22 = .ok (.invokevirtual 159, 3) := by decide +kernel
theorem dX11_leastRelay_25 : decode cX11_leastRelay 25 = .ok (.aload_n 0, 1) := by decide +kernel
theorem dX11_leastRelay_26 : decode cX11_leastRelay 26 = .ok (.aload_n 0, 1) := by decide +kernel
theorem dX11_leastRelay_27 : decode cX11_leastRelay 27 = .ok (.getfield 36, 3) := by decide +kernel
theorem dX11_leastRelay_30 : decode cX11_leastRelay 30 = .ok (.iconst 0, 1) := by decide +kernel
theorem dX11_leastRelay_31 : decode cX11_leastRelay 31 = .ok (.iaload, 1) := by decide +kernel
theorem dX11_leastRelay_32 : decode cX11_leastRelay 32 = .ok (.invokevirtual 60, 3) := by decide +kernel
theorem dX11_leastRelay_35 : decode cX11_leastRelay 35 = .ok (.ireturn, 1) := by decide +kernel
theorem dX11_leastRelayByTrying_0 : decode cX11_leastRelayByTrying 0 = .ok (.aload_n 0, 1) := by decide +kernel
theorem dX11_leastRelayByTrying_1 : decode cX11_leastRelayByTrying 1 = .ok (.invokevirtual 162, 3) := by decide +kernel
theorem dX11_leastRelayByTrying_4 : decode cX11_leastRelayByTrying 4 = .ok (.ireturn, 1) := by decide +kernel
theorem dX11_runnerOf_0 : decode cX11_runnerOf 0 = .ok (.aload_n 0, 1) := by decide +kernel
theorem dX11_runnerOf_1 : decode cX11_runnerOf 1 = .ok (.iload_n 1, 1) := by decide +kernel
theorem dX11_runnerOf_2 : decode cX11_runnerOf 2 = .ok (.invokevirtual 145, 3) := by decide +kernel
theorem dX11_runnerOf_5 : decode cX11_runnerOf 5 = .ok (.ifCond .ne 9, 3) := by decide +kernel
theorem dX11_runnerOf_8 : decode cX11_runnerOf 8 = .ok (.aload_n 0, 1) := by decide +kernel
theorem dX11_runnerOf_9 : decode cX11_runnerOf 9 = .ok (.iconst 1, 1) := by decide +kernel
theorem dX11_runnerOf_10 : decode cX11_runnerOf 10 = .ok (.invokevirtual 56, 3) := by decide +kernel
theorem dX11_runnerOf_13 : decode cX11_runnerOf 13 = .ok (.ireturn, 1) := by decide +kernel
theorem dX11_runnerOf_14 : decode cX11_runnerOf 14 = .ok (.aload_n 0, 1) := by decide +kernel
theorem dX11_runnerOf_15 : decode cX11_runnerOf 15 = .ok (.getfield 7, 3) := by decide +kernel
theorem dX11_runnerOf_18 : decode cX11_runnerOf 18 = .ok (.iconst 2, 1) := by decide +kernel
theorem dX11_runnerOf_19 : decode cX11_runnerOf 19 = .ok (.iaload, 1) := by decide +kernel
theorem dX11_runnerOf_20 : decode cX11_runnerOf 20 = .ok (.aload_n 0, 1) := by decide +kernel
theorem dX11_runnerOf_21 : decode cX11_runnerOf 21 = .ok (.getfield 7, 3) := by decide +kernel
theorem dX11_runnerOf_24 : decode cX11_runnerOf 24 = .ok (.iconst 3, 1) := by decide +kernel
theorem dX11_runnerOf_25 : decode cX11_runnerOf 25 = .ok (.iaload, 1) := by decide +kernel
theorem dX11_runnerOf_26 : decode cX11_runnerOf 26 = .ok (.if_icmp .ge 9, 3) := by decide +kernel
theorem dX11_runnerOf_29 : decode cX11_runnerOf 29 = .ok (.aload_n 0, 1) := by decide +kernel
theorem dX11_runnerOf_30 : decode cX11_runnerOf 30 = .ok (.iconst 2, 1) := by decide +kernel
theorem dX11_runnerOf_31 : decode cX11_runnerOf 31 = .ok (.invokevirtual 56, 3) := by decide +kernel
theorem dX11_runnerOf_34 : decode cX11_runnerOf 34 = .ok (.ireturn, 1) := by decide +kernel
theorem dX11_runnerOf_35 : decode cX11_runnerOf 35 = .ok (.aload_n 0, 1) := by decide +kernel
theorem dX11_runnerOf_36 : decode cX11_runnerOf 36 = .ok (.invokevirtual 159, 3) := by decide +kernel
theorem dX11_runnerOf_39 : decode cX11_runnerOf 39 = .ok (.iconst 0, 1) := by decide +kernel
theorem dX11_runnerOf_40 : decode cX11_runnerOf 40 = .ok (.istore_n 2, 1) := by decide +kernel
theorem dX11_runnerOf_41 : decode cX11_runnerOf 41 = .ok (.iconst (-1), 1) := by decide +kernel
theorem dX11_runnerOf_42 : decode cX11_runnerOf 42 = .ok (.istore_n 3, 1) := by decide +kernel
theorem dX11_runnerOf_43 : decode cX11_runnerOf 43 = .ok (.iconst 0, 1) := by decide +kernel
theorem dX11_runnerOf_44 : decode cX11_runnerOf 44 = .ok (.istore 4, 2) := by decide +kernel
theorem dX11_runnerOf_46 : decode cX11_runnerOf 46 = .ok (.iload 4, 2) := by decide +kernel
theorem dX11_runnerOf_48 : decode cX11_runnerOf 48 = .ok (.iload_n 1, 1) := by decide +kernel
theorem dX11_runnerOf_49 : decode cX11_runnerOf 49 = .ok (.if_icmp .gt 40, 3) := by decide +kernel
theorem dX11_runnerOf_52 : decode cX11_runnerOf 52 = .ok (.iconst 0, 1) := by decide +kernel
theorem dX11_runnerOf_53 : decode cX11_runnerOf 53 = .ok (.istore_n 3, 1) := by decide +kernel
theorem dX11_runnerOf_54 : decode cX11_runnerOf 54 = .ok (.aload_n 0, 1) := by decide +kernel
theorem dX11_runnerOf_55 : decode cX11_runnerOf 55 = .ok (.iload_n 2, 1) := by decide +kernel
theorem dX11_runnerOf_56 : decode cX11_runnerOf 56 = .ok (.iload 4, 2) := by decide +kernel
theorem dX11_runnerOf_58 : decode cX11_runnerOf 58 = .ok (.iload_n 3, 1) := by decide +kernel
theorem dX11_runnerOf_59 : decode cX11_runnerOf 59 = .ok (.invokevirtual 155, 3) := by decide +kernel
theorem dX11_runnerOf_62 : decode cX11_runnerOf 62 = .ok (.aload_n 0, 1) := by decide +kernel
theorem dX11_runnerOf_63 : decode cX11_runnerOf 63 = .ok (.getfield 36, 3) := by decide +kernel
theorem dX11_runnerOf_66 : decode cX11_runnerOf 66 = .ok (.iload_n 2, 1) := by decide +kernel
theorem dX11_runnerOf_67 : decode cX11_runnerOf 67 = .ok (.iaload, 1) := by decide +kernel
theorem dX11_runnerOf_68 : decode cX11_runnerOf 68 = .ok (.if_icmp .eq 9, 3) := by decide +kernel
theorem dX11_runnerOf_71 : decode cX11_runnerOf 71 = .ok (.iinc 3 1, 3) := by decide +kernel
theorem dX11_runnerOf_74 : decode cX11_runnerOf 74 = .ok (.goto (-20), 3) := by decide +kernel
theorem dX11_runnerOf_77 : decode cX11_runnerOf 77 = .ok (.iload_n 2, 1) := by decide +kernel
theorem dX11_runnerOf_78 : decode cX11_runnerOf 78 = .ok (.iconst 1, 1) := by decide +kernel
theorem dX11_runnerOf_79 : decode cX11_runnerOf 79 = .ok (.iload_n 3, 1) := by decide +kernel
theorem dX11_runnerOf_80 : decode cX11_runnerOf 80 = .ok (.ishl, 1) := by decide +kernel
theorem dX11_runnerOf_81 : decode cX11_runnerOf 81 = .ok (.ior, 1) := by decide +kernel
theorem dX11_runnerOf_82 : decode cX11_runnerOf 82 = .ok (.istore_n 2, 1) := by decide +kernel
theorem dX11_runnerOf_83 : decode cX11_runnerOf 83 = .ok (.iinc 4 1, 3) := by decide +kernel
theorem dX11_runnerOf_86 : decode cX11_runnerOf 86 = .ok (.goto (-40), 3) := by decide +kernel
theorem dX11_runnerOf_89 : decode cX11_runnerOf 89 = .ok (.aload_n 0, 1) := by decide +kernel
theorem dX11_runnerOf_90 : decode cX11_runnerOf 90 = .ok (.iload_n 3, 1) := by decide +kernel
theorem dX11_runnerOf_91 : decode cX11_runnerOf 91 = .ok (.invokevirtual 60, 3) := by decide +kernel
theorem dX11_runnerOf_94 : decode cX11_runnerOf 94 = .ok (.ireturn, 1) := by decide +kernel
theorem dX11_together_0 : decode cX11_together 0 = .ok (.iconst 0, 1) := by decide +kernel
theorem dX11_together_1 : decode cX11_together 1 = .ok (.istore_n 2, 1) := by decide +kernel
theorem dX11_together_2 : decode cX11_together 2 = .ok (.iconst 0, 1) := by decide +kernel
theorem dX11_together_3 : decode cX11_together 3 = .ok (.istore_n 3, 1) := by decide +kernel
theorem dX11_together_4 : decode cX11_together 4 = .ok (.iload_n 3, 1) := by decide +kernel
theorem dX11_together_5 : decode cX11_together 5 = .ok (.aload_n 0, 1) := by decide +kernel
theorem dX11_together_6 : decode cX11_together 6 = .ok (.getfield 7, 3) := by decide +kernel
theorem dX11_together_9 : decode cX11_together 9 = .ok (.iconst 2, 1) := by decide +kernel
theorem dX11_together_10 : decode cX11_together 10 = .ok (.iaload, 1) := by decide +kernel
theorem dX11_together_11 : decode cX11_together 11 = .ok (.if_icmp .ge 34, 3) := by decide +kernel
theorem dX11_together_14 : decode cX11_together 14 = .ok (.iload_n 2, 1) := by decide +kernel
theorem dX11_together_15 : decode cX11_together 15 = .ok (.iload_n 1, 1) := by decide +kernel
theorem dX11_together_16 : decode cX11_together 16 = .ok (.iload_n 3, 1) := by decide +kernel
theorem dX11_together_17 : decode cX11_together 17 = .ok (.ishr, 1) := by decide +kernel
theorem dX11_together_18 : decode cX11_together 18 = .ok (.iconst 1, 1) := by decide +kernel
theorem dX11_together_19 : decode cX11_together 19 = .ok (.iand, 1) := by decide +kernel
theorem dX11_together_20 : decode cX11_together 20 = .ok (.iconst 1, 1) := by decide +kernel
theorem dX11_together_21 : decode cX11_together 21 = .ok (.if_icmp .ne 15, 3) := by decide +kernel
theorem dX11_together_24 : decode cX11_together 24 = .ok (.sipush 168, 3) := by decide +kernel
theorem dX11_together_27 : decode cX11_together 27 = .ok (.aload_n 0, 1) := by decide +kernel
theorem dX11_together_28 : decode cX11_together 28 = .ok (.iload_n 3, 1) := by decide +kernel
theorem dX11_together_29 : decode cX11_together 29 = .ok (.invokevirtual 92, 3) := by decide +kernel
theorem dX11_together_32 : decode cX11_together 32 = .ok (.idiv, 1) := by decide +kernel
theorem dX11_together_33 : decode cX11_together 33 = .ok (.goto 4, 3) := by decide +kernel
theorem dX11_together_36 : decode cX11_together 36 = .ok (.iconst 0, 1) := by decide +kernel
theorem dX11_together_37 : decode cX11_together 37 = .ok (.iadd, 1) := by decide +kernel
theorem dX11_together_38 : decode cX11_together 38 = .ok (.istore_n 2, 1) := by decide +kernel
theorem dX11_together_39 : decode cX11_together 39 = .ok (.iinc 3 1, 3) := by decide +kernel
theorem dX11_together_42 : decode cX11_together 42 = .ok (.goto (-38), 3) := by decide +kernel
theorem dX11_together_45 : decode cX11_together 45 = .ok (.iload_n 2, 1) := by decide +kernel
theorem dX11_together_46 : decode cX11_together 46 = .ok (.ireturn, 1) := by decide +kernel
theorem dX11_fewestFor_0 : decode cX11_fewestFor 0 = .ok (.iload_n 1, 1) := by decide +kernel
theorem dX11_fewestFor_1 : decode cX11_fewestFor 1 = .ok (.iconst 1, 1) := by decide +kernel
theorem dX11_fewestFor_2 : decode cX11_fewestFor 2 = .ok (.sipush 999, 3) := by decide +kernel
theorem dX11_fewestFor_5 : decode cX11_fewestFor 5 = .ok (.invokestatic 52, 3) := by decide +kernel
theorem dX11_fewestFor_8 : decode cX11_fewestFor 8 = .ok (.ifCond .ne 9, 3) := by decide +kernel
theorem dX11_fewestFor_11 : decode cX11_fewestFor 11 = .ok (.aload_n 0, 1) := by decide +kernel
theorem dX11_fewestFor_12 : decode cX11_fewestFor 12 = .ok (.iconst 1, 1) := by decide +kernel
theorem dX11_fewestFor_13 : decode cX11_fewestFor 13 = .ok (.invokevirtual 56, 3) := by decide +kernel
theorem dX11_fewestFor_16 : decode cX11_fewestFor 16 = .ok (.ireturn, 1) := by decide +kernel
theorem dX11_fewestFor_17 : decode cX11_fewestFor 17 = .ok (.bipush 9, 2) := by decide +kernel
theorem dX11_fewestFor_19 : decode cX11_fewestFor 19 = .ok (.istore_n 2, 1) := by decide +kernel
theorem dX11_fewestFor_20 : decode cX11_fewestFor 20 = .ok (.iconst 0, 1) := by decide +kernel
theorem dX11_fewestFor_21 : decode cX11_fewestFor 21 = .ok (.istore_n 3, 1) := by decide +kernel
theorem dX11_fewestFor_22 : decode cX11_fewestFor 22 = .ok (.iload_n 3, 1) := by decide +kernel
theorem dX11_fewestFor_23 : decode cX11_fewestFor 23 = .ok (.iconst 1, 1) := by decide +kernel
theorem dX11_fewestFor_24 : decode cX11_fewestFor 24 = .ok (.aload_n 0, 1) := by decide +kernel
theorem dX11_fewestFor_25 : decode cX11_fewestFor 25 = .ok (.getfield 7, 3) := by decide +kernel
theorem dX11_fewestFor_28 : decode cX11_fewestFor 28 = .ok (.iconst 2, 1) := by decide +kernel
theorem dX11_fewestFor_29 : decode cX11_fewestFor 29 = .ok (.iaload, 1) := by decide +kernel
theorem dX11_fewestFor_30 : decode cX11_fewestFor 30 = .ok (.ishl, 1) := by decide +kernel
theorem dX11_fewestFor_31 : decode cX11_fewestFor 31 = .ok (.if_icmp .ge 35, 3) := by decide +kernel
theorem dX11_fewestFor_34 : decode cX11_fewestFor 34 = .ok (.aload_n 0, 1) := by decide +kernel
theorem dX11_fewestFor_35 : decode cX11_fewestFor 35 = .ok (.iload_n 3, 1) := by decide +kernel
theorem dX11_fewestFor_36 : decode cX11_fewestFor 36 = .ok (.invokevirtual 165, 3) := by decide +kernel
theorem dX11_fewestFor_39 : decode cX11_fewestFor 39 = .ok (.iload_n 1, 1) := by decide +kernel
theorem dX11_fewestFor_40 : decode cX11_fewestFor 40 = .ok (.if_icmp .lt 18, 3) := by decide +kernel
theorem dX11_fewestFor_43 : decode cX11_fewestFor 43 = .ok (.iload_n 3, 1) := by decide +kernel
theorem dX11_fewestFor_44 : decode cX11_fewestFor 44 = .ok (.invokestatic 152, 3) := by decide +kernel
theorem dX11_fewestFor_47 : decode cX11_fewestFor 47 = .ok (.iload_n 2, 1) := by decide +kernel
theorem dX11_fewestFor_48 : decode cX11_fewestFor 48 = .ok (.if_icmp .ge 10, 3) := by decide +kernel
theorem dX11_fewestFor_51 : decode cX11_fewestFor 51 = .ok (.iload_n 3, 1) := by decide +kernel
theorem dX11_fewestFor_52 : decode cX11_fewestFor 52 = .ok (.invokestatic 152, 3) := by decide +kernel
theorem dX11_fewestFor_55 : decode cX11_fewestFor 55 = .ok (.goto 4, 3) := by decide +kernel
theorem dX11_fewestFor_58 : decode cX11_fewestFor 58 = .ok (.iload_n 2, 1) := by decide +kernel
theorem dX11_fewestFor_59 : decode cX11_fewestFor 59 = .ok (.istore_n 2, 1) := by decide +kernel
theorem dX11_fewestFor_60 : decode cX11_fewestFor 60 = .ok (.iinc 3 1, 3) := by decide +kernel
theorem dX11_fewestFor_63 : decode cX11_fewestFor 63 = .ok (.goto (-41), 3) := by decide +kernel
theorem dX11_fewestFor_66 : decode cX11_fewestFor 66 = .ok (.iload_n 2, 1) := by decide +kernel
theorem dX11_fewestFor_67 : decode cX11_fewestFor 67 = .ok (.bipush 8, 2) := by decide +kernel
theorem dX11_fewestFor_69 : decode cX11_fewestFor 69 = .ok (.if_icmp .le 11, 3) := by decide +kernel
theorem dX11_fewestFor_72 : decode cX11_fewestFor 72 = .ok (.aload_n 0, 1) := by decide +kernel
theorem dX11_fewestFor_73 : decode cX11_fewestFor 73 = .ok (.iconst 2, 1) := by decide +kernel
theorem dX11_fewestFor_74 : decode cX11_fewestFor 74 = .ok (.invokevirtual 56, 3) := by decide +kernel
theorem dX11_fewestFor_77 : decode cX11_fewestFor 77 = .ok (.goto 8, 3) := by decide +kernel
theorem dX11_fewestFor_80 : decode cX11_fewestFor 80 = .ok (.aload_n 0, 1) := by decide +kernel
theorem dX11_fewestFor_81 : decode cX11_fewestFor 81 = .ok (.iload_n 2, 1) := by decide +kernel
theorem dX11_fewestFor_82 : decode cX11_fewestFor 82 = .ok (.invokevirtual 60, 3) := by decide +kernel
theorem dX11_fewestFor_85 : decode cX11_fewestFor 85 = .ok (.ireturn, 1) := by decide +kernel
theorem dX11_fewestForBySets_0 : decode cX11_fewestForBySets 0 = .ok (.aload_n 0, 1) := by decide +kernel
theorem dX11_fewestForBySets_1 : decode cX11_fewestForBySets 1 = .ok (.iload_n 1, 1) := by decide +kernel
theorem dX11_fewestForBySets_2 : decode cX11_fewestForBySets 2 = .ok (.invokevirtual 168, 3) := by decide +kernel
theorem dX11_fewestForBySets_5 : decode cX11_fewestForBySets 5 = .ok (.ireturn, 1) := by decide +kernel
theorem dX11_exactSets_0 : decode cX11_exactSets 0 = .ok (.iload_n 1, 1) := by decide +kernel
theorem dX11_exactSets_1 : decode cX11_exactSets 1 = .ok (.iconst 0, 1) := by decide +kernel
theorem dX11_exactSets_2 : decode cX11_exactSets 2 = .ok (.sipush 999, 3) := by decide +kernel
theorem dX11_exactSets_5 : decode cX11_exactSets 5 = .ok (.invokestatic 52, 3) := by decide +kernel
theorem dX11_exactSets_8 : decode cX11_exactSets 8 = .ok (.ifCond .ne 9, 3) := by decide +kernel
theorem dX11_exactSets_11 : decode cX11_exactSets 11 = .ok (.aload_n 0, 1) := by decide +kernel
theorem dX11_exactSets_12 : decode cX11_exactSets 12 = .ok (.iconst 1, 1) := by decide +kernel
theorem dX11_exactSets_13 : decode cX11_exactSets 13 = .ok (.invokevirtual 56, 3) := by decide +kernel
theorem dX11_exactSets_16 : decode cX11_exactSets 16 = .ok (.ireturn, 1) := by decide +kernel
theorem dX11_exactSets_17 : decode cX11_exactSets 17 = .ok (.iconst 0, 1) := by decide +kernel
theorem dX11_exactSets_18 : decode cX11_exactSets 18 = .ok (.istore_n 2, 1) := by decide +kernel
theorem dX11_exactSets_19 : decode cX11_exactSets 19 = .ok (.iconst 0, 1) := by decide +kernel
theorem dX11_exactSets_20 : decode cX11_exactSets 20 = .ok (.istore_n 3, 1) := by decide +kernel
theorem dX11_exactSets_21 : decode cX11_exactSets 21 = .ok (.iload_n 3, 1) := by decide +kernel
theorem dX11_exactSets_22 : decode cX11_exactSets 22 = .ok (.iconst 1, 1) := by decide +kernel
theorem dX11_exactSets_23 : decode cX11_exactSets 23 = .ok (.aload_n 0, 1) := by decide +kernel
theorem dX11_exactSets_24 : decode cX11_exactSets 24 = .ok (.getfield 7, 3) := by decide +kernel
theorem dX11_exactSets_27 : decode cX11_exactSets 27 = .ok (.iconst 2, 1) := by decide +kernel
theorem dX11_exactSets_28 : decode cX11_exactSets 28 = .ok (.iaload, 1) := by decide +kernel
theorem dX11_exactSets_29 : decode cX11_exactSets 29 = .ok (.ishl, 1) := by decide +kernel
theorem dX11_exactSets_30 : decode cX11_exactSets 30 = .ok (.if_icmp .ge 26, 3) := by decide +kernel
theorem dX11_exactSets_33 : decode cX11_exactSets 33 = .ok (.iload_n 2, 1) := by decide +kernel
theorem dX11_exactSets_34 : decode cX11_exactSets 34 = .ok (.aload_n 0, 1) := by decide +kernel
theorem dX11_exactSets_35 : decode cX11_exactSets 35 = .ok (.iload_n 3, 1) := by decide +kernel
theorem dX11_exactSets_36 : decode cX11_exactSets 36 = .ok (.invokevirtual 165, 3) := by decide +kernel
theorem dX11_exactSets_39 : decode cX11_exactSets 39 = .ok (.iload_n 1, 1) := by decide +kernel
theorem dX11_exactSets_40 : decode cX11_exactSets 40 = .ok (.if_icmp .ne 7, 3) := by decide +kernel
theorem dX11_exactSets_43 : decode cX11_exactSets 43 = .ok (.iconst 1, 1) := by decide +kernel
theorem dX11_exactSets_44 : decode cX11_exactSets 44 = .ok (.goto 4, 3) := by decide +kernel
theorem dX11_exactSets_47 : decode cX11_exactSets 47 = .ok (.iconst 0, 1) := by decide +kernel
theorem dX11_exactSets_48 : decode cX11_exactSets 48 = .ok (.iadd, 1) := by decide +kernel
theorem dX11_exactSets_49 : decode cX11_exactSets 49 = .ok (.istore_n 2, 1) := by decide +kernel
theorem dX11_exactSets_50 : decode cX11_exactSets 50 = .ok (.iinc 3 1, 3) := by decide +kernel
theorem dX11_exactSets_53 : decode cX11_exactSets 53 = .ok (.goto (-32), 3) := by decide +kernel
theorem dX11_exactSets_56 : decode cX11_exactSets 56 = .ok (.aload_n 0, 1) := by decide +kernel
theorem dX11_exactSets_57 : decode cX11_exactSets 57 = .ok (.iload_n 2, 1) := by decide +kernel
theorem dX11_exactSets_58 : decode cX11_exactSets 58 = .ok (.invokevirtual 60, 3) := by decide +kernel
theorem dX11_exactSets_61 : decode cX11_exactSets 61 = .ok (.ireturn, 1) := by decide +kernel
theorem dX11_meanAmplitude_0 : decode cX11_meanAmplitude 0 = .ok (.iconst 0, 1) := by decide +kernel
theorem dX11_meanAmplitude_1 : decode cX11_meanAmplitude 1 = .ok (.istore_n 1, 1) := by decide +kernel
theorem dX11_meanAmplitude_2 : decode cX11_meanAmplitude 2 = .ok (.iconst 0, 1) := by decide +kernel
theorem dX11_meanAmplitude_3 : decode cX11_meanAmplitude 3 = .ok (.istore_n 2, 1) := by decide +kernel
theorem dX11_meanAmplitude_4 : decode cX11_meanAmplitude 4 = .ok (.iconst 0, 1) := by decide +kernel
theorem dX11_meanAmplitude_5 : decode cX11_meanAmplitude 5 = .ok (.istore_n 3, 1) := by decide +kernel
theorem dX11_meanAmplitude_6 : decode cX11_meanAmplitude 6 = .ok (.iload_n 3, 1) := by decide +kernel
theorem dX11_meanAmplitude_7 : decode cX11_meanAmplitude 7 = .ok (.aload_n 0, 1) := by decide +kernel
theorem dX11_meanAmplitude_8 : decode cX11_meanAmplitude 8 = .ok (.getfield 7, 3) := by decide +kernel
theorem dX11_meanAmplitude_11 : decode cX11_meanAmplitude 11 = .ok (.iconst 2, 1) := by decide +kernel
theorem dX11_meanAmplitude_12 : decode cX11_meanAmplitude 12 = .ok (.iaload, 1) := by decide +kernel
theorem dX11_meanAmplitude_13 : decode cX11_meanAmplitude 13 = .ok (.if_icmp .ge 37, 3) := by decide +kernel
theorem dX11_meanAmplitude_16 : decode cX11_meanAmplitude 16 = .ok (.iload_n 1, 1) := by decide +kernel
theorem dX11_meanAmplitude_17 : decode cX11_meanAmplitude 17 = .ok (.aload_n 0, 1) := by decide +kernel
theorem dX11_meanAmplitude_18 : decode cX11_meanAmplitude 18 = .ok (.getfield 7, 3) := by decide +kernel
theorem dX11_meanAmplitude_21 : decode cX11_meanAmplitude 21 = .ok (.bipush 12, 2) := by decide +kernel
theorem dX11_meanAmplitude_23 : decode cX11_meanAmplitude 23 = .ok (.iload_n 3, 1) := by decide +kernel
theorem dX11_meanAmplitude_24 : decode cX11_meanAmplitude 24 = .ok (.iadd, 1) := by decide +kernel
theorem dX11_meanAmplitude_25 : decode cX11_meanAmplitude 25 = .ok (.iaload, 1) := by decide +kernel
theorem dX11_meanAmplitude_26 : decode cX11_meanAmplitude 26 = .ok (.iadd, 1) := by decide +kernel
theorem dX11_meanAmplitude_27 : decode cX11_meanAmplitude 27 = .ok (.istore_n 1, 1) := by decide +kernel
theorem dX11_meanAmplitude_28 : decode cX11_meanAmplitude 28 = .ok (.iload_n 2, 1) := by decide +kernel
theorem dX11_meanAmplitude_29 : decode cX11_meanAmplitude 29 = .ok (.aload_n 0, 1) := by decide +kernel
theorem dX11_meanAmplitude_30 : decode cX11_meanAmplitude 30 = .ok (.iload_n 3, 1) := by decide +kernel
theorem dX11_meanAmplitude_31 : decode cX11_meanAmplitude 31 = .ok (.invokevirtual 76, 3) := by decide +kernel
theorem dX11_meanAmplitude_34 : decode cX11_meanAmplitude 34 = .ok (.ifCond .eq 7, 3) := by decide +kernel
theorem dX11_meanAmplitude_37 : decode cX11_meanAmplitude 37 = .ok (.iconst 0, 1) := by decide +kernel
theorem dX11_meanAmplitude_38 : decode cX11_meanAmplitude 38 = .ok (.goto 4, 3) := by decide +kernel
theorem dX11_meanAmplitude_41 : decode cX11_meanAmplitude 41 = .ok (.iconst 1, 1) := by decide +kernel
theorem dX11_meanAmplitude_42 : decode cX11_meanAmplitude 42 = .ok (.iadd, 1) := by decide +kernel
theorem dX11_meanAmplitude_43 : decode cX11_meanAmplitude 43 = .ok (.istore_n 2, 1) := by decide +kernel
theorem dX11_meanAmplitude_44 : decode cX11_meanAmplitude 44 = .ok (.iinc 3 1, 3) := by decide +kernel
theorem dX11_meanAmplitude_47 : decode cX11_meanAmplitude 47 = .ok (.goto (-41), 3) := by decide +kernel
theorem dX11_meanAmplitude_50 : decode cX11_meanAmplitude 50 = .ok (.aload_n 0, 1) := by decide +kernel
theorem dX11_meanAmplitude_51 : decode cX11_meanAmplitude 51 = .ok (.iload_n 2, 1) := by decide +kernel
theorem dX11_meanAmplitude_52 : decode cX11_meanAmplitude 52 = .ok (.ifCond .ne 7, 3) := by decide +kernel
theorem dX11_meanAmplitude_55 : decode cX11_meanAmplitude 55 = .ok (.iconst 1, 1) := by decide +kernel
theorem dX11_meanAmplitude_56 : decode cX11_meanAmplitude 56 = .ok (.goto 4, 3) := by decide +kernel
theorem dX11_meanAmplitude_59 : decode cX11_meanAmplitude 59 = .ok (.iconst 0, 1) := by decide +kernel
theorem dX11_meanAmplitude_60 : decode cX11_meanAmplitude 60 = .ok (.putfield 42, 3) := by decide +kernel
theorem dX11_meanAmplitude_63 : decode cX11_meanAmplitude 63 = .ok (.aload_n 0, 1) := by decide +kernel
theorem dX11_meanAmplitude_64 : decode cX11_meanAmplitude 64 = .ok (.getfield 42, 3) := by decide +kernel
theorem dX11_meanAmplitude_67 : decode cX11_meanAmplitude 67 = .ok (.ifCond .ne 11, 3) := by decide +kernel
theorem dX11_meanAmplitude_70 : decode cX11_meanAmplitude 70 = .ok (.iload_n 1, 1) := by decide +kernel
theorem dX11_meanAmplitude_71 : decode cX11_meanAmplitude 71 = .ok (.i2d, 1) := by decide +kernel
theorem dX11_meanAmplitude_72 : decode cX11_meanAmplitude 72 = .ok (.iload_n 2, 1) := by decide +kernel
theorem dX11_meanAmplitude_73 : decode cX11_meanAmplitude 73 = .ok (.i2d, 1) := by decide +kernel
theorem dX11_meanAmplitude_74 : decode cX11_meanAmplitude 74 = .ok (.ddiv, 1) := by decide +kernel
theorem dX11_meanAmplitude_75 : decode cX11_meanAmplitude 75 = .ok (.goto 4, 3) := by decide +kernel
theorem dX11_meanAmplitude_78 : decode cX11_meanAmplitude 78 = .ok (.dconst 0, 1) := by decide +kernel
theorem dX11_meanAmplitude_79 : decode cX11_meanAmplitude 79 = .ok (.dreturn, 1) := by decide +kernel
theorem dX11_writes_0 : decode cX11_writes 0 = .ok (.aload_n 0, 1) := by decide +kernel
theorem dX11_writes_1 : decode cX11_writes 1 = .ok (.getfield 33, 3) := by decide +kernel
theorem dX11_writes_4 : decode cX11_writes 4 = .ok (.aload_n 0, 1) := by decide +kernel
theorem dX11_writes_5 : decode cX11_writes 5 = .ok (.getfield 171, 3) := by decide +kernel
theorem dX11_writes_8 : decode cX11_writes 8 = .ok (.iload_n 1, 1) := by decide +kernel
theorem dX11_writes_9 : decode cX11_writes 9 = .ok (.i2c, 1) := by decide +kernel
theorem dX11_writes_10 : decode cX11_writes 10 = .ok (.castore, 1) := by decide +kernel
theorem dX11_writes_11 : decode cX11_writes 11 = .ok (.aload_n 0, 1) := by decide +kernel
theorem dX11_writes_12 : decode cX11_writes 12 = .ok (.dup, 1) := by decide +kernel
theorem dX11_writes_13 : decode cX11_writes 13 = .ok (.getfield 171, 3) := by decide +kernel
theorem dX11_writes_16 : decode cX11_writes 16 = .ok (.iconst 1, 1) := by decide +kernel
theorem dX11_writes_17 : decode cX11_writes 17 = .ok (.iadd, 1) := by decide +kernel
theorem dX11_writes_18 : decode cX11_writes 18 = .ok (.putfield 171, 3) := by decide +kernel
theorem dX11_writes_21 : decode cX11_writes 21 = .ok (.return_, 1) := by decide +kernel
theorem dX11_writesNumber_0 : decode cX11_writesNumber 0 = .ok (.ldc 174, 2) := by decide +kernel
theorem dX11_writesNumber_2 : decode cX11_writesNumber 2 = .ok (.istore_n 2, 1) := by decide +kernel
theorem dX11_writesNumber_3 : decode cX11_writesNumber 3 = .ok (.iload_n 2, 1) := by decide +kernel
theorem dX11_writesNumber_4 : decode cX11_writesNumber 4 = .ok (.iconst 1, 1) := by decide +kernel
theorem dX11_writesNumber_5 : decode cX11_writesNumber 5 = .ok (.if_icmp .le 16, 3) := by decide +kernel
theorem dX11_writesNumber_8 : decode cX11_writesNumber 8 = .ok (.iload_n 1, 1) := by decide +kernel
theorem dX11_writesNumber_9 : decode cX11_writesNumber 9 = .ok (.iload_n 2, 1) := by decide +kernel
theorem dX11_writesNumber_10 : decode cX11_writesNumber 10 = .ok (.if_icmp .ge 11, 3) := by decide +kernel
theorem dX11_writesNumber_13 : decode cX11_writesNumber 13 = .ok (.iload_n 2, 1) := by decide +kernel
theorem dX11_writesNumber_14 : decode cX11_writesNumber 14 = .ok (.bipush 10, 2) := by decide +kernel
theorem dX11_writesNumber_16 : decode cX11_writesNumber 16 = .ok (.idiv, 1) := by decide +kernel
theorem dX11_writesNumber_17 : decode cX11_writesNumber 17 = .ok (.istore_n 2, 1) := by decide +kernel
theorem dX11_writesNumber_18 : decode cX11_writesNumber 18 = .ok (.goto (-15), 3) := by decide +kernel
theorem dX11_writesNumber_21 : decode cX11_writesNumber 21 = .ok (.iload_n 2, 1) := by decide +kernel
theorem dX11_writesNumber_22 : decode cX11_writesNumber 22 = .ok (.ifCond .le 24, 3) := by decide +kernel
theorem dX11_writesNumber_25 : decode cX11_writesNumber 25 = .ok (.aload_n 0, 1) := by decide +kernel
theorem dX11_writesNumber_26 : decode cX11_writesNumber 26 = .ok (.bipush 48, 2) := by decide +kernel
theorem dX11_writesNumber_28 : decode cX11_writesNumber 28 = .ok (.iload_n 1, 1) := by decide +kernel
theorem dX11_writesNumber_29 : decode cX11_writesNumber 29 = .ok (.iload_n 2, 1) := by decide +kernel
theorem dX11_writesNumber_30 : decode cX11_writesNumber 30 = .ok (.idiv, 1) := by decide +kernel
theorem dX11_writesNumber_31 : decode cX11_writesNumber 31 = .ok (.bipush 10, 2) := by decide +kernel
theorem dX11_writesNumber_33 : decode cX11_writesNumber 33 = .ok (.irem, 1) := by decide +kernel
theorem dX11_writesNumber_34 : decode cX11_writesNumber 34 = .ok (.iadd, 1) := by decide +kernel
theorem dX11_writesNumber_35 : decode cX11_writesNumber 35 = .ok (.invokevirtual 175, 3) := by decide +kernel
theorem dX11_writesNumber_38 : decode cX11_writesNumber 38 = .ok (.iload_n 2, 1) := by decide +kernel
theorem dX11_writesNumber_39 : decode cX11_writesNumber 39 = .ok (.bipush 10, 2) := by decide +kernel
theorem dX11_writesNumber_41 : decode cX11_writesNumber 41 = .ok (.idiv, 1) := by decide +kernel
theorem dX11_writesNumber_42 : decode cX11_writesNumber 42 = .ok (.istore_n 2, 1) := by decide +kernel
theorem dX11_writesNumber_43 : decode cX11_writesNumber 43 = .ok (.goto (-22), 3) := by decide +kernel
theorem dX11_writesNumber_46 : decode cX11_writesNumber 46 = .ok (.return_, 1) := by decide +kernel
theorem dX11_writesRest_0 : decode cX11_writesRest 0 = .ok (.aload_n 0, 1) := by decide +kernel
theorem dX11_writesRest_1 : decode cX11_writesRest 1 = .ok (.bipush 114, 2) := by decide +kernel
theorem dX11_writesRest_3 : decode cX11_writesRest 3 = .ok (.invokevirtual 175, 3) := by decide +kernel
theorem dX11_writesRest_6 : decode cX11_writesRest 6 = .ok (.aload_n 0, 1) := by decide +kernel
theorem dX11_writesRest_7 : decode cX11_writesRest 7 = .ok (.bipush 101, 2) := by decide +kernel
theorem dX11_writesRest_9 : decode cX11_writesRest 9 = .ok (.invokevirtual 175, 3) := by decide +kernel
theorem dX11_writesRest_12 : decode cX11_writesRest 12 = .ok (.aload_n 0, 1) := by decide +kernel
theorem dX11_writesRest_13 : decode cX11_writesRest 13 = .ok (.bipush 115, 2) := by decide +kernel
theorem dX11_writesRest_15 : decode cX11_writesRest 15 = .ok (.invokevirtual 175, 3) := by decide +kernel
theorem dX11_writesRest_18 : decode cX11_writesRest 18 = .ok (.aload_n 0, 1) := by decide +kernel
theorem dX11_writesRest_19 : decode cX11_writesRest 19 = .ok (.bipush 116, 2) := by decide +kernel
theorem dX11_writesRest_21 : decode cX11_writesRest 21 = .ok (.invokevirtual 175, 3) := by decide +kernel
theorem dX11_writesRest_24 : decode cX11_writesRest 24 = .ok (.return_, 1) := by decide +kernel
theorem dX11_writeCard_0 : decode cX11_writeCard 0 = .ok (.aload_n 0, 1) := by decide +kernel
theorem dX11_writeCard_1 : decode cX11_writeCard 1 = .ok (.iload_n 1, 1) := by decide +kernel
theorem dX11_writeCard_2 : decode cX11_writeCard 2 = .ok (.invokevirtual 72, 3) := by decide +kernel
theorem dX11_writeCard_5 : decode cX11_writeCard 5 = .ok (.ifCond .ne 9, 3) := by decide +kernel
theorem dX11_writeCard_8 : decode cX11_writeCard 8 = .ok (.aload_n 0, 1) := by decide +kernel
theorem dX11_writeCard_9 : decode cX11_writeCard 9 = .ok (.iconst 1, 1) := by decide +kernel
theorem dX11_writeCard_10 : decode cX11_writeCard 10 = .ok (.invokevirtual 56, 3) := by decide +kernel
theorem dX11_writeCard_13 : decode cX11_writeCard 13 = .ok (.ireturn, 1) := by decide +kernel
theorem dX11_writeCard_14 : decode cX11_writeCard 14 = .ok (.aload_n 0, 1) := by decide +kernel
theorem dX11_writeCard_15 : decode cX11_writeCard 15 = .ok (.iconst 0, 1) := by decide +kernel
theorem dX11_writeCard_16 : decode cX11_writeCard 16 = .ok (.putfield 171, 3) := by decide +kernel
theorem dX11_writeCard_19 : decode cX11_writeCard 19 = .ok (.aload_n 0, 1) := by decide +kernel
theorem dX11_writeCard_20 : decode cX11_writeCard 20 = .ok (.iload_n 1, 1) := by decide +kernel
theorem dX11_writeCard_21 : decode cX11_writeCard 21 = .ok (.invokevirtual 179, 3) := by decide +kernel
theorem dX11_writeCard_24 : decode cX11_writeCard 24 = .ok (.aload_n 0, 1) := by decide +kernel
theorem dX11_writeCard_25 : decode cX11_writeCard 25 = .ok (.bipush 58, 2) := by decide +kernel
theorem dX11_writeCard_27 : decode cX11_writeCard 27 = .ok (.invokevirtual 175, 3) := by decide +kernel
theorem dX11_writeCard_30 : decode cX11_writeCard 30 = .ok (.aload_n 0, 1) := by decide +kernel
theorem dX11_writeCard_31 : decode cX11_writeCard 31 = .ok (.aload_n 0, 1) := by decide +kernel
theorem dX11_writeCard_32 : decode cX11_writeCard 32 = .ok (.getfield 7, 3) := by decide +kernel
theorem dX11_writeCard_35 : decode cX11_writeCard 35 = .ok (.iconst 4, 1) := by decide +kernel
theorem dX11_writeCard_36 : decode cX11_writeCard 36 = .ok (.iload_n 1, 1) := by decide +kernel
theorem dX11_writeCard_37 : decode cX11_writeCard 37 = .ok (.iadd, 1) := by decide +kernel
theorem dX11_writeCard_38 : decode cX11_writeCard 38 = .ok (.iaload, 1) := by decide +kernel
theorem dX11_writeCard_39 : decode cX11_writeCard 39 = .ok (.invokevirtual 179, 3) := by decide +kernel
theorem dX11_writeCard_42 : decode cX11_writeCard 42 = .ok (.aload_n 0, 1) := by decide +kernel
theorem dX11_writeCard_43 : decode cX11_writeCard 43 = .ok (.bipush 99, 2) := by decide +kernel
theorem dX11_writeCard_45 : decode cX11_writeCard 45 = .ok (.invokevirtual 175, 3) := by decide +kernel
theorem dX11_writeCard_48 : decode cX11_writeCard 48 = .ok (.aload_n 0, 1) := by decide +kernel
theorem dX11_writeCard_49 : decode cX11_writeCard 49 = .ok (.bipush 109, 2) := by decide +kernel
theorem dX11_writeCard_51 : decode cX11_writeCard 51 = .ok (.invokevirtual 175, 3) := by decide +kernel
theorem dX11_writeCard_54 : decode cX11_writeCard 54 = .ok (.aload_n 0, 1) := by decide +kernel
theorem dX11_writeCard_55 : decode cX11_writeCard 55 = .ok (.bipush 32, 2) := by decide +kernel
theorem dX11_writeCard_57 : decode cX11_writeCard 57 = .ok (.invokevirtual 175, 3) := by decide +kernel
theorem dX11_writeCard_60 : decode cX11_writeCard 60 = .ok (.aload_n 0, 1) := by decide +kernel
theorem dX11_writeCard_61 : decode cX11_writeCard 61 = .ok (.iload_n 1, 1) := by decide +kernel
theorem dX11_writeCard_62 : decode cX11_writeCard 62 = .ok (.invokevirtual 76, 3) := by decide +kernel
theorem dX11_writeCard_65 : decode cX11_writeCard 65 = .ok (.ifCond .eq 10, 3) := by decide +kernel
theorem dX11_writeCard_68 : decode cX11_writeCard 68 = .ok (.aload_n 0, 1) := by decide +kernel
theorem dX11_writeCard_69 : decode cX11_writeCard 69 = .ok (.invokevirtual 182, 3) := by decide +kernel
theorem dX11_writeCard_72 : decode cX11_writeCard 72 = .ok (.goto 35, 3) := by decide +kernel
theorem dX11_writeCard_75 : decode cX11_writeCard 75 = .ok (.aload_n 0, 1) := by decide +kernel
theorem dX11_writeCard_76 : decode cX11_writeCard 76 = .ok (.aload_n 0, 1) := by decide +kernel
theorem dX11_writeCard_77 : decode cX11_writeCard 77 = .ok (.getfield 7, 3) := by decide +kernel
theorem dX11_writeCard_80 : decode cX11_writeCard 80 = .ok (.bipush 12, 2) := by decide +kernel
theorem dX11_writeCard_82 : decode cX11_writeCard 82 = .ok (.iload_n 1, 1) := by decide +kernel
theorem dX11_writeCard_83 : decode cX11_writeCard 83 = .ok (.iadd, 1) := by decide +kernel
theorem dX11_writeCard_84 : decode cX11_writeCard 84 = .ok (.iaload, 1) := by decide +kernel
theorem dX11_writeCard_85 : decode cX11_writeCard 85 = .ok (.invokevirtual 179, 3) := by decide +kernel
theorem dX11_writeCard_88 : decode cX11_writeCard 88 = .ok (.aload_n 0, 1) := by decide +kernel
theorem dX11_writeCard_89 : decode cX11_writeCard 89 = .ok (.bipush 64, 2) := by decide +kernel
theorem dX11_writeCard_91 : decode cX11_writeCard 91 = .ok (.invokevirtual 175, 3) := by decide +kernel
theorem dX11_writeCard_94 : decode cX11_writeCard 94 = .ok (.aload_n 0, 1) := by decide +kernel
theorem dX11_writeCard_95 : decode cX11_writeCard 95 = .ok (.aload_n 0, 1) := by decide +kernel
theorem dX11_writeCard_96 : decode cX11_writeCard 96 = .ok (.getfield 7, 3) := by decide +kernel
theorem dX11_writeCard_99 : decode cX11_writeCard 99 = .ok (.bipush 20, 2) := by decide +kernel
theorem dX11_writeCard_101 : decode cX11_writeCard 101 = .ok (.iload_n 1, 1) := by decide +kernel
theorem dX11_writeCard_102 : decode cX11_writeCard 102 = .ok (.iadd, 1) := by decide +kernel
theorem dX11_writeCard_103 : decode cX11_writeCard 103 = .ok (.iaload, 1) := by decide +kernel
theorem dX11_writeCard_104 : decode cX11_writeCard 104 = .ok (.invokevirtual 179, 3) := by decide +kernel
theorem dX11_writeCard_107 : decode cX11_writeCard 107 = .ok (.aload_n 0, 1) := by decide +kernel
theorem dX11_writeCard_108 : decode cX11_writeCard 108 = .ok (.getfield 7, 3) := by decide +kernel
theorem dX11_writeCard_111 : decode cX11_writeCard 111 = .ok (.bipush 36, 2) := by decide +kernel
theorem dX11_writeCard_113 : decode cX11_writeCard 113 = .ok (.aload_n 0, 1) := by decide +kernel
theorem dX11_writeCard_114 : decode cX11_writeCard 114 = .ok (.iload_n 1, 1) := by decide +kernel
theorem dX11_writeCard_115 : decode cX11_writeCard 115 = .ok (.invokevirtual 79, 3) := by decide +kernel
theorem dX11_writeCard_118 : decode cX11_writeCard 118 = .ok (.iadd, 1) := by decide +kernel
theorem dX11_writeCard_119 : decode cX11_writeCard 119 = .ok (.iaload, 1) := by decide +kernel
theorem dX11_writeCard_120 : decode cX11_writeCard 120 = .ok (.ifCond .le 26, 3) := by decide +kernel
theorem dX11_writeCard_123 : decode cX11_writeCard 123 = .ok (.aload_n 0, 1) := by decide +kernel
theorem dX11_writeCard_124 : decode cX11_writeCard 124 = .ok (.getfield 7, 3) := by decide +kernel
theorem dX11_writeCard_127 : decode cX11_writeCard 127 = .ok (.bipush 39, 2) := by decide +kernel
theorem dX11_writeCard_129 : decode cX11_writeCard 129 = .ok (.aload_n 0, 1) := by decide +kernel
theorem dX11_writeCard_130 : decode cX11_writeCard 130 = .ok (.iload_n 1, 1) := by decide +kernel
theorem dX11_writeCard_131 : decode cX11_writeCard 131 = .ok (.invokevirtual 79, 3) := by decide +kernel
theorem dX11_writeCard_134 : decode cX11_writeCard 134 = .ok (.iadd, 1) := by decide +kernel
theorem dX11_writeCard_135 : decode cX11_writeCard 135 = .ok (.iaload, 1) := by decide +kernel
theorem dX11_writeCard_136 : decode cX11_writeCard 136 = .ok (.iload_n 1, 1) := by decide +kernel
theorem dX11_writeCard_137 : decode cX11_writeCard 137 = .ok (.if_icmp .ne 9, 3) := by decide +kernel
theorem dX11_writeCard_140 : decode cX11_writeCard 140 = .ok (.aload_n 0, 1) := by decide +kernel
theorem dX11_writeCard_141 : decode cX11_writeCard 141 = .ok (.bipush 42, 2) := by decide +kernel
theorem dX11_writeCard_143 : decode cX11_writeCard 143 = .ok (.invokevirtual 175, 3) := by decide +kernel
theorem dX11_writeCard_146 : decode cX11_writeCard 146 = .ok (.aload_n 0, 1) := by decide +kernel
theorem dX11_writeCard_147 : decode cX11_writeCard 147 = .ok (.aload_n 0, 1) := by decide +kernel
theorem dX11_writeCard_148 : decode cX11_writeCard 148 = .ok (.getfield 171, 3) := by decide +kernel
theorem dX11_writeCard_151 : decode cX11_writeCard 151 = .ok (.invokevirtual 60, 3) := by decide +kernel
theorem dX11_writeCard_154 : decode cX11_writeCard 154 = .ok (.ireturn, 1) := by decide +kernel
theorem dX11_cardAt_0 : decode cX11_cardAt 0 = .ok (.aload_n 0, 1) := by decide +kernel
theorem dX11_cardAt_1 : decode cX11_cardAt 1 = .ok (.iload_n 1, 1) := by decide +kernel
theorem dX11_cardAt_2 : decode cX11_cardAt 2 = .ok (.iconst 0, 1) := by decide +kernel
theorem dX11_cardAt_3 : decode cX11_cardAt 3 = .ok (.aload_n 0, 1) := by decide +kernel
theorem dX11_cardAt_4 : decode cX11_cardAt 4 = .ok (.getfield 171, 3) := by decide +kernel
theorem dX11_cardAt_7 : decode cX11_cardAt 7 = .ok (.iconst 1, 1) := by decide +kernel
theorem dX11_cardAt_8 : decode cX11_cardAt 8 = .ok (.isub, 1) := by decide +kernel
theorem dX11_cardAt_9 : decode cX11_cardAt 9 = .ok (.invokestatic 52, 3) := by decide +kernel
theorem dX11_cardAt_12 : decode cX11_cardAt 12 = .ok (.ifCond .eq 7, 3) := by decide +kernel
theorem dX11_cardAt_15 : decode cX11_cardAt 15 = .ok (.iconst 0, 1) := by decide +kernel
theorem dX11_cardAt_16 : decode cX11_cardAt 16 = .ok (.goto 4, 3) := by decide +kernel
theorem dX11_cardAt_19 : decode cX11_cardAt 19 = .ok (.iconst 1, 1) := by decide +kernel
theorem dX11_cardAt_20 : decode cX11_cardAt 20 = .ok (.putfield 42, 3) := by decide +kernel
theorem dX11_cardAt_23 : decode cX11_cardAt 23 = .ok (.aload_n 0, 1) := by decide +kernel
theorem dX11_cardAt_24 : decode cX11_cardAt 24 = .ok (.getfield 42, 3) := by decide +kernel
theorem dX11_cardAt_27 : decode cX11_cardAt 27 = .ok (.ifCond .ne 12, 3) := by decide +kernel
theorem dX11_cardAt_30 : decode cX11_cardAt 30 = .ok (.aload_n 0, 1) := by decide +kernel
theorem dX11_cardAt_31 : decode cX11_cardAt 31 = .ok (.getfield 33, 3) := by decide +kernel
theorem dX11_cardAt_34 : decode cX11_cardAt 34 = .ok (.iload_n 1, 1) := by decide +kernel
theorem dX11_cardAt_35 : decode cX11_cardAt 35 = .ok (.caload, 1) := by decide +kernel
theorem dX11_cardAt_36 : decode cX11_cardAt 36 = .ok (.goto 4, 3) := by decide +kernel
theorem dX11_cardAt_39 : decode cX11_cardAt 39 = .ok (.iconst 0, 1) := by decide +kernel
theorem dX11_cardAt_40 : decode cX11_cardAt 40 = .ok (.ireturn, 1) := by decide +kernel
theorem dX11_type_0 : decode cX11_type 0 = .ok (.iload_n 1, 1) := by decide +kernel
theorem dX11_type_1 : decode cX11_type 1 = .ok (.bipush 32, 2) := by decide +kernel
theorem dX11_type_3 : decode cX11_type 3 = .ok (.bipush 126, 2) := by decide +kernel
theorem dX11_type_5 : decode cX11_type 5 = .ok (.invokestatic 52, 3) := by decide +kernel
theorem dX11_type_8 : decode cX11_type 8 = .ok (.ifCond .ne 9, 3) := by decide +kernel
theorem dX11_type_11 : decode cX11_type 11 = .ok (.aload_n 0, 1) := by decide +kernel
theorem dX11_type_12 : decode cX11_type 12 = .ok (.iconst 1, 1) := by decide +kernel
theorem dX11_type_13 : decode cX11_type 13 = .ok (.invokevirtual 56, 3) := by decide +kernel
theorem dX11_type_16 : decode cX11_type 16 = .ok (.ireturn, 1) := by decide +kernel
theorem dX11_type_17 : decode cX11_type 17 = .ok (.aload_n 0, 1) := by decide +kernel
theorem dX11_type_18 : decode cX11_type 18 = .ok (.getfield 185, 3) := by decide +kernel
theorem dX11_type_21 : decode cX11_type 21 = .ok (.bipush 60, 2) := by decide +kernel
theorem dX11_type_23 : decode cX11_type 23 = .ok (.if_icmp .ne 9, 3) := by decide +kernel
theorem dX11_type_26 : decode cX11_type 26 = .ok (.aload_n 0, 1) := by decide +kernel
theorem dX11_type_27 : decode cX11_type 27 = .ok (.iconst 2, 1) := by decide +kernel
theorem dX11_type_28 : decode cX11_type 28 = .ok (.invokevirtual 56, 3) := by decide +kernel
theorem dX11_type_31 : decode cX11_type 31 = .ok (.ireturn, 1) := by decide +kernel
theorem dX11_type_32 : decode cX11_type 32 = .ok (.aload_n 0, 1) := by decide +kernel
theorem dX11_type_33 : decode cX11_type 33 = .ok (.getfield 22, 3) := by decide +kernel
theorem dX11_type_36 : decode cX11_type 36 = .ok (.aload_n 0, 1) := by decide +kernel
theorem dX11_type_37 : decode cX11_type 37 = .ok (.getfield 185, 3) := by decide +kernel
theorem dX11_type_40 : decode cX11_type 40 = .ok (.iload_n 1, 1) := by decide +kernel
theorem dX11_type_41 : decode cX11_type 41 = .ok (.castore, 1) := by decide +kernel
theorem dX11_type_42 : decode cX11_type 42 = .ok (.aload_n 0, 1) := by decide +kernel
theorem dX11_type_43 : decode cX11_type 43 = .ok (.dup, 1) := by decide +kernel
theorem dX11_type_44 : decode cX11_type 44 = .ok (.getfield 185, 3) := by decide +kernel
theorem dX11_type_47 : decode cX11_type 47 = .ok (.iconst 1, 1) := by decide +kernel
theorem dX11_type_48 : decode cX11_type 48 = .ok (.iadd, 1) := by decide +kernel
theorem dX11_type_49 : decode cX11_type 49 = .ok (.putfield 185, 3) := by decide +kernel
theorem dX11_type_52 : decode cX11_type 52 = .ok (.aload_n 0, 1) := by decide +kernel
theorem dX11_type_53 : decode cX11_type 53 = .ok (.aload_n 0, 1) := by decide +kernel
theorem dX11_type_54 : decode cX11_type 54 = .ok (.getfield 185, 3) := by decide +kernel
theorem dX11_type_57 : decode cX11_type 57 = .ok (.invokevirtual 60, 3) := by decide +kernel
theorem dX11_type_60 : decode cX11_type 60 = .ok (.ireturn, 1) := by decide +kernel
theorem dX11_here_0 : decode cX11_here 0 = .ok (.aload_n 0, 1) := by decide +kernel
theorem dX11_here_1 : decode cX11_here 1 = .ok (.getfield 188, 3) := by decide +kernel
theorem dX11_here_4 : decode cX11_here 4 = .ok (.aload_n 0, 1) := by decide +kernel
theorem dX11_here_5 : decode cX11_here 5 = .ok (.getfield 185, 3) := by decide +kernel
theorem dX11_here_8 : decode cX11_here 8 = .ok (.if_icmp .ge 15, 3) := by decide +kernel
theorem dX11_here_11 : decode cX11_here 11 = .ok (.aload_n 0, 1) := by decide +kernel
theorem dX11_here_12 : decode cX11_here 12 = .ok (.getfield 22, 3) := by decide +kernel
theorem dX11_here_15 : decode cX11_here 15 = .ok (.aload_n 0, 1) := by decide +kernel
theorem dX11_here_16 : decode cX11_here 16 = .ok (.getfield 188, 3) := by decide +kernel
theorem dX11_here_19 : decode cX11_here 19 = .ok (.caload, 1) := by decide +kernel
theorem dX11_here_20 : decode cX11_here 20 = .ok (.goto 4, 3) := by decide +kernel
theorem dX11_here_23 : decode cX11_here 23 = .ok (.iconst (-1), 1) := by decide +kernel
theorem dX11_here_24 : decode cX11_here 24 = .ok (.ireturn, 1) := by decide +kernel
theorem dX11_needs_0 : decode cX11_needs 0 = .ok (.aload_n 0, 1) := by decide +kernel
theorem dX11_needs_1 : decode cX11_needs 1 = .ok (.aload_n 0, 1) := by decide +kernel
theorem dX11_needs_2 : decode cX11_needs 2 = .ok (.getfield 191, 3) := by decide +kernel
theorem dX11_needs_5 : decode cX11_needs 5 = .ok (.ifCond .ne 11, 3) := by decide +kernel
theorem dX11_needs_8 : decode cX11_needs 8 = .ok (.aload_n 0, 1) := by decide +kernel
theorem dX11_needs_9 : decode cX11_needs 9 = .ok (.invokevirtual 195, 3) := by decide +kernel
theorem dX11_needs_12 : decode cX11_needs 12 = .ok (.iload_n 1, 1) := by decide +kernel
theorem dX11_needs_13 : decode cX11_needs 13 = .ok (.if_icmp .eq 7, 3) := by decide +kernel
theorem dX11_needs_16 : decode cX11_needs 16 = .ok (.iconst 1, 1) := by decide +kernel
theorem dX11_needs_17 : decode cX11_needs 17 = .ok (.goto 4, 3) := by decide +kernel
theorem dX11_needs_20 : decode cX11_needs 20 = .ok (.iconst 0, 1) := by decide +kernel
theorem dX11_needs_21 : decode cX11_needs 21 = .ok (.putfield 191, 3) := by decide +kernel
theorem dX11_needs_24 : decode cX11_needs 24 = .ok (.aload_n 0, 1) := by decide +kernel
theorem dX11_needs_25 : decode cX11_needs 25 = .ok (.dup, 1) := by decide +kernel
theorem dX11_needs_26 : decode cX11_needs 26 = .ok (.getfield 188, 3) := by decide +kernel
theorem dX11_needs_29 : decode cX11_needs 29 = .ok (.aload_n 0, 1) := by decide +kernel
theorem dX11_needs_30 : decode cX11_needs 30 = .ok (.getfield 191, 3) := by decide +kernel
theorem dX11_needs_33 : decode cX11_needs 33 = .ok (.ifCond .eq 7, 3) := by decide +kernel
theorem dX11_needs_36 : decode cX11_needs 36 = .ok (.iconst 0, 1) := by decide +kernel
theorem dX11_needs_37 : decode cX11_needs 37 = .ok (.goto 4, 3) := by decide +kernel
theorem dX11_needs_40 : decode cX11_needs 40 = .ok (.iconst 1, 1) := by decide +kernel
theorem dX11_needs_41 : decode cX11_needs 41 = .ok (.iadd, 1) := by decide +kernel
theorem dX11_needs_42 : decode cX11_needs 42 = .ok (.putfield 188, 3) := by decide +kernel
theorem dX11_needs_45 : decode cX11_needs 45 = .ok (.return_, 1) := by decide +kernel
theorem dX11_needsThree_0 : decode cX11_needsThree 0 = .ok (.aload_n 0, 1) := by decide +kernel
theorem dX11_needsThree_1 : decode cX11_needsThree 1 = .ok (.iload_n 1, 1) := by decide +kernel
theorem dX11_needsThree_2 : decode cX11_needsThree 2 = .ok (.invokevirtual 198, 3) := by decide +kernel
theorem dX11_needsThree_5 : decode cX11_needsThree 5 = .ok (.aload_n 0, 1) := by decide +kernel
theorem dX11_needsThree_6 : decode cX11_needsThree 6 = .ok (.iload_n 2, 1) := by decide +kernel
theorem dX11_needsThree_7 : decode cX11_needsThree 7 = .ok (.invokevirtual 198, 3) := by decide +kernel
theorem dX11_needsThree_10 : decode cX11_needsThree 10 = .ok (.aload_n 0, 1) := by decide +kernel
theorem dX11_needsThree_11 : decode cX11_needsThree 11 = .ok (.iload_n 3, 1) := by decide +kernel
theorem dX11_needsThree_12 : decode cX11_needsThree 12 = .ok (.invokevirtual 198, 3) := by decide +kernel
theorem dX11_needsThree_15 : decode cX11_needsThree 15 = .ok (.return_, 1) := by decide +kernel
theorem dX11_digits_0 : decode cX11_digits 0 = .ok (.aload_n 0, 1) := by decide +kernel
theorem dX11_digits_1 : decode cX11_digits 1 = .ok (.bipush 32, 2) := by decide +kernel
theorem dX11_digits_3 : decode cX11_digits 3 = .ok (.invokevirtual 198, 3) := by decide +kernel
theorem dX11_digits_6 : decode cX11_digits 6 = .ok (.aload_n 0, 1) := by decide +kernel
theorem dX11_digits_7 : decode cX11_digits 7 = .ok (.aload_n 0, 1) := by decide +kernel
theorem dX11_digits_8 : decode cX11_digits 8 = .ok (.getfield 191, 3) := by decide +kernel
theorem dX11_digits_11 : decode cX11_digits 11 = .ok (.ifCond .ne 17, 3) := by decide +kernel
theorem dX11_digits_14 : decode cX11_digits 14 = .ok (.aload_n 0, 1) := by decide +kernel
theorem dX11_digits_15 : decode cX11_digits 15 = .ok (.invokevirtual 195, 3) := by decide +kernel
theorem dX11_digits_18 : decode cX11_digits 18 = .ok (.bipush 48, 2) := by decide +kernel
theorem dX11_digits_20 : decode cX11_digits 20 = .ok (.bipush 57, 2) := by decide +kernel
theorem dX11_digits_22 : decode cX11_digits 22 = .ok (.invokestatic 52, 3) := by decide +kernel
theorem dX11_digits_25 : decode cX11_digits 25 = .ok (.ifCond .ne 7, 3) := by decide +kernel
theorem dX11_digits_28 : decode cX11_digits 28 = .ok (.iconst 1, 1) := by decide +kernel
theorem dX11_digits_29 : decode cX11_digits 29 = .ok (.goto 4, 3) := by decide +kernel
theorem dX11_digits_32 : decode cX11_digits 32 = .ok (.iconst 0, 1) := by decide +kernel
theorem dX11_digits_33 : decode cX11_digits 33 = .ok (.putfield 191, 3) := by decide +kernel
theorem dX11_digits_36 : decode cX11_digits 36 = .ok (.iconst 0, 1) := by decide +kernel
theorem dX11_digits_37 : decode cX11_digits 37 = .ok (.istore_n 2, 1) := by decide +kernel
theorem dX11_digits_38 : decode cX11_digits 38 = .ok (.iconst 0, 1) := by decide +kernel
theorem dX11_digits_39 : decode cX11_digits 39 = .ok (.istore_n 3, 1) := by decide +kernel
theorem dX11_digits_40 : decode cX11_digits 40 = .ok (.aload_n 0, 1) := by decide +kernel
theorem dX11_digits_41 : decode cX11_digits 41 = .ok (.getfield 191, 3) := by decide +kernel
theorem dX11_digits_44 : decode cX11_digits 44 = .ok (.ifCond .ne 51, 3) := by decide +kernel
theorem dX11_digits_47 : decode cX11_digits 47 = .ok (.iload_n 3, 1) := by decide +kernel
theorem dX11_digits_48 : decode cX11_digits 48 = .ok (.iload_n 1, 1) := by decide +kernel
theorem dX11_digits_49 : decode cX11_digits 49 = .ok (.if_icmp .ge 46, 3) := by decide +kernel
theorem dX11_digits_52 : decode cX11_digits 52 = .ok (.aload_n 0, 1) := by decide +kernel
theorem dX11_digits_53 : decode cX11_digits 53 = .ok (.invokevirtual 195, 3) := by decide +kernel
theorem dX11_digits_56 : decode cX11_digits 56 = .ok (.bipush 48, 2) := by decide +kernel
theorem dX11_digits_58 : decode cX11_digits 58 = .ok (.bipush 57, 2) := by decide +kernel
theorem dX11_digits_60 : decode cX11_digits 60 = .ok (.invokestatic 52, 3) := by decide +kernel
theorem dX11_digits_63 : decode cX11_digits 63 = .ok (.ifCond .eq 32, 3) := by decide +kernel
theorem dX11_digits_66 : decode cX11_digits 66 = .ok (.bipush 10, 2) := by decide +kernel
theorem dX11_digits_68 : decode cX11_digits 68 = .ok (.iload_n 2, 1) := by decide +kernel
theorem dX11_digits_69 : decode cX11_digits 69 = .ok (.imul, 1) := by decide +kernel
theorem dX11_digits_70 : decode cX11_digits 70 = .ok (.aload_n 0, 1) := by decide +kernel
theorem dX11_digits_71 : decode cX11_digits 71 = .ok (.invokevirtual 195, 3) := by decide +kernel
theorem dX11_digits_74 : decode cX11_digits 74 = .ok (.iadd, 1) := by decide +kernel
theorem dX11_digits_75 : decode cX11_digits 75 = .ok (.bipush 48, 2) := by decide +kernel
theorem dX11_digits_77 : decode cX11_digits 77 = .ok (.isub, 1) := by decide +kernel
theorem dX11_digits_78 : decode cX11_digits 78 = .ok (.istore_n 2, 1) := by decide +kernel
theorem dX11_digits_79 : decode cX11_digits 79 = .ok (.aload_n 0, 1) := by decide +kernel
theorem dX11_digits_80 : decode cX11_digits 80 = .ok (.dup, 1) := by decide +kernel
theorem dX11_digits_81 : decode cX11_digits 81 = .ok (.getfield 188, 3) := by decide +kernel
theorem dX11_digits_84 : decode cX11_digits 84 = .ok (.iconst 1, 1) := by decide +kernel
theorem dX11_digits_85 : decode cX11_digits 85 = .ok (.iadd, 1) := by decide +kernel
theorem dX11_digits_86 : decode cX11_digits 86 = .ok (.putfield 188, 3) := by decide +kernel
theorem dX11_digits_89 : decode cX11_digits 89 = .ok (.iinc 3 1, 3) := by decide +kernel
theorem dX11_digits_92 : decode cX11_digits 92 = .ok (.goto (-52), 3) := by decide +kernel
theorem dX11_digits_95 : decode cX11_digits 95 = .ok (.iload_n 2, 1) := by decide +kernel
theorem dX11_digits_96 : decode cX11_digits 96 = .ok (.ireturn, 1) := by decide +kernel
theorem dX11_parsesC_0 : decode cX11_parsesC 0 = .ok (.aload_n 0, 1) := by decide +kernel
theorem dX11_parsesC_1 : decode cX11_parsesC 1 = .ok (.invokevirtual 195, 3) := by decide +kernel
theorem dX11_parsesC_4 : decode cX11_parsesC 4 = .ok (.bipush 117, 2) := by decide +kernel
theorem dX11_parsesC_6 : decode cX11_parsesC 6 = .ok (.if_icmp .ne 26, 3) := by decide +kernel
theorem dX11_parsesC_9 : decode cX11_parsesC 9 = .ok (.aload_n 0, 1) := by decide +kernel
theorem dX11_parsesC_10 : decode cX11_parsesC 10 = .ok (.getfield 39, 3) := by decide +kernel
theorem dX11_parsesC_13 : decode cX11_parsesC 13 = .ok (.iload_n 1, 1) := by decide +kernel
theorem dX11_parsesC_14 : decode cX11_parsesC 14 = .ok (.bipush 117, 2) := by decide +kernel
theorem dX11_parsesC_16 : decode cX11_parsesC 16 = .ok (.iastore, 1) := by decide +kernel
theorem dX11_parsesC_17 : decode cX11_parsesC 17 = .ok (.aload_n 0, 1) := by decide +kernel
theorem dX11_parsesC_18 : decode cX11_parsesC 18 = .ok (.bipush 117, 2) := by decide +kernel
theorem dX11_parsesC_20 : decode cX11_parsesC 20 = .ok (.invokevirtual 198, 3) := by decide +kernel
theorem dX11_parsesC_23 : decode cX11_parsesC 23 = .ok (.aload_n 0, 1) := by decide +kernel
theorem dX11_parsesC_24 : decode cX11_parsesC 24 = .ok (.bipush 116, 2) := by decide +kernel
theorem dX11_parsesC_26 : decode cX11_parsesC 26 = .ok (.invokevirtual 198, 3) := by decide +kernel
theorem dX11_parsesC_29 : decode cX11_parsesC 29 = .ok (.goto 19, 3) := by decide +kernel
theorem dX11_parsesC_32 : decode cX11_parsesC 32 = .ok (.aload_n 0, 1) := by decide +kernel
theorem dX11_parsesC_33 : decode cX11_parsesC 33 = .ok (.bipush 97, 2) := by decide +kernel
theorem dX11_parsesC_35 : decode cX11_parsesC 35 = .ok (.bipush 116, 2) := by decide +kernel
theorem dX11_parsesC_37 : decode cX11_parsesC 37 = .ok (.bipush 99, 2) := by decide +kernel
theorem dX11_parsesC_39 : decode cX11_parsesC 39 = .ok (.invokevirtual 201, 3) := by decide +kernel
theorem dX11_parsesC_42 : decode cX11_parsesC 42 = .ok (.aload_n 0, 1) := by decide +kernel
theorem dX11_parsesC_43 : decode cX11_parsesC 43 = .ok (.bipush 104, 2) := by decide +kernel
theorem dX11_parsesC_45 : decode cX11_parsesC 45 = .ok (.invokevirtual 198, 3) := by decide +kernel
theorem dX11_parsesC_48 : decode cX11_parsesC 48 = .ok (.aload_n 0, 1) := by decide +kernel
theorem dX11_parsesC_49 : decode cX11_parsesC 49 = .ok (.getfield 39, 3) := by decide +kernel
theorem dX11_parsesC_52 : decode cX11_parsesC 52 = .ok (.iload_n 1, 1) := by decide +kernel
theorem dX11_parsesC_53 : decode cX11_parsesC 53 = .ok (.iconst 1, 1) := by decide +kernel
theorem dX11_parsesC_54 : decode cX11_parsesC 54 = .ok (.iadd, 1) := by decide +kernel
theorem dX11_parsesC_55 : decode cX11_parsesC 55 = .ok (.aload_n 0, 1) := by decide +kernel
theorem dX11_parsesC_56 : decode cX11_parsesC 56 = .ok (.iconst 1, 1) := by decide +kernel
theorem dX11_parsesC_57 : decode cX11_parsesC 57 = .ok (.invokevirtual 205, 3) := by decide +kernel
theorem dX11_parsesC_60 : decode cX11_parsesC 60 = .ok (.iastore, 1) := by decide +kernel
theorem dX11_parsesC_61 : decode cX11_parsesC 61 = .ok (.return_, 1) := by decide +kernel
theorem dX11_parsesCommand_0 : decode cX11_parsesCommand 0 = .ok (.aload_n 0, 1) := by decide +kernel
theorem dX11_parsesCommand_1 : decode cX11_parsesCommand 1 = .ok (.invokevirtual 195, 3) := by decide +kernel
theorem dX11_parsesCommand_4 : decode cX11_parsesCommand 4 = .ok (.istore_n 2, 1) := by decide +kernel
theorem dX11_parsesCommand_5 : decode cX11_parsesCommand 5 = .ok (.aload_n 0, 1) := by decide +kernel
theorem dX11_parsesCommand_6 : decode cX11_parsesCommand 6 = .ok (.dup, 1) := by decide +kernel
theorem dX11_parsesCommand_7 : decode cX11_parsesCommand 7 = .ok (.getfield 188, 3) := by decide +kernel
theorem dX11_parsesCommand_10 : decode cX11_parsesCommand 10 = .ok (.iconst 1, 1) := by decide +kernel
theorem dX11_parsesCommand_11 : decode cX11_parsesCommand 11 = .ok (.iadd, 1) := by decide +kernel
theorem dX11_parsesCommand_12 : decode cX11_parsesCommand 12 = .ok (.putfield 188, 3) := by decide +kernel
theorem dX11_parsesCommand_15 : decode cX11_parsesCommand 15 = .ok (.aload_n 0, 1) := by decide +kernel
theorem dX11_parsesCommand_16 : decode cX11_parsesCommand 16 = .ok (.getfield 39, 3) := by decide +kernel
theorem dX11_parsesCommand_19 : decode cX11_parsesCommand 19 = .ok (.iload_n 1, 1) := by decide +kernel
theorem dX11_parsesCommand_20 : decode cX11_parsesCommand 20 = .ok (.iload_n 2, 1) := by decide +kernel
theorem dX11_parsesCommand_21 : decode cX11_parsesCommand 21 = .ok (.iastore, 1) := by decide +kernel
theorem dX11_parsesCommand_22 : decode cX11_parsesCommand 22 = .ok (.iload_n 2, 1) := by decide +kernel
theorem dX11_parsesCommand_23 : decode cX11_parsesCommand 23 = .ok (.tableswitch 254 99 116 #[150, 254, 254, 158, 254, 85, 254, 254, 254, 200, 254, 254, 254, 111, 254, 254, 254, 228], 85) := by decide +kernel
theorem dX11_parsesCommand_108 : decode cX11_parsesCommand 108 = .ok (.aload_n 0, 1) := by decide +kernel
theorem dX11_parsesCommand_109 : decode cX11_parsesCommand 109 = .ok (.bipush 97, 2) := by decide +kernel
theorem dX11_parsesCommand_111 : decode cX11_parsesCommand 111 = .ok (.bipush 110, 2) := by decide +kernel
theorem dX11_parsesCommand_113 : decode cX11_parsesCommand 113 = .ok (.bipush 103, 2) := by decide +kernel
theorem dX11_parsesCommand_115 : decode cX11_parsesCommand 115 = .ok (.invokevirtual 201, 3) := by decide +kernel
theorem dX11_parsesCommand_118 : decode cX11_parsesCommand 118 = .ok (.aload_n 0, 1) := by decide +kernel
theorem dX11_parsesCommand_119 : decode cX11_parsesCommand 119 = .ok (.getfield 39, 3) := by decide +kernel
theorem dX11_parsesCommand_122 : decode cX11_parsesCommand 122 = .ok (.iload_n 1, 1) := by decide +kernel
theorem dX11_parsesCommand_123 : decode cX11_parsesCommand 123 = .ok (.iconst 1, 1) := by decide +kernel
theorem dX11_parsesCommand_124 : decode cX11_parsesCommand 124 = .ok (.iadd, 1) := by decide +kernel
theorem dX11_parsesCommand_125 : decode cX11_parsesCommand 125 = .ok (.aload_n 0, 1) := by decide +kernel
theorem dX11_parsesCommand_126 : decode cX11_parsesCommand 126 = .ok (.iconst 3, 1) := by decide +kernel
theorem dX11_parsesCommand_127 : decode cX11_parsesCommand 127 = .ok (.invokevirtual 205, 3) := by decide +kernel
theorem dX11_parsesCommand_130 : decode cX11_parsesCommand 130 = .ok (.iastore, 1) := by decide +kernel
theorem dX11_parsesCommand_131 : decode cX11_parsesCommand 131 = .ok (.goto 161, 3) := by decide +kernel
theorem dX11_parsesCommand_134 : decode cX11_parsesCommand 134 = .ok (.aload_n 0, 1) := by decide +kernel
theorem dX11_parsesCommand_135 : decode cX11_parsesCommand 135 = .ok (.bipush 117, 2) := by decide +kernel
theorem dX11_parsesCommand_137 : decode cX11_parsesCommand 137 = .ok (.bipush 115, 2) := by decide +kernel
theorem dX11_parsesCommand_139 : decode cX11_parsesCommand 139 = .ok (.bipush 104, 2) := by decide +kernel
theorem dX11_parsesCommand_141 : decode cX11_parsesCommand 141 = .ok (.invokevirtual 201, 3) := by decide +kernel
theorem dX11_parsesCommand_144 : decode cX11_parsesCommand 144 = .ok (.aload_n 0, 1) := by decide +kernel
theorem dX11_parsesCommand_145 : decode cX11_parsesCommand 145 = .ok (.getfield 39, 3) := by decide +kernel
theorem dX11_parsesCommand_148 : decode cX11_parsesCommand 148 = .ok (.iload_n 1, 1) := by decide +kernel
theorem dX11_parsesCommand_149 : decode cX11_parsesCommand 149 = .ok (.iconst 1, 1) := by decide +kernel
theorem dX11_parsesCommand_150 : decode cX11_parsesCommand 150 = .ok (.iadd, 1) := by decide +kernel
theorem dX11_parsesCommand_151 : decode cX11_parsesCommand 151 = .ok (.aload_n 0, 1) := by decide +kernel
theorem dX11_parsesCommand_152 : decode cX11_parsesCommand 152 = .ok (.iconst 1, 1) := by decide +kernel
theorem dX11_parsesCommand_153 : decode cX11_parsesCommand 153 = .ok (.invokevirtual 205, 3) := by decide +kernel
theorem dX11_parsesCommand_156 : decode cX11_parsesCommand 156 = .ok (.iastore, 1) := by decide +kernel
theorem dX11_parsesCommand_157 : decode cX11_parsesCommand 157 = .ok (.aload_n 0, 1) := by decide +kernel
theorem dX11_parsesCommand_158 : decode cX11_parsesCommand 158 = .ok (.getfield 39, 3) := by decide +kernel
theorem dX11_parsesCommand_161 : decode cX11_parsesCommand 161 = .ok (.iload_n 1, 1) := by decide +kernel
theorem dX11_parsesCommand_162 : decode cX11_parsesCommand 162 = .ok (.iconst 2, 1) := by decide +kernel
theorem dX11_parsesCommand_163 : decode cX11_parsesCommand 163 = .ok (.iadd, 1) := by decide +kernel
theorem dX11_parsesCommand_164 : decode cX11_parsesCommand 164 = .ok (.aload_n 0, 1) := by decide +kernel
theorem dX11_parsesCommand_165 : decode cX11_parsesCommand 165 = .ok (.iconst 3, 1) := by decide +kernel
theorem dX11_parsesCommand_166 : decode cX11_parsesCommand 166 = .ok (.invokevirtual 205, 3) := by decide +kernel
theorem dX11_parsesCommand_169 : decode cX11_parsesCommand 169 = .ok (.iastore, 1) := by decide +kernel
theorem dX11_parsesCommand_170 : decode cX11_parsesCommand 170 = .ok (.goto 122, 3) := by decide +kernel
theorem dX11_parsesCommand_173 : decode cX11_parsesCommand 173 = .ok (.aload_n 0, 1) := by decide +kernel
theorem dX11_parsesCommand_174 : decode cX11_parsesCommand 174 = .ok (.iload_n 1, 1) := by decide +kernel
theorem dX11_parsesCommand_175 : decode cX11_parsesCommand 175 = .ok (.invokevirtual 208, 3) := by decide +kernel
theorem dX11_parsesCommand_178 : decode cX11_parsesCommand 178 = .ok (.goto 114, 3) := by decide +kernel
theorem dX11_parsesCommand_181 : decode cX11_parsesCommand 181 = .ok (.aload_n 0, 1) := by decide +kernel
theorem dX11_parsesCommand_182 : decode cX11_parsesCommand 182 = .ok (.bipush 114, 2) := by decide +kernel
theorem dX11_parsesCommand_184 : decode cX11_parsesCommand 184 = .ok (.bipush 105, 2) := by decide +kernel
theorem dX11_parsesCommand_186 : decode cX11_parsesCommand 186 = .ok (.bipush 99, 2) := by decide +kernel
theorem dX11_parsesCommand_188 : decode cX11_parsesCommand 188 = .ok (.invokevirtual 201, 3) := by decide +kernel
theorem dX11_parsesCommand_191 : decode cX11_parsesCommand 191 = .ok (.aload_n 0, 1) := by decide +kernel
theorem dX11_parsesCommand_192 : decode cX11_parsesCommand 192 = .ok (.bipush 116, 2) := by decide +kernel
theorem dX11_parsesCommand_194 : decode cX11_parsesCommand 194 = .ok (.bipush 105, 2) := by decide +kernel
theorem dX11_parsesCommand_196 : decode cX11_parsesCommand 196 = .ok (.bipush 111, 2) := by decide +kernel
theorem dX11_parsesCommand_198 : decode cX11_parsesCommand 198 = .ok (.invokevirtual 201, 3) := by decide +kernel
theorem dX11_parsesCommand_201 : decode cX11_parsesCommand 201 = .ok (.aload_n 0, 1) := by decide +kernel
theorem dX11_parsesCommand_202 : decode cX11_parsesCommand 202 = .ok (.bipush 110, 2) := by decide +kernel
theorem dX11_parsesCommand_204 : decode cX11_parsesCommand 204 = .ok (.invokevirtual 198, 3) := by decide +kernel
theorem dX11_parsesCommand_207 : decode cX11_parsesCommand 207 = .ok (.aload_n 0, 1) := by decide +kernel
theorem dX11_parsesCommand_208 : decode cX11_parsesCommand 208 = .ok (.getfield 39, 3) := by decide +kernel
theorem dX11_parsesCommand_211 : decode cX11_parsesCommand 211 = .ok (.iload_n 1, 1) := by decide +kernel
theorem dX11_parsesCommand_212 : decode cX11_parsesCommand 212 = .ok (.iconst 1, 1) := by decide +kernel
theorem dX11_parsesCommand_213 : decode cX11_parsesCommand 213 = .ok (.iadd, 1) := by decide +kernel
theorem dX11_parsesCommand_214 : decode cX11_parsesCommand 214 = .ok (.aload_n 0, 1) := by decide +kernel
theorem dX11_parsesCommand_215 : decode cX11_parsesCommand 215 = .ok (.iconst 3, 1) := by decide +kernel
theorem dX11_parsesCommand_216 : decode cX11_parsesCommand 216 = .ok (.invokevirtual 205, 3) := by decide +kernel
theorem dX11_parsesCommand_219 : decode cX11_parsesCommand 219 = .ok (.iastore, 1) := by decide +kernel
theorem dX11_parsesCommand_220 : decode cX11_parsesCommand 220 = .ok (.goto 72, 3) := by decide +kernel
theorem dX11_parsesCommand_223 : decode cX11_parsesCommand 223 = .ok (.aload_n 0, 1) := by decide +kernel
theorem dX11_parsesCommand_224 : decode cX11_parsesCommand 224 = .ok (.bipush 101, 2) := by decide +kernel
theorem dX11_parsesCommand_226 : decode cX11_parsesCommand 226 = .ok (.invokevirtual 198, 3) := by decide +kernel
theorem dX11_parsesCommand_229 : decode cX11_parsesCommand 229 = .ok (.aload_n 0, 1) := by decide +kernel
theorem dX11_parsesCommand_230 : decode cX11_parsesCommand 230 = .ok (.bipush 103, 2) := by decide +kernel
theorem dX11_parsesCommand_232 : decode cX11_parsesCommand 232 = .ok (.invokevirtual 198, 3) := by decide +kernel
theorem dX11_parsesCommand_235 : decode cX11_parsesCommand 235 = .ok (.aload_n 0, 1) := by decide +kernel
theorem dX11_parsesCommand_236 : decode cX11_parsesCommand 236 = .ok (.getfield 39, 3) := by decide +kernel
theorem dX11_parsesCommand_239 : decode cX11_parsesCommand 239 = .ok (.iload_n 1, 1) := by decide +kernel
theorem dX11_parsesCommand_240 : decode cX11_parsesCommand 240 = .ok (.iconst 1, 1) := by decide +kernel
theorem dX11_parsesCommand_241 : decode cX11_parsesCommand 241 = .ok (.iadd, 1) := by decide +kernel
theorem dX11_parsesCommand_242 : decode cX11_parsesCommand 242 = .ok (.aload_n 0, 1) := by decide +kernel
theorem dX11_parsesCommand_243 : decode cX11_parsesCommand 243 = .ok (.iconst 3, 1) := by decide +kernel
theorem dX11_parsesCommand_244 : decode cX11_parsesCommand 244 = .ok (.invokevirtual 205, 3) := by decide +kernel
theorem dX11_parsesCommand_247 : decode cX11_parsesCommand 247 = .ok (.iastore, 1) := by decide +kernel
theorem dX11_parsesCommand_248 : decode cX11_parsesCommand 248 = .ok (.goto 44, 3) := by decide +kernel
theorem dX11_parsesCommand_251 : decode cX11_parsesCommand 251 = .ok (.aload_n 0, 1) := by decide +kernel
theorem dX11_parsesCommand_252 : decode cX11_parsesCommand 252 = .ok (.bipush 105, 2) := by decide +kernel
theorem dX11_parsesCommand_254 : decode cX11_parsesCommand 254 = .ok (.bipush 99, 2) := by decide +kernel
theorem dX11_parsesCommand_256 : decode cX11_parsesCommand 256 = .ok (.bipush 107, 2) := by decide +kernel
theorem dX11_parsesCommand_258 : decode cX11_parsesCommand 258 = .ok (.invokevirtual 201, 3) := by decide +kernel
theorem dX11_parsesCommand_261 : decode cX11_parsesCommand 261 = .ok (.aload_n 0, 1) := by decide +kernel
theorem dX11_parsesCommand_262 : decode cX11_parsesCommand 262 = .ok (.getfield 39, 3) := by decide +kernel
theorem dX11_parsesCommand_265 : decode cX11_parsesCommand 265 = .ok (.iload_n 1, 1) := by decide +kernel
theorem dX11_parsesCommand_266 : decode cX11_parsesCommand 266 = .ok (.iconst 1, 1) := by decide +kernel
theorem dX11_parsesCommand_267 : decode cX11_parsesCommand 267 = .ok (.iadd, 1) := by decide +kernel
theorem dX11_parsesCommand_268 : decode cX11_parsesCommand 268 = .ok (.aload_n 0, 1) := by decide +kernel
theorem dX11_parsesCommand_269 : decode cX11_parsesCommand 269 = .ok (.iconst 3, 1) := by decide +kernel
theorem dX11_parsesCommand_270 : decode cX11_parsesCommand 270 = .ok (.invokevirtual 205, 3) := by decide +kernel
theorem dX11_parsesCommand_273 : decode cX11_parsesCommand 273 = .ok (.iastore, 1) := by decide +kernel
theorem dX11_parsesCommand_274 : decode cX11_parsesCommand 274 = .ok (.goto 18, 3) := by decide +kernel
theorem dX11_parsesCommand_277 : decode cX11_parsesCommand 277 = .ok (.aload_n 0, 1) := by decide +kernel
theorem dX11_parsesCommand_278 : decode cX11_parsesCommand 278 = .ok (.iconst 1, 1) := by decide +kernel
theorem dX11_parsesCommand_279 : decode cX11_parsesCommand 279 = .ok (.putfield 191, 3) := by decide +kernel
theorem dX11_parsesCommand_282 : decode cX11_parsesCommand 282 = .ok (.aload_n 0, 1) := by decide +kernel
theorem dX11_parsesCommand_283 : decode cX11_parsesCommand 283 = .ok (.dup, 1) := by decide +kernel
theorem dX11_parsesCommand_284 : decode cX11_parsesCommand 284 = .ok (.getfield 188, 3) := by decide +kernel
theorem dX11_parsesCommand_287 : decode cX11_parsesCommand 287 = .ok (.iconst 1, 1) := by decide +kernel
theorem dX11_parsesCommand_288 : decode cX11_parsesCommand 288 = .ok (.isub, 1) := by decide +kernel
theorem dX11_parsesCommand_289 : decode cX11_parsesCommand 289 = .ok (.putfield 188, 3) := by decide +kernel
theorem dX11_parsesCommand_292 : decode cX11_parsesCommand 292 = .ok (.return_, 1) := by decide +kernel
theorem dX11_carriesOut_0 : decode cX11_carriesOut 0 = .ok (.aload_n 0, 1) := by decide +kernel
theorem dX11_carriesOut_1 : decode cX11_carriesOut 1 = .ok (.getfield 39, 3) := by decide +kernel
theorem dX11_carriesOut_4 : decode cX11_carriesOut 4 = .ok (.iload_n 1, 1) := by decide +kernel
theorem dX11_carriesOut_5 : decode cX11_carriesOut 5 = .ok (.iconst 1, 1) := by decide +kernel
theorem dX11_carriesOut_6 : decode cX11_carriesOut 6 = .ok (.iadd, 1) := by decide +kernel
theorem dX11_carriesOut_7 : decode cX11_carriesOut 7 = .ok (.iaload, 1) := by decide +kernel
theorem dX11_carriesOut_8 : decode cX11_carriesOut 8 = .ok (.istore_n 2, 1) := by decide +kernel
theorem dX11_carriesOut_9 : decode cX11_carriesOut 9 = .ok (.aload_n 0, 1) := by decide +kernel
theorem dX11_carriesOut_10 : decode cX11_carriesOut 10 = .ok (.getfield 39, 3) := by decide +kernel
theorem dX11_carriesOut_13 : decode cX11_carriesOut 13 = .ok (.iload_n 1, 1) := by decide +kernel
theorem dX11_carriesOut_14 : decode cX11_carriesOut 14 = .ok (.iaload, 1) := by decide +kernel
theorem dX11_carriesOut_15 : decode cX11_carriesOut 15 = .ok (.tableswitch 133 99 117 #[109, 133, 133, 115, 133, 89, 133, 133, 133, 121, 133, 133, 133, 95, 133, 133, 133, 133, 127], 89) := by decide +kernel
theorem dX11_carriesOut_104 : decode cX11_carriesOut 104 = .ok (.aload_n 0, 1) := by decide +kernel
theorem dX11_carriesOut_105 : decode cX11_carriesOut 105 = .ok (.iload_n 2, 1) := by decide +kernel
theorem dX11_carriesOut_106 : decode cX11_carriesOut 106 = .ok (.invokevirtual 66, 3) := by decide +kernel
theorem dX11_carriesOut_109 : decode cX11_carriesOut 109 = .ok (.ireturn, 1) := by decide +kernel
theorem dX11_carriesOut_110 : decode cX11_carriesOut 110 = .ok (.aload_n 0, 1) := by decide +kernel
theorem dX11_carriesOut_111 : decode cX11_carriesOut 111 = .ok (.iload_n 2, 1) := by decide +kernel
theorem dX11_carriesOut_112 : decode cX11_carriesOut 112 = .ok (.aload_n 0, 1) := by decide +kernel
theorem dX11_carriesOut_113 : decode cX11_carriesOut 113 = .ok (.getfield 39, 3) := by decide +kernel
theorem dX11_carriesOut_116 : decode cX11_carriesOut 116 = .ok (.iload_n 1, 1) := by decide +kernel
theorem dX11_carriesOut_117 : decode cX11_carriesOut 117 = .ok (.iconst 2, 1) := by decide +kernel
theorem dX11_carriesOut_118 : decode cX11_carriesOut 118 = .ok (.iadd, 1) := by decide +kernel
theorem dX11_carriesOut_119 : decode cX11_carriesOut 119 = .ok (.iaload, 1) := by decide +kernel
theorem dX11_carriesOut_120 : decode cX11_carriesOut 120 = .ok (.invokevirtual 82, 3) := by decide +kernel
theorem dX11_carriesOut_123 : decode cX11_carriesOut 123 = .ok (.ireturn, 1) := by decide +kernel
theorem dX11_carriesOut_124 : decode cX11_carriesOut 124 = .ok (.aload_n 0, 1) := by decide +kernel
theorem dX11_carriesOut_125 : decode cX11_carriesOut 125 = .ok (.iload_n 2, 1) := by decide +kernel
theorem dX11_carriesOut_126 : decode cX11_carriesOut 126 = .ok (.invokevirtual 86, 3) := by decide +kernel
theorem dX11_carriesOut_129 : decode cX11_carriesOut 129 = .ok (.ireturn, 1) := by decide +kernel
theorem dX11_carriesOut_130 : decode cX11_carriesOut 130 = .ok (.aload_n 0, 1) := by decide +kernel
theorem dX11_carriesOut_131 : decode cX11_carriesOut 131 = .ok (.iload_n 2, 1) := by decide +kernel
theorem dX11_carriesOut_132 : decode cX11_carriesOut 132 = .ok (.invokevirtual 89, 3) := by decide +kernel
theorem dX11_carriesOut_135 : decode cX11_carriesOut 135 = .ok (.ireturn, 1) := by decide +kernel
theorem dX11_carriesOut_136 : decode cX11_carriesOut 136 = .ok (.aload_n 0, 1) := by decide +kernel
theorem dX11_carriesOut_137 : decode cX11_carriesOut 137 = .ok (.iload_n 2, 1) := by decide +kernel
theorem dX11_carriesOut_138 : decode cX11_carriesOut 138 = .ok (.invokevirtual 142, 3) := by decide +kernel
theorem dX11_carriesOut_141 : decode cX11_carriesOut 141 = .ok (.ireturn, 1) := by decide +kernel
theorem dX11_carriesOut_142 : decode cX11_carriesOut 142 = .ok (.aload_n 0, 1) := by decide +kernel
theorem dX11_carriesOut_143 : decode cX11_carriesOut 143 = .ok (.iload_n 2, 1) := by decide +kernel
theorem dX11_carriesOut_144 : decode cX11_carriesOut 144 = .ok (.invokevirtual 148, 3) := by decide +kernel
theorem dX11_carriesOut_147 : decode cX11_carriesOut 147 = .ok (.ireturn, 1) := by decide +kernel
theorem dX11_carriesOut_148 : decode cX11_carriesOut 148 = .ok (.aload_n 0, 1) := by decide +kernel
theorem dX11_carriesOut_149 : decode cX11_carriesOut 149 = .ok (.iload_n 2, 1) := by decide +kernel
theorem dX11_carriesOut_150 : decode cX11_carriesOut 150 = .ok (.invokevirtual 102, 3) := by decide +kernel
theorem dX11_carriesOut_153 : decode cX11_carriesOut 153 = .ok (.ireturn, 1) := by decide +kernel
theorem dX11_execute_0 : decode cX11_execute 0 = .ok (.aload_n 0, 1) := by decide +kernel
theorem dX11_execute_1 : decode cX11_execute 1 = .ok (.iconst 0, 1) := by decide +kernel
theorem dX11_execute_2 : decode cX11_execute 2 = .ok (.putfield 188, 3) := by decide +kernel
theorem dX11_execute_5 : decode cX11_execute 5 = .ok (.aload_n 0, 1) := by decide +kernel
theorem dX11_execute_6 : decode cX11_execute 6 = .ok (.iconst 0, 1) := by decide +kernel
theorem dX11_execute_7 : decode cX11_execute 7 = .ok (.putfield 191, 3) := by decide +kernel
theorem dX11_execute_10 : decode cX11_execute 10 = .ok (.iconst 0, 1) := by decide +kernel
theorem dX11_execute_11 : decode cX11_execute 11 = .ok (.istore_n 1, 1) := by decide +kernel
theorem dX11_execute_12 : decode cX11_execute 12 = .ok (.iconst 1, 1) := by decide +kernel
theorem dX11_execute_13 : decode cX11_execute 13 = .ok (.istore_n 2, 1) := by decide +kernel
theorem dX11_execute_14 : decode cX11_execute 14 = .ok (.iload_n 2, 1) := by decide +kernel
theorem dX11_execute_15 : decode cX11_execute 15 = .ok (.ifCond .eq 56, 3) := by decide +kernel
theorem dX11_execute_18 : decode cX11_execute 18 = .ok (.aload_n 0, 1) := by decide +kernel
theorem dX11_execute_19 : decode cX11_execute 19 = .ok (.iconst 3, 1) := by decide +kernel
theorem dX11_execute_20 : decode cX11_execute 20 = .ok (.iload_n 1, 1) := by decide +kernel
theorem dX11_execute_21 : decode cX11_execute 21 = .ok (.imul, 1) := by decide +kernel
theorem dX11_execute_22 : decode cX11_execute 22 = .ok (.invokevirtual 211, 3) := by decide +kernel
theorem dX11_execute_25 : decode cX11_execute 25 = .ok (.iinc 1 1, 3) := by decide +kernel
theorem dX11_execute_28 : decode cX11_execute 28 = .ok (.aload_n 0, 1) := by decide +kernel
theorem dX11_execute_29 : decode cX11_execute 29 = .ok (.getfield 191, 3) := by decide +kernel
theorem dX11_execute_32 : decode cX11_execute 32 = .ok (.ifCond .ne 16, 3) := by decide +kernel
theorem dX11_execute_35 : decode cX11_execute 35 = .ok (.aload_n 0, 1) := by decide +kernel
theorem dX11_execute_36 : decode cX11_execute 36 = .ok (.invokevirtual 195, 3) := by decide +kernel
theorem dX11_execute_39 : decode cX11_execute 39 = .ok (.bipush 59, 2) := by decide +kernel
theorem dX11_execute_41 : decode cX11_execute 41 = .ok (.if_icmp .ne 7, 3) := by decide +kernel
theorem dX11_execute_44 : decode cX11_execute 44 = .ok (.iconst 1, 1) := by decide +kernel
theorem dX11_execute_45 : decode cX11_execute 45 = .ok (.goto 4, 3) := by decide +kernel
theorem dX11_execute_48 : decode cX11_execute 48 = .ok (.iconst 0, 1) := by decide +kernel
theorem dX11_execute_49 : decode cX11_execute 49 = .ok (.istore_n 2, 1) := by decide +kernel
theorem dX11_execute_50 : decode cX11_execute 50 = .ok (.aload_n 0, 1) := by decide +kernel
theorem dX11_execute_51 : decode cX11_execute 51 = .ok (.dup, 1) := by decide +kernel
theorem dX11_execute_52 : decode cX11_execute 52 = .ok (.getfield 188, 3) := by decide +kernel
theorem dX11_execute_55 : decode cX11_execute 55 = .ok (.iload_n 2, 1) := by decide +kernel
theorem dX11_execute_56 : decode cX11_execute 56 = .ok (.ifCond .eq 7, 3) := by decide +kernel
theorem dX11_execute_59 : decode cX11_execute 59 = .ok (.iconst 1, 1) := by decide +kernel
theorem dX11_execute_60 : decode cX11_execute 60 = .ok (.goto 4, 3) := by decide +kernel
theorem dX11_execute_63 : decode cX11_execute 63 = .ok (.iconst 0, 1) := by decide +kernel
theorem dX11_execute_64 : decode cX11_execute 64 = .ok (.iadd, 1) := by decide +kernel
theorem dX11_execute_65 : decode cX11_execute 65 = .ok (.putfield 188, 3) := by decide +kernel
theorem dX11_execute_68 : decode cX11_execute 68 = .ok (.goto (-54), 3) := by decide +kernel
theorem dX11_execute_71 : decode cX11_execute 71 = .ok (.aload_n 0, 1) := by decide +kernel
theorem dX11_execute_72 : decode cX11_execute 72 = .ok (.aload_n 0, 1) := by decide +kernel
theorem dX11_execute_73 : decode cX11_execute 73 = .ok (.getfield 191, 3) := by decide +kernel
theorem dX11_execute_76 : decode cX11_execute 76 = .ok (.ifCond .ne 14, 3) := by decide +kernel
theorem dX11_execute_79 : decode cX11_execute 79 = .ok (.aload_n 0, 1) := by decide +kernel
theorem dX11_execute_80 : decode cX11_execute 80 = .ok (.getfield 188, 3) := by decide +kernel
theorem dX11_execute_83 : decode cX11_execute 83 = .ok (.aload_n 0, 1) := by decide +kernel
theorem dX11_execute_84 : decode cX11_execute 84 = .ok (.getfield 185, 3) := by decide +kernel
theorem dX11_execute_87 : decode cX11_execute 87 = .ok (.if_icmp .ge 7, 3) := by decide +kernel
theorem dX11_execute_90 : decode cX11_execute 90 = .ok (.iconst 1, 1) := by decide +kernel
theorem dX11_execute_91 : decode cX11_execute 91 = .ok (.goto 4, 3) := by decide +kernel
theorem dX11_execute_94 : decode cX11_execute 94 = .ok (.iconst 0, 1) := by decide +kernel
theorem dX11_execute_95 : decode cX11_execute 95 = .ok (.putfield 191, 3) := by decide +kernel
theorem dX11_execute_98 : decode cX11_execute 98 = .ok (.aload_n 0, 1) := by decide +kernel
theorem dX11_execute_99 : decode cX11_execute 99 = .ok (.iconst 0, 1) := by decide +kernel
theorem dX11_execute_100 : decode cX11_execute 100 = .ok (.putfield 185, 3) := by decide +kernel
theorem dX11_execute_103 : decode cX11_execute 103 = .ok (.aload_n 0, 1) := by decide +kernel
theorem dX11_execute_104 : decode cX11_execute 104 = .ok (.getfield 191, 3) := by decide +kernel
theorem dX11_execute_107 : decode cX11_execute 107 = .ok (.ifCond .eq 17, 3) := by decide +kernel
theorem dX11_execute_110 : decode cX11_execute 110 = .ok (.aload_n 0, 1) := by decide +kernel
theorem dX11_execute_111 : decode cX11_execute 111 = .ok (.aload_n 0, 1) := by decide +kernel
theorem dX11_execute_112 : decode cX11_execute 112 = .ok (.getfield 188, 3) := by decide +kernel
theorem dX11_execute_115 : decode cX11_execute 115 = .ok (.putfield 26, 3) := by decide +kernel
theorem dX11_execute_118 : decode cX11_execute 118 = .ok (.aload_n 0, 1) := by decide +kernel
theorem dX11_execute_119 : decode cX11_execute 119 = .ok (.iconst 1, 1) := by decide +kernel
theorem dX11_execute_120 : decode cX11_execute 120 = .ok (.invokevirtual 56, 3) := by decide +kernel
theorem dX11_execute_123 : decode cX11_execute 123 = .ok (.ireturn, 1) := by decide +kernel
theorem dX11_execute_124 : decode cX11_execute 124 = .ok (.aload_n 0, 1) := by decide +kernel
theorem dX11_execute_125 : decode cX11_execute 125 = .ok (.invokevirtual 63, 3) := by decide +kernel
theorem dX11_execute_128 : decode cX11_execute 128 = .ok (.iconst 0, 1) := by decide +kernel
theorem dX11_execute_129 : decode cX11_execute 129 = .ok (.istore_n 3, 1) := by decide +kernel
theorem dX11_execute_130 : decode cX11_execute 130 = .ok (.iload_n 3, 1) := by decide +kernel
theorem dX11_execute_131 : decode cX11_execute 131 = .ok (.iload_n 1, 1) := by decide +kernel
theorem dX11_execute_132 : decode cX11_execute 132 = .ok (.if_icmp .ge 42, 3) := by decide +kernel
theorem dX11_execute_135 : decode cX11_execute 135 = .ok (.aload_n 0, 1) := by decide +kernel
theorem dX11_execute_136 : decode cX11_execute 136 = .ok (.iconst 3, 1) := by decide +kernel
theorem dX11_execute_137 : decode cX11_execute 137 = .ok (.iload_n 3, 1) := by decide +kernel
theorem dX11_execute_138 : decode cX11_execute 138 = .ok (.imul, 1) := by decide +kernel
theorem dX11_execute_139 : decode cX11_execute 139 = .ok (.invokevirtual 214, 3) := by decide +kernel
theorem dX11_execute_142 : decode cX11_execute 142 = .ok (.istore 4, 2) := by decide +kernel
theorem dX11_execute_144 : decode cX11_execute 144 = .ok (.aload_n 0, 1) := by decide +kernel
theorem dX11_execute_145 : decode cX11_execute 145 = .ok (.getfield 42, 3) := by decide +kernel
theorem dX11_execute_148 : decode cX11_execute 148 = .ok (.ifCond .eq 20, 3) := by decide +kernel
theorem dX11_execute_151 : decode cX11_execute 151 = .ok (.aload_n 0, 1) := by decide +kernel
theorem dX11_execute_152 : decode cX11_execute 152 = .ok (.iload_n 3, 1) := by decide +kernel
theorem dX11_execute_153 : decode cX11_execute 153 = .ok (.putfield 30, 3) := by decide +kernel
theorem dX11_execute_156 : decode cX11_execute 156 = .ok (.aload_n 0, 1) := by decide +kernel
theorem dX11_execute_157 : decode cX11_execute 157 = .ok (.iconst 2, 1) := by decide +kernel
theorem dX11_execute_158 : decode cX11_execute 158 = .ok (.putfield 42, 3) := by decide +kernel
theorem dX11_execute_161 : decode cX11_execute 161 = .ok (.aload_n 0, 1) := by decide +kernel
theorem dX11_execute_162 : decode cX11_execute 162 = .ok (.iload 4, 2) := by decide +kernel
theorem dX11_execute_164 : decode cX11_execute 164 = .ok (.invokevirtual 69, 3) := by decide +kernel
theorem dX11_execute_167 : decode cX11_execute 167 = .ok (.ireturn, 1) := by decide +kernel
theorem dX11_execute_168 : decode cX11_execute 168 = .ok (.iinc 3 1, 3) := by decide +kernel
theorem dX11_execute_171 : decode cX11_execute 171 = .ok (.goto (-41), 3) := by decide +kernel
theorem dX11_execute_174 : decode cX11_execute 174 = .ok (.aload_n 0, 1) := by decide +kernel
theorem dX11_execute_175 : decode cX11_execute 175 = .ok (.aload_n 0, 1) := by decide +kernel
theorem dX11_execute_176 : decode cX11_execute 176 = .ok (.iload_n 1, 1) := by decide +kernel
theorem dX11_execute_177 : decode cX11_execute 177 = .ok (.invokevirtual 60, 3) := by decide +kernel
theorem dX11_execute_180 : decode cX11_execute 180 = .ok (.invokevirtual 69, 3) := by decide +kernel
theorem dX11_execute_183 : decode cX11_execute 183 = .ok (.ireturn, 1) := by decide +kernel
theorem dX11_errorPosition_0 : decode cX11_errorPosition 0 = .ok (.aload_n 0, 1) := by decide +kernel
theorem dX11_errorPosition_1 : decode cX11_errorPosition 1 = .ok (.getfield 26, 3) := by decide +kernel
theorem dX11_errorPosition_4 : decode cX11_errorPosition 4 = .ok (.iconst (-1), 1) := by decide +kernel
theorem dX11_errorPosition_5 : decode cX11_errorPosition 5 = .ok (.if_icmp .ne 11, 3) := by decide +kernel
theorem dX11_errorPosition_8 : decode cX11_errorPosition 8 = .ok (.aload_n 0, 1) := by decide +kernel
theorem dX11_errorPosition_9 : decode cX11_errorPosition 9 = .ok (.iconst 1, 1) := by decide +kernel
theorem dX11_errorPosition_10 : decode cX11_errorPosition 10 = .ok (.invokevirtual 56, 3) := by decide +kernel
theorem dX11_errorPosition_13 : decode cX11_errorPosition 13 = .ok (.goto 11, 3) := by decide +kernel
theorem dX11_errorPosition_16 : decode cX11_errorPosition 16 = .ok (.aload_n 0, 1) := by decide +kernel
theorem dX11_errorPosition_17 : decode cX11_errorPosition 17 = .ok (.aload_n 0, 1) := by decide +kernel
theorem dX11_errorPosition_18 : decode cX11_errorPosition 18 = .ok (.getfield 26, 3) := by decide +kernel
theorem dX11_errorPosition_21 : decode cX11_errorPosition 21 = .ok (.invokevirtual 60, 3) := by decide +kernel
theorem dX11_errorPosition_24 : decode cX11_errorPosition 24 = .ok (.ireturn, 1) := by decide +kernel
theorem dX11_failedCommand_0 : decode cX11_failedCommand 0 = .ok (.aload_n 0, 1) := by decide +kernel
theorem dX11_failedCommand_1 : decode cX11_failedCommand 1 = .ok (.getfield 30, 3) := by decide +kernel
theorem dX11_failedCommand_4 : decode cX11_failedCommand 4 = .ok (.iconst (-1), 1) := by decide +kernel
theorem dX11_failedCommand_5 : decode cX11_failedCommand 5 = .ok (.if_icmp .ne 11, 3) := by decide +kernel
theorem dX11_failedCommand_8 : decode cX11_failedCommand 8 = .ok (.aload_n 0, 1) := by decide +kernel
theorem dX11_failedCommand_9 : decode cX11_failedCommand 9 = .ok (.iconst 1, 1) := by decide +kernel
theorem dX11_failedCommand_10 : decode cX11_failedCommand 10 = .ok (.invokevirtual 56, 3) := by decide +kernel
theorem dX11_failedCommand_13 : decode cX11_failedCommand 13 = .ok (.goto 11, 3) := by decide +kernel
theorem dX11_failedCommand_16 : decode cX11_failedCommand 16 = .ok (.aload_n 0, 1) := by decide +kernel
theorem dX11_failedCommand_17 : decode cX11_failedCommand 17 = .ok (.aload_n 0, 1) := by decide +kernel
theorem dX11_failedCommand_18 : decode cX11_failedCommand 18 = .ok (.getfield 30, 3) := by decide +kernel
theorem dX11_failedCommand_21 : decode cX11_failedCommand 21 = .ok (.invokevirtual 60, 3) := by decide +kernel
theorem dX11_failedCommand_24 : decode cX11_failedCommand 24 = .ok (.ireturn, 1) := by decide +kernel
theorem dX11_undo_0 : decode cX11_undo 0 = .ok (.aload_n 0, 1) := by decide +kernel
theorem dX11_undo_1 : decode cX11_undo 1 = .ok (.getfield 49, 3) := by decide +kernel
theorem dX11_undo_4 : decode cX11_undo 4 = .ok (.ifCond .ne 9, 3) := by decide +kernel
theorem dX11_undo_7 : decode cX11_undo 7 = .ok (.aload_n 0, 1) := by decide +kernel
theorem dX11_undo_8 : decode cX11_undo 8 = .ok (.iconst 1, 1) := by decide +kernel
theorem dX11_undo_9 : decode cX11_undo 9 = .ok (.invokevirtual 56, 3) := by decide +kernel
theorem dX11_undo_12 : decode cX11_undo 12 = .ok (.ireturn, 1) := by decide +kernel
theorem dX11_undo_13 : decode cX11_undo 13 = .ok (.aload_n 0, 1) := by decide +kernel
theorem dX11_undo_14 : decode cX11_undo 14 = .ok (.dup, 1) := by decide +kernel
theorem dX11_undo_15 : decode cX11_undo 15 = .ok (.getfield 49, 3) := by decide +kernel
theorem dX11_undo_18 : decode cX11_undo 18 = .ok (.iconst 1, 1) := by decide +kernel
theorem dX11_undo_19 : decode cX11_undo 19 = .ok (.isub, 1) := by decide +kernel
theorem dX11_undo_20 : decode cX11_undo 20 = .ok (.putfield 49, 3) := by decide +kernel
theorem dX11_undo_23 : decode cX11_undo 23 = .ok (.aload_n 0, 1) := by decide +kernel
theorem dX11_undo_24 : decode cX11_undo 24 = .ok (.getfield 16, 3) := by decide +kernel
theorem dX11_undo_27 : decode cX11_undo 27 = .ok (.aload_n 0, 1) := by decide +kernel
theorem dX11_undo_28 : decode cX11_undo 28 = .ok (.getfield 49, 3) := by decide +kernel
theorem dX11_undo_31 : decode cX11_undo 31 = .ok (.bipush 48, 2) := by decide +kernel
theorem dX11_undo_33 : decode cX11_undo 33 = .ok (.imul, 1) := by decide +kernel
theorem dX11_undo_34 : decode cX11_undo 34 = .ok (.aload_n 0, 1) := by decide +kernel
theorem dX11_undo_35 : decode cX11_undo 35 = .ok (.getfield 7, 3) := by decide +kernel
theorem dX11_undo_38 : decode cX11_undo 38 = .ok (.iconst 0, 1) := by decide +kernel
theorem dX11_undo_39 : decode cX11_undo 39 = .ok (.invokestatic 45, 3) := by decide +kernel
theorem dX11_undo_42 : decode cX11_undo 42 = .ok (.aload_n 0, 1) := by decide +kernel
theorem dX11_undo_43 : decode cX11_undo 43 = .ok (.aload_n 0, 1) := by decide +kernel
theorem dX11_undo_44 : decode cX11_undo 44 = .ok (.getfield 49, 3) := by decide +kernel
theorem dX11_undo_47 : decode cX11_undo 47 = .ok (.invokevirtual 60, 3) := by decide +kernel
theorem dX11_undo_50 : decode cX11_undo 50 = .ok (.ireturn, 1) := by decide +kernel
theorem dX11_save_0 : decode cX11_save 0 = .ok (.aload_n 0, 1) := by decide +kernel
theorem dX11_save_1 : decode cX11_save 1 = .ok (.getfield 7, 3) := by decide +kernel
theorem dX11_save_4 : decode cX11_save 4 = .ok (.iconst 0, 1) := by decide +kernel
theorem dX11_save_5 : decode cX11_save 5 = .ok (.aload_n 0, 1) := by decide +kernel
theorem dX11_save_6 : decode cX11_save 6 = .ok (.getfield 19, 3) := by decide +kernel
theorem dX11_save_9 : decode cX11_save 9 = .ok (.iconst 0, 1) := by decide +kernel
theorem dX11_save_10 : decode cX11_save 10 = .ok (.invokestatic 45, 3) := by decide +kernel
theorem dX11_save_13 : decode cX11_save 13 = .ok (.aload_n 0, 1) := by decide +kernel
theorem dX11_save_14 : decode cX11_save 14 = .ok (.iconst 1, 1) := by decide +kernel
theorem dX11_save_15 : decode cX11_save 15 = .ok (.putfield 217, 3) := by decide +kernel
theorem dX11_save_18 : decode cX11_save 18 = .ok (.aload_n 0, 1) := by decide +kernel
theorem dX11_save_19 : decode cX11_save 19 = .ok (.aload_n 0, 1) := by decide +kernel
theorem dX11_save_20 : decode cX11_save 20 = .ok (.getfield 7, 3) := by decide +kernel
theorem dX11_save_23 : decode cX11_save 23 = .ok (.iconst 0, 1) := by decide +kernel
theorem dX11_save_24 : decode cX11_save 24 = .ok (.iaload, 1) := by decide +kernel
theorem dX11_save_25 : decode cX11_save 25 = .ok (.invokevirtual 60, 3) := by decide +kernel
theorem dX11_save_28 : decode cX11_save 28 = .ok (.ireturn, 1) := by decide +kernel
theorem dX11_restore_0 : decode cX11_restore 0 = .ok (.aload_n 0, 1) := by decide +kernel
theorem dX11_restore_1 : decode cX11_restore 1 = .ok (.getfield 217, 3) := by decide +kernel
theorem dX11_restore_4 : decode cX11_restore 4 = .ok (.ifCond .ne 9, 3) := by decide +kernel
theorem dX11_restore_7 : decode cX11_restore 7 = .ok (.aload_n 0, 1) := by decide +kernel
theorem dX11_restore_8 : decode cX11_restore 8 = .ok (.iconst 1, 1) := by decide +kernel
theorem dX11_restore_9 : decode cX11_restore 9 = .ok (.invokevirtual 56, 3) := by decide +kernel
theorem dX11_restore_12 : decode cX11_restore 12 = .ok (.ireturn, 1) := by decide +kernel
theorem dX11_restore_13 : decode cX11_restore 13 = .ok (.aload_n 0, 1) := by decide +kernel
theorem dX11_restore_14 : decode cX11_restore 14 = .ok (.getfield 19, 3) := by decide +kernel
theorem dX11_restore_17 : decode cX11_restore 17 = .ok (.iconst 0, 1) := by decide +kernel
theorem dX11_restore_18 : decode cX11_restore 18 = .ok (.aload_n 0, 1) := by decide +kernel
theorem dX11_restore_19 : decode cX11_restore 19 = .ok (.getfield 7, 3) := by decide +kernel
theorem dX11_restore_22 : decode cX11_restore 22 = .ok (.iconst 0, 1) := by decide +kernel
theorem dX11_restore_23 : decode cX11_restore 23 = .ok (.invokestatic 45, 3) := by decide +kernel
theorem dX11_restore_26 : decode cX11_restore 26 = .ok (.aload_n 0, 1) := by decide +kernel
theorem dX11_restore_27 : decode cX11_restore 27 = .ok (.iconst 0, 1) := by decide +kernel
theorem dX11_restore_28 : decode cX11_restore 28 = .ok (.putfield 49, 3) := by decide +kernel
theorem dX11_restore_31 : decode cX11_restore 31 = .ok (.aload_n 0, 1) := by decide +kernel
theorem dX11_restore_32 : decode cX11_restore 32 = .ok (.aload_n 0, 1) := by decide +kernel
theorem dX11_restore_33 : decode cX11_restore 33 = .ok (.getfield 7, 3) := by decide +kernel
theorem dX11_restore_36 : decode cX11_restore 36 = .ok (.iconst 0, 1) := by decide +kernel
theorem dX11_restore_37 : decode cX11_restore 37 = .ok (.iaload, 1) := by decide +kernel
theorem dX11_restore_38 : decode cX11_restore 38 = .ok (.invokevirtual 60, 3) := by decide +kernel
theorem dX11_restore_41 : decode cX11_restore 41 = .ok (.ireturn, 1) := by decide +kernel
