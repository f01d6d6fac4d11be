theorem dX0_init_0 : decode cX0_init 0 = .ok (.aload_n 0, 1) := by decide +kernel
theorem dX0_init_1 : decode cX0_init 1 = .ok (.invokespecial 3, 3) := by decide +kernel
theorem dX0_init_4 : decode cX0_init 4 = .ok (.aload_n 0, 1) := by decide +kernel
theorem dX0_init_5 : decode cX0_init 5 = .ok (.bipush 96, 2) := by decide +kernel
theorem dX0_init_7 : decode cX0_init 7 = .ok (.anewarray 9, 3) := by decide +kernel
theorem dX0_init_10 : decode cX0_init 10 = .ok (.putfield 11, 3) := by decide +kernel
theorem dX0_init_13 : decode cX0_init 13 = .ok (.aload_n 0, 1) := by decide +kernel
theorem dX0_init_14 : decode cX0_init 14 = .ok (.iconst 0, 1) := by decide +kernel
theorem dX0_init_15 : decode cX0_init 15 = .ok (.putfield 17, 3) := by decide +kernel
theorem dX0_init_18 : decode cX0_init 18 = .ok (.aload_n 0, 1) := by decide +kernel
theorem dX0_init_19 : decode cX0_init 19 = .ok (.iconst 0, 1) := by decide +kernel
theorem dX0_init_20 : decode cX0_init 20 = .ok (.putfield 21, 3) := by decide +kernel
theorem dX0_init_23 : decode cX0_init 23 = .ok (.iconst 0, 1) := by decide +kernel
theorem dX0_init_24 : decode cX0_init 24 = .ok (.istore_n 1, 1) := by decide +kernel
theorem dX0_init_25 : decode cX0_init 25 = .ok (.iload_n 1, 1) := by decide +kernel
theorem dX0_init_26 : decode cX0_init 26 = .ok (.bipush 96, 2) := by decide +kernel
theorem dX0_init_28 : decode cX0_init 28 = .ok (.if_icmp .ge 22, 3) := by decide +kernel
theorem dX0_init_31 : decode cX0_init 31 = .ok (.aload_n 0, 1) := by decide +kernel
theorem dX0_init_32 : decode cX0_init 32 = .ok (.getfield 11, 3) := by decide +kernel
theorem dX0_init_35 : decode cX0_init 35 = .ok (.iload_n 1, 1) := by decide +kernel
theorem dX0_init_36 : decode cX0_init 36 = .ok (.new 9, 3) := by decide +kernel
theorem dX0_init_39 : decode cX0_init 39 = .ok (.dup, 1) := by decide +kernel
theorem dX0_init_40 : decode cX0_init 40 = .ok (.invokespecial 24, 3) := by decide +kernel
theorem dX0_init_43 : decode cX0_init 43 = .ok (.aastore, 1) := by decide +kernel
theorem dX0_init_44 : decode cX0_init 44 = .ok (.iinc 1 1, 3) := by decide +kernel
theorem dX0_init_47 : decode cX0_init 47 = .ok (.goto (-22), 3) := by decide +kernel
theorem dX0_init_50 : decode cX0_init 50 = .ok (.return_, 1) := by decide +kernel
theorem dX0_forget_0 : decode cX0_forget 0 = .ok (.aload_n 0, 1) := by decide +kernel
theorem dX0_forget_1 : decode cX0_forget 1 = .ok (.iconst 0, 1) := by decide +kernel
theorem dX0_forget_2 : decode cX0_forget 2 = .ok (.putfield 17, 3) := by decide +kernel
theorem dX0_forget_5 : decode cX0_forget 5 = .ok (.aload_n 0, 1) := by decide +kernel
theorem dX0_forget_6 : decode cX0_forget 6 = .ok (.iconst 0, 1) := by decide +kernel
theorem dX0_forget_7 : decode cX0_forget 7 = .ok (.putfield 21, 3) := by decide +kernel
theorem dX0_forget_10 : decode cX0_forget 10 = .ok (.return_, 1) := by decide +kernel
theorem dX0_keep_0 : decode cX0_keep 0 = .ok (.aload_n 0, 1) := by decide +kernel
theorem dX0_keep_1 : decode cX0_keep 1 = .ok (.getfield 21, 3) := by decide +kernel
theorem dX0_keep_4 : decode cX0_keep 4 = .ok (.bipush 24, 2) := by decide +kernel
theorem dX0_keep_6 : decode cX0_keep 6 = .ok (.if_icmp .ne 26, 3) := by decide +kernel
theorem dX0_keep_9 : decode cX0_keep 9 = .ok (.aload_n 0, 1) := by decide +kernel
theorem dX0_keep_10 : decode cX0_keep 10 = .ok (.aload_n 0, 1) := by decide +kernel
theorem dX0_keep_11 : decode cX0_keep 11 = .ok (.getfield 17, 3) := by decide +kernel
theorem dX0_keep_14 : decode cX0_keep 14 = .ok (.iconst 1, 1) := by decide +kernel
theorem dX0_keep_15 : decode cX0_keep 15 = .ok (.iadd, 1) := by decide +kernel
theorem dX0_keep_16 : decode cX0_keep 16 = .ok (.bipush 24, 2) := by decide +kernel
theorem dX0_keep_18 : decode cX0_keep 18 = .ok (.irem, 1) := by decide +kernel
theorem dX0_keep_19 : decode cX0_keep 19 = .ok (.putfield 17, 3) := by decide +kernel
theorem dX0_keep_22 : decode cX0_keep 22 = .ok (.aload_n 0, 1) := by decide +kernel
theorem dX0_keep_23 : decode cX0_keep 23 = .ok (.dup, 1) := by decide +kernel
theorem dX0_keep_24 : decode cX0_keep 24 = .ok (.getfield 21, 3) := by decide +kernel
theorem dX0_keep_27 : decode cX0_keep 27 = .ok (.iconst 1, 1) := by decide +kernel
theorem dX0_keep_28 : decode cX0_keep 28 = .ok (.isub, 1) := by decide +kernel
theorem dX0_keep_29 : decode cX0_keep 29 = .ok (.putfield 21, 3) := by decide +kernel
theorem dX0_keep_32 : decode cX0_keep 32 = .ok (.aload_n 0, 1) := by decide +kernel
theorem dX0_keep_33 : decode cX0_keep 33 = .ok (.invokevirtual 25, 3) := by decide +kernel
theorem dX0_keep_36 : decode cX0_keep 36 = .ok (.istore_n 2, 1) := by decide +kernel
theorem dX0_keep_37 : decode cX0_keep 37 = .ok (.iconst 0, 1) := by decide +kernel
theorem dX0_keep_38 : decode cX0_keep 38 = .ok (.istore_n 3, 1) := by decide +kernel
theorem dX0_keep_39 : decode cX0_keep 39 = .ok (.iload_n 3, 1) := by decide +kernel
theorem dX0_keep_40 : decode cX0_keep 40 = .ok (.iconst 4, 1) := by decide +kernel
theorem dX0_keep_41 : decode cX0_keep 41 = .ok (.if_icmp .ge 26, 3) := by decide +kernel
theorem dX0_keep_44 : decode cX0_keep 44 = .ok (.aload_n 0, 1) := by decide +kernel
theorem dX0_keep_45 : decode cX0_keep 45 = .ok (.getfield 11, 3) := by decide +kernel
theorem dX0_keep_48 : decode cX0_keep 48 = .ok (.iload_n 2, 1) := by decide +kernel
theorem dX0_keep_49 : decode cX0_keep 49 = .ok (.iload_n 3, 1) := by decide +kernel
theorem dX0_keep_50 : decode cX0_keep 50 = .ok (.iadd, 1) := by decide +kernel
theorem dX0_keep_51 : decode cX0_keep 51 = .ok (.aaload, 1) := by decide +kernel
theorem dX0_keep_52 : decode cX0_keep 52 = .ok (.aload_n 1, 1) := by decide +kernel
theorem dX0_keep_53 : decode cX0_keep 53 = .ok (.getfield 29, 3) := by decide +kernel
theorem dX0_keep_56 : decode cX0_keep 56 = .ok (.iload_n 3, 1) := by decide +kernel
theorem dX0_keep_57 : decode cX0_keep 57 = .ok (.aaload, 1) := by decide +kernel
theorem dX0_keep_58 : decode cX0_keep 58 = .ok (.invokevirtual 34, 3) := by decide +kernel
theorem dX0_keep_61 : decode cX0_keep 61 = .ok (.iinc 3 1, 3) := by decide +kernel
theorem dX0_keep_64 : decode cX0_keep 64 = .ok (.goto (-25), 3) := by decide +kernel
theorem dX0_keep_67 : decode cX0_keep 67 = .ok (.aload_n 0, 1) := by decide +kernel
theorem dX0_keep_68 : decode cX0_keep 68 = .ok (.dup, 1) := by decide +kernel
theorem dX0_keep_69 : decode cX0_keep 69 = .ok (.getfield 21, 3) := by decide +kernel
theorem dX0_keep_72 : decode cX0_keep 72 = .ok (.iconst 1, 1) := by decide +kernel
theorem dX0_keep_73 : decode cX0_keep 73 = .ok (.iadd, 1) := by decide +kernel
theorem dX0_keep_74 : decode cX0_keep 74 = .ok (.putfield 21, 3) := by decide +kernel
theorem dX0_keep_77 : decode cX0_keep 77 = .ok (.return_, 1) := by decide +kernel
theorem dX0_takeBack_0 : decode cX0_takeBack 0 = .ok (.aload_n 0, 1) := by decide +kernel
theorem dX0_takeBack_1 : decode cX0_takeBack 1 = .ok (.getfield 21, 3) := by decide +kernel
theorem dX0_takeBack_4 : decode cX0_takeBack 4 = .ok (.ifCond .ne 4, 3) := by decide +kernel
theorem dX0_takeBack_7 : decode cX0_takeBack 7 = .ok (.return_, 1) := by decide +kernel
theorem dX0_takeBack_8 : decode cX0_takeBack 8 = .ok (.aload_n 0, 1) := by decide +kernel
theorem dX0_takeBack_9 : decode cX0_takeBack 9 = .ok (.dup, 1) := by decide +kernel
theorem dX0_takeBack_10 : decode cX0_takeBack 10 = .ok (.getfield 21, 3) := by decide +kernel
theorem dX0_takeBack_13 : decode cX0_takeBack 13 = .ok (.iconst 1, 1) := by decide +kernel
theorem dX0_takeBack_14 : decode cX0_takeBack 14 = .ok (.isub, 1) := by decide +kernel
theorem dX0_takeBack_15 : decode cX0_takeBack 15 = .ok (.putfield 21, 3) := by decide +kernel
theorem dX0_takeBack_18 : decode cX0_takeBack 18 = .ok (.aload_n 0, 1) := by decide +kernel
theorem dX0_takeBack_19 : decode cX0_takeBack 19 = .ok (.invokevirtual 25, 3) := by decide +kernel
theorem dX0_takeBack_22 : decode cX0_takeBack 22 = .ok (.istore_n 2, 1) := by decide +kernel
theorem dX0_takeBack_23 : decode cX0_takeBack 23 = .ok (.iconst 0, 1) := by decide +kernel
theorem dX0_takeBack_24 : decode cX0_takeBack 24 = .ok (.istore_n 3, 1) := by decide +kernel
theorem dX0_takeBack_25 : decode cX0_takeBack 25 = .ok (.iload_n 3, 1) := by decide +kernel
theorem dX0_takeBack_26 : decode cX0_takeBack 26 = .ok (.iconst 4, 1) := by decide +kernel
theorem dX0_takeBack_27 : decode cX0_takeBack 27 = .ok (.if_icmp .ge 26, 3) := by decide +kernel
theorem dX0_takeBack_30 : decode cX0_takeBack 30 = .ok (.aload_n 1, 1) := by decide +kernel
theorem dX0_takeBack_31 : decode cX0_takeBack 31 = .ok (.getfield 29, 3) := by decide +kernel
theorem dX0_takeBack_34 : decode cX0_takeBack 34 = .ok (.iload_n 3, 1) := by decide +kernel
theorem dX0_takeBack_35 : decode cX0_takeBack 35 = .ok (.aaload, 1) := by decide +kernel
theorem dX0_takeBack_36 : decode cX0_takeBack 36 = .ok (.aload_n 0, 1) := by decide +kernel
theorem dX0_takeBack_37 : decode cX0_takeBack 37 = .ok (.getfield 11, 3) := by decide +kernel
theorem dX0_takeBack_40 : decode cX0_takeBack 40 = .ok (.iload_n 2, 1) := by decide +kernel
theorem dX0_takeBack_41 : decode cX0_takeBack 41 = .ok (.iload_n 3, 1) := by decide +kernel
theorem dX0_takeBack_42 : decode cX0_takeBack 42 = .ok (.iadd, 1) := by decide +kernel
theorem dX0_takeBack_43 : decode cX0_takeBack 43 = .ok (.aaload, 1) := by decide +kernel
theorem dX0_takeBack_44 : decode cX0_takeBack 44 = .ok (.invokevirtual 34, 3) := by decide +kernel
theorem dX0_takeBack_47 : decode cX0_takeBack 47 = .ok (.iinc 3 1, 3) := by decide +kernel
theorem dX0_takeBack_50 : decode cX0_takeBack 50 = .ok (.goto (-25), 3) := by decide +kernel
theorem dX0_takeBack_53 : decode cX0_takeBack 53 = .ok (.return_, 1) := by decide +kernel
theorem dX0_placeBehindLatest_0 : decode cX0_placeBehindLatest 0 = .ok (.aload_n 0, 1) := by decide +kernel
theorem dX0_placeBehindLatest_1 : decode cX0_placeBehindLatest 1 = .ok (.getfield 17, 3) := by decide +kernel
theorem dX0_placeBehindLatest_4 : decode cX0_placeBehindLatest 4 = .ok (.aload_n 0, 1) := by decide +kernel
theorem dX0_placeBehindLatest_5 : decode cX0_placeBehindLatest 5 = .ok (.getfield 21, 3) := by decide +kernel
theorem dX0_placeBehindLatest_8 : decode cX0_placeBehindLatest 8 = .ok (.iadd, 1) := by decide +kernel
theorem dX0_placeBehindLatest_9 : decode cX0_placeBehindLatest 9 = .ok (.bipush 24, 2) := by decide +kernel
theorem dX0_placeBehindLatest_11 : decode cX0_placeBehindLatest 11 = .ok (.irem, 1) := by decide +kernel
theorem dX0_placeBehindLatest_12 : decode cX0_placeBehindLatest 12 = .ok (.iconst 4, 1) := by decide +kernel
theorem dX0_placeBehindLatest_13 : decode cX0_placeBehindLatest 13 = .ok (.imul, 1) := by decide +kernel
theorem dX0_placeBehindLatest_14 : decode cX0_placeBehindLatest 14 = .ok (.ireturn, 1) := by decide +kernel
theorem dX1_init_0 : decode cX1_init 0 = .ok (.aload_n 0, 1) := by decide +kernel
theorem dX1_init_1 : decode cX1_init 1 = .ok (.invokespecial 3, 3) := by decide +kernel
theorem dX1_init_4 : decode cX1_init 4 = .ok (.aload_n 0, 1) := by decide +kernel
theorem dX1_init_5 : decode cX1_init 5 = .ok (.bipush 16, 2) := by decide +kernel
theorem dX1_init_7 : decode cX1_init 7 = .ok (.newarray .int, 2) := by decide +kernel
theorem dX1_init_9 : decode cX1_init 9 = .ok (.putfield 9, 3) := by decide +kernel
theorem dX1_init_12 : decode cX1_init 12 = .ok (.aload_n 0, 1) := by decide +kernel
theorem dX1_init_13 : decode cX1_init 13 = .ok (.iconst 0, 1) := by decide +kernel
theorem dX1_init_14 : decode cX1_init 14 = .ok (.putfield 15, 3) := by decide +kernel
theorem dX1_init_17 : decode cX1_init 17 = .ok (.return_, 1) := by decide +kernel
theorem dX1_begin_0 : decode cX1_begin 0 = .ok (.aload_n 0, 1) := by decide +kernel
theorem dX1_begin_1 : decode cX1_begin 1 = .ok (.getfield 15, 3) := by decide +kernel
theorem dX1_begin_4 : decode cX1_begin 4 = .ok (.bipush 16, 2) := by decide +kernel
theorem dX1_begin_6 : decode cX1_begin 6 = .ok (.if_icmp .ge 23, 3) := by decide +kernel
theorem dX1_begin_9 : decode cX1_begin 9 = .ok (.aload_n 0, 1) := by decide +kernel
theorem dX1_begin_10 : decode cX1_begin 10 = .ok (.getfield 9, 3) := by decide +kernel
theorem dX1_begin_13 : decode cX1_begin 13 = .ok (.aload_n 0, 1) := by decide +kernel
theorem dX1_begin_14 : decode cX1_begin 14 = .ok (.getfield 15, 3) := by decide +kernel
theorem dX1_begin_17 : decode cX1_begin 17 = .ok (.iload_n 1, 1) := by decide +kernel
theorem dX1_begin_18 : decode cX1_begin 18 = .ok (.iastore, 1) := by decide +kernel
theorem dX1_begin_19 : decode cX1_begin 19 = .ok (.aload_n 0, 1) := by decide +kernel
theorem dX1_begin_20 : decode cX1_begin 20 = .ok (.dup, 1) := by decide +kernel
theorem dX1_begin_21 : decode cX1_begin 21 = .ok (.getfield 15, 3) := by decide +kernel
theorem dX1_begin_24 : decode cX1_begin 24 = .ok (.iconst 1, 1) := by decide +kernel
theorem dX1_begin_25 : decode cX1_begin 25 = .ok (.iadd, 1) := by decide +kernel
theorem dX1_begin_26 : decode cX1_begin 26 = .ok (.putfield 15, 3) := by decide +kernel
theorem dX1_begin_29 : decode cX1_begin 29 = .ok (.return_, 1) := by decide +kernel
theorem dX1_size_0 : decode cX1_size 0 = .ok (.aload_n 1, 1) := by decide +kernel
theorem dX1_size_1 : decode cX1_size 1 = .ok (.getfield 19, 3) := by decide +kernel
theorem dX1_size_4 : decode cX1_size 4 = .ok (.tableswitch 66 2 5 #[32, 66, 46, 52], 32) := by decide +kernel
theorem dX1_size_36 : decode cX1_size 36 = .ok (.aload_n 0, 1) := by decide +kernel
theorem dX1_size_37 : decode cX1_size 37 = .ok (.bipush 12, 2) := by decide +kernel
theorem dX1_size_39 : decode cX1_size 39 = .ok (.invokevirtual 24, 3) := by decide +kernel
theorem dX1_size_42 : decode cX1_size 42 = .ok (.aload_n 0, 1) := by decide +kernel
theorem dX1_size_43 : decode cX1_size 43 = .ok (.aload_n 1, 1) := by decide +kernel
theorem dX1_size_44 : decode cX1_size 44 = .ok (.iload_n 2, 1) := by decide +kernel
theorem dX1_size_45 : decode cX1_size 45 = .ok (.invokevirtual 28, 3) := by decide +kernel
theorem dX1_size_48 : decode cX1_size 48 = .ok (.ineg, 1) := by decide +kernel
theorem dX1_size_49 : decode cX1_size 49 = .ok (.ireturn, 1) := by decide +kernel
theorem dX1_size_50 : decode cX1_size 50 = .ok (.aload_n 0, 1) := by decide +kernel
theorem dX1_size_51 : decode cX1_size 51 = .ok (.aload_n 1, 1) := by decide +kernel
theorem dX1_size_52 : decode cX1_size 52 = .ok (.invokevirtual 32, 3) := by decide +kernel
theorem dX1_size_55 : decode cX1_size 55 = .ok (.ireturn, 1) := by decide +kernel
theorem dX1_size_56 : decode cX1_size 56 = .ok (.aload_n 0, 1) := by decide +kernel
theorem dX1_size_57 : decode cX1_size 57 = .ok (.bipush 14, 2) := by decide +kernel
theorem dX1_size_59 : decode cX1_size 59 = .ok (.invokevirtual 24, 3) := by decide +kernel
theorem dX1_size_62 : decode cX1_size 62 = .ok (.iconst 2, 1) := by decide +kernel
theorem dX1_size_63 : decode cX1_size 63 = .ok (.aload_n 0, 1) := by decide +kernel
theorem dX1_size_64 : decode cX1_size 64 = .ok (.aload_n 1, 1) := by decide +kernel
theorem dX1_size_65 : decode cX1_size 65 = .ok (.invokevirtual 32, 3) := by decide +kernel
theorem dX1_size_68 : decode cX1_size 68 = .ok (.imul, 1) := by decide +kernel
theorem dX1_size_69 : decode cX1_size 69 = .ok (.ireturn, 1) := by decide +kernel
theorem dX1_size_70 : decode cX1_size 70 = .ok (.aload_n 0, 1) := by decide +kernel
theorem dX1_size_71 : decode cX1_size 71 = .ok (.aload_n 1, 1) := by decide +kernel
theorem dX1_size_72 : decode cX1_size 72 = .ok (.iload_n 2, 1) := by decide +kernel
theorem dX1_size_73 : decode cX1_size 73 = .ok (.invokevirtual 28, 3) := by decide +kernel
theorem dX1_size_76 : decode cX1_size 76 = .ok (.ireturn, 1) := by decide +kernel
theorem dX1_mark_0 : decode cX1_mark 0 = .ok (.aload_n 1, 1) := by decide +kernel
theorem dX1_mark_1 : decode cX1_mark 1 = .ok (.getfield 19, 3) := by decide +kernel
theorem dX1_mark_4 : decode cX1_mark 4 = .ok (.iconst 4, 1) := by decide +kernel
theorem dX1_mark_5 : decode cX1_mark 5 = .ok (.invokestatic 36, 3) := by decide +kernel
theorem dX1_mark_8 : decode cX1_mark 8 = .ok (.ifCond .ne 10, 3) := by decide +kernel
theorem dX1_mark_11 : decode cX1_mark 11 = .ok (.aload_n 0, 1) := by decide +kernel
theorem dX1_mark_12 : decode cX1_mark 12 = .ok (.aload_n 1, 1) := by decide +kernel
theorem dX1_mark_13 : decode cX1_mark 13 = .ok (.iload_n 2, 1) := by decide +kernel
theorem dX1_mark_14 : decode cX1_mark 14 = .ok (.invokevirtual 40, 3) := by decide +kernel
theorem dX1_mark_17 : decode cX1_mark 17 = .ok (.ireturn, 1) := by decide +kernel
theorem dX1_mark_18 : decode cX1_mark 18 = .ok (.aload_n 0, 1) := by decide +kernel
theorem dX1_mark_19 : decode cX1_mark 19 = .ok (.bipush 23, 2) := by decide +kernel
theorem dX1_mark_21 : decode cX1_mark 21 = .ok (.invokevirtual 24, 3) := by decide +kernel
theorem dX1_mark_24 : decode cX1_mark 24 = .ok (.aload_n 0, 1) := by decide +kernel
theorem dX1_mark_25 : decode cX1_mark 25 = .ok (.iload_n 2, 1) := by decide +kernel
theorem dX1_mark_26 : decode cX1_mark 26 = .ok (.invokevirtual 43, 3) := by decide +kernel
theorem dX1_mark_29 : decode cX1_mark 29 = .ok (.istore_n 3, 1) := by decide +kernel
theorem dX1_mark_30 : decode cX1_mark 30 = .ok (.iload_n 3, 1) := by decide +kernel
theorem dX1_mark_31 : decode cX1_mark 31 = .ok (.aload_n 0, 1) := by decide +kernel
theorem dX1_mark_32 : decode cX1_mark 32 = .ok (.aload_n 1, 1) := by decide +kernel
theorem dX1_mark_33 : decode cX1_mark 33 = .ok (.iload_n 2, 1) := by decide +kernel
theorem dX1_mark_34 : decode cX1_mark 34 = .ok (.invokevirtual 47, 3) := by decide +kernel
theorem dX1_mark_37 : decode cX1_mark 37 = .ok (.isub, 1) := by decide +kernel
theorem dX1_mark_38 : decode cX1_mark 38 = .ok (.ireturn, 1) := by decide +kernel
theorem dX1_markAmongCaptains_0 : decode cX1_markAmongCaptains 0 = .ok (.aload_n 1, 1) := by decide +kernel
theorem dX1_markAmongCaptains_1 : decode cX1_markAmongCaptains 1 = .ok (.getfield 19, 3) := by decide +kernel
theorem dX1_markAmongCaptains_4 : decode cX1_markAmongCaptains 4 = .ok (.lookupswitch 60 #[(2, 28), (3, 43)], 28) := by decide +kernel
theorem dX1_markAmongCaptains_32 : decode cX1_markAmongCaptains 32 = .ok (.aload_n 0, 1) := by decide +kernel
theorem dX1_markAmongCaptains_33 : decode cX1_markAmongCaptains 33 = .ok (.bipush 24, 2) := by decide +kernel
theorem dX1_markAmongCaptains_35 : decode cX1_markAmongCaptains 35 = .ok (.invokevirtual 24, 3) := by decide +kernel
theorem dX1_markAmongCaptains_38 : decode cX1_markAmongCaptains 38 = .ok (.iconst 2, 1) := by decide +kernel
theorem dX1_markAmongCaptains_39 : decode cX1_markAmongCaptains 39 = .ok (.aload_n 0, 1) := by decide +kernel
theorem dX1_markAmongCaptains_40 : decode cX1_markAmongCaptains 40 = .ok (.aload_n 1, 1) := by decide +kernel
theorem dX1_markAmongCaptains_41 : decode cX1_markAmongCaptains 41 = .ok (.iload_n 2, 1) := by decide +kernel
theorem dX1_markAmongCaptains_42 : decode cX1_markAmongCaptains 42 = .ok (.invokevirtual 50, 3) := by decide +kernel
theorem dX1_markAmongCaptains_45 : decode cX1_markAmongCaptains 45 = .ok (.imul, 1) := by decide +kernel
theorem dX1_markAmongCaptains_46 : decode cX1_markAmongCaptains 46 = .ok (.ireturn, 1) := by decide +kernel
theorem dX1_markAmongCaptains_47 : decode cX1_markAmongCaptains 47 = .ok (.aload_n 0, 1) := by decide +kernel
theorem dX1_markAmongCaptains_48 : decode cX1_markAmongCaptains 48 = .ok (.bipush 22, 2) := by decide +kernel
theorem dX1_markAmongCaptains_50 : decode cX1_markAmongCaptains 50 = .ok (.invokevirtual 24, 3) := by decide +kernel
theorem dX1_markAmongCaptains_53 : decode cX1_markAmongCaptains 53 = .ok (.aload_n 0, 1) := by decide +kernel
theorem dX1_markAmongCaptains_54 : decode cX1_markAmongCaptains 54 = .ok (.aload_n 1, 1) := by decide +kernel
theorem dX1_markAmongCaptains_55 : decode cX1_markAmongCaptains 55 = .ok (.iload_n 2, 1) := by decide +kernel
theorem dX1_markAmongCaptains_56 : decode cX1_markAmongCaptains 56 = .ok (.invokevirtual 50, 3) := by decide +kernel
theorem dX1_markAmongCaptains_59 : decode cX1_markAmongCaptains 59 = .ok (.sipush 1000, 3) := by decide +kernel
theorem dX1_markAmongCaptains_62 : decode cX1_markAmongCaptains 62 = .ok (.isub, 1) := by decide +kernel
theorem dX1_markAmongCaptains_63 : decode cX1_markAmongCaptains 63 = .ok (.ireturn, 1) := by decide +kernel
theorem dX1_markAmongCaptains_64 : decode cX1_markAmongCaptains 64 = .ok (.aload_n 0, 1) := by decide +kernel
theorem dX1_markAmongCaptains_65 : decode cX1_markAmongCaptains 65 = .ok (.aload_n 1, 1) := by decide +kernel
theorem dX1_markAmongCaptains_66 : decode cX1_markAmongCaptains 66 = .ok (.iload_n 2, 1) := by decide +kernel
theorem dX1_markAmongCaptains_67 : decode cX1_markAmongCaptains 67 = .ok (.invokevirtual 50, 3) := by decide +kernel
theorem dX1_markAmongCaptains_70 : decode cX1_markAmongCaptains 70 = .ok (.ireturn, 1) := by decide +kernel
theorem dX1_lentSize_0 : decode cX1_lentSize 0 = .ok (.aload_n 0, 1) := by decide +kernel
theorem dX1_lentSize_1 : decode cX1_lentSize 1 = .ok (.bipush 10, 2) := by decide +kernel
theorem dX1_lentSize_3 : decode cX1_lentSize 3 = .ok (.invokevirtual 24, 3) := by decide +kernel
theorem dX1_lentSize_6 : decode cX1_lentSize 6 = .ok (.aload_n 1, 1) := by decide +kernel
theorem dX1_lentSize_7 : decode cX1_lentSize 7 = .ok (.getfield 53, 3) := by decide +kernel
theorem dX1_lentSize_10 : decode cX1_lentSize 10 = .ok (.ireturn, 1) := by decide +kernel
theorem dX1_sizeOfCaptain_0 : decode cX1_sizeOfCaptain 0 = .ok (.aload_n 0, 1) := by decide +kernel
theorem dX1_sizeOfCaptain_1 : decode cX1_sizeOfCaptain 1 = .ok (.bipush 11, 2) := by decide +kernel
theorem dX1_sizeOfCaptain_3 : decode cX1_sizeOfCaptain 3 = .ok (.invokevirtual 24, 3) := by decide +kernel
theorem dX1_sizeOfCaptain_6 : decode cX1_sizeOfCaptain 6 = .ok (.aload_n 0, 1) := by decide +kernel
theorem dX1_sizeOfCaptain_7 : decode cX1_sizeOfCaptain 7 = .ok (.aload_n 1, 1) := by decide +kernel
theorem dX1_sizeOfCaptain_8 : decode cX1_sizeOfCaptain 8 = .ok (.invokevirtual 56, 3) := by decide +kernel
theorem dX1_sizeOfCaptain_11 : decode cX1_sizeOfCaptain 11 = .ok (.istore_n 3, 1) := by decide +kernel
theorem dX1_sizeOfCaptain_12 : decode cX1_sizeOfCaptain 12 = .ok (.iload_n 3, 1) := by decide +kernel
theorem dX1_sizeOfCaptain_13 : decode cX1_sizeOfCaptain 13 = .ok (.aload_n 0, 1) := by decide +kernel
theorem dX1_sizeOfCaptain_14 : decode cX1_sizeOfCaptain 14 = .ok (.aload_n 1, 1) := by decide +kernel
theorem dX1_sizeOfCaptain_15 : decode cX1_sizeOfCaptain 15 = .ok (.iload_n 2, 1) := by decide +kernel
theorem dX1_sizeOfCaptain_16 : decode cX1_sizeOfCaptain 16 = .ok (.invokevirtual 40, 3) := by decide +kernel
theorem dX1_sizeOfCaptain_19 : decode cX1_sizeOfCaptain 19 = .ok (.iadd, 1) := by decide +kernel
theorem dX1_sizeOfCaptain_20 : decode cX1_sizeOfCaptain 20 = .ok (.ireturn, 1) := by decide +kernel
theorem dX1_sizeOfClerk_0 : decode cX1_sizeOfClerk 0 = .ok (.aload_n 0, 1) := by decide +kernel
theorem dX1_sizeOfClerk_1 : decode cX1_sizeOfClerk 1 = .ok (.bipush 13, 2) := by decide +kernel
theorem dX1_sizeOfClerk_3 : decode cX1_sizeOfClerk 3 = .ok (.invokevirtual 24, 3) := by decide +kernel
theorem dX1_sizeOfClerk_6 : decode cX1_sizeOfClerk 6 = .ok (.aload_n 0, 1) := by decide +kernel
theorem dX1_sizeOfClerk_7 : decode cX1_sizeOfClerk 7 = .ok (.aload_n 1, 1) := by decide +kernel
theorem dX1_sizeOfClerk_8 : decode cX1_sizeOfClerk 8 = .ok (.invokevirtual 56, 3) := by decide +kernel
theorem dX1_sizeOfClerk_11 : decode cX1_sizeOfClerk 11 = .ok (.bipush 100, 2) := by decide +kernel
theorem dX1_sizeOfClerk_13 : decode cX1_sizeOfClerk 13 = .ok (.isub, 1) := by decide +kernel
theorem dX1_sizeOfClerk_14 : decode cX1_sizeOfClerk 14 = .ok (.ireturn, 1) := by decide +kernel
theorem dX1_lentMark_0 : decode cX1_lentMark 0 = .ok (.aload_n 0, 1) := by decide +kernel
theorem dX1_lentMark_1 : decode cX1_lentMark 1 = .ok (.bipush 20, 2) := by decide +kernel
theorem dX1_lentMark_3 : decode cX1_lentMark 3 = .ok (.invokevirtual 24, 3) := by decide +kernel
theorem dX1_lentMark_6 : decode cX1_lentMark 6 = .ok (.iload_n 1, 1) := by decide +kernel
theorem dX1_lentMark_7 : decode cX1_lentMark 7 = .ok (.ireturn, 1) := by decide +kernel
theorem dX1_markOfCaptain_0 : decode cX1_markOfCaptain 0 = .ok (.aload_n 0, 1) := by decide +kernel
theorem dX1_markOfCaptain_1 : decode cX1_markOfCaptain 1 = .ok (.bipush 21, 2) := by decide +kernel
theorem dX1_markOfCaptain_3 : decode cX1_markOfCaptain 3 = .ok (.invokevirtual 24, 3) := by decide +kernel
theorem dX1_markOfCaptain_6 : decode cX1_markOfCaptain 6 = .ok (.aload_n 0, 1) := by decide +kernel
theorem dX1_markOfCaptain_7 : decode cX1_markOfCaptain 7 = .ok (.iload_n 2, 1) := by decide +kernel
theorem dX1_markOfCaptain_8 : decode cX1_markOfCaptain 8 = .ok (.invokevirtual 43, 3) := by decide +kernel
theorem dX1_markOfCaptain_11 : decode cX1_markOfCaptain 11 = .ok (.aload_n 1, 1) := by decide +kernel
theorem dX1_markOfCaptain_12 : decode cX1_markOfCaptain 12 = .ok (.getfield 59, 3) := by decide +kernel
theorem dX1_markOfCaptain_15 : decode cX1_markOfCaptain 15 = .ok (.iadd, 1) := by decide +kernel
theorem dX1_markOfCaptain_16 : decode cX1_markOfCaptain 16 = .ok (.ireturn, 1) := by decide +kernel
theorem dX2_init_0 : decode cX2_init 0 = .ok (.aload_n 0, 1) := by decide +kernel
theorem dX2_init_1 : decode cX2_init 1 = .ok (.invokespecial 3, 3) := by decide +kernel
theorem dX2_init_4 : decode cX2_init 4 = .ok (.aload_n 0, 1) := by decide +kernel
theorem dX2_init_5 : decode cX2_init 5 = .ok (.sipush 205, 3) := by decide +kernel
theorem dX2_init_8 : decode cX2_init 8 = .ok (.newarray .long, 2) := by decide +kernel
theorem dX2_init_10 : decode cX2_init 10 = .ok (.putfield 9, 3) := by decide +kernel
theorem dX2_init_13 : decode cX2_init 13 = .ok (.return_, 1) := by decide +kernel
theorem dX2_gainsAt_0 : decode cX2_gainsAt 0 = .ok (.iload_n 1, 1) := by decide +kernel
theorem dX2_gainsAt_1 : decode cX2_gainsAt 1 = .ok (.iconst 0, 1) := by decide +kernel
theorem dX2_gainsAt_2 : decode cX2_gainsAt 2 = .ok (.bipush 40, 2) := by decide +kernel
theorem dX2_gainsAt_4 : decode cX2_gainsAt 4 = .ok (.invokestatic 15, 3) := by decide +kernel
theorem dX2_gainsAt_7 : decode cX2_gainsAt 7 = .ok (.ifCond .ne 12, 3) := by decide +kernel
theorem dX2_gainsAt_10 : decode cX2_gainsAt 10 = .ok (.iload_n 2, 1) := by decide +kernel
theorem dX2_gainsAt_11 : decode cX2_gainsAt 11 = .ok (.iconst 0, 1) := by decide +kernel
theorem dX2_gainsAt_12 : decode cX2_gainsAt 12 = .ok (.iconst 4, 1) := by decide +kernel
theorem dX2_gainsAt_13 : decode cX2_gainsAt 13 = .ok (.invokestatic 15, 3) := by decide +kernel
theorem dX2_gainsAt_16 : decode cX2_gainsAt 16 = .ok (.ifCond .eq 5, 3) := by decide +kernel
theorem dX2_gainsAt_19 : decode cX2_gainsAt 19 = .ok (.lconst 0, 1) := by decide +kernel
theorem dX2_gainsAt_20 : decode cX2_gainsAt 20 = .ok (.lreturn, 1) := by decide +kernel
theorem dX2_gainsAt_21 : decode cX2_gainsAt 21 = .ok (.aload_n 0, 1) := by decide +kernel
theorem dX2_gainsAt_22 : decode cX2_gainsAt 22 = .ok (.getfield 9, 3) := by decide +kernel
theorem dX2_gainsAt_25 : decode cX2_gainsAt 25 = .ok (.iload_n 1, 1) := by decide +kernel
theorem dX2_gainsAt_26 : decode cX2_gainsAt 26 = .ok (.iconst 5, 1) := by decide +kernel
theorem dX2_gainsAt_27 : decode cX2_gainsAt 27 = .ok (.imul, 1) := by decide +kernel
theorem dX2_gainsAt_28 : decode cX2_gainsAt 28 = .ok (.iload_n 2, 1) := by decide +kernel
theorem dX2_gainsAt_29 : decode cX2_gainsAt 29 = .ok (.iadd, 1) := by decide +kernel
theorem dX2_gainsAt_30 : decode cX2_gainsAt 30 = .ok (.laload, 1) := by decide +kernel
theorem dX2_gainsAt_31 : decode cX2_gainsAt 31 = .ok (.lreturn, 1) := by decide +kernel
theorem dX2_hasGain_0 : decode cX2_hasGain 0 = .ok (.iload_n 3, 1) := by decide +kernel
theorem dX2_hasGain_1 : decode cX2_hasGain 1 = .ok (.iconst 0, 1) := by decide +kernel
theorem dX2_hasGain_2 : decode cX2_hasGain 2 = .ok (.bipush 40, 2) := by decide +kernel
theorem dX2_hasGain_4 : decode cX2_hasGain 4 = .ok (.invokestatic 15, 3) := by decide +kernel
theorem dX2_hasGain_7 : decode cX2_hasGain 7 = .ok (.ifCond .ne 22, 3) := by decide +kernel
theorem dX2_hasGain_10 : decode cX2_hasGain 10 = .ok (.aload_n 0, 1) := by decide +kernel
theorem dX2_hasGain_11 : decode cX2_hasGain 11 = .ok (.iload_n 1, 1) := by decide +kernel
theorem dX2_hasGain_12 : decode cX2_hasGain 12 = .ok (.iload_n 2, 1) := by decide +kernel
theorem dX2_hasGain_13 : decode cX2_hasGain 13 = .ok (.invokevirtual 19, 3) := by decide +kernel
theorem dX2_hasGain_16 : decode cX2_hasGain 16 = .ok (.iload_n 3, 1) := by decide +kernel
theorem dX2_hasGain_17 : decode cX2_hasGain 17 = .ok (.lushr, 1) := by decide +kernel
theorem dX2_hasGain_18 : decode cX2_hasGain 18 = .ok (.lconst 1, 1) := by decide +kernel
theorem dX2_hasGain_19 : decode cX2_hasGain 19 = .ok (.land, 1) := by decide +kernel
theorem dX2_hasGain_20 : decode cX2_hasGain 20 = .ok (.lconst 1, 1) := by decide +kernel
theorem dX2_hasGain_21 : decode cX2_hasGain 21 = .ok (.lcmp, 1) := by decide +kernel
theorem dX2_hasGain_22 : decode cX2_hasGain 22 = .ok (.ifCond .ne 7, 3) := by decide +kernel
theorem dX2_hasGain_25 : decode cX2_hasGain 25 = .ok (.iconst 1, 1) := by decide +kernel
theorem dX2_hasGain_26 : decode cX2_hasGain 26 = .ok (.goto 4, 3) := by decide +kernel
theorem dX2_hasGain_29 : decode cX2_hasGain 29 = .ok (.iconst 0, 1) := by decide +kernel
theorem dX2_hasGain_30 : decode cX2_hasGain 30 = .ok (.ireturn, 1) := by decide +kernel
theorem dX2_foresee_0 : decode cX2_foresee 0 = .ok (.iconst 0, 1) := by decide +kernel
theorem dX2_foresee_1 : decode cX2_foresee 1 = .ok (.istore_n 3, 1) := by decide +kernel
theorem dX2_foresee_2 : decode cX2_foresee 2 = .ok (.iload_n 3, 1) := by decide +kernel
theorem dX2_foresee_3 : decode cX2_foresee 3 = .ok (.iconst 5, 1) := by decide +kernel
theorem dX2_foresee_4 : decode cX2_foresee 4 = .ok (.if_icmp .ge 28, 3) := by decide +kernel
theorem dX2_foresee_7 : decode cX2_foresee 7 = .ok (.aload_n 0, 1) := by decide +kernel
theorem dX2_foresee_8 : decode cX2_foresee 8 = .ok (.getfield 9, 3) := by decide +kernel
theorem dX2_foresee_11 : decode cX2_foresee 11 = .ok (.iload_n 3, 1) := by decide +kernel
theorem dX2_foresee_12 : decode cX2_foresee 12 = .ok (.iload_n 3, 1) := by decide +kernel
theorem dX2_foresee_13 : decode cX2_foresee 13 = .ok (.aload_n 2, 1) := by decide +kernel
theorem dX2_foresee_14 : decode cX2_foresee 14 = .ok (.getfield 23, 3) := by decide +kernel
theorem dX2_foresee_17 : decode cX2_foresee 17 = .ok (.if_icmp .ne 7, 3) := by decide +kernel
theorem dX2_foresee_20 : decode cX2_foresee 20 = .ok (.lconst 1, 1) := by decide +kernel
theorem dX2_foresee_21 : decode cX2_foresee 21 = .ok (.goto 4, 3) := by decide +kernel
theorem dX2_foresee_24 : decode cX2_foresee 24 = .ok (.lconst 0, 1) := by decide +kernel
theorem dX2_foresee_25 : decode cX2_foresee 25 = .ok (.lastore, 1) := by decide +kernel
theorem dX2_foresee_26 : decode cX2_foresee 26 = .ok (.iinc 3 1, 3) := by decide +kernel
theorem dX2_foresee_29 : decode cX2_foresee 29 = .ok (.goto (-27), 3) := by decide +kernel
theorem dX2_foresee_32 : decode cX2_foresee 32 = .ok (.iconst 1, 1) := by decide +kernel
theorem dX2_foresee_33 : decode cX2_foresee 33 = .ok (.istore_n 3, 1) := by decide +kernel
theorem dX2_foresee_34 : decode cX2_foresee 34 = .ok (.iload_n 3, 1) := by decide +kernel
theorem dX2_foresee_35 : decode cX2_foresee 35 = .ok (.bipush 40, 2) := by decide +kernel
theorem dX2_foresee_37 : decode cX2_foresee 37 = .ok (.if_icmp .gt 89, 3) := by decide +kernel
theorem dX2_foresee_40 : decode cX2_foresee 40 = .ok (.iconst 0, 1) := by decide +kernel
theorem dX2_foresee_41 : decode cX2_foresee 41 = .ok (.istore 4, 2) := by decide +kernel
theorem dX2_foresee_43 : decode cX2_foresee 43 = .ok (.iload 4, 2) := by decide +kernel
theorem dX2_foresee_45 : decode cX2_foresee 45 = .ok (.iconst 5, 1) := by decide +kernel
theorem dX2_foresee_46 : decode cX2_foresee 46 = .ok (.if_icmp .ge 29, 3) := by decide +kernel
theorem dX2_foresee_49 : decode cX2_foresee 49 = .ok (.aload_n 0, 1) := by decide +kernel
theorem dX2_foresee_50 : decode cX2_foresee 50 = .ok (.getfield 9, 3) := by decide +kernel
theorem dX2_foresee_53 : decode cX2_foresee 53 = .ok (.iload_n 3, 1) := by decide +kernel
theorem dX2_foresee_54 : decode cX2_foresee 54 = .ok (.iconst 5, 1) := by decide +kernel
theorem dX2_foresee_55 : decode cX2_foresee 55 = .ok (.imul, 1) := by decide +kernel
theorem dX2_foresee_56 : decode cX2_foresee 56 = .ok (.iload 4, 2) := by decide +kernel
theorem dX2_foresee_58 : decode cX2_foresee 58 = .ok (.iadd, 1) := by decide +kernel
theorem dX2_foresee_59 : decode cX2_foresee 59 = .ok (.aload_n 0, 1) := by decide +kernel
theorem dX2_foresee_60 : decode cX2_foresee 60 = .ok (.iload_n 3, 1) := by decide +kernel
theorem dX2_foresee_61 : decode cX2_foresee 61 = .ok (.iconst 1, 1) := by decide +kernel
theorem dX2_foresee_62 : decode cX2_foresee 62 = .ok (.isub, 1) := by decide +kernel
theorem dX2_foresee_63 : decode cX2_foresee 63 = .ok (.iload 4, 2) := by decide +kernel
theorem dX2_foresee_65 : decode cX2_foresee 65 = .ok (.invokevirtual 19, 3) := by decide +kernel
theorem dX2_foresee_68 : decode cX2_foresee 68 = .ok (.lastore, 1) := by decide +kernel
theorem dX2_foresee_69 : decode cX2_foresee 69 = .ok (.iinc 4 1, 3) := by decide +kernel
theorem dX2_foresee_72 : decode cX2_foresee 72 = .ok (.goto (-29), 3) := by decide +kernel
theorem dX2_foresee_75 : decode cX2_foresee 75 = .ok (.iconst 0, 1) := by decide +kernel
theorem dX2_foresee_76 : decode cX2_foresee 76 = .ok (.istore 4, 2) := by decide +kernel
theorem dX2_foresee_78 : decode cX2_foresee 78 = .ok (.iload 4, 2) := by decide +kernel
theorem dX2_foresee_80 : decode cX2_foresee 80 = .ok (.aload_n 1, 1) := by decide +kernel
theorem dX2_foresee_81 : decode cX2_foresee 81 = .ok (.getfield 29, 3) := by decide +kernel
theorem dX2_foresee_84 : decode cX2_foresee 84 = .ok (.if_icmp .ge 36, 3) := by decide +kernel
theorem dX2_foresee_87 : decode cX2_foresee 87 = .ok (.aload_n 2, 1) := by decide +kernel
theorem dX2_foresee_88 : decode cX2_foresee 88 = .ok (.aload_n 1, 1) := by decide +kernel
theorem dX2_foresee_89 : decode cX2_foresee 89 = .ok (.getfield 34, 3) := by decide +kernel
theorem dX2_foresee_92 : decode cX2_foresee 92 = .ok (.iload 4, 2) := by decide +kernel
theorem dX2_foresee_94 : decode cX2_foresee 94 = .ok (.aaload, 1) := by decide +kernel
theorem dX2_foresee_95 : decode cX2_foresee 95 = .ok (.invokevirtual 38, 3) := by decide +kernel
theorem dX2_foresee_98 : decode cX2_foresee 98 = .ok (.ifCond .eq 16, 3) := by decide +kernel
theorem dX2_foresee_101 : decode cX2_foresee 101 = .ok (.aload_n 0, 1) := by decide +kernel
theorem dX2_foresee_102 : decode cX2_foresee 102 = .ok (.aload_n 2, 1) := by decide +kernel
theorem dX2_foresee_103 : decode cX2_foresee 103 = .ok (.aload_n 1, 1) := by decide +kernel
theorem dX2_foresee_104 : decode cX2_foresee 104 = .ok (.getfield 34, 3) := by decide +kernel
theorem dX2_foresee_107 : decode cX2_foresee 107 = .ok (.iload 4, 2) := by decide +kernel
theorem dX2_foresee_109 : decode cX2_foresee 109 = .ok (.aaload, 1) := by decide +kernel
theorem dX2_foresee_110 : decode cX2_foresee 110 = .ok (.iload_n 3, 1) := by decide +kernel
theorem dX2_foresee_111 : decode cX2_foresee 111 = .ok (.invokevirtual 42, 3) := by decide +kernel
theorem dX2_foresee_114 : decode cX2_foresee 114 = .ok (.iinc 4 1, 3) := by decide +kernel
theorem dX2_foresee_117 : decode cX2_foresee 117 = .ok (.goto (-39), 3) := by decide +kernel
theorem dX2_foresee_120 : decode cX2_foresee 120 = .ok (.iinc 3 1, 3) := by decide +kernel
theorem dX2_foresee_123 : decode cX2_foresee 123 = .ok (.goto (-89), 3) := by decide +kernel
theorem dX2_foresee_126 : decode cX2_foresee 126 = .ok (.return_, 1) := by decide +kernel
theorem dX2_arrive_0 : decode cX2_arrive 0 = .ok (.aload_n 2, 1) := by decide +kernel
theorem dX2_arrive_1 : decode cX2_arrive 1 = .ok (.getfield 46, 3) := by decide +kernel
theorem dX2_arrive_4 : decode cX2_arrive 4 = .ok (.aload_n 1, 1) := by decide +kernel
theorem dX2_arrive_5 : decode cX2_arrive 5 = .ok (.aload_n 2, 1) := by decide +kernel
theorem dX2_arrive_6 : decode cX2_arrive 6 = .ok (.invokevirtual 51, 3) := by decide +kernel
theorem dX2_arrive_9 : decode cX2_arrive 9 = .ok (.isub, 1) := by decide +kernel
theorem dX2_arrive_10 : decode cX2_arrive 10 = .ok (.istore 4, 2) := by decide +kernel
theorem dX2_arrive_12 : decode cX2_arrive 12 = .ok (.aload_n 0, 1) := by decide +kernel
theorem dX2_arrive_13 : decode cX2_arrive 13 = .ok (.getfield 9, 3) := by decide +kernel
theorem dX2_arrive_16 : decode cX2_arrive 16 = .ok (.iload_n 3, 1) := by decide +kernel
theorem dX2_arrive_17 : decode cX2_arrive 17 = .ok (.iconst 5, 1) := by decide +kernel
theorem dX2_arrive_18 : decode cX2_arrive 18 = .ok (.imul, 1) := by decide +kernel
theorem dX2_arrive_19 : decode cX2_arrive 19 = .ok (.aload_n 2, 1) := by decide +kernel
theorem dX2_arrive_20 : decode cX2_arrive 20 = .ok (.getfield 55, 3) := by decide +kernel
theorem dX2_arrive_23 : decode cX2_arrive 23 = .ok (.iadd, 1) := by decide +kernel
theorem dX2_arrive_24 : decode cX2_arrive 24 = .ok (.dup2, 1) := by decide +kernel
theorem dX2_arrive_25 : decode cX2_arrive 25 = .ok (.laload, 1) := by decide +kernel
theorem dX2_arrive_26 : decode cX2_arrive 26 = .ok (.aload_n 0, 1) := by decide +kernel
theorem dX2_arrive_27 : decode cX2_arrive 27 = .ok (.iload_n 3, 1) := by decide +kernel
theorem dX2_arrive_28 : decode cX2_arrive 28 = .ok (.aload_n 2, 1) := by decide +kernel
theorem dX2_arrive_29 : decode cX2_arrive 29 = .ok (.getfield 46, 3) := by decide +kernel
theorem dX2_arrive_32 : decode cX2_arrive 32 = .ok (.isub, 1) := by decide +kernel
theorem dX2_arrive_33 : decode cX2_arrive 33 = .ok (.aload_n 2, 1) := by decide +kernel
theorem dX2_arrive_34 : decode cX2_arrive 34 = .ok (.getfield 58, 3) := by decide +kernel
theorem dX2_arrive_37 : decode cX2_arrive 37 = .ok (.invokevirtual 19, 3) := by decide +kernel
theorem dX2_arrive_40 : decode cX2_arrive 40 = .ok (.iload 4, 2) := by decide +kernel
theorem dX2_arrive_42 : decode cX2_arrive 42 = .ok (.lshl, 1) := by decide +kernel
theorem dX2_arrive_43 : decode cX2_arrive 43 = .ok (.lor, 1) := by decide +kernel
theorem dX2_arrive_44 : decode cX2_arrive 44 = .ok (.lastore, 1) := by decide +kernel
theorem dX2_arrive_45 : decode cX2_arrive 45 = .ok (.aload_n 0, 1) := by decide +kernel
theorem dX2_arrive_46 : decode cX2_arrive 46 = .ok (.getfield 9, 3) := by decide +kernel
theorem dX2_arrive_49 : decode cX2_arrive 49 = .ok (.iload_n 3, 1) := by decide +kernel
theorem dX2_arrive_50 : decode cX2_arrive 50 = .ok (.iconst 5, 1) := by decide +kernel
theorem dX2_arrive_51 : decode cX2_arrive 51 = .ok (.imul, 1) := by decide +kernel
theorem dX2_arrive_52 : decode cX2_arrive 52 = .ok (.aload_n 2, 1) := by decide +kernel
theorem dX2_arrive_53 : decode cX2_arrive 53 = .ok (.getfield 58, 3) := by decide +kernel
theorem dX2_arrive_56 : decode cX2_arrive 56 = .ok (.iadd, 1) := by decide +kernel
theorem dX2_arrive_57 : decode cX2_arrive 57 = .ok (.dup2, 1) := by decide +kernel
theorem dX2_arrive_58 : decode cX2_arrive 58 = .ok (.laload, 1) := by decide +kernel
theorem dX2_arrive_59 : decode cX2_arrive 59 = .ok (.aload_n 0, 1) := by decide +kernel
theorem dX2_arrive_60 : decode cX2_arrive 60 = .ok (.iload_n 3, 1) := by decide +kernel
theorem dX2_arrive_61 : decode cX2_arrive 61 = .ok (.aload_n 2, 1) := by decide +kernel
theorem dX2_arrive_62 : decode cX2_arrive 62 = .ok (.getfield 46, 3) := by decide +kernel
theorem dX2_arrive_65 : decode cX2_arrive 65 = .ok (.isub, 1) := by decide +kernel
theorem dX2_arrive_66 : decode cX2_arrive 66 = .ok (.aload_n 2, 1) := by decide +kernel
theorem dX2_arrive_67 : decode cX2_arrive 67 = .ok (.getfield 55, 3) := by decide +kernel
theorem dX2_arrive_70 : decode cX2_arrive 70 = .ok (.invokevirtual 19, 3) := by decide +kernel
theorem dX2_arrive_73 : decode cX2_arrive 73 = .ok (.iload 4, 2) := by decide +kernel
theorem dX2_arrive_75 : decode cX2_arrive 75 = .ok (.lshl, 1) := by decide +kernel
theorem dX2_arrive_76 : decode cX2_arrive 76 = .ok (.lor, 1) := by decide +kernel
theorem dX2_arrive_77 : decode cX2_arrive 77 = .ok (.lastore, 1) := by decide +kernel
theorem dX2_arrive_78 : decode cX2_arrive 78 = .ok (.return_, 1) := by decide +kernel
theorem dX3_init_0 : decode cX3_init 0 = .ok (.aload_n 0, 1) := by decide +kernel
theorem dX3_init_1 : decode cX3_init 1 = .ok (.invokespecial 3, 3) := by decide +kernel
theorem dX3_init_4 : decode cX3_init 4 = .ok (.aload_n 0, 1) := by decide +kernel
theorem dX3_init_5 : decode cX3_init 5 = .ok (.iconst 0, 1) := by decide +kernel
theorem dX3_init_6 : decode cX3_init 6 = .ok (.putfield 9, 3) := by decide +kernel
theorem dX3_init_9 : decode cX3_init 9 = .ok (.aload_n 0, 1) := by decide +kernel
theorem dX3_init_10 : decode cX3_init 10 = .ok (.iconst 0, 1) := by decide +kernel
theorem dX3_init_11 : decode cX3_init 11 = .ok (.putfield 15, 3) := by decide +kernel
theorem dX3_init_14 : decode cX3_init 14 = .ok (.aload_n 0, 1) := by decide +kernel
theorem dX3_init_15 : decode cX3_init 15 = .ok (.iconst 0, 1) := by decide +kernel
theorem dX3_init_16 : decode cX3_init 16 = .ok (.putfield 18, 3) := by decide +kernel
theorem dX3_init_19 : decode cX3_init 19 = .ok (.aload_n 0, 1) := by decide +kernel
theorem dX3_init_20 : decode cX3_init 20 = .ok (.iconst 0, 1) := by decide +kernel
theorem dX3_init_21 : decode cX3_init 21 = .ok (.putfield 21, 3) := by decide +kernel
theorem dX3_init_24 : decode cX3_init 24 = .ok (.aload_n 0, 1) := by decide +kernel
theorem dX3_init_25 : decode cX3_init 25 = .ok (.bipush 8, 2) := by decide +kernel
theorem dX3_init_27 : decode cX3_init 27 = .ok (.anewarray 24, 3) := by decide +kernel
theorem dX3_init_30 : decode cX3_init 30 = .ok (.putfield 26, 3) := by decide +kernel
theorem dX3_init_33 : decode cX3_init 33 = .ok (.aload_n 0, 1) := by decide +kernel
theorem dX3_init_34 : decode cX3_init 34 = .ok (.iconst 4, 1) := by decide +kernel
theorem dX3_init_35 : decode cX3_init 35 = .ok (.anewarray 30, 3) := by decide +kernel
theorem dX3_init_38 : decode cX3_init 38 = .ok (.putfield 32, 3) := by decide +kernel
theorem dX3_init_41 : decode cX3_init 41 = .ok (.iconst 0, 1) := by decide +kernel
theorem dX3_init_42 : decode cX3_init 42 = .ok (.istore_n 1, 1) := by decide +kernel
theorem dX3_init_43 : decode cX3_init 43 = .ok (.iload_n 1, 1) := by decide +kernel
theorem dX3_init_44 : decode cX3_init 44 = .ok (.bipush 8, 2) := by decide +kernel
theorem dX3_init_46 : decode cX3_init 46 = .ok (.if_icmp .ge 22, 3) := by decide +kernel
theorem dX3_init_49 : decode cX3_init 49 = .ok (.aload_n 0, 1) := by decide +kernel
theorem dX3_init_50 : decode cX3_init 50 = .ok (.getfield 26, 3) := by decide +kernel
theorem dX3_init_53 : decode cX3_init 53 = .ok (.iload_n 1, 1) := by decide +kernel
theorem dX3_init_54 : decode cX3_init 54 = .ok (.new 24, 3) := by decide +kernel
theorem dX3_init_57 : decode cX3_init 57 = .ok (.dup, 1) := by decide +kernel
theorem dX3_init_58 : decode cX3_init 58 = .ok (.invokespecial 36, 3) := by decide +kernel
theorem dX3_init_61 : decode cX3_init 61 = .ok (.aastore, 1) := by decide +kernel
theorem dX3_init_62 : decode cX3_init 62 = .ok (.iinc 1 1, 3) := by decide +kernel
theorem dX3_init_65 : decode cX3_init 65 = .ok (.goto (-22), 3) := by decide +kernel
theorem dX3_init_68 : decode cX3_init 68 = .ok (.iconst 0, 1) := by decide +kernel
theorem dX3_init_69 : decode cX3_init 69 = .ok (.istore_n 1, 1) := by decide +kernel
theorem dX3_init_70 : decode cX3_init 70 = .ok (.iload_n 1, 1) := by decide +kernel
theorem dX3_init_71 : decode cX3_init 71 = .ok (.iconst 4, 1) := by decide +kernel
theorem dX3_init_72 : decode cX3_init 72 = .ok (.if_icmp .ge 22, 3) := by decide +kernel
theorem dX3_init_75 : decode cX3_init 75 = .ok (.aload_n 0, 1) := by decide +kernel
theorem dX3_init_76 : decode cX3_init 76 = .ok (.getfield 32, 3) := by decide +kernel
theorem dX3_init_79 : decode cX3_init 79 = .ok (.iload_n 1, 1) := by decide +kernel
theorem dX3_init_80 : decode cX3_init 80 = .ok (.new 30, 3) := by decide +kernel
theorem dX3_init_83 : decode cX3_init 83 = .ok (.dup, 1) := by decide +kernel
theorem dX3_init_84 : decode cX3_init 84 = .ok (.invokespecial 37, 3) := by decide +kernel
theorem dX3_init_87 : decode cX3_init 87 = .ok (.aastore, 1) := by decide +kernel
theorem dX3_init_88 : decode cX3_init 88 = .ok (.iinc 1 1, 3) := by decide +kernel
theorem dX3_init_91 : decode cX3_init 91 = .ok (.goto (-21), 3) := by decide +kernel
theorem dX3_init_94 : decode cX3_init 94 = .ok (.return_, 1) := by decide +kernel
theorem dX3_standsAs_0 : decode cX3_standsAs 0 = .ok (.aload_n 0, 1) := by decide +kernel
theorem dX3_standsAs_1 : decode cX3_standsAs 1 = .ok (.aload_n 1, 1) := by decide +kernel
theorem dX3_standsAs_2 : decode cX3_standsAs 2 = .ok (.getfield 9, 3) := by decide +kernel
theorem dX3_standsAs_5 : decode cX3_standsAs 5 = .ok (.putfield 9, 3) := by decide +kernel
theorem dX3_standsAs_8 : decode cX3_standsAs 8 = .ok (.aload_n 0, 1) := by decide +kernel
theorem dX3_standsAs_9 : decode cX3_standsAs 9 = .ok (.aload_n 1, 1) := by decide +kernel
theorem dX3_standsAs_10 : decode cX3_standsAs 10 = .ok (.getfield 15, 3) := by decide +kernel
theorem dX3_standsAs_13 : decode cX3_standsAs 13 = .ok (.putfield 15, 3) := by decide +kernel
theorem dX3_standsAs_16 : decode cX3_standsAs 16 = .ok (.aload_n 0, 1) := by decide +kernel
theorem dX3_standsAs_17 : decode cX3_standsAs 17 = .ok (.aload_n 1, 1) := by decide +kernel
theorem dX3_standsAs_18 : decode cX3_standsAs 18 = .ok (.getfield 18, 3) := by decide +kernel
theorem dX3_standsAs_21 : decode cX3_standsAs 21 = .ok (.putfield 18, 3) := by decide +kernel
theorem dX3_standsAs_24 : decode cX3_standsAs 24 = .ok (.aload_n 0, 1) := by decide +kernel
theorem dX3_standsAs_25 : decode cX3_standsAs 25 = .ok (.aload_n 1, 1) := by decide +kernel
theorem dX3_standsAs_26 : decode cX3_standsAs 26 = .ok (.getfield 21, 3) := by decide +kernel
theorem dX3_standsAs_29 : decode cX3_standsAs 29 = .ok (.putfield 21, 3) := by decide +kernel
theorem dX3_standsAs_32 : decode cX3_standsAs 32 = .ok (.iconst 0, 1) := by decide +kernel
theorem dX3_standsAs_33 : decode cX3_standsAs 33 = .ok (.istore_n 2, 1) := by decide +kernel
theorem dX3_standsAs_34 : decode cX3_standsAs 34 = .ok (.iload_n 2, 1) := by decide +kernel
theorem dX3_standsAs_35 : decode cX3_standsAs 35 = .ok (.bipush 8, 2) := by decide +kernel
theorem dX3_standsAs_37 : decode cX3_standsAs 37 = .ok (.if_icmp .ge 24, 3) := by decide +kernel
theorem dX3_standsAs_40 : decode cX3_standsAs 40 = .ok (.aload_n 0, 1) := by decide +kernel
theorem dX3_standsAs_41 : decode cX3_standsAs 41 = .ok (.getfield 26, 3) := by decide +kernel
theorem dX3_standsAs_44 : decode cX3_standsAs 44 = .ok (.iload_n 2, 1) := by decide +kernel
theorem dX3_standsAs_45 : decode cX3_standsAs 45 = .ok (.aaload, 1) := by decide +kernel
theorem dX3_standsAs_46 : decode cX3_standsAs 46 = .ok (.aload_n 1, 1) := by decide +kernel
theorem dX3_standsAs_47 : decode cX3_standsAs 47 = .ok (.getfield 26, 3) := by decide +kernel
theorem dX3_standsAs_50 : decode cX3_standsAs 50 = .ok (.iload_n 2, 1) := by decide +kernel
theorem dX3_standsAs_51 : decode cX3_standsAs 51 = .ok (.aaload, 1) := by decide +kernel
theorem dX3_standsAs_52 : decode cX3_standsAs 52 = .ok (.invokevirtual 38, 3) := by decide +kernel
theorem dX3_standsAs_55 : decode cX3_standsAs 55 = .ok (.iinc 2 1, 3) := by decide +kernel
theorem dX3_standsAs_58 : decode cX3_standsAs 58 = .ok (.goto (-24), 3) := by decide +kernel
theorem dX3_standsAs_61 : decode cX3_standsAs 61 = .ok (.iconst 0, 1) := by decide +kernel
theorem dX3_standsAs_62 : decode cX3_standsAs 62 = .ok (.istore_n 2, 1) := by decide +kernel
theorem dX3_standsAs_63 : decode cX3_standsAs 63 = .ok (.iload_n 2, 1) := by decide +kernel
theorem dX3_standsAs_64 : decode cX3_standsAs 64 = .ok (.iconst 4, 1) := by decide +kernel
theorem dX3_standsAs_65 : decode cX3_standsAs 65 = .ok (.if_icmp .ge 24, 3) := by decide +kernel
theorem dX3_standsAs_68 : decode cX3_standsAs 68 = .ok (.aload_n 0, 1) := by decide +kernel
theorem dX3_standsAs_69 : decode cX3_standsAs 69 = .ok (.getfield 32, 3) := by decide +kernel
theorem dX3_standsAs_72 : decode cX3_standsAs 72 = .ok (.iload_n 2, 1) := by decide +kernel
theorem dX3_standsAs_73 : decode cX3_standsAs 73 = .ok (.aaload, 1) := by decide +kernel
theorem dX3_standsAs_74 : decode cX3_standsAs 74 = .ok (.aload_n 1, 1) := by decide +kernel
theorem dX3_standsAs_75 : decode cX3_standsAs 75 = .ok (.getfield 32, 3) := by decide +kernel
theorem dX3_standsAs_78 : decode cX3_standsAs 78 = .ok (.iload_n 2, 1) := by decide +kernel
theorem dX3_standsAs_79 : decode cX3_standsAs 79 = .ok (.aaload, 1) := by decide +kernel
theorem dX3_standsAs_80 : decode cX3_standsAs 80 = .ok (.invokevirtual 42, 3) := by decide +kernel
theorem dX3_standsAs_83 : decode cX3_standsAs 83 = .ok (.iinc 2 1, 3) := by decide +kernel
theorem dX3_standsAs_86 : decode cX3_standsAs 86 = .ok (.goto (-23), 3) := by decide +kernel
theorem dX3_standsAs_89 : decode cX3_standsAs 89 = .ok (.return_, 1) := by decide +kernel
theorem dX3_oneVoyageMore_0 : decode cX3_oneVoyageMore 0 = .ok (.iload_n 2, 1) := by decide +kernel
theorem dX3_oneVoyageMore_1 : decode cX3_oneVoyageMore 1 = .ok (.istore_n 3, 1) := by decide +kernel
theorem dX3_oneVoyageMore_2 : decode cX3_oneVoyageMore 2 = .ok (.iconst 0, 1) := by decide +kernel
theorem dX3_oneVoyageMore_3 : decode cX3_oneVoyageMore 3 = .ok (.istore 4, 2) := by decide +kernel
theorem dX3_oneVoyageMore_5 : decode cX3_oneVoyageMore 5 = .ok (.iload 4, 2) := by decide +kernel
theorem dX3_oneVoyageMore_7 : decode cX3_oneVoyageMore 7 = .ok (.aload_n 0, 1) := by decide +kernel
theorem dX3_oneVoyageMore_8 : decode cX3_oneVoyageMore 8 = .ok (.getfield 18, 3) := by decide +kernel
theorem dX3_oneVoyageMore_11 : decode cX3_oneVoyageMore 11 = .ok (.if_icmp .ge 56, 3) := by decide +kernel
theorem dX3_oneVoyageMore_14 : decode cX3_oneVoyageMore 14 = .ok (.aload_n 0, 1) := by decide +kernel
theorem dX3_oneVoyageMore_15 : decode cX3_oneVoyageMore 15 = .ok (.getfield 26, 3) := by decide +kernel
theorem dX3_oneVoyageMore_18 : decode cX3_oneVoyageMore 18 = .ok (.iload 4, 2) := by decide +kernel
theorem dX3_oneVoyageMore_20 : decode cX3_oneVoyageMore 20 = .ok (.aaload, 1) := by decide +kernel
theorem dX3_oneVoyageMore_21 : decode cX3_oneVoyageMore 21 = .ok (.astore 5, 2) := by decide +kernel
theorem dX3_oneVoyageMore_23 : decode cX3_oneVoyageMore 23 = .ok (.iconst 1, 1) := by decide +kernel
theorem dX3_oneVoyageMore_24 : decode cX3_oneVoyageMore 24 = .ok (.aload 5, 2) := by decide +kernel
theorem dX3_oneVoyageMore_26 : decode cX3_oneVoyageMore 26 = .ok (.getfield 45, 3) := by decide +kernel
theorem dX3_oneVoyageMore_29 : decode cX3_oneVoyageMore 29 = .ok (.ishl, 1) := by decide +kernel
theorem dX3_oneVoyageMore_30 : decode cX3_oneVoyageMore 30 = .ok (.iconst 1, 1) := by decide +kernel
theorem dX3_oneVoyageMore_31 : decode cX3_oneVoyageMore 31 = .ok (.aload 5, 2) := by decide +kernel
theorem dX3_oneVoyageMore_33 : decode cX3_oneVoyageMore 33 = .ok (.getfield 48, 3) := by decide +kernel
theorem dX3_oneVoyageMore_36 : decode cX3_oneVoyageMore 36 = .ok (.ishl, 1) := by decide +kernel
theorem dX3_oneVoyageMore_37 : decode cX3_oneVoyageMore 37 = .ok (.ior, 1) := by decide +kernel
theorem dX3_oneVoyageMore_38 : decode cX3_oneVoyageMore 38 = .ok (.istore 6, 2) := by decide +kernel
theorem dX3_oneVoyageMore_40 : decode cX3_oneVoyageMore 40 = .ok (.aload_n 1, 1) := by decide +kernel
theorem dX3_oneVoyageMore_41 : decode cX3_oneVoyageMore 41 = .ok (.aload 5, 2) := by decide +kernel
theorem dX3_oneVoyageMore_43 : decode cX3_oneVoyageMore 43 = .ok (.invokevirtual 51, 3) := by decide +kernel
theorem dX3_oneVoyageMore_46 : decode cX3_oneVoyageMore 46 = .ok (.ifCond .eq 15, 3) := by decide +kernel
theorem dX3_oneVoyageMore_49 : decode cX3_oneVoyageMore 49 = .ok (.iload_n 2, 1) := by decide +kernel
theorem dX3_oneVoyageMore_50 : decode cX3_oneVoyageMore 50 = .ok (.iload 6, 2) := by decide +kernel
theorem dX3_oneVoyageMore_52 : decode cX3_oneVoyageMore 52 = .ok (.iand, 1) := by decide +kernel
theorem dX3_oneVoyageMore_53 : decode cX3_oneVoyageMore 53 = .ok (.ifCond .eq 8, 3) := by decide +kernel
theorem dX3_oneVoyageMore_56 : decode cX3_oneVoyageMore 56 = .ok (.iload_n 3, 1) := by decide +kernel
theorem dX3_oneVoyageMore_57 : decode cX3_oneVoyageMore 57 = .ok (.iload 6, 2) := by decide +kernel
theorem dX3_oneVoyageMore_59 : decode cX3_oneVoyageMore 59 = .ok (.ior, 1) := by decide +kernel
theorem dX3_oneVoyageMore_60 : decode cX3_oneVoyageMore 60 = .ok (.istore_n 3, 1) := by decide +kernel
theorem dX3_oneVoyageMore_61 : decode cX3_oneVoyageMore 61 = .ok (.iinc 4 1, 3) := by decide +kernel
theorem dX3_oneVoyageMore_64 : decode cX3_oneVoyageMore 64 = .ok (.goto (-59), 3) := by decide +kernel
theorem dX3_oneVoyageMore_67 : decode cX3_oneVoyageMore 67 = .ok (.iload_n 3, 1) := by decide +kernel
theorem dX3_oneVoyageMore_68 : decode cX3_oneVoyageMore 68 = .ok (.ireturn, 1) := by decide +kernel
theorem dX4_init_0 : decode cX4_init 0 = .ok (.aload_n 0, 1) := by decide +kernel
theorem dX4_init_1 : decode cX4_init 1 = .ok (.invokespecial 3, 3) := by decide +kernel
theorem dX4_init_4 : decode cX4_init 4 = .ok (.aload_n 0, 1) := by decide +kernel
theorem dX4_init_5 : decode cX4_init 5 = .ok (.iconst 0, 1) := by decide +kernel
theorem dX4_init_6 : decode cX4_init 6 = .ok (.putfield 9, 3) := by decide +kernel
theorem dX4_init_9 : decode cX4_init 9 = .ok (.aload_n 0, 1) := by decide +kernel
theorem dX4_init_10 : decode cX4_init 10 = .ok (.iconst 0, 1) := by decide +kernel
theorem dX4_init_11 : decode cX4_init 11 = .ok (.putfield 15, 3) := by decide +kernel
theorem dX4_init_14 : decode cX4_init 14 = .ok (.aload_n 0, 1) := by decide +kernel
theorem dX4_init_15 : decode cX4_init 15 = .ok (.iconst 0, 1) := by decide +kernel
theorem dX4_init_16 : decode cX4_init 16 = .ok (.putfield 18, 3) := by decide +kernel
theorem dX4_init_19 : decode cX4_init 19 = .ok (.aload_n 0, 1) := by decide +kernel
theorem dX4_init_20 : decode cX4_init 20 = .ok (.iconst 0, 1) := by decide +kernel
theorem dX4_init_21 : decode cX4_init 21 = .ok (.putfield 21, 3) := by decide +kernel
theorem dX4_init_24 : decode cX4_init 24 = .ok (.aload_n 0, 1) := by decide +kernel
theorem dX4_init_25 : decode cX4_init 25 = .ok (.iconst 0, 1) := by decide +kernel
theorem dX4_init_26 : decode cX4_init 26 = .ok (.putfield 24, 3) := by decide +kernel
theorem dX4_init_29 : decode cX4_init 29 = .ok (.aload_n 0, 1) := by decide +kernel
theorem dX4_init_30 : decode cX4_init 30 = .ok (.iconst 0, 1) := by decide +kernel
theorem dX4_init_31 : decode cX4_init 31 = .ok (.putfield 27, 3) := by decide +kernel
theorem dX4_init_34 : decode cX4_init 34 = .ok (.aload_n 0, 1) := by decide +kernel
theorem dX4_init_35 : decode cX4_init 35 = .ok (.iconst 0, 1) := by decide +kernel
theorem dX4_init_36 : decode cX4_init 36 = .ok (.putfield 30, 3) := by decide +kernel
theorem dX4_init_39 : decode cX4_init 39 = .ok (.aload_n 0, 1) := by decide +kernel
theorem dX4_init_40 : decode cX4_init 40 = .ok (.iconst 0, 1) := by decide +kernel
theorem dX4_init_41 : decode cX4_init 41 = .ok (.putfield 33, 3) := by decide +kernel
theorem dX4_init_44 : decode cX4_init 44 = .ok (.return_, 1) := by decide +kernel
theorem dX4_beginsAs_0 : decode cX4_beginsAs 0 = .ok (.aload_n 0, 1) := by decide +kernel
theorem dX4_beginsAs_1 : decode cX4_beginsAs 1 = .ok (.iload_n 1, 1) := by decide +kernel
theorem dX4_beginsAs_2 : decode cX4_beginsAs 2 = .ok (.putfield 9, 3) := by decide +kernel
theorem dX4_beginsAs_5 : decode cX4_beginsAs 5 = .ok (.aload_n 0, 1) := by decide +kernel
theorem dX4_beginsAs_6 : decode cX4_beginsAs 6 = .ok (.iload_n 3, 1) := by decide +kernel
theorem dX4_beginsAs_7 : decode cX4_beginsAs 7 = .ok (.putfield 15, 3) := by decide +kernel
theorem dX4_beginsAs_10 : decode cX4_beginsAs 10 = .ok (.aload_n 0, 1) := by decide +kernel
theorem dX4_beginsAs_11 : decode cX4_beginsAs 11 = .ok (.iload_n 2, 1) := by decide +kernel
theorem dX4_beginsAs_12 : decode cX4_beginsAs 12 = .ok (.putfield 18, 3) := by decide +kernel
theorem dX4_beginsAs_15 : decode cX4_beginsAs 15 = .ok (.aload_n 0, 1) := by decide +kernel
theorem dX4_beginsAs_16 : decode cX4_beginsAs 16 = .ok (.iconst 0, 1) := by decide +kernel
theorem dX4_beginsAs_17 : decode cX4_beginsAs 17 = .ok (.putfield 21, 3) := by decide +kernel
theorem dX4_beginsAs_20 : decode cX4_beginsAs 20 = .ok (.aload_n 0, 1) := by decide +kernel
theorem dX4_beginsAs_21 : decode cX4_beginsAs 21 = .ok (.iload_n 3, 1) := by decide +kernel
theorem dX4_beginsAs_22 : decode cX4_beginsAs 22 = .ok (.putfield 24, 3) := by decide +kernel
theorem dX4_beginsAs_25 : decode cX4_beginsAs 25 = .ok (.aload_n 0, 1) := by decide +kernel
theorem dX4_beginsAs_26 : decode cX4_beginsAs 26 = .ok (.iconst 0, 1) := by decide +kernel
theorem dX4_beginsAs_27 : decode cX4_beginsAs 27 = .ok (.putfield 27, 3) := by decide +kernel
theorem dX4_beginsAs_30 : decode cX4_beginsAs 30 = .ok (.aload_n 0, 1) := by decide +kernel
theorem dX4_beginsAs_31 : decode cX4_beginsAs 31 = .ok (.iconst 0, 1) := by decide +kernel
theorem dX4_beginsAs_32 : decode cX4_beginsAs 32 = .ok (.putfield 30, 3) := by decide +kernel
theorem dX4_beginsAs_35 : decode cX4_beginsAs 35 = .ok (.aload_n 0, 1) := by decide +kernel
theorem dX4_beginsAs_36 : decode cX4_beginsAs 36 = .ok (.iconst 0, 1) := by decide +kernel
theorem dX4_beginsAs_37 : decode cX4_beginsAs 37 = .ok (.putfield 33, 3) := by decide +kernel
theorem dX4_beginsAs_40 : decode cX4_beginsAs 40 = .ok (.return_, 1) := by decide +kernel
theorem dX4_becomes_0 : decode cX4_becomes 0 = .ok (.aload_n 0, 1) := by decide +kernel
theorem dX4_becomes_1 : decode cX4_becomes 1 = .ok (.aload_n 1, 1) := by decide +kernel
theorem dX4_becomes_2 : decode cX4_becomes 2 = .ok (.getfield 9, 3) := by decide +kernel
theorem dX4_becomes_5 : decode cX4_becomes 5 = .ok (.putfield 9, 3) := by decide +kernel
theorem dX4_becomes_8 : decode cX4_becomes 8 = .ok (.aload_n 0, 1) := by decide +kernel
theorem dX4_becomes_9 : decode cX4_becomes 9 = .ok (.aload_n 1, 1) := by decide +kernel
theorem dX4_becomes_10 : decode cX4_becomes 10 = .ok (.getfield 15, 3) := by decide +kernel
theorem dX4_becomes_13 : decode cX4_becomes 13 = .ok (.putfield 15, 3) := by decide +kernel
theorem dX4_becomes_16 : decode cX4_becomes 16 = .ok (.aload_n 0, 1) := by decide +kernel
theorem dX4_becomes_17 : decode cX4_becomes 17 = .ok (.aload_n 1, 1) := by decide +kernel
theorem dX4_becomes_18 : decode cX4_becomes 18 = .ok (.getfield 18, 3) := by decide +kernel
theorem dX4_becomes_21 : decode cX4_becomes 21 = .ok (.putfield 18, 3) := by decide +kernel
theorem dX4_becomes_24 : decode cX4_becomes 24 = .ok (.aload_n 0, 1) := by decide +kernel
theorem dX4_becomes_25 : decode cX4_becomes 25 = .ok (.aload_n 1, 1) := by decide +kernel
theorem dX4_becomes_26 : decode cX4_becomes 26 = .ok (.getfield 21, 3) := by decide +kernel
theorem dX4_becomes_29 : decode cX4_becomes 29 = .ok (.putfield 21, 3) := by decide +kernel
theorem dX4_becomes_32 : decode cX4_becomes 32 = .ok (.aload_n 0, 1) := by decide +kernel
theorem dX4_becomes_33 : decode cX4_becomes 33 = .ok (.aload_n 1, 1) := by decide +kernel
theorem dX4_becomes_34 : decode cX4_becomes 34 = .ok (.getfield 24, 3) := by decide +kernel
theorem dX4_becomes_37 : decode cX4_becomes 37 = .ok (.putfield 24, 3) := by decide +kernel
theorem dX4_becomes_40 : decode cX4_becomes 40 = .ok (.aload_n 0, 1) := by decide +kernel
theorem dX4_becomes_41 : decode cX4_becomes 41 = .ok (.aload_n 1, 1) := by decide +kernel
theorem dX4_becomes_42 : decode cX4_becomes 42 = .ok (.getfield 27, 3) := by decide +kernel
theorem dX4_becomes_45 : decode cX4_becomes 45 = .ok (.putfield 27, 3) := by decide +kernel
theorem dX4_becomes_48 : decode cX4_becomes 48 = .ok (.aload_n 0, 1) := by decide +kernel
theorem dX4_becomes_49 : decode cX4_becomes 49 = .ok (.aload_n 1, 1) := by decide +kernel
theorem dX4_becomes_50 : decode cX4_becomes 50 = .ok (.getfield 30, 3) := by decide +kernel
theorem dX4_becomes_53 : decode cX4_becomes 53 = .ok (.putfield 30, 3) := by decide +kernel
theorem dX4_becomes_56 : decode cX4_becomes 56 = .ok (.aload_n 0, 1) := by decide +kernel
theorem dX4_becomes_57 : decode cX4_becomes 57 = .ok (.aload_n 1, 1) := by decide +kernel
theorem dX4_becomes_58 : decode cX4_becomes 58 = .ok (.getfield 33, 3) := by decide +kernel
theorem dX4_becomes_61 : decode cX4_becomes 61 = .ok (.putfield 33, 3) := by decide +kernel
theorem dX4_becomes_64 : decode cX4_becomes 64 = .ok (.return_, 1) := by decide +kernel
theorem dX4_lag_0 : decode cX4_lag 0 = .ok (.aload_n 0, 1) := by decide +kernel
theorem dX4_lag_1 : decode cX4_lag 1 = .ok (.getfield 21, 3) := by decide +kernel
theorem dX4_lag_4 : decode cX4_lag 4 = .ok (.aload_n 0, 1) := by decide +kernel
theorem dX4_lag_5 : decode cX4_lag 5 = .ok (.getfield 15, 3) := by decide +kernel
theorem dX4_lag_8 : decode cX4_lag 8 = .ok (.iadd, 1) := by decide +kernel
theorem dX4_lag_9 : decode cX4_lag 9 = .ok (.aload_n 0, 1) := by decide +kernel
theorem dX4_lag_10 : decode cX4_lag 10 = .ok (.getfield 24, 3) := by decide +kernel
theorem dX4_lag_13 : decode cX4_lag 13 = .ok (.isub, 1) := by decide +kernel
theorem dX4_lag_14 : decode cX4_lag 14 = .ok (.ireturn, 1) := by decide +kernel
theorem dX4_maySail_0 : decode cX4_maySail 0 = .ok (.aload_n 0, 1) := by decide +kernel
theorem dX4_maySail_1 : decode cX4_maySail 1 = .ok (.getfield 9, 3) := by decide +kernel
theorem dX4_maySail_4 : decode cX4_maySail 4 = .ok (.iconst 5, 1) := by decide +kernel
theorem dX4_maySail_5 : decode cX4_maySail 5 = .ok (.if_icmp .ne 12, 3) := by decide +kernel
theorem dX4_maySail_8 : decode cX4_maySail 8 = .ok (.aload_n 1, 1) := by decide +kernel
theorem dX4_maySail_9 : decode cX4_maySail 9 = .ok (.getfield 36, 3) := by decide +kernel
theorem dX4_maySail_12 : decode cX4_maySail 12 = .ok (.bipush 10, 2) := by decide +kernel
theorem dX4_maySail_14 : decode cX4_maySail 14 = .ok (.if_icmp .gt 7, 3) := by decide +kernel
theorem dX4_maySail_17 : decode cX4_maySail 17 = .ok (.iconst 1, 1) := by decide +kernel
theorem dX4_maySail_18 : decode cX4_maySail 18 = .ok (.goto 4, 3) := by decide +kernel
theorem dX4_maySail_21 : decode cX4_maySail 21 = .ok (.iconst 0, 1) := by decide +kernel
theorem dX4_maySail_22 : decode cX4_maySail 22 = .ok (.ireturn, 1) := by decide +kernel
theorem dX4_ownYears_0 : decode cX4_ownYears 0 = .ok (.aload_n 0, 1) := by decide +kernel
theorem dX4_ownYears_1 : decode cX4_ownYears 1 = .ok (.getfield 9, 3) := by decide +kernel
theorem dX4_ownYears_4 : decode cX4_ownYears 4 = .ok (.tableswitch 46 2 4 #[28, 39, 41], 28) := by decide +kernel
theorem dX4_ownYears_32 : decode cX4_ownYears 32 = .ok (.aload_n 1, 1) := by decide +kernel
theorem dX4_ownYears_33 : decode cX4_ownYears 33 = .ok (.getfield 41, 3) := by decide +kernel
theorem dX4_ownYears_36 : decode cX4_ownYears 36 = .ok (.iconst 1, 1) := by decide +kernel
theorem dX4_ownYears_37 : decode cX4_ownYears 37 = .ok (.isub, 1) := by decide +kernel
theorem dX4_ownYears_38 : decode cX4_ownYears 38 = .ok (.iconst 0, 1) := by decide +kernel
theorem dX4_ownYears_39 : decode cX4_ownYears 39 = .ok (.invokestatic 44, 3) := by decide +kernel
theorem dX4_ownYears_42 : decode cX4_ownYears 42 = .ok (.ireturn, 1) := by decide +kernel
theorem dX4_ownYears_43 : decode cX4_ownYears 43 = .ok (.iconst 0, 1) := by decide +kernel
theorem dX4_ownYears_44 : decode cX4_ownYears 44 = .ok (.ireturn, 1) := by decide +kernel
theorem dX4_ownYears_45 : decode cX4_ownYears 45 = .ok (.aload_n 1, 1) := by decide +kernel
theorem dX4_ownYears_46 : decode cX4_ownYears 46 = .ok (.getfield 36, 3) := by decide +kernel
theorem dX4_ownYears_49 : decode cX4_ownYears 49 = .ok (.ireturn, 1) := by decide +kernel
theorem dX4_ownYears_50 : decode cX4_ownYears 50 = .ok (.aload_n 1, 1) := by decide +kernel
theorem dX4_ownYears_51 : decode cX4_ownYears 51 = .ok (.getfield 41, 3) := by decide +kernel
theorem dX4_ownYears_54 : decode cX4_ownYears 54 = .ok (.ireturn, 1) := by decide +kernel
theorem dX4_sailOn_0 : decode cX4_sailOn 0 = .ok (.aload_n 0, 1) := by decide +kernel
theorem dX4_sailOn_1 : decode cX4_sailOn 1 = .ok (.aload_n 1, 1) := by decide +kernel
theorem dX4_sailOn_2 : decode cX4_sailOn 2 = .ok (.aload_n 0, 1) := by decide +kernel
theorem dX4_sailOn_3 : decode cX4_sailOn 3 = .ok (.getfield 18, 3) := by decide +kernel
theorem dX4_sailOn_6 : decode cX4_sailOn 6 = .ok (.invokevirtual 50, 3) := by decide +kernel
theorem dX4_sailOn_9 : decode cX4_sailOn 9 = .ok (.putfield 18, 3) := by decide +kernel
theorem dX4_sailOn_12 : decode cX4_sailOn 12 = .ok (.aload_n 0, 1) := by decide +kernel
theorem dX4_sailOn_13 : decode cX4_sailOn 13 = .ok (.dup, 1) := by decide +kernel
theorem dX4_sailOn_14 : decode cX4_sailOn 14 = .ok (.getfield 21, 3) := by decide +kernel
theorem dX4_sailOn_17 : decode cX4_sailOn 17 = .ok (.aload_n 1, 1) := by decide +kernel
theorem dX4_sailOn_18 : decode cX4_sailOn 18 = .ok (.getfield 36, 3) := by decide +kernel
theorem dX4_sailOn_21 : decode cX4_sailOn 21 = .ok (.iadd, 1) := by decide +kernel
theorem dX4_sailOn_22 : decode cX4_sailOn 22 = .ok (.putfield 21, 3) := by decide +kernel
theorem dX4_sailOn_25 : decode cX4_sailOn 25 = .ok (.aload_n 0, 1) := by decide +kernel
theorem dX4_sailOn_26 : decode cX4_sailOn 26 = .ok (.dup, 1) := by decide +kernel
theorem dX4_sailOn_27 : decode cX4_sailOn 27 = .ok (.getfield 24, 3) := by decide +kernel
theorem dX4_sailOn_30 : decode cX4_sailOn 30 = .ok (.aload_n 0, 1) := by decide +kernel
theorem dX4_sailOn_31 : decode cX4_sailOn 31 = .ok (.aload_n 1, 1) := by decide +kernel
theorem dX4_sailOn_32 : decode cX4_sailOn 32 = .ok (.invokevirtual 54, 3) := by decide +kernel
theorem dX4_sailOn_35 : decode cX4_sailOn 35 = .ok (.iadd, 1) := by decide +kernel
theorem dX4_sailOn_36 : decode cX4_sailOn 36 = .ok (.putfield 24, 3) := by decide +kernel
theorem dX4_sailOn_39 : decode cX4_sailOn 39 = .ok (.return_, 1) := by decide +kernel
theorem dX4_stayFor_0 : decode cX4_stayFor 0 = .ok (.aload_n 0, 1) := by decide +kernel
theorem dX4_stayFor_1 : decode cX4_stayFor 1 = .ok (.dup, 1) := by decide +kernel
theorem dX4_stayFor_2 : decode cX4_stayFor 2 = .ok (.getfield 21, 3) := by decide +kernel
theorem dX4_stayFor_5 : decode cX4_stayFor 5 = .ok (.iload_n 1, 1) := by decide +kernel
theorem dX4_stayFor_6 : decode cX4_stayFor 6 = .ok (.iadd, 1) := by decide +kernel
theorem dX4_stayFor_7 : decode cX4_stayFor 7 = .ok (.putfield 21, 3) := by decide +kernel
theorem dX4_stayFor_10 : decode cX4_stayFor 10 = .ok (.aload_n 0, 1) := by decide +kernel
theorem dX4_stayFor_11 : decode cX4_stayFor 11 = .ok (.dup, 1) := by decide +kernel
theorem dX4_stayFor_12 : decode cX4_stayFor 12 = .ok (.getfield 24, 3) := by decide +kernel
theorem dX4_stayFor_15 : decode cX4_stayFor 15 = .ok (.iload_n 1, 1) := by decide +kernel
theorem dX4_stayFor_16 : decode cX4_stayFor 16 = .ok (.iadd, 1) := by decide +kernel
theorem dX4_stayFor_17 : decode cX4_stayFor 17 = .ok (.putfield 24, 3) := by decide +kernel
theorem dX4_stayFor_20 : decode cX4_stayFor 20 = .ok (.return_, 1) := by decide +kernel
theorem dX4_takeLoan_0 : decode cX4_takeLoan 0 = .ok (.aload_n 0, 1) := by decide +kernel
theorem dX4_takeLoan_1 : decode cX4_takeLoan 1 = .ok (.iload_n 1, 1) := by decide +kernel
theorem dX4_takeLoan_2 : decode cX4_takeLoan 2 = .ok (.putfield 27, 3) := by decide +kernel
theorem dX4_takeLoan_5 : decode cX4_takeLoan 5 = .ok (.aload_n 0, 1) := by decide +kernel
theorem dX4_takeLoan_6 : decode cX4_takeLoan 6 = .ok (.aload_n 0, 1) := by decide +kernel
theorem dX4_takeLoan_7 : decode cX4_takeLoan 7 = .ok (.getfield 21, 3) := by decide +kernel
theorem dX4_takeLoan_10 : decode cX4_takeLoan 10 = .ok (.putfield 30, 3) := by decide +kernel
theorem dX4_takeLoan_13 : decode cX4_takeLoan 13 = .ok (.aload_n 0, 1) := by decide +kernel
theorem dX4_takeLoan_14 : decode cX4_takeLoan 14 = .ok (.aload_n 0, 1) := by decide +kernel
theorem dX4_takeLoan_15 : decode cX4_takeLoan 15 = .ok (.getfield 24, 3) := by decide +kernel
theorem dX4_takeLoan_18 : decode cX4_takeLoan 18 = .ok (.putfield 33, 3) := by decide +kernel
theorem dX4_takeLoan_21 : decode cX4_takeLoan 21 = .ok (.return_, 1) := by decide +kernel
theorem dX4_owedByShore_0 : decode cX4_owedByShore 0 = .ok (.aload_n 0, 1) := by decide +kernel
theorem dX4_owedByShore_1 : decode cX4_owedByShore 1 = .ok (.getfield 27, 3) := by decide +kernel
theorem dX4_owedByShore_4 : decode cX4_owedByShore 4 = .ok (.iload_n 1, 1) := by decide +kernel
theorem dX4_owedByShore_5 : decode cX4_owedByShore 5 = .ok (.aload_n 0, 1) := by decide +kernel
theorem dX4_owedByShore_6 : decode cX4_owedByShore 6 = .ok (.getfield 21, 3) := by decide +kernel
theorem dX4_owedByShore_9 : decode cX4_owedByShore 9 = .ok (.aload_n 0, 1) := by decide +kernel
theorem dX4_owedByShore_10 : decode cX4_owedByShore 10 = .ok (.getfield 30, 3) := by decide +kernel
theorem dX4_owedByShore_13 : decode cX4_owedByShore 13 = .ok (.isub, 1) := by decide +kernel
theorem dX4_owedByShore_14 : decode cX4_owedByShore 14 = .ok (.invokestatic 58, 3) := by decide +kernel
theorem dX4_owedByShore_17 : decode cX4_owedByShore 17 = .ok (.ireturn, 1) := by decide +kernel
theorem dX4_owedByOwn_0 : decode cX4_owedByOwn 0 = .ok (.aload_n 0, 1) := by decide +kernel
theorem dX4_owedByOwn_1 : decode cX4_owedByOwn 1 = .ok (.getfield 27, 3) := by decide +kernel
theorem dX4_owedByOwn_4 : decode cX4_owedByOwn 4 = .ok (.iload_n 1, 1) := by decide +kernel
theorem dX4_owedByOwn_5 : decode cX4_owedByOwn 5 = .ok (.aload_n 0, 1) := by decide +kernel
theorem dX4_owedByOwn_6 : decode cX4_owedByOwn 6 = .ok (.getfield 24, 3) := by decide +kernel
theorem dX4_owedByOwn_9 : decode cX4_owedByOwn 9 = .ok (.aload_n 0, 1) := by decide +kernel
theorem dX4_owedByOwn_10 : decode cX4_owedByOwn 10 = .ok (.getfield 33, 3) := by decide +kernel
theorem dX4_owedByOwn_13 : decode cX4_owedByOwn 13 = .ok (.isub, 1) := by decide +kernel
theorem dX4_owedByOwn_14 : decode cX4_owedByOwn 14 = .ok (.invokestatic 58, 3) := by decide +kernel
theorem dX4_owedByOwn_17 : decode cX4_owedByOwn 17 = .ok (.ireturn, 1) := by decide +kernel
theorem dX4_grown_0 : decode cX4_grown 0 = .ok (.iload_n 0, 1) := by decide +kernel
theorem dX4_grown_1 : decode cX4_grown 1 = .ok (.i2l, 1) := by decide +kernel
theorem dX4_grown_2 : decode cX4_grown 2 = .ok (.lstore_n 3, 1) := by decide +kernel
theorem dX4_grown_3 : decode cX4_grown 3 = .ok (.iconst 0, 1) := by decide +kernel
theorem dX4_grown_4 : decode cX4_grown 4 = .ok (.istore 5, 2) := by decide +kernel
theorem dX4_grown_6 : decode cX4_grown 6 = .ok (.iload 5, 2) := by decide +kernel
theorem dX4_grown_8 : decode cX4_grown 8 = .ok (.iload_n 2, 1) := by decide +kernel
theorem dX4_grown_9 : decode cX4_grown 9 = .ok (.if_icmp .ge 26, 3) := by decide +kernel
theorem dX4_grown_12 : decode cX4_grown 12 = .ok (.lload_n 3, 1) := by decide +kernel
theorem dX4_grown_13 : decode cX4_grown 13 = .ok (.lload_n 3, 1) := by decide +kernel
theorem dX4_grown_14 : decode cX4_grown 14 = .ok (.iload_n 1, 1) := by decide +kernel
theorem dX4_grown_15 : decode cX4_grown 15 = .ok (.i2l, 1) := by decide +kernel
theorem dX4_grown_16 : decode cX4_grown 16 = .ok (.lmul, 1) := by decide +kernel
theorem dX4_grown_17 : decode cX4_grown 17 = .ok (.ldc2_w 62, 3) := by decide +kernel
theorem dX4_grown_20 : decode cX4_grown 20 = .ok (.ldiv, 1) := by decide +kernel
theorem dX4_grown_21 : decode cX4_grown 21 = .ok (.ladd, 1) := by decide +kernel
theorem dX4_grown_22 : decode cX4_grown 22 = .ok (.ldc2_w 64, 3) := by decide +kernel
theorem dX4_grown_25 : decode cX4_grown 25 = .ok (.invokestatic 66, 3) := by decide +kernel
theorem dX4_grown_28 : decode cX4_grown 28 = .ok (.lstore_n 3, 1) := by decide +kernel
theorem dX4_grown_29 : decode cX4_grown 29 = .ok (.iinc 5 1, 3) := by decide +kernel
theorem dX4_grown_32 : decode cX4_grown 32 = .ok (.goto (-26), 3) := by decide +kernel
theorem dX4_grown_35 : decode cX4_grown 35 = .ok (.lload_n 3, 1) := by decide +kernel
theorem dX4_grown_36 : decode cX4_grown 36 = .ok (.l2i, 1) := by decide +kernel
theorem dX4_grown_37 : decode cX4_grown 37 = .ok (.ireturn, 1) := by decide +kernel
theorem dX5_init_0 : decode cX5_init 0 = .ok (.aload_n 0, 1) := by decide +kernel
theorem dX5_init_1 : decode cX5_init 1 = .ok (.invokespecial 3, 3) := by decide +kernel
theorem dX5_init_4 : decode cX5_init 4 = .ok (.aload_n 0, 1) := by decide +kernel
theorem dX5_init_5 : decode cX5_init 5 = .ok (.sipush 400, 3) := by decide +kernel
theorem dX5_init_8 : decode cX5_init 8 = .ok (.newarray .int, 2) := by decide +kernel
theorem dX5_init_10 : decode cX5_init 10 = .ok (.putfield 9, 3) := by decide +kernel
theorem dX5_init_13 : decode cX5_init 13 = .ok (.aload_n 0, 1) := by decide +kernel
theorem dX5_init_14 : decode cX5_init 14 = .ok (.iconst 0, 1) := by decide +kernel
theorem dX5_init_15 : decode cX5_init 15 = .ok (.putfield 15, 3) := by decide +kernel
theorem dX5_init_18 : decode cX5_init 18 = .ok (.aload_n 0, 1) := by decide +kernel
theorem dX5_init_19 : decode cX5_init 19 = .ok (.iconst 0, 1) := by decide +kernel
theorem dX5_init_20 : decode cX5_init 20 = .ok (.putfield 19, 3) := by decide +kernel
theorem dX5_init_23 : decode cX5_init 23 = .ok (.aload_n 0, 1) := by decide +kernel
theorem dX5_init_24 : decode cX5_init 24 = .ok (.iconst 0, 1) := by decide +kernel
theorem dX5_init_25 : decode cX5_init 25 = .ok (.putfield 22, 3) := by decide +kernel
theorem dX5_init_28 : decode cX5_init 28 = .ok (.aload_n 0, 1) := by decide +kernel
theorem dX5_init_29 : decode cX5_init 29 = .ok (.iconst 0, 1) := by decide +kernel
theorem dX5_init_30 : decode cX5_init 30 = .ok (.putfield 25, 3) := by decide +kernel
theorem dX5_init_33 : decode cX5_init 33 = .ok (.aload_n 0, 1) := by decide +kernel
theorem dX5_init_34 : decode cX5_init 34 = .ok (.iconst 0, 1) := by decide +kernel
theorem dX5_init_35 : decode cX5_init 35 = .ok (.putfield 28, 3) := by decide +kernel
theorem dX5_init_38 : decode cX5_init 38 = .ok (.aload_n 0, 1) := by decide +kernel
theorem dX5_init_39 : decode cX5_init 39 = .ok (.iconst 0, 1) := by decide +kernel
theorem dX5_init_40 : decode cX5_init 40 = .ok (.putfield 31, 3) := by decide +kernel
theorem dX5_init_43 : decode cX5_init 43 = .ok (.aload_n 0, 1) := by decide +kernel
theorem dX5_init_44 : decode cX5_init 44 = .ok (.iconst 0, 1) := by decide +kernel
theorem dX5_init_45 : decode cX5_init 45 = .ok (.putfield 34, 3) := by decide +kernel
theorem dX5_init_48 : decode cX5_init 48 = .ok (.return_, 1) := by decide +kernel
theorem dX5_append_0 : decode cX5_append 0 = .ok (.iload_n 3, 1) := by decide +kernel
theorem dX5_append_1 : decode cX5_append 1 = .ok (.iconst 1, 1) := by decide +kernel
theorem dX5_append_2 : decode cX5_append 2 = .ok (.isub, 1) := by decide +kernel
theorem dX5_append_3 : decode cX5_append 3 = .ok (.istore 4, 2) := by decide +kernel
theorem dX5_append_5 : decode cX5_append 5 = .ok (.iload 4, 2) := by decide +kernel
theorem dX5_append_7 : decode cX5_append 7 = .ok (.ifCond .lt 50, 3) := by decide +kernel
theorem dX5_append_10 : decode cX5_append 10 = .ok (.aload_n 0, 1) := by decide +kernel
theorem dX5_append_11 : decode cX5_append 11 = .ok (.getfield 15, 3) := by decide +kernel
theorem dX5_append_14 : decode cX5_append 14 = .ok (.sipush 400, 3) := by decide +kernel
theorem dX5_append_17 : decode cX5_append 17 = .ok (.if_icmp .ge 40, 3) := by decide +kernel
theorem dX5_append_20 : decode cX5_append 20 = .ok (.aload_n 0, 1) := by decide +kernel
theorem dX5_append_21 : decode cX5_append 21 = .ok (.getfield 9, 3) := by decide +kernel
theorem dX5_append_24 : decode cX5_append 24 = .ok (.aload_n 0, 1) := by decide +kernel
theorem dX5_append_25 : decode cX5_append 25 = .ok (.getfield 15, 3) := by decide +kernel
theorem dX5_append_28 : decode cX5_append 28 = .ok (.lload_n 1, 1) := by decide +kernel
theorem dX5_append_29 : decode cX5_append 29 = .ok (.bipush 8, 2) := by decide +kernel
theorem dX5_append_31 : decode cX5_append 31 = .ok (.iload 4, 2) := by decide +kernel
theorem dX5_append_33 : decode cX5_append 33 = .ok (.imul, 1) := by decide +kernel
theorem dX5_append_34 : decode cX5_append 34 = .ok (.lushr, 1) := by decide +kernel
theorem dX5_append_35 : decode cX5_append 35 = .ok (.ldc2_w 37, 3) := by decide +kernel
theorem dX5_append_38 : decode cX5_append 38 = .ok (.land, 1) := by decide +kernel
theorem dX5_append_39 : decode cX5_append 39 = .ok (.l2i, 1) := by decide +kernel
theorem dX5_append_40 : decode cX5_append 40 = .ok (.iastore, 1) := by decide +kernel
theorem dX5_append_41 : decode cX5_append 41 = .ok (.aload_n 0, 1) := by decide +kernel
theorem dX5_append_42 : decode cX5_append 42 = .ok (.dup, 1) := by decide +kernel
theorem dX5_append_43 : decode cX5_append 43 = .ok (.getfield 15, 3) := by decide +kernel
theorem dX5_append_46 : decode cX5_append 46 = .ok (.iconst 1, 1) := by decide +kernel
theorem dX5_append_47 : decode cX5_append 47 = .ok (.iadd, 1) := by decide +kernel
theorem dX5_append_48 : decode cX5_append 48 = .ok (.putfield 15, 3) := by decide +kernel
theorem dX5_append_51 : decode cX5_append 51 = .ok (.iinc 4 (-1), 3) := by decide +kernel
theorem dX5_append_54 : decode cX5_append 54 = .ok (.goto (-49), 3) := by decide +kernel
theorem dX5_append_57 : decode cX5_append 57 = .ok (.return_, 1) := by decide +kernel
theorem dX5_readLeague_0 : decode cX5_readLeague 0 = .ok (.aload_n 0, 1) := by decide +kernel
theorem dX5_readLeague_1 : decode cX5_readLeague 1 = .ok (.iconst 0, 1) := by decide +kernel
theorem dX5_readLeague_2 : decode cX5_readLeague 2 = .ok (.putfield 31, 3) := by decide +kernel
theorem dX5_readLeague_5 : decode cX5_readLeague 5 = .ok (.aload_n 0, 1) := by decide +kernel
theorem dX5_readLeague_6 : decode cX5_readLeague 6 = .ok (.iconst 0, 1) := by decide +kernel
theorem dX5_readLeague_7 : decode cX5_readLeague 7 = .ok (.putfield 34, 3) := by decide +kernel
theorem dX5_readLeague_10 : decode cX5_readLeague 10 = .ok (.aload_n 0, 1) := by decide +kernel
theorem dX5_readLeague_11 : decode cX5_readLeague 11 = .ok (.iconst 0, 1) := by decide +kernel
theorem dX5_readLeague_12 : decode cX5_readLeague 12 = .ok (.putfield 25, 3) := by decide +kernel
theorem dX5_readLeague_15 : decode cX5_readLeague 15 = .ok (.aload_n 1, 1) := by decide +kernel
theorem dX5_readLeague_16 : decode cX5_readLeague 16 = .ok (.iconst 0, 1) := by decide +kernel
theorem dX5_readLeague_17 : decode cX5_readLeague 17 = .ok (.putfield 39, 3) := by decide +kernel
theorem dX5_readLeague_20 : decode cX5_readLeague 20 = .ok (.aload_n 1, 1) := by decide +kernel
theorem dX5_readLeague_21 : decode cX5_readLeague 21 = .ok (.iconst 0, 1) := by decide +kernel
theorem dX5_readLeague_22 : decode cX5_readLeague 22 = .ok (.putfield 44, 3) := by decide +kernel
theorem dX5_readLeague_25 : decode cX5_readLeague 25 = .ok (.aload_n 0, 1) := by decide +kernel
theorem dX5_readLeague_26 : decode cX5_readLeague 26 = .ok (.invokevirtual 47, 3) := by decide +kernel
theorem dX5_readLeague_29 : decode cX5_readLeague 29 = .ok (.aload_n 0, 1) := by decide +kernel
theorem dX5_readLeague_30 : decode cX5_readLeague 30 = .ok (.ldc 50, 2) := by decide +kernel
theorem dX5_readLeague_32 : decode cX5_readLeague 32 = .ok (.invokevirtual 52, 3) := by decide +kernel
theorem dX5_readLeague_35 : decode cX5_readLeague 35 = .ok (.aload_n 1, 1) := by decide +kernel
theorem dX5_readLeague_36 : decode cX5_readLeague 36 = .ok (.aload_n 0, 1) := by decide +kernel
theorem dX5_readLeague_37 : decode cX5_readLeague 37 = .ok (.iconst 1, 1) := by decide +kernel
theorem dX5_readLeague_38 : decode cX5_readLeague 38 = .ok (.iconst 5, 1) := by decide +kernel
theorem dX5_readLeague_39 : decode cX5_readLeague 39 = .ok (.ldc 56, 2) := by decide +kernel
theorem dX5_readLeague_41 : decode cX5_readLeague 41 = .ok (.invokevirtual 57, 3) := by decide +kernel
theorem dX5_readLeague_44 : decode cX5_readLeague 44 = .ok (.putfield 61, 3) := by decide +kernel
theorem dX5_readLeague_47 : decode cX5_readLeague 47 = .ok (.aload_n 1, 1) := by decide +kernel
theorem dX5_readLeague_48 : decode cX5_readLeague 48 = .ok (.aload_n 0, 1) := by decide +kernel
theorem dX5_readLeague_49 : decode cX5_readLeague 49 = .ok (.iconst 0, 1) := by decide +kernel
theorem dX5_readLeague_50 : decode cX5_readLeague 50 = .ok (.bipush 20, 2) := by decide +kernel
theorem dX5_readLeague_52 : decode cX5_readLeague 52 = .ok (.ldc 56, 2) := by decide +kernel
theorem dX5_readLeague_54 : decode cX5_readLeague 54 = .ok (.invokevirtual 57, 3) := by decide +kernel
theorem dX5_readLeague_57 : decode cX5_readLeague 57 = .ok (.putfield 64, 3) := by decide +kernel
theorem dX5_readLeague_60 : decode cX5_readLeague 60 = .ok (.aload_n 0, 1) := by decide +kernel
theorem dX5_readLeague_61 : decode cX5_readLeague 61 = .ok (.invokevirtual 67, 3) := by decide +kernel
theorem dX5_readLeague_64 : decode cX5_readLeague 64 = .ok (.iconst 0, 1) := by decide +kernel
theorem dX5_readLeague_65 : decode cX5_readLeague 65 = .ok (.istore_n 2, 1) := by decide +kernel
theorem dX5_readLeague_66 : decode cX5_readLeague 66 = .ok (.iload_n 2, 1) := by decide +kernel
theorem dX5_readLeague_67 : decode cX5_readLeague 67 = .ok (.bipush 8, 2) := by decide +kernel
theorem dX5_readLeague_69 : decode cX5_readLeague 69 = .ok (.if_icmp .gt 30, 3) := by decide +kernel
theorem dX5_readLeague_72 : decode cX5_readLeague 72 = .ok (.aload_n 0, 1) := by decide +kernel
theorem dX5_readLeague_73 : decode cX5_readLeague 73 = .ok (.getfield 31, 3) := by decide +kernel
theorem dX5_readLeague_76 : decode cX5_readLeague 76 = .ok (.ifCond .ne 23, 3) := by decide +kernel
theorem dX5_readLeague_79 : decode cX5_readLeague 79 = .ok (.aload_n 0, 1) := by decide +kernel
theorem dX5_readLeague_80 : decode cX5_readLeague 80 = .ok (.ldc 70, 2) := by decide +kernel
theorem dX5_readLeague_82 : decode cX5_readLeague 82 = .ok (.invokevirtual 72, 3) := by decide +kernel
theorem dX5_readLeague_85 : decode cX5_readLeague 85 = .ok (.ifCond .eq 14, 3) := by decide +kernel
theorem dX5_readLeague_88 : decode cX5_readLeague 88 = .ok (.aload_n 0, 1) := by decide +kernel
theorem dX5_readLeague_89 : decode cX5_readLeague 89 = .ok (.aload_n 1, 1) := by decide +kernel
theorem dX5_readLeague_90 : decode cX5_readLeague 90 = .ok (.invokevirtual 76, 3) := by decide +kernel
theorem dX5_readLeague_93 : decode cX5_readLeague 93 = .ok (.iinc 2 1, 3) := by decide +kernel
theorem dX5_readLeague_96 : decode cX5_readLeague 96 = .ok (.goto (-30), 3) := by decide +kernel
theorem dX5_readLeague_99 : decode cX5_readLeague 99 = .ok (.iconst 0, 1) := by decide +kernel
theorem dX5_readLeague_100 : decode cX5_readLeague 100 = .ok (.istore_n 2, 1) := by decide +kernel
theorem dX5_readLeague_101 : decode cX5_readLeague 101 = .ok (.iload_n 2, 1) := by decide +kernel
theorem dX5_readLeague_102 : decode cX5_readLeague 102 = .ok (.iconst 4, 1) := by decide +kernel
theorem dX5_readLeague_103 : decode cX5_readLeague 103 = .ok (.if_icmp .gt 30, 3) := by decide +kernel
theorem dX5_readLeague_106 : decode cX5_readLeague 106 = .ok (.aload_n 0, 1) := by decide +kernel
theorem dX5_readLeague_107 : decode cX5_readLeague 107 = .ok (.getfield 31, 3) := by decide +kernel
theorem dX5_readLeague_110 : decode cX5_readLeague 110 = .ok (.ifCond .ne 23, 3) := by decide +kernel
theorem dX5_readLeague_113 : decode cX5_readLeague 113 = .ok (.aload_n 0, 1) := by decide +kernel
theorem dX5_readLeague_114 : decode cX5_readLeague 114 = .ok (.ldc 80, 2) := by decide +kernel
theorem dX5_readLeague_116 : decode cX5_readLeague 116 = .ok (.invokevirtual 72, 3) := by decide +kernel
theorem dX5_readLeague_119 : decode cX5_readLeague 119 = .ok (.ifCond .eq 14, 3) := by decide +kernel
theorem dX5_readLeague_122 : decode cX5_readLeague 122 = .ok (.aload_n 0, 1) := by decide +kernel
theorem dX5_readLeague_123 : decode cX5_readLeague 123 = .ok (.aload_n 1, 1) := by decide +kernel
theorem dX5_readLeague_124 : decode cX5_readLeague 124 = .ok (.invokevirtual 82, 3) := by decide +kernel
theorem dX5_readLeague_127 : decode cX5_readLeague 127 = .ok (.iinc 2 1, 3) := by decide +kernel
theorem dX5_readLeague_130 : decode cX5_readLeague 130 = .ok (.goto (-29), 3) := by decide +kernel
theorem dX5_readLeague_133 : decode cX5_readLeague 133 = .ok (.aload_n 0, 1) := by decide +kernel
theorem dX5_readLeague_134 : decode cX5_readLeague 134 = .ok (.getfield 19, 3) := by decide +kernel
theorem dX5_readLeague_137 : decode cX5_readLeague 137 = .ok (.ifCond .eq 8, 3) := by decide +kernel
theorem dX5_readLeague_140 : decode cX5_readLeague 140 = .ok (.aload_n 0, 1) := by decide +kernel
theorem dX5_readLeague_141 : decode cX5_readLeague 141 = .ok (.iconst 1, 1) := by decide +kernel
theorem dX5_readLeague_142 : decode cX5_readLeague 142 = .ok (.invokevirtual 85, 3) := by decide +kernel
theorem dX5_readLeague_145 : decode cX5_readLeague 145 = .ok (.return_, 1) := by decide +kernel
theorem dX5_readWay_0 : decode cX5_readWay 0 = .ok (.aload_n 1, 1) := by decide +kernel
theorem dX5_readWay_1 : decode cX5_readWay 1 = .ok (.getfield 39, 3) := by decide +kernel
theorem dX5_readWay_4 : decode cX5_readWay 4 = .ok (.bipush 8, 2) := by decide +kernel
theorem dX5_readWay_6 : decode cX5_readWay 6 = .ok (.if_icmp .lt 9, 3) := by decide +kernel
theorem dX5_readWay_9 : decode cX5_readWay 9 = .ok (.aload_n 0, 1) := by decide +kernel
theorem dX5_readWay_10 : decode cX5_readWay 10 = .ok (.iconst 3, 1) := by decide +kernel
theorem dX5_readWay_11 : decode cX5_readWay 11 = .ok (.invokevirtual 85, 3) := by decide +kernel
theorem dX5_readWay_14 : decode cX5_readWay 14 = .ok (.return_, 1) := by decide +kernel
theorem dX5_readWay_15 : decode cX5_readWay 15 = .ok (.aload_n 1, 1) := by decide +kernel
theorem dX5_readWay_16 : decode cX5_readWay 16 = .ok (.getfield 89, 3) := by decide +kernel
theorem dX5_readWay_19 : decode cX5_readWay 19 = .ok (.aload_n 1, 1) := by decide +kernel
theorem dX5_readWay_20 : decode cX5_readWay 20 = .ok (.getfield 39, 3) := by decide +kernel
theorem dX5_readWay_23 : decode cX5_readWay 23 = .ok (.aaload, 1) := by decide +kernel
theorem dX5_readWay_24 : decode cX5_readWay 24 = .ok (.astore_n 2, 1) := by decide +kernel
theorem dX5_readWay_25 : decode cX5_readWay 25 = .ok (.aload_n 0, 1) := by decide +kernel
theorem dX5_readWay_26 : decode cX5_readWay 26 = .ok (.ldc 70, 2) := by decide +kernel
theorem dX5_readWay_28 : decode cX5_readWay 28 = .ok (.invokevirtual 52, 3) := by decide +kernel
theorem dX5_readWay_31 : decode cX5_readWay 31 = .ok (.aload_n 2, 1) := by decide +kernel
theorem dX5_readWay_32 : decode cX5_readWay 32 = .ok (.aload_n 0, 1) := by decide +kernel
theorem dX5_readWay_33 : decode cX5_readWay 33 = .ok (.iconst 0, 1) := by decide +kernel
theorem dX5_readWay_34 : decode cX5_readWay 34 = .ok (.aload_n 1, 1) := by decide +kernel
theorem dX5_readWay_35 : decode cX5_readWay 35 = .ok (.getfield 61, 3) := by decide +kernel
theorem dX5_readWay_38 : decode cX5_readWay 38 = .ok (.iconst 1, 1) := by decide +kernel
theorem dX5_readWay_39 : decode cX5_readWay 39 = .ok (.isub, 1) := by decide +kernel
theorem dX5_readWay_40 : decode cX5_readWay 40 = .ok (.ldc 56, 2) := by decide +kernel
theorem dX5_readWay_42 : decode cX5_readWay 42 = .ok (.invokevirtual 57, 3) := by decide +kernel
theorem dX5_readWay_45 : decode cX5_readWay 45 = .ok (.putfield 93, 3) := by decide +kernel
theorem dX5_readWay_48 : decode cX5_readWay 48 = .ok (.aload_n 2, 1) := by decide +kernel
theorem dX5_readWay_49 : decode cX5_readWay 49 = .ok (.aload_n 0, 1) := by decide +kernel
theorem dX5_readWay_50 : decode cX5_readWay 50 = .ok (.iconst 0, 1) := by decide +kernel
theorem dX5_readWay_51 : decode cX5_readWay 51 = .ok (.aload_n 1, 1) := by decide +kernel
theorem dX5_readWay_52 : decode cX5_readWay 52 = .ok (.getfield 61, 3) := by decide +kernel
theorem dX5_readWay_55 : decode cX5_readWay 55 = .ok (.iconst 1, 1) := by decide +kernel
theorem dX5_readWay_56 : decode cX5_readWay 56 = .ok (.isub, 1) := by decide +kernel
theorem dX5_readWay_57 : decode cX5_readWay 57 = .ok (.aload_n 2, 1) := by decide +kernel
theorem dX5_readWay_58 : decode cX5_readWay 58 = .ok (.getfield 93, 3) := by decide +kernel
theorem dX5_readWay_61 : decode cX5_readWay 61 = .ok (.invokevirtual 57, 3) := by decide +kernel
theorem dX5_readWay_64 : decode cX5_readWay 64 = .ok (.putfield 98, 3) := by decide +kernel
theorem dX5_readWay_67 : decode cX5_readWay 67 = .ok (.aload_n 2, 1) := by decide +kernel
theorem dX5_readWay_68 : decode cX5_readWay 68 = .ok (.aload_n 0, 1) := by decide +kernel
theorem dX5_readWay_69 : decode cX5_readWay 69 = .ok (.iconst 1, 1) := by decide +kernel
theorem dX5_readWay_70 : decode cX5_readWay 70 = .ok (.bipush 20, 2) := by decide +kernel
theorem dX5_readWay_72 : decode cX5_readWay 72 = .ok (.ldc 56, 2) := by decide +kernel
theorem dX5_readWay_74 : decode cX5_readWay 74 = .ok (.invokevirtual 57, 3) := by decide +kernel
theorem dX5_readWay_77 : decode cX5_readWay 77 = .ok (.putfield 101, 3) := by decide +kernel
theorem dX5_readWay_80 : decode cX5_readWay 80 = .ok (.aload_n 2, 1) := by decide +kernel
theorem dX5_readWay_81 : decode cX5_readWay 81 = .ok (.aload_n 0, 1) := by decide +kernel
theorem dX5_readWay_82 : decode cX5_readWay 82 = .ok (.iconst 0, 1) := by decide +kernel
theorem dX5_readWay_83 : decode cX5_readWay 83 = .ok (.aload_n 2, 1) := by decide +kernel
theorem dX5_readWay_84 : decode cX5_readWay 84 = .ok (.getfield 101, 3) := by decide +kernel
theorem dX5_readWay_87 : decode cX5_readWay 87 = .ok (.ldc 56, 2) := by decide +kernel
theorem dX5_readWay_89 : decode cX5_readWay 89 = .ok (.invokevirtual 57, 3) := by decide +kernel
theorem dX5_readWay_92 : decode cX5_readWay 92 = .ok (.putfield 104, 3) := by decide +kernel
theorem dX5_readWay_95 : decode cX5_readWay 95 = .ok (.aload_n 0, 1) := by decide +kernel
theorem dX5_readWay_96 : decode cX5_readWay 96 = .ok (.invokevirtual 67, 3) := by decide +kernel
theorem dX5_readWay_99 : decode cX5_readWay 99 = .ok (.aload_n 1, 1) := by decide +kernel
theorem dX5_readWay_100 : decode cX5_readWay 100 = .ok (.dup, 1) := by decide +kernel
theorem dX5_readWay_101 : decode cX5_readWay 101 = .ok (.getfield 39, 3) := by decide +kernel
theorem dX5_readWay_104 : decode cX5_readWay 104 = .ok (.iconst 1, 1) := by decide +kernel
theorem dX5_readWay_105 : decode cX5_readWay 105 = .ok (.iadd, 1) := by decide +kernel
theorem dX5_readWay_106 : decode cX5_readWay 106 = .ok (.putfield 39, 3) := by decide +kernel
theorem dX5_readWay_109 : decode cX5_readWay 109 = .ok (.return_, 1) := by decide +kernel
theorem dX5_readPerson_0 : decode cX5_readPerson 0 = .ok (.aload_n 1, 1) := by decide +kernel
theorem dX5_readPerson_1 : decode cX5_readPerson 1 = .ok (.getfield 44, 3) := by decide +kernel
theorem dX5_readPerson_4 : decode cX5_readPerson 4 = .ok (.iconst 4, 1) := by decide +kernel
theorem dX5_readPerson_5 : decode cX5_readPerson 5 = .ok (.if_icmp .lt 9, 3) := by decide +kernel
theorem dX5_readPerson_8 : decode cX5_readPerson 8 = .ok (.aload_n 0, 1) := by decide +kernel
theorem dX5_readPerson_9 : decode cX5_readPerson 9 = .ok (.iconst 3, 1) := by decide +kernel
theorem dX5_readPerson_10 : decode cX5_readPerson 10 = .ok (.invokevirtual 85, 3) := by decide +kernel
theorem dX5_readPerson_13 : decode cX5_readPerson 13 = .ok (.return_, 1) := by decide +kernel
theorem dX5_readPerson_14 : decode cX5_readPerson 14 = .ok (.aload_n 0, 1) := by decide +kernel
theorem dX5_readPerson_15 : decode cX5_readPerson 15 = .ok (.ldc 80, 2) := by decide +kernel
theorem dX5_readPerson_17 : decode cX5_readPerson 17 = .ok (.invokevirtual 52, 3) := by decide +kernel
theorem dX5_readPerson_20 : decode cX5_readPerson 20 = .ok (.aload_n 0, 1) := by decide +kernel
theorem dX5_readPerson_21 : decode cX5_readPerson 21 = .ok (.invokevirtual 107, 3) := by decide +kernel
theorem dX5_readPerson_24 : decode cX5_readPerson 24 = .ok (.istore_n 2, 1) := by decide +kernel
theorem dX5_readPerson_25 : decode cX5_readPerson 25 = .ok (.aload_n 0, 1) := by decide +kernel
theorem dX5_readPerson_26 : decode cX5_readPerson 26 = .ok (.iconst 0, 1) := by decide +kernel
theorem dX5_readPerson_27 : decode cX5_readPerson 27 = .ok (.aload_n 1, 1) := by decide +kernel
theorem dX5_readPerson_28 : decode cX5_readPerson 28 = .ok (.getfield 61, 3) := by decide +kernel
theorem dX5_readPerson_31 : decode cX5_readPerson 31 = .ok (.iconst 1, 1) := by decide +kernel
theorem dX5_readPerson_32 : decode cX5_readPerson 32 = .ok (.isub, 1) := by decide +kernel
theorem dX5_readPerson_33 : decode cX5_readPerson 33 = .ok (.ldc 56, 2) := by decide +kernel
theorem dX5_readPerson_35 : decode cX5_readPerson 35 = .ok (.invokevirtual 57, 3) := by decide +kernel
theorem dX5_readPerson_38 : decode cX5_readPerson 38 = .ok (.istore_n 3, 1) := by decide +kernel
theorem dX5_readPerson_39 : decode cX5_readPerson 39 = .ok (.aload_n 0, 1) := by decide +kernel
theorem dX5_readPerson_40 : decode cX5_readPerson 40 = .ok (.iconst 0, 1) := by decide +kernel
theorem dX5_readPerson_41 : decode cX5_readPerson 41 = .ok (.bipush 99, 2) := by decide +kernel
theorem dX5_readPerson_43 : decode cX5_readPerson 43 = .ok (.ldc 56, 2) := by decide +kernel
theorem dX5_readPerson_45 : decode cX5_readPerson 45 = .ok (.invokevirtual 57, 3) := by decide +kernel
theorem dX5_readPerson_48 : decode cX5_readPerson 48 = .ok (.istore 4, 2) := by decide +kernel
theorem dX5_readPerson_50 : decode cX5_readPerson 50 = .ok (.aload_n 0, 1) := by decide +kernel
theorem dX5_readPerson_51 : decode cX5_readPerson 51 = .ok (.invokevirtual 67, 3) := by decide +kernel
theorem dX5_readPerson_54 : decode cX5_readPerson 54 = .ok (.aload_n 1, 1) := by decide +kernel
theorem dX5_readPerson_55 : decode cX5_readPerson 55 = .ok (.getfield 111, 3) := by decide +kernel
theorem dX5_readPerson_58 : decode cX5_readPerson 58 = .ok (.aload_n 1, 1) := by decide +kernel
theorem dX5_readPerson_59 : decode cX5_readPerson 59 = .ok (.getfield 44, 3) := by decide +kernel
theorem dX5_readPerson_62 : decode cX5_readPerson 62 = .ok (.aaload, 1) := by decide +kernel
theorem dX5_readPerson_63 : decode cX5_readPerson 63 = .ok (.iload_n 2, 1) := by decide +kernel
theorem dX5_readPerson_64 : decode cX5_readPerson 64 = .ok (.iload_n 3, 1) := by decide +kernel
theorem dX5_readPerson_65 : decode cX5_readPerson 65 = .ok (.iload 4, 2) := by decide +kernel
theorem dX5_readPerson_67 : decode cX5_readPerson 67 = .ok (.invokevirtual 115, 3) := by decide +kernel
theorem dX5_readPerson_70 : decode cX5_readPerson 70 = .ok (.aload_n 1, 1) := by decide +kernel
theorem dX5_readPerson_71 : decode cX5_readPerson 71 = .ok (.dup, 1) := by decide +kernel
theorem dX5_readPerson_72 : decode cX5_readPerson 72 = .ok (.getfield 44, 3) := by decide +kernel
theorem dX5_readPerson_75 : decode cX5_readPerson 75 = .ok (.iconst 1, 1) := by decide +kernel
theorem dX5_readPerson_76 : decode cX5_readPerson 76 = .ok (.iadd, 1) := by decide +kernel
theorem dX5_readPerson_77 : decode cX5_readPerson 77 = .ok (.putfield 44, 3) := by decide +kernel
theorem dX5_readPerson_80 : decode cX5_readPerson 80 = .ok (.return_, 1) := by decide +kernel
theorem dX5_fail_0 : decode cX5_fail 0 = .ok (.aload_n 0, 1) := by decide +kernel
theorem dX5_fail_1 : decode cX5_fail 1 = .ok (.getfield 31, 3) := by decide +kernel
theorem dX5_fail_4 : decode cX5_fail 4 = .ok (.ifCond .ne 16, 3) := by decide +kernel
theorem dX5_fail_7 : decode cX5_fail 7 = .ok (.aload_n 0, 1) := by decide +kernel
theorem dX5_fail_8 : decode cX5_fail 8 = .ok (.iload_n 1, 1) := by decide +kernel
theorem dX5_fail_9 : decode cX5_fail 9 = .ok (.putfield 31, 3) := by decide +kernel
theorem dX5_fail_12 : decode cX5_fail 12 = .ok (.aload_n 0, 1) := by decide +kernel
theorem dX5_fail_13 : decode cX5_fail 13 = .ok (.aload_n 0, 1) := by decide +kernel
theorem dX5_fail_14 : decode cX5_fail 14 = .ok (.getfield 22, 3) := by decide +kernel
theorem dX5_fail_17 : decode cX5_fail 17 = .ok (.putfield 34, 3) := by decide +kernel
theorem dX5_fail_20 : decode cX5_fail 20 = .ok (.return_, 1) := by decide +kernel
theorem dX5_takeWord_0 : decode cX5_takeWord 0 = .ok (.aload_n 0, 1) := by decide +kernel
theorem dX5_takeWord_1 : decode cX5_takeWord 1 = .ok (.getfield 31, 3) := by decide +kernel
theorem dX5_takeWord_4 : decode cX5_takeWord 4 = .ok (.ifCond .ne 18, 3) := by decide +kernel
theorem dX5_takeWord_7 : decode cX5_takeWord 7 = .ok (.aload_n 0, 1) := by decide +kernel
theorem dX5_takeWord_8 : decode cX5_takeWord 8 = .ok (.aload_n 1, 1) := by decide +kernel
theorem dX5_takeWord_9 : decode cX5_takeWord 9 = .ok (.invokevirtual 72, 3) := by decide +kernel
theorem dX5_takeWord_12 : decode cX5_takeWord 12 = .ok (.ifCond .eq 10, 3) := by decide +kernel
theorem dX5_takeWord_15 : decode cX5_takeWord 15 = .ok (.aload_n 0, 1) := by decide +kernel
theorem dX5_takeWord_16 : decode cX5_takeWord 16 = .ok (.invokevirtual 47, 3) := by decide +kernel
theorem dX5_takeWord_19 : decode cX5_takeWord 19 = .ok (.goto 8, 3) := by decide +kernel
theorem dX5_takeWord_22 : decode cX5_takeWord 22 = .ok (.aload_n 0, 1) := by decide +kernel
theorem dX5_takeWord_23 : decode cX5_takeWord 23 = .ok (.iconst 1, 1) := by decide +kernel
theorem dX5_takeWord_24 : decode cX5_takeWord 24 = .ok (.invokevirtual 85, 3) := by decide +kernel
theorem dX5_takeWord_27 : decode cX5_takeWord 27 = .ok (.return_, 1) := by decide +kernel
theorem dX5_takeSort_0 : decode cX5_takeSort 0 = .ok (.iconst 1, 1) := by decide +kernel
theorem dX5_takeSort_1 : decode cX5_takeSort 1 = .ok (.istore_n 1, 1) := by decide +kernel
theorem dX5_takeSort_2 : decode cX5_takeSort 2 = .ok (.iload_n 1, 1) := by decide +kernel
theorem dX5_takeSort_3 : decode cX5_takeSort 3 = .ok (.iconst 5, 1) := by decide +kernel
theorem dX5_takeSort_4 : decode cX5_takeSort 4 = .ok (.if_icmp .gt 33, 3) := by decide +kernel
theorem dX5_takeSort_7 : decode cX5_takeSort 7 = .ok (.aload_n 0, 1) := by decide +kernel
theorem dX5_takeSort_8 : decode cX5_takeSort 8 = .ok (.getfield 31, 3) := by decide +kernel
theorem dX5_takeSort_11 : decode cX5_takeSort 11 = .ok (.ifCond .ne 20, 3) := by decide +kernel
theorem dX5_takeSort_14 : decode cX5_takeSort 14 = .ok (.aload_n 0, 1) := by decide +kernel
theorem dX5_takeSort_15 : decode cX5_takeSort 15 = .ok (.iload_n 1, 1) := by decide +kernel
theorem dX5_takeSort_16 : decode cX5_takeSort 16 = .ok (.invokestatic 121, 3) := by decide +kernel
theorem dX5_takeSort_19 : decode cX5_takeSort 19 = .ok (.invokevirtual 72, 3) := by decide +kernel
theorem dX5_takeSort_22 : decode cX5_takeSort 22 = .ok (.ifCond .eq 9, 3) := by decide +kernel
theorem dX5_takeSort_25 : decode cX5_takeSort 25 = .ok (.aload_n 0, 1) := by decide +kernel
theorem dX5_takeSort_26 : decode cX5_takeSort 26 = .ok (.invokevirtual 47, 3) := by decide +kernel
theorem dX5_takeSort_29 : decode cX5_takeSort 29 = .ok (.iload_n 1, 1) := by decide +kernel
theorem dX5_takeSort_30 : decode cX5_takeSort 30 = .ok (.ireturn, 1) := by decide +kernel
theorem dX5_takeSort_31 : decode cX5_takeSort 31 = .ok (.iinc 1 1, 3) := by decide +kernel
theorem dX5_takeSort_34 : decode cX5_takeSort 34 = .ok (.goto (-32), 3) := by decide +kernel
theorem dX5_takeSort_37 : decode cX5_takeSort 37 = .ok (.aload_n 0, 1) := by decide +kernel
theorem dX5_takeSort_38 : decode cX5_takeSort 38 = .ok (.iconst 1, 1) := by decide +kernel
theorem dX5_takeSort_39 : decode cX5_takeSort 39 = .ok (.invokevirtual 85, 3) := by decide +kernel
theorem dX5_takeSort_42 : decode cX5_takeSort 42 = .ok (.iconst 1, 1) := by decide +kernel
theorem dX5_takeSort_43 : decode cX5_takeSort 43 = .ok (.ireturn, 1) := by decide +kernel
theorem dX5_takeSign_0 : decode cX5_takeSign 0 = .ok (.aload_n 0, 1) := by decide +kernel
theorem dX5_takeSign_1 : decode cX5_takeSign 1 = .ok (.getfield 31, 3) := by decide +kernel
theorem dX5_takeSign_4 : decode cX5_takeSign 4 = .ok (.ifCond .ne 18, 3) := by decide +kernel
theorem dX5_takeSign_7 : decode cX5_takeSign 7 = .ok (.aload_n 0, 1) := by decide +kernel
theorem dX5_takeSign_8 : decode cX5_takeSign 8 = .ok (.getfield 19, 3) := by decide +kernel
theorem dX5_takeSign_11 : decode cX5_takeSign 11 = .ok (.iconst 3, 1) := by decide +kernel
theorem dX5_takeSign_12 : decode cX5_takeSign 12 = .ok (.if_icmp .ne 10, 3) := by decide +kernel
theorem dX5_takeSign_15 : decode cX5_takeSign 15 = .ok (.aload_n 0, 1) := by decide +kernel
theorem dX5_takeSign_16 : decode cX5_takeSign 16 = .ok (.invokevirtual 47, 3) := by decide +kernel
theorem dX5_takeSign_19 : decode cX5_takeSign 19 = .ok (.goto 8, 3) := by decide +kernel
theorem dX5_takeSign_22 : decode cX5_takeSign 22 = .ok (.aload_n 0, 1) := by decide +kernel
theorem dX5_takeSign_23 : decode cX5_takeSign 23 = .ok (.iconst 1, 1) := by decide +kernel
theorem dX5_takeSign_24 : decode cX5_takeSign 24 = .ok (.invokevirtual 85, 3) := by decide +kernel
theorem dX5_takeSign_27 : decode cX5_takeSign 27 = .ok (.return_, 1) := by decide +kernel
theorem dX5_takeNumber_0 : decode cX5_takeNumber 0 = .ok (.aload_n 0, 1) := by decide +kernel
theorem dX5_takeNumber_1 : decode cX5_takeNumber 1 = .ok (.getfield 31, 3) := by decide +kernel
theorem dX5_takeNumber_4 : decode cX5_takeNumber 4 = .ok (.ifCond .ne 11, 3) := by decide +kernel
theorem dX5_takeNumber_7 : decode cX5_takeNumber 7 = .ok (.aload_n 0, 1) := by decide +kernel
theorem dX5_takeNumber_8 : decode cX5_takeNumber 8 = .ok (.getfield 19, 3) := by decide +kernel
theorem dX5_takeNumber_11 : decode cX5_takeNumber 11 = .ok (.iconst 2, 1) := by decide +kernel
theorem dX5_takeNumber_12 : decode cX5_takeNumber 12 = .ok (.if_icmp .eq 10, 3) := by decide +kernel
theorem dX5_takeNumber_15 : decode cX5_takeNumber 15 = .ok (.aload_n 0, 1) := by decide +kernel
theorem dX5_takeNumber_16 : decode cX5_takeNumber 16 = .ok (.iconst 1, 1) := by decide +kernel
theorem dX5_takeNumber_17 : decode cX5_takeNumber 17 = .ok (.invokevirtual 85, 3) := by decide +kernel
theorem dX5_takeNumber_20 : decode cX5_takeNumber 20 = .ok (.iload_n 1, 1) := by decide +kernel
theorem dX5_takeNumber_21 : decode cX5_takeNumber 21 = .ok (.ireturn, 1) := by decide +kernel
theorem dX5_takeNumber_22 : decode cX5_takeNumber 22 = .ok (.aload_n 0, 1) := by decide +kernel
theorem dX5_takeNumber_23 : decode cX5_takeNumber 23 = .ok (.getfield 28, 3) := by decide +kernel
theorem dX5_takeNumber_26 : decode cX5_takeNumber 26 = .ok (.iload_n 1, 1) := by decide +kernel
theorem dX5_takeNumber_27 : decode cX5_takeNumber 27 = .ok (.iload_n 2, 1) := by decide +kernel
theorem dX5_takeNumber_28 : decode cX5_takeNumber 28 = .ok (.invokestatic 125, 3) := by decide +kernel
theorem dX5_takeNumber_31 : decode cX5_takeNumber 31 = .ok (.ifCond .ne 11, 3) := by decide +kernel
theorem dX5_takeNumber_34 : decode cX5_takeNumber 34 = .ok (.aload_n 0, 1) := by decide +kernel
theorem dX5_takeNumber_35 : decode cX5_takeNumber 35 = .ok (.getfield 28, 3) := by decide +kernel
theorem dX5_takeNumber_38 : decode cX5_takeNumber 38 = .ok (.iload_n 3, 1) := by decide +kernel
theorem dX5_takeNumber_39 : decode cX5_takeNumber 39 = .ok (.if_icmp .ne 10, 3) := by decide +kernel
theorem dX5_takeNumber_42 : decode cX5_takeNumber 42 = .ok (.aload_n 0, 1) := by decide +kernel
theorem dX5_takeNumber_43 : decode cX5_takeNumber 43 = .ok (.iconst 2, 1) := by decide +kernel
theorem dX5_takeNumber_44 : decode cX5_takeNumber 44 = .ok (.invokevirtual 85, 3) := by decide +kernel
theorem dX5_takeNumber_47 : decode cX5_takeNumber 47 = .ok (.iload_n 1, 1) := by decide +kernel
theorem dX5_takeNumber_48 : decode cX5_takeNumber 48 = .ok (.ireturn, 1) := by decide +kernel
theorem dX5_takeNumber_49 : decode cX5_takeNumber 49 = .ok (.aload_n 0, 1) := by decide +kernel
theorem dX5_takeNumber_50 : decode cX5_takeNumber 50 = .ok (.getfield 28, 3) := by decide +kernel
theorem dX5_takeNumber_53 : decode cX5_takeNumber 53 = .ok (.istore 4, 2) := by decide +kernel
theorem dX5_takeNumber_55 : decode cX5_takeNumber 55 = .ok (.aload_n 0, 1) := by decide +kernel
theorem dX5_takeNumber_56 : decode cX5_takeNumber 56 = .ok (.invokevirtual 47, 3) := by decide +kernel
theorem dX5_takeNumber_59 : decode cX5_takeNumber 59 = .ok (.iload 4, 2) := by decide +kernel
theorem dX5_takeNumber_61 : decode cX5_takeNumber 61 = .ok (.ireturn, 1) := by decide +kernel
theorem dX5_sortWord_0 : decode cX5_sortWord 0 = .ok (.iload_n 0, 1) := by decide +kernel
theorem dX5_sortWord_1 : decode cX5_sortWord 1 = .ok (.tableswitch 43 1 4 #[31, 34, 37, 40], 31) := by decide +kernel
theorem dX5_sortWord_32 : decode cX5_sortWord 32 = .ok (.ldc 129, 2) := by decide +kernel
theorem dX5_sortWord_34 : decode cX5_sortWord 34 = .ok (.areturn, 1) := by decide +kernel
theorem dX5_sortWord_35 : decode cX5_sortWord 35 = .ok (.ldc 131, 2) := by decide +kernel
theorem dX5_sortWord_37 : decode cX5_sortWord 37 = .ok (.areturn, 1) := by decide +kernel
theorem dX5_sortWord_38 : decode cX5_sortWord 38 = .ok (.ldc 133, 2) := by decide +kernel
theorem dX5_sortWord_40 : decode cX5_sortWord 40 = .ok (.areturn, 1) := by decide +kernel
theorem dX5_sortWord_41 : decode cX5_sortWord 41 = .ok (.ldc 135, 2) := by decide +kernel
theorem dX5_sortWord_43 : decode cX5_sortWord 43 = .ok (.areturn, 1) := by decide +kernel
theorem dX5_sortWord_44 : decode cX5_sortWord 44 = .ok (.ldc 137, 2) := by decide +kernel
theorem dX5_sortWord_46 : decode cX5_sortWord 46 = .ok (.areturn, 1) := by decide +kernel
theorem dX5_isWord_0 : decode cX5_isWord 0 = .ok (.aload_n 0, 1) := by decide +kernel
theorem dX5_isWord_1 : decode cX5_isWord 1 = .ok (.getfield 19, 3) := by decide +kernel
theorem dX5_isWord_4 : decode cX5_isWord 4 = .ok (.iconst 1, 1) := by decide +kernel
theorem dX5_isWord_5 : decode cX5_isWord 5 = .ok (.if_icmp .ne 19, 3) := by decide +kernel
theorem dX5_isWord_8 : decode cX5_isWord 8 = .ok (.aload_n 0, 1) := by decide +kernel
theorem dX5_isWord_9 : decode cX5_isWord 9 = .ok (.getfield 25, 3) := by decide +kernel
theorem dX5_isWord_12 : decode cX5_isWord 12 = .ok (.aload_n 0, 1) := by decide +kernel
theorem dX5_isWord_13 : decode cX5_isWord 13 = .ok (.getfield 22, 3) := by decide +kernel
theorem dX5_isWord_16 : decode cX5_isWord 16 = .ok (.isub, 1) := by decide +kernel
theorem dX5_isWord_17 : decode cX5_isWord 17 = .ok (.aload_n 1, 1) := by decide +kernel
theorem dX5_isWord_18 : decode cX5_isWord 18 = .ok (.invokevirtual 139, 3) := by decide +kernel
theorem dX5_isWord_21 : decode cX5_isWord 21 = .ok (.if_icmp .eq 5, 3) := by decide +kernel
theorem dX5_isWord_24 : decode cX5_isWord 24 = .ok (.iconst 0, 1) := by decide +kernel
theorem dX5_isWord_25 : decode cX5_isWord 25 = .ok (.ireturn, 1) := by decide +kernel
theorem dX5_isWord_26 : decode cX5_isWord 26 = .ok (.iconst 0, 1) := by decide +kernel
theorem dX5_isWord_27 : decode cX5_isWord 27 = .ok (.istore_n 2, 1) := by decide +kernel
theorem dX5_isWord_28 : decode cX5_isWord 28 = .ok (.iload_n 2, 1) := by decide +kernel
theorem dX5_isWord_29 : decode cX5_isWord 29 = .ok (.aload_n 1, 1) := by decide +kernel
theorem dX5_isWord_30 : decode cX5_isWord 30 = .ok (.invokevirtual 139, 3) := by decide +kernel
theorem dX5_isWord_33 : decode cX5_isWord 33 = .ok (.if_icmp .ge 30, 3) := by decide +kernel
theorem dX5_isWord_36 : decode cX5_isWord 36 = .ok (.aload_n 0, 1) := by decide +kernel
theorem dX5_isWord_37 : decode cX5_isWord 37 = .ok (.getfield 9, 3) := by decide +kernel
theorem dX5_isWord_40 : decode cX5_isWord 40 = .ok (.aload_n 0, 1) := by decide +kernel
theorem dX5_isWord_41 : decode cX5_isWord 41 = .ok (.getfield 22, 3) := by decide +kernel
theorem dX5_isWord_44 : decode cX5_isWord 44 = .ok (.iload_n 2, 1) := by decide +kernel
theorem dX5_isWord_45 : decode cX5_isWord 45 = .ok (.iadd, 1) := by decide +kernel
theorem dX5_isWord_46 : decode cX5_isWord 46 = .ok (.iaload, 1) := by decide +kernel
theorem dX5_isWord_47 : decode cX5_isWord 47 = .ok (.aload_n 1, 1) := by decide +kernel
theorem dX5_isWord_48 : decode cX5_isWord 48 = .ok (.iload_n 2, 1) := by decide +kernel
theorem dX5_isWord_49 : decode cX5_isWord 49 = .ok (.invokevirtual 144, 3) := by decide +kernel
theorem dX5_isWord_52 : decode cX5_isWord 52 = .ok (.if_icmp .eq 5, 3) := by decide +kernel
theorem dX5_isWord_55 : decode cX5_isWord 55 = .ok (.iconst 0, 1) := by decide +kernel
theorem dX5_isWord_56 : decode cX5_isWord 56 = .ok (.ireturn, 1) := by decide +kernel
theorem dX5_isWord_57 : decode cX5_isWord 57 = .ok (.iinc 2 1, 3) := by decide +kernel
theorem dX5_isWord_60 : decode cX5_isWord 60 = .ok (.goto (-32), 3) := by decide +kernel
theorem dX5_isWord_63 : decode cX5_isWord 63 = .ok (.iconst 1, 1) := by decide +kernel
theorem dX5_isWord_64 : decode cX5_isWord 64 = .ok (.ireturn, 1) := by decide +kernel
theorem dX5_nextToken_0 : decode cX5_nextToken 0 = .ok (.aload_n 0, 1) := by decide +kernel
theorem dX5_nextToken_1 : decode cX5_nextToken 1 = .ok (.getfield 25, 3) := by decide +kernel
theorem dX5_nextToken_4 : decode cX5_nextToken 4 = .ok (.aload_n 0, 1) := by decide +kernel
theorem dX5_nextToken_5 : decode cX5_nextToken 5 = .ok (.getfield 15, 3) := by decide +kernel
theorem dX5_nextToken_8 : decode cX5_nextToken 8 = .ok (.if_icmp .ge 44, 3) := by decide +kernel
theorem dX5_nextToken_11 : decode cX5_nextToken 11 = .ok (.aload_n 0, 1) := by decide +kernel
theorem dX5_nextToken_12 : decode cX5_nextToken 12 = .ok (.getfield 9, 3) := by decide +kernel
theorem dX5_nextToken_15 : decode cX5_nextToken 15 = .ok (.aload_n 0, 1) := by decide +kernel
theorem dX5_nextToken_16 : decode cX5_nextToken 16 = .ok (.getfield 25, 3) := by decide +kernel
theorem dX5_nextToken_19 : decode cX5_nextToken 19 = .ok (.iaload, 1) := by decide +kernel
theorem dX5_nextToken_20 : decode cX5_nextToken 20 = .ok (.bipush 32, 2) := by decide +kernel
theorem dX5_nextToken_22 : decode cX5_nextToken 22 = .ok (.if_icmp .eq 17, 3) := by decide +kernel
theorem dX5_nextToken_25 : decode cX5_nextToken 25 = .ok (.aload_n 0, 1) := by decide +kernel
theorem dX5_nextToken_26 : decode cX5_nextToken 26 = .ok (.getfield 9, 3) := by decide +kernel
theorem dX5_nextToken_29 : decode cX5_nextToken 29 = .ok (.aload_n 0, 1) := by decide +kernel
theorem dX5_nextToken_30 : decode cX5_nextToken 30 = .ok (.getfield 25, 3) := by decide +kernel
theorem dX5_nextToken_33 : decode cX5_nextToken 33 = .ok (.iaload, 1) := by decide +kernel
theorem dX5_nextToken_34 : decode cX5_nextToken 34 = .ok (.bipush 10, 2) := by decide +kernel
theorem dX5_nextToken_36 : decode cX5_nextToken 36 = .ok (.if_icmp .ne 16, 3) := by decide +kernel
theorem dX5_nextToken_39 : decode cX5_nextToken 39 = .ok (.aload_n 0, 1) := by decide +kernel
theorem dX5_nextToken_40 : decode cX5_nextToken 40 = .ok (.dup, 1) := by decide +kernel
theorem dX5_nextToken_41 : decode cX5_nextToken 41 = .ok (.getfield 25, 3) := by decide +kernel
theorem dX5_nextToken_44 : decode cX5_nextToken 44 = .ok (.iconst 1, 1) := by decide +kernel
theorem dX5_nextToken_45 : decode cX5_nextToken 45 = .ok (.iadd, 1) := by decide +kernel
theorem dX5_nextToken_46 : decode cX5_nextToken 46 = .ok (.putfield 25, 3) := by decide +kernel
theorem dX5_nextToken_49 : decode cX5_nextToken 49 = .ok (.goto (-49), 3) := by decide +kernel
theorem dX5_nextToken_52 : decode cX5_nextToken 52 = .ok (.aload_n 0, 1) := by decide +kernel
theorem dX5_nextToken_53 : decode cX5_nextToken 53 = .ok (.aload_n 0, 1) := by decide +kernel
theorem dX5_nextToken_54 : decode cX5_nextToken 54 = .ok (.getfield 25, 3) := by decide +kernel
theorem dX5_nextToken_57 : decode cX5_nextToken 57 = .ok (.putfield 22, 3) := by decide +kernel
theorem dX5_nextToken_60 : decode cX5_nextToken 60 = .ok (.aload_n 0, 1) := by decide +kernel
theorem dX5_nextToken_61 : decode cX5_nextToken 61 = .ok (.getfield 25, 3) := by decide +kernel
theorem dX5_nextToken_64 : decode cX5_nextToken 64 = .ok (.aload_n 0, 1) := by decide +kernel
theorem dX5_nextToken_65 : decode cX5_nextToken 65 = .ok (.getfield 15, 3) := by decide +kernel
theorem dX5_nextToken_68 : decode cX5_nextToken 68 = .ok (.if_icmp .lt 11, 3) := by decide +kernel
theorem dX5_nextToken_71 : decode cX5_nextToken 71 = .ok (.aload_n 0, 1) := by decide +kernel
theorem dX5_nextToken_72 : decode cX5_nextToken 72 = .ok (.iconst 0, 1) := by decide +kernel
theorem dX5_nextToken_73 : decode cX5_nextToken 73 = .ok (.putfield 19, 3) := by decide +kernel
theorem dX5_nextToken_76 : decode cX5_nextToken 76 = .ok (.goto 89, 3) := by decide +kernel
theorem dX5_nextToken_79 : decode cX5_nextToken 79 = .ok (.aload_n 0, 1) := by decide +kernel
theorem dX5_nextToken_80 : decode cX5_nextToken 80 = .ok (.bipush 97, 2) := by decide +kernel
theorem dX5_nextToken_82 : decode cX5_nextToken 82 = .ok (.bipush 122, 2) := by decide +kernel
theorem dX5_nextToken_84 : decode cX5_nextToken 84 = .ok (.invokevirtual 148, 3) := by decide +kernel
theorem dX5_nextToken_87 : decode cX5_nextToken 87 = .ok (.ifCond .eq 19, 3) := by decide +kernel
theorem dX5_nextToken_90 : decode cX5_nextToken 90 = .ok (.aload_n 0, 1) := by decide +kernel
theorem dX5_nextToken_91 : decode cX5_nextToken 91 = .ok (.bipush 97, 2) := by decide +kernel
theorem dX5_nextToken_93 : decode cX5_nextToken 93 = .ok (.bipush 122, 2) := by decide +kernel
theorem dX5_nextToken_95 : decode cX5_nextToken 95 = .ok (.invokevirtual 152, 3) := by decide +kernel
theorem dX5_nextToken_98 : decode cX5_nextToken 98 = .ok (.aload_n 0, 1) := by decide +kernel
theorem dX5_nextToken_99 : decode cX5_nextToken 99 = .ok (.iconst 1, 1) := by decide +kernel
theorem dX5_nextToken_100 : decode cX5_nextToken 100 = .ok (.putfield 19, 3) := by decide +kernel
theorem dX5_nextToken_103 : decode cX5_nextToken 103 = .ok (.goto 62, 3) := by decide +kernel
theorem dX5_nextToken_106 : decode cX5_nextToken 106 = .ok (.aload_n 0, 1) := by decide +kernel
theorem dX5_nextToken_107 : decode cX5_nextToken 107 = .ok (.bipush 48, 2) := by decide +kernel
theorem dX5_nextToken_109 : decode cX5_nextToken 109 = .ok (.bipush 57, 2) := by decide +kernel
theorem dX5_nextToken_111 : decode cX5_nextToken 111 = .ok (.invokevirtual 148, 3) := by decide +kernel
theorem dX5_nextToken_114 : decode cX5_nextToken 114 = .ok (.ifCond .eq 18, 3) := by decide +kernel
theorem dX5_nextToken_117 : decode cX5_nextToken 117 = .ok (.aload_n 0, 1) := by decide +kernel
theorem dX5_nextToken_118 : decode cX5_nextToken 118 = .ok (.bipush 48, 2) := by decide +kernel
theorem dX5_nextToken_120 : decode cX5_nextToken 120 = .ok (.bipush 57, 2) := by decide +kernel
theorem dX5_nextToken_122 : decode cX5_nextToken 122 = .ok (.invokevirtual 152, 3) := by decide +kernel
theorem dX5_nextToken_125 : decode cX5_nextToken 125 = .ok (.aload_n 0, 1) := by decide +kernel
theorem dX5_nextToken_126 : decode cX5_nextToken 126 = .ok (.invokevirtual 156, 3) := by decide +kernel
theorem dX5_nextToken_129 : decode cX5_nextToken 129 = .ok (.goto 36, 3) := by decide +kernel
theorem dX5_nextToken_132 : decode cX5_nextToken 132 = .ok (.aload_n 0, 1) := by decide +kernel
theorem dX5_nextToken_133 : decode cX5_nextToken 133 = .ok (.aload_n 0, 1) := by decide +kernel
theorem dX5_nextToken_134 : decode cX5_nextToken 134 = .ok (.getfield 9, 3) := by decide +kernel
theorem dX5_nextToken_137 : decode cX5_nextToken 137 = .ok (.aload_n 0, 1) := by decide +kernel
theorem dX5_nextToken_138 : decode cX5_nextToken 138 = .ok (.getfield 25, 3) := by decide +kernel
theorem dX5_nextToken_141 : decode cX5_nextToken 141 = .ok (.iaload, 1) := by decide +kernel
theorem dX5_nextToken_142 : decode cX5_nextToken 142 = .ok (.bipush 59, 2) := by decide +kernel
theorem dX5_nextToken_144 : decode cX5_nextToken 144 = .ok (.if_icmp .ne 7, 3) := by decide +kernel
theorem dX5_nextToken_147 : decode cX5_nextToken 147 = .ok (.iconst 3, 1) := by decide +kernel
theorem dX5_nextToken_148 : decode cX5_nextToken 148 = .ok (.goto 4, 3) := by decide +kernel
theorem dX5_nextToken_151 : decode cX5_nextToken 151 = .ok (.iconst 4, 1) := by decide +kernel
theorem dX5_nextToken_152 : decode cX5_nextToken 152 = .ok (.putfield 19, 3) := by decide +kernel
theorem dX5_nextToken_155 : decode cX5_nextToken 155 = .ok (.aload_n 0, 1) := by decide +kernel
theorem dX5_nextToken_156 : decode cX5_nextToken 156 = .ok (.dup, 1) := by decide +kernel
theorem dX5_nextToken_157 : decode cX5_nextToken 157 = .ok (.getfield 25, 3) := by decide +kernel
theorem dX5_nextToken_160 : decode cX5_nextToken 160 = .ok (.iconst 1, 1) := by decide +kernel
theorem dX5_nextToken_161 : decode cX5_nextToken 161 = .ok (.iadd, 1) := by decide +kernel
theorem dX5_nextToken_162 : decode cX5_nextToken 162 = .ok (.putfield 25, 3) := by decide +kernel
theorem dX5_nextToken_165 : decode cX5_nextToken 165 = .ok (.return_, 1) := by decide +kernel
theorem dX5_isBetween_0 : decode cX5_isBetween 0 = .ok (.aload_n 0, 1) := by decide +kernel
theorem dX5_isBetween_1 : decode cX5_isBetween 1 = .ok (.getfield 25, 3) := by decide +kernel
theorem dX5_isBetween_4 : decode cX5_isBetween 4 = .ok (.aload_n 0, 1) := by decide +kernel
theorem dX5_isBetween_5 : decode cX5_isBetween 5 = .ok (.getfield 15, 3) := by decide +kernel
theorem dX5_isBetween_8 : decode cX5_isBetween 8 = .ok (.if_icmp .ge 33, 3) := by decide +kernel
theorem dX5_isBetween_11 : decode cX5_isBetween 11 = .ok (.aload_n 0, 1) := by decide +kernel
theorem dX5_isBetween_12 : decode cX5_isBetween 12 = .ok (.getfield 9, 3) := by decide +kernel
theorem dX5_isBetween_15 : decode cX5_isBetween 15 = .ok (.aload_n 0, 1) := by decide +kernel
theorem dX5_isBetween_16 : decode cX5_isBetween 16 = .ok (.getfield 25, 3) := by decide +kernel
theorem dX5_isBetween_19 : decode cX5_isBetween 19 = .ok (.iaload, 1) := by decide +kernel
theorem dX5_isBetween_20 : decode cX5_isBetween 20 = .ok (.iload_n 1, 1) := by decide +kernel
theorem dX5_isBetween_21 : decode cX5_isBetween 21 = .ok (.if_icmp .lt 20, 3) := by decide +kernel
theorem dX5_isBetween_24 : decode cX5_isBetween 24 = .ok (.aload_n 0, 1) := by decide +kernel
theorem dX5_isBetween_25 : decode cX5_isBetween 25 = .ok (.getfield 9, 3) := by decide +kernel
theorem dX5_isBetween_28 : decode cX5_isBetween 28 = .ok (.aload_n 0, 1) := by decide +kernel
theorem dX5_isBetween_29 : decode cX5_isBetween 29 = .ok (.getfield 25, 3) := by decide +kernel
theorem dX5_isBetween_32 : decode cX5_isBetween 32 = .ok (.iaload, 1) := by decide +kernel
theorem dX5_isBetween_33 : decode cX5_isBetween 33 = .ok (.iload_n 2, 1) := by decide +kernel
theorem dX5_isBetween_34 : decode cX5_isBetween 34 = .ok (.if_icmp .gt 7, 3) := by decide +kernel
theorem dX5_isBetween_37 : decode cX5_isBetween 37 = .ok (.iconst 1, 1) := by decide +kernel
theorem dX5_isBetween_38 : decode cX5_isBetween 38 = .ok (.goto 4, 3) := by decide +kernel
theorem dX5_isBetween_41 : decode cX5_isBetween 41 = .ok (.iconst 0, 1) := by decide +kernel
theorem dX5_isBetween_42 : decode cX5_isBetween 42 = .ok (.ireturn, 1) := by decide +kernel
theorem dX5_passRun_0 : decode cX5_passRun 0 = .ok (.aload_n 0, 1) := by decide +kernel
theorem dX5_passRun_1 : decode cX5_passRun 1 = .ok (.getfield 25, 3) := by decide +kernel
theorem dX5_passRun_4 : decode cX5_passRun 4 = .ok (.aload_n 0, 1) := by decide +kernel
theorem dX5_passRun_5 : decode cX5_passRun 5 = .ok (.getfield 15, 3) := by decide +kernel
theorem dX5_passRun_8 : decode cX5_passRun 8 = .ok (.if_icmp .ge 25, 3) := by decide +kernel
theorem dX5_passRun_11 : decode cX5_passRun 11 = .ok (.aload_n 0, 1) := by decide +kernel
theorem dX5_passRun_12 : decode cX5_passRun 12 = .ok (.iload_n 1, 1) := by decide +kernel
theorem dX5_passRun_13 : decode cX5_passRun 13 = .ok (.iload_n 2, 1) := by decide +kernel
theorem dX5_passRun_14 : decode cX5_passRun 14 = .ok (.invokevirtual 148, 3) := by decide +kernel
theorem dX5_passRun_17 : decode cX5_passRun 17 = .ok (.ifCond .eq 16, 3) := by decide +kernel
theorem dX5_passRun_20 : decode cX5_passRun 20 = .ok (.aload_n 0, 1) := by decide +kernel
theorem dX5_passRun_21 : decode cX5_passRun 21 = .ok (.dup, 1) := by decide +kernel
theorem dX5_passRun_22 : decode cX5_passRun 22 = .ok (.getfield 25, 3) := by decide +kernel
theorem dX5_passRun_25 : decode cX5_passRun 25 = .ok (.iconst 1, 1) := by decide +kernel
theorem dX5_passRun_26 : decode cX5_passRun 26 = .ok (.iadd, 1) := by decide +kernel
theorem dX5_passRun_27 : decode cX5_passRun 27 = .ok (.putfield 25, 3) := by decide +kernel
theorem dX5_passRun_30 : decode cX5_passRun 30 = .ok (.goto (-30), 3) := by decide +kernel
theorem dX5_passRun_33 : decode cX5_passRun 33 = .ok (.return_, 1) := by decide +kernel
theorem dX5_readNumber_0 : decode cX5_readNumber 0 = .ok (.aload_n 0, 1) := by decide +kernel
theorem dX5_readNumber_1 : decode cX5_readNumber 1 = .ok (.aload_n 0, 1) := by decide +kernel
theorem dX5_readNumber_2 : decode cX5_readNumber 2 = .ok (.getfield 25, 3) := by decide +kernel
theorem dX5_readNumber_5 : decode cX5_readNumber 5 = .ok (.aload_n 0, 1) := by decide +kernel
theorem dX5_readNumber_6 : decode cX5_readNumber 6 = .ok (.getfield 22, 3) := by decide +kernel
theorem dX5_readNumber_9 : decode cX5_readNumber 9 = .ok (.isub, 1) := by decide +kernel
theorem dX5_readNumber_10 : decode cX5_readNumber 10 = .ok (.iconst 3, 1) := by decide +kernel
theorem dX5_readNumber_11 : decode cX5_readNumber 11 = .ok (.if_icmp .gt 7, 3) := by decide +kernel
theorem dX5_readNumber_14 : decode cX5_readNumber 14 = .ok (.iconst 2, 1) := by decide +kernel
theorem dX5_readNumber_15 : decode cX5_readNumber 15 = .ok (.goto 4, 3) := by decide +kernel
theorem dX5_readNumber_18 : decode cX5_readNumber 18 = .ok (.iconst 4, 1) := by decide +kernel
theorem dX5_readNumber_19 : decode cX5_readNumber 19 = .ok (.putfield 19, 3) := by decide +kernel
theorem dX5_readNumber_22 : decode cX5_readNumber 22 = .ok (.aload_n 0, 1) := by decide +kernel
theorem dX5_readNumber_23 : decode cX5_readNumber 23 = .ok (.iconst 0, 1) := by decide +kernel
theorem dX5_readNumber_24 : decode cX5_readNumber 24 = .ok (.putfield 28, 3) := by decide +kernel
theorem dX5_readNumber_27 : decode cX5_readNumber 27 = .ok (.aload_n 0, 1) := by decide +kernel
theorem dX5_readNumber_28 : decode cX5_readNumber 28 = .ok (.getfield 22, 3) := by decide +kernel
theorem dX5_readNumber_31 : decode cX5_readNumber 31 = .ok (.istore_n 1, 1) := by decide +kernel
theorem dX5_readNumber_32 : decode cX5_readNumber 32 = .ok (.aload_n 0, 1) := by decide +kernel
theorem dX5_readNumber_33 : decode cX5_readNumber 33 = .ok (.getfield 19, 3) := by decide +kernel
theorem dX5_readNumber_36 : decode cX5_readNumber 36 = .ok (.iconst 2, 1) := by decide +kernel
theorem dX5_readNumber_37 : decode cX5_readNumber 37 = .ok (.if_icmp .ne 38, 3) := by decide +kernel
theorem dX5_readNumber_40 : decode cX5_readNumber 40 = .ok (.iload_n 1, 1) := by decide +kernel
theorem dX5_readNumber_41 : decode cX5_readNumber 41 = .ok (.aload_n 0, 1) := by decide +kernel
theorem dX5_readNumber_42 : decode cX5_readNumber 42 = .ok (.getfield 25, 3) := by decide +kernel
theorem dX5_readNumber_45 : decode cX5_readNumber 45 = .ok (.if_icmp .ge 30, 3) := by decide +kernel
theorem dX5_readNumber_48 : decode cX5_readNumber 48 = .ok (.aload_n 0, 1) := by decide +kernel
theorem dX5_readNumber_49 : decode cX5_readNumber 49 = .ok (.aload_n 0, 1) := by decide +kernel
theorem dX5_readNumber_50 : decode cX5_readNumber 50 = .ok (.getfield 28, 3) := by decide +kernel
theorem dX5_readNumber_53 : decode cX5_readNumber 53 = .ok (.bipush 10, 2) := by decide +kernel
theorem dX5_readNumber_55 : decode cX5_readNumber 55 = .ok (.imul, 1) := by decide +kernel
theorem dX5_readNumber_56 : decode cX5_readNumber 56 = .ok (.aload_n 0, 1) := by decide +kernel
theorem dX5_readNumber_57 : decode cX5_readNumber 57 = .ok (.getfield 9, 3) := by decide +kernel
theorem dX5_readNumber_60 : decode cX5_readNumber 60 = .ok (.iload_n 1, 1) := by decide +kernel
theorem dX5_readNumber_61 : decode cX5_readNumber 61 = .ok (.iaload, 1) := by decide +kernel
theorem dX5_readNumber_62 : decode cX5_readNumber 62 = .ok (.iadd, 1) := by decide +kernel
theorem dX5_readNumber_63 : decode cX5_readNumber 63 = .ok (.bipush 48, 2) := by decide +kernel
theorem dX5_readNumber_65 : decode cX5_readNumber 65 = .ok (.isub, 1) := by decide +kernel
theorem dX5_readNumber_66 : decode cX5_readNumber 66 = .ok (.putfield 28, 3) := by decide +kernel
theorem dX5_readNumber_69 : decode cX5_readNumber 69 = .ok (.iinc 1 1, 3) := by decide +kernel
theorem dX5_readNumber_72 : decode cX5_readNumber 72 = .ok (.goto (-40), 3) := by decide +kernel
theorem dX5_readNumber_75 : decode cX5_readNumber 75 = .ok (.return_, 1) := by decide +kernel
theorem dX6_init_0 : decode cX6_init 0 = .ok (.aload_n 0, 1) := by decide +kernel
theorem dX6_init_1 : decode cX6_init 1 = .ok (.invokespecial 1, 3) := by decide +kernel
theorem dX6_init_4 : decode cX6_init 4 = .ok (.aload_n 0, 1) := by decide +kernel
theorem dX6_init_5 : decode cX6_init 5 = .ok (.iconst 0, 1) := by decide +kernel
theorem dX6_init_6 : decode cX6_init 6 = .ok (.putfield 7, 3) := by decide +kernel
theorem dX6_init_9 : decode cX6_init 9 = .ok (.aload_n 0, 1) := by decide +kernel
theorem dX6_init_10 : decode cX6_init 10 = .ok (.iconst 0, 1) := by decide +kernel
theorem dX6_init_11 : decode cX6_init 11 = .ok (.putfield 13, 3) := by decide +kernel
theorem dX6_init_14 : decode cX6_init 14 = .ok (.aload_n 0, 1) := by decide +kernel
theorem dX6_init_15 : decode cX6_init 15 = .ok (.iconst 0, 1) := by decide +kernel
theorem dX6_init_16 : decode cX6_init 16 = .ok (.putfield 16, 3) := by decide +kernel
theorem dX6_init_19 : decode cX6_init 19 = .ok (.aload_n 0, 1) := by decide +kernel
theorem dX6_init_20 : decode cX6_init 20 = .ok (.iconst 0, 1) := by decide +kernel
theorem dX6_init_21 : decode cX6_init 21 = .ok (.putfield 19, 3) := by decide +kernel
theorem dX6_init_24 : decode cX6_init 24 = .ok (.return_, 1) := by decide +kernel
theorem dX6_becomes_0 : decode cX6_becomes 0 = .ok (.aload_n 0, 1) := by decide +kernel
theorem dX6_becomes_1 : decode cX6_becomes 1 = .ok (.aload_n 1, 1) := by decide +kernel
theorem dX6_becomes_2 : decode cX6_becomes 2 = .ok (.getfield 7, 3) := by decide +kernel
theorem dX6_becomes_5 : decode cX6_becomes 5 = .ok (.putfield 7, 3) := by decide +kernel
theorem dX6_becomes_8 : decode cX6_becomes 8 = .ok (.aload_n 0, 1) := by decide +kernel
theorem dX6_becomes_9 : decode cX6_becomes 9 = .ok (.aload_n 1, 1) := by decide +kernel
theorem dX6_becomes_10 : decode cX6_becomes 10 = .ok (.getfield 13, 3) := by decide +kernel
theorem dX6_becomes_13 : decode cX6_becomes 13 = .ok (.putfield 13, 3) := by decide +kernel
theorem dX6_becomes_16 : decode cX6_becomes 16 = .ok (.aload_n 0, 1) := by decide +kernel
theorem dX6_becomes_17 : decode cX6_becomes 17 = .ok (.aload_n 1, 1) := by decide +kernel
theorem dX6_becomes_18 : decode cX6_becomes 18 = .ok (.getfield 16, 3) := by decide +kernel
theorem dX6_becomes_21 : decode cX6_becomes 21 = .ok (.putfield 16, 3) := by decide +kernel
theorem dX6_becomes_24 : decode cX6_becomes 24 = .ok (.aload_n 0, 1) := by decide +kernel
theorem dX6_becomes_25 : decode cX6_becomes 25 = .ok (.aload_n 1, 1) := by decide +kernel
theorem dX6_becomes_26 : decode cX6_becomes 26 = .ok (.getfield 19, 3) := by decide +kernel
theorem dX6_becomes_29 : decode cX6_becomes 29 = .ok (.putfield 19, 3) := by decide +kernel
theorem dX6_becomes_32 : decode cX6_becomes 32 = .ok (.return_, 1) := by decide +kernel
theorem dX6_endsIn_0 : decode cX6_endsIn 0 = .ok (.aload_n 0, 1) := by decide +kernel
theorem dX6_endsIn_1 : decode cX6_endsIn 1 = .ok (.getfield 7, 3) := by decide +kernel
theorem dX6_endsIn_4 : decode cX6_endsIn 4 = .ok (.iload_n 1, 1) := by decide +kernel
theorem dX6_endsIn_5 : decode cX6_endsIn 5 = .ok (.if_icmp .eq 11, 3) := by decide +kernel
theorem dX6_endsIn_8 : decode cX6_endsIn 8 = .ok (.aload_n 0, 1) := by decide +kernel
theorem dX6_endsIn_9 : decode cX6_endsIn 9 = .ok (.getfield 13, 3) := by decide +kernel
theorem dX6_endsIn_12 : decode cX6_endsIn 12 = .ok (.iload_n 1, 1) := by decide +kernel
theorem dX6_endsIn_13 : decode cX6_endsIn 13 = .ok (.if_icmp .ne 7, 3) := by decide +kernel
theorem dX6_endsIn_16 : decode cX6_endsIn 16 = .ok (.iconst 1, 1) := by decide +kernel
theorem dX6_endsIn_17 : decode cX6_endsIn 17 = .ok (.goto 4, 3) := by decide +kernel
theorem dX6_endsIn_20 : decode cX6_endsIn 20 = .ok (.iconst 0, 1) := by decide +kernel
theorem dX6_endsIn_21 : decode cX6_endsIn 21 = .ok (.ireturn, 1) := by decide +kernel
theorem dX6_otherEnd_0 : decode cX6_otherEnd 0 = .ok (.iload_n 1, 1) := by decide +kernel
theorem dX6_otherEnd_1 : decode cX6_otherEnd 1 = .ok (.aload_n 0, 1) := by decide +kernel
theorem dX6_otherEnd_2 : decode cX6_otherEnd 2 = .ok (.getfield 7, 3) := by decide +kernel
theorem dX6_otherEnd_5 : decode cX6_otherEnd 5 = .ok (.if_icmp .ne 10, 3) := by decide +kernel
theorem dX6_otherEnd_8 : decode cX6_otherEnd 8 = .ok (.aload_n 0, 1) := by decide +kernel
theorem dX6_otherEnd_9 : decode cX6_otherEnd 9 = .ok (.getfield 13, 3) := by decide +kernel
theorem dX6_otherEnd_12 : decode cX6_otherEnd 12 = .ok (.goto 7, 3) := by decide +kernel
theorem dX6_otherEnd_15 : decode cX6_otherEnd 15 = .ok (.aload_n 0, 1) := by decide +kernel
theorem dX6_otherEnd_16 : decode cX6_otherEnd 16 = .ok (.getfield 7, 3) := by decide +kernel
theorem dX6_otherEnd_19 : decode cX6_otherEnd 19 = .ok (.ireturn, 1) := by decide +kernel
theorem dX7_init_0 : decode cX7_init 0 = .ok (.aload_n 0, 1) := by decide +kernel
theorem dX7_init_1 : decode cX7_init 1 = .ok (.invokespecial 1, 3) := by decide +kernel
theorem dX7_init_4 : decode cX7_init 4 = .ok (.aload_n 0, 1) := by decide +kernel
theorem dX7_init_5 : decode cX7_init 5 = .ok (.bipush 8, 2) := by decide +kernel
theorem dX7_init_7 : decode cX7_init 7 = .ok (.bipush 40, 2) := by decide +kernel
theorem dX7_init_9 : decode cX7_init 9 = .ok (.multianewarray 9 2, 4) := by decide +kernel
theorem dX7_init_13 : decode cX7_init 13 = .ok (.putfield 11, 3) := by decide +kernel
theorem dX7_init_16 : decode cX7_init 16 = .ok (.aload_n 0, 1) := by decide +kernel
theorem dX7_init_17 : decode cX7_init 17 = .ok (.bipush 8, 2) := by decide +kernel
theorem dX7_init_19 : decode cX7_init 19 = .ok (.newarray .int, 2) := by decide +kernel
theorem dX7_init_21 : decode cX7_init 21 = .ok (.putfield 14, 3) := by decide +kernel
theorem dX7_init_24 : decode cX7_init 24 = .ok (.aload_n 0, 1) := by decide +kernel
theorem dX7_init_25 : decode cX7_init 25 = .ok (.bipush 8, 2) := by decide +kernel
theorem dX7_init_27 : decode cX7_init 27 = .ok (.newarray .int, 2) := by decide +kernel
theorem dX7_init_29 : decode cX7_init 29 = .ok (.putfield 18, 3) := by decide +kernel
theorem dX7_init_32 : decode cX7_init 32 = .ok (.aload_n 0, 1) := by decide +kernel
theorem dX7_init_33 : decode cX7_init 33 = .ok (.iconst 0, 1) := by decide +kernel
theorem dX7_init_34 : decode cX7_init 34 = .ok (.putfield 21, 3) := by decide +kernel
theorem dX7_init_37 : decode cX7_init 37 = .ok (.aload_n 0, 1) := by decide +kernel
theorem dX7_init_38 : decode cX7_init 38 = .ok (.new 25, 3) := by decide +kernel
theorem dX7_init_41 : decode cX7_init 41 = .ok (.dup, 1) := by decide +kernel
theorem dX7_init_42 : decode cX7_init 42 = .ok (.invokespecial 27, 3) := by decide +kernel
theorem dX7_init_45 : decode cX7_init 45 = .ok (.putfield 28, 3) := by decide +kernel
theorem dX7_init_48 : decode cX7_init 48 = .ok (.aload_n 0, 1) := by decide +kernel
theorem dX7_init_49 : decode cX7_init 49 = .ok (.iconst 0, 1) := by decide +kernel
theorem dX7_init_50 : decode cX7_init 50 = .ok (.putfield 32, 3) := by decide +kernel
theorem dX7_init_53 : decode cX7_init 53 = .ok (.aload_n 0, 1) := by decide +kernel
theorem dX7_init_54 : decode cX7_init 54 = .ok (.iconst 0, 1) := by decide +kernel
theorem dX7_init_55 : decode cX7_init 55 = .ok (.putfield 35, 3) := by decide +kernel
theorem dX7_init_58 : decode cX7_init 58 = .ok (.aload_n 0, 1) := by decide +kernel
theorem dX7_init_59 : decode cX7_init 59 = .ok (.new 39, 3) := by decide +kernel
theorem dX7_init_62 : decode cX7_init 62 = .ok (.dup, 1) := by decide +kernel
theorem dX7_init_63 : decode cX7_init 63 = .ok (.invokespecial 41, 3) := by decide +kernel
theorem dX7_init_66 : decode cX7_init 66 = .ok (.putfield 42, 3) := by decide +kernel
theorem dX7_init_69 : decode cX7_init 69 = .ok (.aload_n 0, 1) := by decide +kernel
theorem dX7_init_70 : decode cX7_init 70 = .ok (.new 39, 3) := by decide +kernel
theorem dX7_init_73 : decode cX7_init 73 = .ok (.dup, 1) := by decide +kernel
theorem dX7_init_74 : decode cX7_init 74 = .ok (.invokespecial 41, 3) := by decide +kernel
theorem dX7_init_77 : decode cX7_init 77 = .ok (.putfield 46, 3) := by decide +kernel
theorem dX7_init_80 : decode cX7_init 80 = .ok (.aload_n 0, 1) := by decide +kernel
theorem dX7_init_81 : decode cX7_init 81 = .ok (.iconst 2, 1) := by decide +kernel
theorem dX7_init_82 : decode cX7_init 82 = .ok (.anewarray 39, 3) := by decide +kernel
theorem dX7_init_85 : decode cX7_init 85 = .ok (.putfield 49, 3) := by decide +kernel
theorem dX7_init_88 : decode cX7_init 88 = .ok (.aload_n 0, 1) := by decide +kernel
theorem dX7_init_89 : decode cX7_init 89 = .ok (.iconst 2, 1) := by decide +kernel
theorem dX7_init_90 : decode cX7_init 90 = .ok (.newarray .boolean, 2) := by decide +kernel
theorem dX7_init_92 : decode cX7_init 92 = .ok (.putfield 53, 3) := by decide +kernel
theorem dX7_init_95 : decode cX7_init 95 = .ok (.aload_n 0, 1) := by decide +kernel
theorem dX7_init_96 : decode cX7_init 96 = .ok (.new 57, 3) := by decide +kernel
theorem dX7_init_99 : decode cX7_init 99 = .ok (.dup, 1) := by decide +kernel
theorem dX7_init_100 : decode cX7_init 100 = .ok (.invokespecial 59, 3) := by decide +kernel
theorem dX7_init_103 : decode cX7_init 103 = .ok (.putfield 60, 3) := by decide +kernel
theorem dX7_init_106 : decode cX7_init 106 = .ok (.aload_n 0, 1) := by decide +kernel
theorem dX7_init_107 : decode cX7_init 107 = .ok (.new 64, 3) := by decide +kernel
theorem dX7_init_110 : decode cX7_init 110 = .ok (.dup, 1) := by decide +kernel
theorem dX7_init_111 : decode cX7_init 111 = .ok (.invokespecial 66, 3) := by decide +kernel
theorem dX7_init_114 : decode cX7_init 114 = .ok (.putfield 67, 3) := by decide +kernel
theorem dX7_init_117 : decode cX7_init 117 = .ok (.aload_n 0, 1) := by decide +kernel
theorem dX7_init_118 : decode cX7_init 118 = .ok (.new 64, 3) := by decide +kernel
theorem dX7_init_121 : decode cX7_init 121 = .ok (.dup, 1) := by decide +kernel
theorem dX7_init_122 : decode cX7_init 122 = .ok (.invokespecial 66, 3) := by decide +kernel
theorem dX7_init_125 : decode cX7_init 125 = .ok (.putfield 71, 3) := by decide +kernel
theorem dX7_init_128 : decode cX7_init 128 = .ok (.aload_n 0, 1) := by decide +kernel
theorem dX7_init_129 : decode cX7_init 129 = .ok (.new 74, 3) := by decide +kernel
theorem dX7_init_132 : decode cX7_init 132 = .ok (.dup, 1) := by decide +kernel
theorem dX7_init_133 : decode cX7_init 133 = .ok (.invokespecial 76, 3) := by decide +kernel
theorem dX7_init_136 : decode cX7_init 136 = .ok (.putfield 77, 3) := by decide +kernel
theorem dX7_init_139 : decode cX7_init 139 = .ok (.iconst 0, 1) := by decide +kernel
theorem dX7_init_140 : decode cX7_init 140 = .ok (.istore_n 1, 1) := by decide +kernel
theorem dX7_init_141 : decode cX7_init 141 = .ok (.iload_n 1, 1) := by decide +kernel
theorem dX7_init_142 : decode cX7_init 142 = .ok (.bipush 8, 2) := by decide +kernel
theorem dX7_init_144 : decode cX7_init 144 = .ok (.if_icmp .ge 16, 3) := by decide +kernel
theorem dX7_init_147 : decode cX7_init 147 = .ok (.aload_n 0, 1) := by decide +kernel
theorem dX7_init_148 : decode cX7_init 148 = .ok (.getfield 18, 3) := by decide +kernel
theorem dX7_init_151 : decode cX7_init 151 = .ok (.iload_n 1, 1) := by decide +kernel
theorem dX7_init_152 : decode cX7_init 152 = .ok (.iconst (-1), 1) := by decide +kernel
theorem dX7_init_153 : decode cX7_init 153 = .ok (.iastore, 1) := by decide +kernel
theorem dX7_init_154 : decode cX7_init 154 = .ok (.iinc 1 1, 3) := by decide +kernel
theorem dX7_init_157 : decode cX7_init 157 = .ok (.goto (-16), 3) := by decide +kernel
theorem dX7_init_160 : decode cX7_init 160 = .ok (.iconst 0, 1) := by decide +kernel
theorem dX7_init_161 : decode cX7_init 161 = .ok (.istore_n 1, 1) := by decide +kernel
theorem dX7_init_162 : decode cX7_init 162 = .ok (.iload_n 1, 1) := by decide +kernel
theorem dX7_init_163 : decode cX7_init 163 = .ok (.iconst 2, 1) := by decide +kernel
theorem dX7_init_164 : decode cX7_init 164 = .ok (.if_icmp .ge 22, 3) := by decide +kernel
theorem dX7_init_167 : decode cX7_init 167 = .ok (.aload_n 0, 1) := by decide +kernel
theorem dX7_init_168 : decode cX7_init 168 = .ok (.getfield 49, 3) := by decide +kernel
theorem dX7_init_171 : decode cX7_init 171 = .ok (.iload_n 1, 1) := by decide +kernel
theorem dX7_init_172 : decode cX7_init 172 = .ok (.new 39, 3) := by decide +kernel
theorem dX7_init_175 : decode cX7_init 175 = .ok (.dup, 1) := by decide +kernel
theorem dX7_init_176 : decode cX7_init 176 = .ok (.invokespecial 41, 3) := by decide +kernel
theorem dX7_init_179 : decode cX7_init 179 = .ok (.aastore, 1) := by decide +kernel
theorem dX7_init_180 : decode cX7_init 180 = .ok (.iinc 1 1, 3) := by decide +kernel
theorem dX7_init_183 : decode cX7_init 183 = .ok (.goto (-21), 3) := by decide +kernel
theorem dX7_init_186 : decode cX7_init 186 = .ok (.return_, 1) := by decide +kernel
theorem dX7_row_0 : decode cX7_row 0 = .ok (.iload_n 1, 1) := by decide +kernel
theorem dX7_row_1 : decode cX7_row 1 = .ok (.invokestatic 81, 3) := by decide +kernel
theorem dX7_row_4 : decode cX7_row 4 = .ok (.ifCond .ne 18, 3) := by decide +kernel
theorem dX7_row_7 : decode cX7_row 7 = .ok (.iload_n 2, 1) := by decide +kernel
theorem dX7_row_8 : decode cX7_row 8 = .ok (.iconst 0, 1) := by decide +kernel
theorem dX7_row_9 : decode cX7_row 9 = .ok (.iconst 2, 1) := by decide +kernel
theorem dX7_row_10 : decode cX7_row 10 = .ok (.invokestatic 85, 3) := by decide +kernel
theorem dX7_row_13 : decode cX7_row 13 = .ok (.ifCond .ne 9, 3) := by decide +kernel
theorem dX7_row_16 : decode cX7_row 16 = .ok (.iload_n 3, 1) := by decide +kernel
theorem dX7_row_17 : decode cX7_row 17 = .ok (.bipush 40, 2) := by decide +kernel
theorem dX7_row_19 : decode cX7_row 19 = .ok (.if_icmp .le 6, 3) := by decide +kernel
theorem dX7_row_22 : decode cX7_row 22 = .ok (.ldc 89, 2) := by decide +kernel
theorem dX7_row_24 : decode cX7_row 24 = .ok (.ireturn, 1) := by decide +kernel
theorem dX7_row_25 : decode cX7_row 25 = .ok (.iload_n 3, 1) := by decide +kernel
theorem dX7_row_26 : decode cX7_row 26 = .ok (.ifCond .ge 9, 3) := by decide +kernel
theorem dX7_row_29 : decode cX7_row 29 = .ok (.aload_n 0, 1) := by decide +kernel
theorem dX7_row_30 : decode cX7_row 30 = .ok (.iconst 4, 1) := by decide +kernel
theorem dX7_row_31 : decode cX7_row 31 = .ok (.invokevirtual 90, 3) := by decide +kernel
theorem dX7_row_34 : decode cX7_row 34 = .ok (.ireturn, 1) := by decide +kernel
theorem dX7_row_35 : decode cX7_row 35 = .ok (.iconst 0, 1) := by decide +kernel
theorem dX7_row_36 : decode cX7_row 36 = .ok (.istore 4, 2) := by decide +kernel
theorem dX7_row_38 : decode cX7_row 38 = .ok (.iload 4, 2) := by decide +kernel
theorem dX7_row_40 : decode cX7_row 40 = .ok (.bipush 40, 2) := by decide +kernel
theorem dX7_row_42 : decode cX7_row 42 = .ok (.if_icmp .ge 19, 3) := by decide +kernel
theorem dX7_row_45 : decode cX7_row 45 = .ok (.aload_n 0, 1) := by decide +kernel
theorem dX7_row_46 : decode cX7_row 46 = .ok (.getfield 11, 3) := by decide +kernel
theorem dX7_row_49 : decode cX7_row 49 = .ok (.iload_n 1, 1) := by decide +kernel
theorem dX7_row_50 : decode cX7_row 50 = .ok (.aaload, 1) := by decide +kernel
theorem dX7_row_51 : decode cX7_row 51 = .ok (.iload 4, 2) := by decide +kernel
theorem dX7_row_53 : decode cX7_row 53 = .ok (.iconst 0, 1) := by decide +kernel
theorem dX7_row_54 : decode cX7_row 54 = .ok (.iastore, 1) := by decide +kernel
theorem dX7_row_55 : decode cX7_row 55 = .ok (.iinc 4 1, 3) := by decide +kernel
theorem dX7_row_58 : decode cX7_row 58 = .ok (.goto (-20), 3) := by decide +kernel
theorem dX7_row_61 : decode cX7_row 61 = .ok (.aload_n 0, 1) := by decide +kernel
theorem dX7_row_62 : decode cX7_row 62 = .ok (.getfield 14, 3) := by decide +kernel
theorem dX7_row_65 : decode cX7_row 65 = .ok (.iload_n 1, 1) := by decide +kernel
theorem dX7_row_66 : decode cX7_row 66 = .ok (.iload_n 2, 1) := by decide +kernel
theorem dX7_row_67 : decode cX7_row 67 = .ok (.iastore, 1) := by decide +kernel
theorem dX7_row_68 : decode cX7_row 68 = .ok (.aload_n 0, 1) := by decide +kernel
theorem dX7_row_69 : decode cX7_row 69 = .ok (.getfield 18, 3) := by decide +kernel
theorem dX7_row_72 : decode cX7_row 72 = .ok (.iload_n 1, 1) := by decide +kernel
theorem dX7_row_73 : decode cX7_row 73 = .ok (.iload_n 3, 1) := by decide +kernel
theorem dX7_row_74 : decode cX7_row 74 = .ok (.iastore, 1) := by decide +kernel
theorem dX7_row_75 : decode cX7_row 75 = .ok (.aload_n 0, 1) := by decide +kernel
theorem dX7_row_76 : decode cX7_row 76 = .ok (.iload_n 3, 1) := by decide +kernel
theorem dX7_row_77 : decode cX7_row 77 = .ok (.invokevirtual 94, 3) := by decide +kernel
theorem dX7_row_80 : decode cX7_row 80 = .ok (.ireturn, 1) := by decide +kernel
theorem dX7_set_0 : decode cX7_set 0 = .ok (.iload_n 1, 1) := by decide +kernel
theorem dX7_set_1 : decode cX7_set 1 = .ok (.invokestatic 81, 3) := by decide +kernel
theorem dX7_set_4 : decode cX7_set 4 = .ok (.ifCond .eq 6, 3) := by decide +kernel
theorem dX7_set_7 : decode cX7_set 7 = .ok (.ldc 89, 2) := by decide +kernel
theorem dX7_set_9 : decode cX7_set 9 = .ok (.ireturn, 1) := by decide +kernel
theorem dX7_set_10 : decode cX7_set 10 = .ok (.aload_n 0, 1) := by decide +kernel
theorem dX7_set_11 : decode cX7_set 11 = .ok (.iload_n 1, 1) := by decide +kernel
theorem dX7_set_12 : decode cX7_set 12 = .ok (.invokevirtual 97, 3) := by decide +kernel
theorem dX7_set_15 : decode cX7_set 15 = .ok (.ifCond .eq 9, 3) := by decide +kernel
theorem dX7_set_18 : decode cX7_set 18 = .ok (.aload_n 0, 1) := by decide +kernel
theorem dX7_set_19 : decode cX7_set 19 = .ok (.iconst 1, 1) := by decide +kernel
theorem dX7_set_20 : decode cX7_set 20 = .ok (.invokevirtual 90, 3) := by decide +kernel
theorem dX7_set_23 : decode cX7_set 23 = .ok (.ireturn, 1) := by decide +kernel
theorem dX7_set_24 : decode cX7_set 24 = .ok (.aload_n 0, 1) := by decide +kernel
theorem dX7_set_25 : decode cX7_set 25 = .ok (.iload_n 1, 1) := by decide +kernel
theorem dX7_set_26 : decode cX7_set 26 = .ok (.iload_n 2, 1) := by decide +kernel
theorem dX7_set_27 : decode cX7_set 27 = .ok (.iconst 1, 1) := by decide +kernel
theorem dX7_set_28 : decode cX7_set 28 = .ok (.invokevirtual 100, 3) := by decide +kernel
theorem dX7_set_31 : decode cX7_set 31 = .ok (.ifCond .eq 9, 3) := by decide +kernel
theorem dX7_set_34 : decode cX7_set 34 = .ok (.aload_n 0, 1) := by decide +kernel
theorem dX7_set_35 : decode cX7_set 35 = .ok (.iconst 2, 1) := by decide +kernel
theorem dX7_set_36 : decode cX7_set 36 = .ok (.invokevirtual 90, 3) := by decide +kernel
theorem dX7_set_39 : decode cX7_set 39 = .ok (.ireturn, 1) := by decide +kernel
theorem dX7_set_40 : decode cX7_set 40 = .ok (.aload_n 0, 1) := by decide +kernel
theorem dX7_set_41 : decode cX7_set 41 = .ok (.getfield 11, 3) := by decide +kernel
theorem dX7_set_44 : decode cX7_set 44 = .ok (.iload_n 1, 1) := by decide +kernel
theorem dX7_set_45 : decode cX7_set 45 = .ok (.aaload, 1) := by decide +kernel
theorem dX7_set_46 : decode cX7_set 46 = .ok (.iload_n 2, 1) := by decide +kernel
theorem dX7_set_47 : decode cX7_set 47 = .ok (.aload_n 0, 1) := by decide +kernel
theorem dX7_set_48 : decode cX7_set 48 = .ok (.getfield 14, 3) := by decide +kernel
theorem dX7_set_51 : decode cX7_set 51 = .ok (.iload_n 1, 1) := by decide +kernel
theorem dX7_set_52 : decode cX7_set 52 = .ok (.iaload, 1) := by decide +kernel
theorem dX7_set_53 : decode cX7_set 53 = .ok (.iload_n 3, 1) := by decide +kernel
theorem dX7_set_54 : decode cX7_set 54 = .ok (.invokestatic 103, 3) := by decide +kernel
theorem dX7_set_57 : decode cX7_set 57 = .ok (.iastore, 1) := by decide +kernel
theorem dX7_set_58 : decode cX7_set 58 = .ok (.aload_n 0, 1) := by decide +kernel
theorem dX7_set_59 : decode cX7_set 59 = .ok (.aload_n 0, 1) := by decide +kernel
theorem dX7_set_60 : decode cX7_set 60 = .ok (.getfield 11, 3) := by decide +kernel
theorem dX7_set_63 : decode cX7_set 63 = .ok (.iload_n 1, 1) := by decide +kernel
theorem dX7_set_64 : decode cX7_set 64 = .ok (.aaload, 1) := by decide +kernel
theorem dX7_set_65 : decode cX7_set 65 = .ok (.iload_n 2, 1) := by decide +kernel
theorem dX7_set_66 : decode cX7_set 66 = .ok (.iaload, 1) := by decide +kernel
theorem dX7_set_67 : decode cX7_set 67 = .ok (.invokevirtual 94, 3) := by decide +kernel
theorem dX7_set_70 : decode cX7_set 70 = .ok (.ireturn, 1) := by decide +kernel
theorem dX7_copy_0 : decode cX7_copy 0 = .ok (.iload_n 1, 1) := by decide +kernel
theorem dX7_copy_1 : decode cX7_copy 1 = .ok (.invokestatic 81, 3) := by decide +kernel
theorem dX7_copy_4 : decode cX7_copy 4 = .ok (.ifCond .ne 10, 3) := by decide +kernel
theorem dX7_copy_7 : decode cX7_copy 7 = .ok (.iload_n 3, 1) := by decide +kernel
theorem dX7_copy_8 : decode cX7_copy 8 = .ok (.invokestatic 81, 3) := by decide +kernel
theorem dX7_copy_11 : decode cX7_copy 11 = .ok (.ifCond .eq 6, 3) := by decide +kernel
theorem dX7_copy_14 : decode cX7_copy 14 = .ok (.ldc 89, 2) := by decide +kernel
theorem dX7_copy_16 : decode cX7_copy 16 = .ok (.ireturn, 1) := by decide +kernel
theorem dX7_copy_17 : decode cX7_copy 17 = .ok (.aload_n 0, 1) := by decide +kernel
theorem dX7_copy_18 : decode cX7_copy 18 = .ok (.iload_n 1, 1) := by decide +kernel
theorem dX7_copy_19 : decode cX7_copy 19 = .ok (.invokevirtual 97, 3) := by decide +kernel
theorem dX7_copy_22 : decode cX7_copy 22 = .ok (.ifCond .ne 11, 3) := by decide +kernel
theorem dX7_copy_25 : decode cX7_copy 25 = .ok (.aload_n 0, 1) := by decide +kernel
theorem dX7_copy_26 : decode cX7_copy 26 = .ok (.iload_n 3, 1) := by decide +kernel
theorem dX7_copy_27 : decode cX7_copy 27 = .ok (.invokevirtual 97, 3) := by decide +kernel
theorem dX7_copy_30 : decode cX7_copy 30 = .ok (.ifCond .eq 9, 3) := by decide +kernel
theorem dX7_copy_33 : decode cX7_copy 33 = .ok (.aload_n 0, 1) := by decide +kernel
theorem dX7_copy_34 : decode cX7_copy 34 = .ok (.iconst 1, 1) := by decide +kernel
theorem dX7_copy_35 : decode cX7_copy 35 = .ok (.invokevirtual 90, 3) := by decide +kernel
theorem dX7_copy_38 : decode cX7_copy 38 = .ok (.ireturn, 1) := by decide +kernel
theorem dX7_copy_39 : decode cX7_copy 39 = .ok (.aload_n 0, 1) := by decide +kernel
theorem dX7_copy_40 : decode cX7_copy 40 = .ok (.getfield 14, 3) := by decide +kernel
theorem dX7_copy_43 : decode cX7_copy 43 = .ok (.iload_n 1, 1) := by decide +kernel
theorem dX7_copy_44 : decode cX7_copy 44 = .ok (.iaload, 1) := by decide +kernel
theorem dX7_copy_45 : decode cX7_copy 45 = .ok (.aload_n 0, 1) := by decide +kernel
theorem dX7_copy_46 : decode cX7_copy 46 = .ok (.getfield 14, 3) := by decide +kernel
theorem dX7_copy_49 : decode cX7_copy 49 = .ok (.iload_n 3, 1) := by decide +kernel
theorem dX7_copy_50 : decode cX7_copy 50 = .ok (.iaload, 1) := by decide +kernel
theorem dX7_copy_51 : decode cX7_copy 51 = .ok (.if_icmp .eq 9, 3) := by decide +kernel
theorem dX7_copy_54 : decode cX7_copy 54 = .ok (.aload_n 0, 1) := by decide +kernel
theorem dX7_copy_55 : decode cX7_copy 55 = .ok (.iconst 5, 1) := by decide +kernel
theorem dX7_copy_56 : decode cX7_copy 56 = .ok (.invokevirtual 90, 3) := by decide +kernel
theorem dX7_copy_59 : decode cX7_copy 59 = .ok (.ireturn, 1) := by decide +kernel
theorem dX7_copy_60 : decode cX7_copy 60 = .ok (.aload_n 0, 1) := by decide +kernel
theorem dX7_copy_61 : decode cX7_copy 61 = .ok (.iload_n 1, 1) := by decide +kernel
theorem dX7_copy_62 : decode cX7_copy 62 = .ok (.iload_n 2, 1) := by decide +kernel
theorem dX7_copy_63 : decode cX7_copy 63 = .ok (.iload 5, 2) := by decide +kernel
theorem dX7_copy_65 : decode cX7_copy 65 = .ok (.invokevirtual 100, 3) := by decide +kernel
theorem dX7_copy_68 : decode cX7_copy 68 = .ok (.ifCond .ne 15, 3) := by decide +kernel
theorem dX7_copy_71 : decode cX7_copy 71 = .ok (.aload_n 0, 1) := by decide +kernel
theorem dX7_copy_72 : decode cX7_copy 72 = .ok (.iload_n 3, 1) := by decide +kernel
theorem dX7_copy_73 : decode cX7_copy 73 = .ok (.iload 4, 2) := by decide +kernel
theorem dX7_copy_75 : decode cX7_copy 75 = .ok (.iload 5, 2) := by decide +kernel
theorem dX7_copy_77 : decode cX7_copy 77 = .ok (.invokevirtual 100, 3) := by decide +kernel
theorem dX7_copy_80 : decode cX7_copy 80 = .ok (.ifCond .eq 9, 3) := by decide +kernel
theorem dX7_copy_83 : decode cX7_copy 83 = .ok (.aload_n 0, 1) := by decide +kernel
theorem dX7_copy_84 : decode cX7_copy 84 = .ok (.iconst 2, 1) := by decide +kernel
theorem dX7_copy_85 : decode cX7_copy 85 = .ok (.invokevirtual 90, 3) := by decide +kernel
theorem dX7_copy_88 : decode cX7_copy 88 = .ok (.ireturn, 1) := by decide +kernel
theorem dX7_copy_89 : decode cX7_copy 89 = .ok (.aload_n 0, 1) := by decide +kernel
theorem dX7_copy_90 : decode cX7_copy 90 = .ok (.getfield 11, 3) := by decide +kernel
theorem dX7_copy_93 : decode cX7_copy 93 = .ok (.iload_n 1, 1) := by decide +kernel
theorem dX7_copy_94 : decode cX7_copy 94 = .ok (.aaload, 1) := by decide +kernel
theorem dX7_copy_95 : decode cX7_copy 95 = .ok (.iload_n 2, 1) := by decide +kernel
theorem dX7_copy_96 : decode cX7_copy 96 = .ok (.aload_n 0, 1) := by decide +kernel
theorem dX7_copy_97 : decode cX7_copy 97 = .ok (.getfield 11, 3) := by decide +kernel
theorem dX7_copy_100 : decode cX7_copy 100 = .ok (.iload_n 3, 1) := by decide +kernel
theorem dX7_copy_101 : decode cX7_copy 101 = .ok (.aaload, 1) := by decide +kernel
theorem dX7_copy_102 : decode cX7_copy 102 = .ok (.iload 4, 2) := by decide +kernel
theorem dX7_copy_104 : decode cX7_copy 104 = .ok (.iload 5, 2) := by decide +kernel
theorem dX7_copy_106 : decode cX7_copy 106 = .ok (.invokestatic 107, 3) := by decide +kernel
theorem dX7_copy_109 : decode cX7_copy 109 = .ok (.aload_n 0, 1) := by decide +kernel
theorem dX7_copy_110 : decode cX7_copy 110 = .ok (.iload 5, 2) := by decide +kernel
theorem dX7_copy_112 : decode cX7_copy 112 = .ok (.invokevirtual 94, 3) := by decide +kernel
theorem dX7_copy_115 : decode cX7_copy 115 = .ok (.ireturn, 1) := by decide +kernel
theorem dX7_drop_0 : decode cX7_drop 0 = .ok (.iload_n 1, 1) := by decide +kernel
theorem dX7_drop_1 : decode cX7_drop 1 = .ok (.invokestatic 81, 3) := by decide +kernel
theorem dX7_drop_4 : decode cX7_drop 4 = .ok (.ifCond .eq 6, 3) := by decide +kernel
theorem dX7_drop_7 : decode cX7_drop 7 = .ok (.ldc 89, 2) := by decide +kernel
theorem dX7_drop_9 : decode cX7_drop 9 = .ok (.ireturn, 1) := by decide +kernel
theorem dX7_drop_10 : decode cX7_drop 10 = .ok (.aload_n 0, 1) := by decide +kernel
theorem dX7_drop_11 : decode cX7_drop 11 = .ok (.iload_n 1, 1) := by decide +kernel
theorem dX7_drop_12 : decode cX7_drop 12 = .ok (.invokevirtual 97, 3) := by decide +kernel
theorem dX7_drop_15 : decode cX7_drop 15 = .ok (.ifCond .eq 9, 3) := by decide +kernel
theorem dX7_drop_18 : decode cX7_drop 18 = .ok (.aload_n 0, 1) := by decide +kernel
theorem dX7_drop_19 : decode cX7_drop 19 = .ok (.iconst 1, 1) := by decide +kernel
theorem dX7_drop_20 : decode cX7_drop 20 = .ok (.invokevirtual 90, 3) := by decide +kernel
theorem dX7_drop_23 : decode cX7_drop 23 = .ok (.ireturn, 1) := by decide +kernel
theorem dX7_drop_24 : decode cX7_drop 24 = .ok (.aload_n 0, 1) := by decide +kernel
theorem dX7_drop_25 : decode cX7_drop 25 = .ok (.getfield 18, 3) := by decide +kernel
theorem dX7_drop_28 : decode cX7_drop 28 = .ok (.iload_n 1, 1) := by decide +kernel
theorem dX7_drop_29 : decode cX7_drop 29 = .ok (.iaload, 1) := by decide +kernel
theorem dX7_drop_30 : decode cX7_drop 30 = .ok (.istore_n 2, 1) := by decide +kernel
theorem dX7_drop_31 : decode cX7_drop 31 = .ok (.aload_n 0, 1) := by decide +kernel
theorem dX7_drop_32 : decode cX7_drop 32 = .ok (.getfield 18, 3) := by decide +kernel
theorem dX7_drop_35 : decode cX7_drop 35 = .ok (.iload_n 1, 1) := by decide +kernel
theorem dX7_drop_36 : decode cX7_drop 36 = .ok (.iconst (-1), 1) := by decide +kernel
theorem dX7_drop_37 : decode cX7_drop 37 = .ok (.iastore, 1) := by decide +kernel
theorem dX7_drop_38 : decode cX7_drop 38 = .ok (.aload_n 0, 1) := by decide +kernel
theorem dX7_drop_39 : decode cX7_drop 39 = .ok (.iload_n 2, 1) := by decide +kernel
theorem dX7_drop_40 : decode cX7_drop 40 = .ok (.invokevirtual 94, 3) := by decide +kernel
theorem dX7_drop_43 : decode cX7_drop 43 = .ok (.ireturn, 1) := by decide +kernel
theorem dX7_feed_0 : decode cX7_feed 0 = .ok (.iload_n 3, 1) := by decide +kernel
theorem dX7_feed_1 : decode cX7_feed 1 = .ok (.iconst 1, 1) := by decide +kernel
theorem dX7_feed_2 : decode cX7_feed 2 = .ok (.bipush 8, 2) := by decide +kernel
theorem dX7_feed_4 : decode cX7_feed 4 = .ok (.invokestatic 85, 3) := by decide +kernel
theorem dX7_feed_7 : decode cX7_feed 7 = .ok (.ifCond .eq 6, 3) := by decide +kernel
theorem dX7_feed_10 : decode cX7_feed 10 = .ok (.ldc 89, 2) := by decide +kernel
theorem dX7_feed_12 : decode cX7_feed 12 = .ok (.ireturn, 1) := by decide +kernel
theorem dX7_feed_13 : decode cX7_feed 13 = .ok (.aload_n 0, 1) := by decide +kernel
theorem dX7_feed_14 : decode cX7_feed 14 = .ok (.getfield 28, 3) := by decide +kernel
theorem dX7_feed_17 : decode cX7_feed 17 = .ok (.getfield 113, 3) := by decide +kernel
theorem dX7_feed_20 : decode cX7_feed 20 = .ok (.iload_n 3, 1) := by decide +kernel
theorem dX7_feed_21 : decode cX7_feed 21 = .ok (.iadd, 1) := by decide +kernel
theorem dX7_feed_22 : decode cX7_feed 22 = .ok (.sipush 400, 3) := by decide +kernel
theorem dX7_feed_25 : decode cX7_feed 25 = .ok (.if_icmp .le 6, 3) := by decide +kernel
theorem dX7_feed_28 : decode cX7_feed 28 = .ok (.ldc 116, 2) := by decide +kernel
theorem dX7_feed_30 : decode cX7_feed 30 = .ok (.ireturn, 1) := by decide +kernel
theorem dX7_feed_31 : decode cX7_feed 31 = .ok (.aload_n 0, 1) := by decide +kernel
theorem dX7_feed_32 : decode cX7_feed 32 = .ok (.getfield 28, 3) := by decide +kernel
theorem dX7_feed_35 : decode cX7_feed 35 = .ok (.lload_n 1, 1) := by decide +kernel
theorem dX7_feed_36 : decode cX7_feed 36 = .ok (.iload_n 3, 1) := by decide +kernel
theorem dX7_feed_37 : decode cX7_feed 37 = .ok (.invokevirtual 117, 3) := by decide +kernel
theorem dX7_feed_40 : decode cX7_feed 40 = .ok (.aload_n 0, 1) := by decide +kernel
theorem dX7_feed_41 : decode cX7_feed 41 = .ok (.getfield 28, 3) := by decide +kernel
theorem dX7_feed_44 : decode cX7_feed 44 = .ok (.getfield 113, 3) := by decide +kernel
theorem dX7_feed_47 : decode cX7_feed 47 = .ok (.ireturn, 1) := by decide +kernel
theorem dX7_league_0 : decode cX7_league 0 = .ok (.aload_n 0, 1) := by decide +kernel
theorem dX7_league_1 : decode cX7_league 1 = .ok (.getfield 28, 3) := by decide +kernel
theorem dX7_league_4 : decode cX7_league 4 = .ok (.aload_n 0, 1) := by decide +kernel
theorem dX7_league_5 : decode cX7_league 5 = .ok (.getfield 46, 3) := by decide +kernel
theorem dX7_league_8 : decode cX7_league 8 = .ok (.invokevirtual 121, 3) := by decide +kernel
theorem dX7_league_11 : decode cX7_league 11 = .ok (.aload_n 0, 1) := by decide +kernel
theorem dX7_league_12 : decode cX7_league 12 = .ok (.getfield 28, 3) := by decide +kernel
theorem dX7_league_15 : decode cX7_league 15 = .ok (.iconst 0, 1) := by decide +kernel
theorem dX7_league_16 : decode cX7_league 16 = .ok (.putfield 113, 3) := by decide +kernel
theorem dX7_league_19 : decode cX7_league 19 = .ok (.aload_n 0, 1) := by decide +kernel
theorem dX7_league_20 : decode cX7_league 20 = .ok (.getfield 28, 3) := by decide +kernel
theorem dX7_league_23 : decode cX7_league 23 = .ok (.getfield 125, 3) := by decide +kernel
theorem dX7_league_26 : decode cX7_league 26 = .ok (.ifCond .eq 25, 3) := by decide +kernel
theorem dX7_league_29 : decode cX7_league 29 = .ok (.aload_n 0, 1) := by decide +kernel
theorem dX7_league_30 : decode cX7_league 30 = .ok (.aload_n 0, 1) := by decide +kernel
theorem dX7_league_31 : decode cX7_league 31 = .ok (.getfield 28, 3) := by decide +kernel
theorem dX7_league_34 : decode cX7_league 34 = .ok (.getfield 125, 3) := by decide +kernel
theorem dX7_league_37 : decode cX7_league 37 = .ok (.putfield 32, 3) := by decide +kernel
theorem dX7_league_40 : decode cX7_league 40 = .ok (.ldc 128, 2) := by decide +kernel
theorem dX7_league_42 : decode cX7_league 42 = .ok (.aload_n 0, 1) := by decide +kernel
theorem dX7_league_43 : decode cX7_league 43 = .ok (.getfield 28, 3) := by decide +kernel
theorem dX7_league_46 : decode cX7_league 46 = .ok (.getfield 129, 3) := by decide +kernel
theorem dX7_league_49 : decode cX7_league 49 = .ok (.isub, 1) := by decide +kernel
theorem dX7_league_50 : decode cX7_league 50 = .ok (.ireturn, 1) := by decide +kernel
theorem dX7_league_51 : decode cX7_league 51 = .ok (.aload_n 0, 1) := by decide +kernel
theorem dX7_league_52 : decode cX7_league 52 = .ok (.getfield 42, 3) := by decide +kernel
theorem dX7_league_55 : decode cX7_league 55 = .ok (.aload_n 0, 1) := by decide +kernel
theorem dX7_league_56 : decode cX7_league 56 = .ok (.getfield 46, 3) := by decide +kernel
theorem dX7_league_59 : decode cX7_league 59 = .ok (.invokevirtual 132, 3) := by decide +kernel
theorem dX7_league_62 : decode cX7_league 62 = .ok (.aload_n 0, 1) := by decide +kernel
theorem dX7_league_63 : decode cX7_league 63 = .ok (.iconst 1, 1) := by decide +kernel
theorem dX7_league_64 : decode cX7_league 64 = .ok (.putfield 35, 3) := by decide +kernel
theorem dX7_league_67 : decode cX7_league 67 = .ok (.aload_n 0, 1) := by decide +kernel
theorem dX7_league_68 : decode cX7_league 68 = .ok (.getfield 60, 3) := by decide +kernel
theorem dX7_league_71 : decode cX7_league 71 = .ok (.invokevirtual 135, 3) := by decide +kernel
theorem dX7_league_74 : decode cX7_league 74 = .ok (.aload_n 0, 1) := by decide +kernel
theorem dX7_league_75 : decode cX7_league 75 = .ok (.getfield 42, 3) := by decide +kernel
theorem dX7_league_78 : decode cX7_league 78 = .ok (.getfield 138, 3) := by decide +kernel
theorem dX7_league_81 : decode cX7_league 81 = .ok (.ireturn, 1) := by decide +kernel
theorem dX7_fault_0 : decode cX7_fault 0 = .ok (.aload_n 0, 1) := by decide +kernel
theorem dX7_fault_1 : decode cX7_fault 1 = .ok (.getfield 32, 3) := by decide +kernel
theorem dX7_fault_4 : decode cX7_fault 4 = .ok (.ireturn, 1) := by decide +kernel
theorem dX7_sail_0 : decode cX7_sail 0 = .ok (.aload_n 0, 1) := by decide +kernel
theorem dX7_sail_1 : decode cX7_sail 1 = .ok (.iload_n 1, 1) := by decide +kernel
theorem dX7_sail_2 : decode cX7_sail 2 = .ok (.invokevirtual 141, 3) := by decide +kernel
theorem dX7_sail_5 : decode cX7_sail 5 = .ok (.ifCond .ne 11, 3) := by decide +kernel
theorem dX7_sail_8 : decode cX7_sail 8 = .ok (.aload_n 0, 1) := by decide +kernel
theorem dX7_sail_9 : decode cX7_sail 9 = .ok (.iload_n 2, 1) := by decide +kernel
theorem dX7_sail_10 : decode cX7_sail 10 = .ok (.invokevirtual 144, 3) := by decide +kernel
theorem dX7_sail_13 : decode cX7_sail 13 = .ok (.ifCond .eq 6, 3) := by decide +kernel
theorem dX7_sail_16 : decode cX7_sail 16 = .ok (.ldc 89, 2) := by decide +kernel
theorem dX7_sail_18 : decode cX7_sail 18 = .ok (.ireturn, 1) := by decide +kernel
theorem dX7_sail_19 : decode cX7_sail 19 = .ok (.aload_n 0, 1) := by decide +kernel
theorem dX7_sail_20 : decode cX7_sail 20 = .ok (.iload_n 1, 1) := by decide +kernel
theorem dX7_sail_21 : decode cX7_sail 21 = .ok (.iload_n 2, 1) := by decide +kernel
theorem dX7_sail_22 : decode cX7_sail 22 = .ok (.invokevirtual 147, 3) := by decide +kernel
theorem dX7_sail_25 : decode cX7_sail 25 = .ok (.istore_n 3, 1) := by decide +kernel
theorem dX7_sail_26 : decode cX7_sail 26 = .ok (.iload_n 3, 1) := by decide +kernel
theorem dX7_sail_27 : decode cX7_sail 27 = .ok (.ifCond .eq 7, 3) := by decide +kernel
theorem dX7_sail_30 : decode cX7_sail 30 = .ok (.iload_n 3, 1) := by decide +kernel
theorem dX7_sail_31 : decode cX7_sail 31 = .ok (.goto 15, 3) := by decide +kernel
theorem dX7_sail_34 : decode cX7_sail 34 = .ok (.aload_n 0, 1) := by decide +kernel
theorem dX7_sail_35 : decode cX7_sail 35 = .ok (.getfield 42, 3) := by decide +kernel
theorem dX7_sail_38 : decode cX7_sail 38 = .ok (.getfield 150, 3) := by decide +kernel
theorem dX7_sail_41 : decode cX7_sail 41 = .ok (.iload_n 1, 1) := by decide +kernel
theorem dX7_sail_42 : decode cX7_sail 42 = .ok (.aaload, 1) := by decide +kernel
theorem dX7_sail_43 : decode cX7_sail 43 = .ok (.getfield 154, 3) := by decide +kernel
theorem dX7_sail_46 : decode cX7_sail 46 = .ok (.ireturn, 1) := by decide +kernel
theorem dX7_sails_0 : decode cX7_sails 0 = .ok (.iload_n 2, 1) := by decide +kernel
theorem dX7_sails_1 : decode cX7_sails 1 = .ok (.invokestatic 81, 3) := by decide +kernel
theorem dX7_sails_4 : decode cX7_sails 4 = .ok (.ifCond .ne 22, 3) := by decide +kernel
theorem dX7_sails_7 : decode cX7_sails 7 = .ok (.iload 4, 2) := by decide +kernel
theorem dX7_sails_9 : decode cX7_sails 9 = .ok (.iconst 1, 1) := by decide +kernel
theorem dX7_sails_10 : decode cX7_sails 10 = .ok (.bipush 24, 2) := by decide +kernel
theorem dX7_sails_12 : decode cX7_sails 12 = .ok (.invokestatic 85, 3) := by decide +kernel
theorem dX7_sails_15 : decode cX7_sails 15 = .ok (.ifCond .ne 11, 3) := by decide +kernel
theorem dX7_sails_18 : decode cX7_sails 18 = .ok (.aload_n 0, 1) := by decide +kernel
theorem dX7_sails_19 : decode cX7_sails 19 = .ok (.iload_n 1, 1) := by decide +kernel
theorem dX7_sails_20 : decode cX7_sails 20 = .ok (.invokevirtual 141, 3) := by decide +kernel
theorem dX7_sails_23 : decode cX7_sails 23 = .ok (.ifCond .eq 6, 3) := by decide +kernel
theorem dX7_sails_26 : decode cX7_sails 26 = .ok (.ldc 89, 2) := by decide +kernel
theorem dX7_sails_28 : decode cX7_sails 28 = .ok (.ireturn, 1) := by decide +kernel
theorem dX7_sails_29 : decode cX7_sails 29 = .ok (.aload_n 0, 1) := by decide +kernel
theorem dX7_sails_30 : decode cX7_sails 30 = .ok (.iload_n 2, 1) := by decide +kernel
theorem dX7_sails_31 : decode cX7_sails 31 = .ok (.invokevirtual 97, 3) := by decide +kernel
theorem dX7_sails_34 : decode cX7_sails 34 = .ok (.ifCond .eq 9, 3) := by decide +kernel
theorem dX7_sails_37 : decode cX7_sails 37 = .ok (.aload_n 0, 1) := by decide +kernel
theorem dX7_sails_38 : decode cX7_sails 38 = .ok (.iconst 1, 1) := by decide +kernel
theorem dX7_sails_39 : decode cX7_sails 39 = .ok (.invokevirtual 90, 3) := by decide +kernel
theorem dX7_sails_42 : decode cX7_sails 42 = .ok (.ireturn, 1) := by decide +kernel
theorem dX7_sails_43 : decode cX7_sails 43 = .ok (.aload_n 0, 1) := by decide +kernel
theorem dX7_sails_44 : decode cX7_sails 44 = .ok (.iload_n 2, 1) := by decide +kernel
theorem dX7_sails_45 : decode cX7_sails 45 = .ok (.iload_n 3, 1) := by decide +kernel
theorem dX7_sails_46 : decode cX7_sails 46 = .ok (.iload 4, 2) := by decide +kernel
theorem dX7_sails_48 : decode cX7_sails 48 = .ok (.invokevirtual 100, 3) := by decide +kernel
theorem dX7_sails_51 : decode cX7_sails 51 = .ok (.ifCond .eq 9, 3) := by decide +kernel
theorem dX7_sails_54 : decode cX7_sails 54 = .ok (.aload_n 0, 1) := by decide +kernel
theorem dX7_sails_55 : decode cX7_sails 55 = .ok (.iconst 2, 1) := by decide +kernel
theorem dX7_sails_56 : decode cX7_sails 56 = .ok (.invokevirtual 90, 3) := by decide +kernel
theorem dX7_sails_59 : decode cX7_sails 59 = .ok (.ireturn, 1) := by decide +kernel
theorem dX7_sails_60 : decode cX7_sails 60 = .ok (.iload_n 3, 1) := by decide +kernel
theorem dX7_sails_61 : decode cX7_sails 61 = .ok (.istore 5, 2) := by decide +kernel
theorem dX7_sails_63 : decode cX7_sails 63 = .ok (.iload 5, 2) := by decide +kernel
theorem dX7_sails_65 : decode cX7_sails 65 = .ok (.iload_n 3, 1) := by decide +kernel
theorem dX7_sails_66 : decode cX7_sails 66 = .ok (.iload 4, 2) := by decide +kernel
theorem dX7_sails_68 : decode cX7_sails 68 = .ok (.iadd, 1) := by decide +kernel
theorem dX7_sails_69 : decode cX7_sails 69 = .ok (.if_icmp .ge 28, 3) := by decide +kernel
theorem dX7_sails_72 : decode cX7_sails 72 = .ok (.aload_n 0, 1) := by decide +kernel
theorem dX7_sails_73 : decode cX7_sails 73 = .ok (.aload_n 0, 1) := by decide +kernel
theorem dX7_sails_74 : decode cX7_sails 74 = .ok (.getfield 11, 3) := by decide +kernel
theorem dX7_sails_77 : decode cX7_sails 77 = .ok (.iload_n 2, 1) := by decide +kernel
theorem dX7_sails_78 : decode cX7_sails 78 = .ok (.aaload, 1) := by decide +kernel
theorem dX7_sails_79 : decode cX7_sails 79 = .ok (.iload 5, 2) := by decide +kernel
theorem dX7_sails_81 : decode cX7_sails 81 = .ok (.iaload, 1) := by decide +kernel
theorem dX7_sails_82 : decode cX7_sails 82 = .ok (.invokevirtual 144, 3) := by decide +kernel
theorem dX7_sails_85 : decode cX7_sails 85 = .ok (.ifCond .eq 6, 3) := by decide +kernel
theorem dX7_sails_88 : decode cX7_sails 88 = .ok (.ldc 89, 2) := by decide +kernel
theorem dX7_sails_90 : decode cX7_sails 90 = .ok (.ireturn, 1) := by decide +kernel
theorem dX7_sails_91 : decode cX7_sails 91 = .ok (.iinc 5 1, 3) := by decide +kernel
theorem dX7_sails_94 : decode cX7_sails 94 = .ok (.goto (-31), 3) := by decide +kernel
theorem dX7_sails_97 : decode cX7_sails 97 = .ok (.iconst 0, 1) := by decide +kernel
theorem dX7_sails_98 : decode cX7_sails 98 = .ok (.istore 5, 2) := by decide +kernel
theorem dX7_sails_100 : decode cX7_sails 100 = .ok (.iload 5, 2) := by decide +kernel
theorem dX7_sails_102 : decode cX7_sails 102 = .ok (.iload 4, 2) := by decide +kernel
theorem dX7_sails_104 : decode cX7_sails 104 = .ok (.if_icmp .ge 28, 3) := by decide +kernel
theorem dX7_sails_107 : decode cX7_sails 107 = .ok (.aload_n 0, 1) := by decide +kernel
theorem dX7_sails_108 : decode cX7_sails 108 = .ok (.iload_n 1, 1) := by decide +kernel
theorem dX7_sails_109 : decode cX7_sails 109 = .ok (.aload_n 0, 1) := by decide +kernel
theorem dX7_sails_110 : decode cX7_sails 110 = .ok (.getfield 11, 3) := by decide +kernel
theorem dX7_sails_113 : decode cX7_sails 113 = .ok (.iload_n 2, 1) := by decide +kernel
theorem dX7_sails_114 : decode cX7_sails 114 = .ok (.aaload, 1) := by decide +kernel
theorem dX7_sails_115 : decode cX7_sails 115 = .ok (.iload_n 3, 1) := by decide +kernel
theorem dX7_sails_116 : decode cX7_sails 116 = .ok (.iload 5, 2) := by decide +kernel
theorem dX7_sails_118 : decode cX7_sails 118 = .ok (.iadd, 1) := by decide +kernel
theorem dX7_sails_119 : decode cX7_sails 119 = .ok (.iaload, 1) := by decide +kernel
theorem dX7_sails_120 : decode cX7_sails 120 = .ok (.invokevirtual 147, 3) := by decide +kernel
theorem dX7_sails_123 : decode cX7_sails 123 = .ok (.ifCond .ne 9, 3) := by decide +kernel
theorem dX7_sails_126 : decode cX7_sails 126 = .ok (.iinc 5 1, 3) := by decide +kernel
theorem dX7_sails_129 : decode cX7_sails 129 = .ok (.goto (-29), 3) := by decide +kernel
theorem dX7_sails_132 : decode cX7_sails 132 = .ok (.aload_n 0, 1) := by decide +kernel
theorem dX7_sails_133 : decode cX7_sails 133 = .ok (.iload 5, 2) := by decide +kernel
theorem dX7_sails_135 : decode cX7_sails 135 = .ok (.invokevirtual 94, 3) := by decide +kernel
theorem dX7_sails_138 : decode cX7_sails 138 = .ok (.ireturn, 1) := by decide +kernel
theorem dX7_stay_0 : decode cX7_stay 0 = .ok (.aload_n 0, 1) := by decide +kernel
theorem dX7_stay_1 : decode cX7_stay 1 = .ok (.iload_n 1, 1) := by decide +kernel
theorem dX7_stay_2 : decode cX7_stay 2 = .ok (.invokevirtual 141, 3) := by decide +kernel
theorem dX7_stay_5 : decode cX7_stay 5 = .ok (.ifCond .ne 13, 3) := by decide +kernel
theorem dX7_stay_8 : decode cX7_stay 8 = .ok (.iload_n 2, 1) := by decide +kernel
theorem dX7_stay_9 : decode cX7_stay 9 = .ok (.iconst 1, 1) := by decide +kernel
theorem dX7_stay_10 : decode cX7_stay 10 = .ok (.bipush 99, 2) := by decide +kernel
theorem dX7_stay_12 : decode cX7_stay 12 = .ok (.invokestatic 85, 3) := by decide +kernel
theorem dX7_stay_15 : decode cX7_stay 15 = .ok (.ifCond .eq 6, 3) := by decide +kernel
theorem dX7_stay_18 : decode cX7_stay 18 = .ok (.ldc 89, 2) := by decide +kernel
theorem dX7_stay_20 : decode cX7_stay 20 = .ok (.ireturn, 1) := by decide +kernel
theorem dX7_stay_21 : decode cX7_stay 21 = .ok (.aload_n 0, 1) := by decide +kernel
theorem dX7_stay_22 : decode cX7_stay 22 = .ok (.getfield 42, 3) := by decide +kernel
theorem dX7_stay_25 : decode cX7_stay 25 = .ok (.getfield 150, 3) := by decide +kernel
theorem dX7_stay_28 : decode cX7_stay 28 = .ok (.iload_n 1, 1) := by decide +kernel
theorem dX7_stay_29 : decode cX7_stay 29 = .ok (.aaload, 1) := by decide +kernel
theorem dX7_stay_30 : decode cX7_stay 30 = .ok (.astore_n 3, 1) := by decide +kernel
theorem dX7_stay_31 : decode cX7_stay 31 = .ok (.aload_n 3, 1) := by decide +kernel
theorem dX7_stay_32 : decode cX7_stay 32 = .ok (.getfield 159, 3) := by decide +kernel
theorem dX7_stay_35 : decode cX7_stay 35 = .ok (.iload_n 2, 1) := by decide +kernel
theorem dX7_stay_36 : decode cX7_stay 36 = .ok (.iadd, 1) := by decide +kernel
theorem dX7_stay_37 : decode cX7_stay 37 = .ok (.sipush 200, 3) := by decide +kernel
theorem dX7_stay_40 : decode cX7_stay 40 = .ok (.if_icmp .le 6, 3) := by decide +kernel
theorem dX7_stay_43 : decode cX7_stay 43 = .ok (.ldc 116, 2) := by decide +kernel
theorem dX7_stay_45 : decode cX7_stay 45 = .ok (.ireturn, 1) := by decide +kernel
theorem dX7_stay_46 : decode cX7_stay 46 = .ok (.aload_n 0, 1) := by decide +kernel
theorem dX7_stay_47 : decode cX7_stay 47 = .ok (.getfield 60, 3) := by decide +kernel
theorem dX7_stay_50 : decode cX7_stay 50 = .ok (.aload_n 0, 1) := by decide +kernel
theorem dX7_stay_51 : decode cX7_stay 51 = .ok (.getfield 42, 3) := by decide +kernel
theorem dX7_stay_54 : decode cX7_stay 54 = .ok (.invokevirtual 162, 3) := by decide +kernel
theorem dX7_stay_57 : decode cX7_stay 57 = .ok (.aload_n 3, 1) := by decide +kernel
theorem dX7_stay_58 : decode cX7_stay 58 = .ok (.iload_n 2, 1) := by decide +kernel
theorem dX7_stay_59 : decode cX7_stay 59 = .ok (.invokevirtual 165, 3) := by decide +kernel
theorem dX7_stay_62 : decode cX7_stay 62 = .ok (.aload_n 3, 1) := by decide +kernel
theorem dX7_stay_63 : decode cX7_stay 63 = .ok (.getfield 169, 3) := by decide +kernel
theorem dX7_stay_66 : decode cX7_stay 66 = .ok (.ireturn, 1) := by decide +kernel
theorem dX7_meet_0 : decode cX7_meet 0 = .ok (.aload_n 0, 1) := by decide +kernel
theorem dX7_meet_1 : decode cX7_meet 1 = .ok (.iload_n 1, 1) := by decide +kernel
theorem dX7_meet_2 : decode cX7_meet 2 = .ok (.invokevirtual 141, 3) := by decide +kernel
theorem dX7_meet_5 : decode cX7_meet 5 = .ok (.ifCond .ne 16, 3) := by decide +kernel
theorem dX7_meet_8 : decode cX7_meet 8 = .ok (.aload_n 0, 1) := by decide +kernel
theorem dX7_meet_9 : decode cX7_meet 9 = .ok (.iload_n 2, 1) := by decide +kernel
theorem dX7_meet_10 : decode cX7_meet 10 = .ok (.invokevirtual 141, 3) := by decide +kernel
theorem dX7_meet_13 : decode cX7_meet 13 = .ok (.ifCond .ne 8, 3) := by decide +kernel
theorem dX7_meet_16 : decode cX7_meet 16 = .ok (.iload_n 1, 1) := by decide +kernel
theorem dX7_meet_17 : decode cX7_meet 17 = .ok (.iload_n 2, 1) := by decide +kernel
theorem dX7_meet_18 : decode cX7_meet 18 = .ok (.if_icmp .ne 6, 3) := by decide +kernel
theorem dX7_meet_21 : decode cX7_meet 21 = .ok (.ldc 89, 2) := by decide +kernel
theorem dX7_meet_23 : decode cX7_meet 23 = .ok (.ireturn, 1) := by decide +kernel
theorem dX7_meet_24 : decode cX7_meet 24 = .ok (.aload_n 0, 1) := by decide +kernel
theorem dX7_meet_25 : decode cX7_meet 25 = .ok (.getfield 42, 3) := by decide +kernel
theorem dX7_meet_28 : decode cX7_meet 28 = .ok (.getfield 150, 3) := by decide +kernel
theorem dX7_meet_31 : decode cX7_meet 31 = .ok (.iload_n 1, 1) := by decide +kernel
theorem dX7_meet_32 : decode cX7_meet 32 = .ok (.aaload, 1) := by decide +kernel
theorem dX7_meet_33 : decode cX7_meet 33 = .ok (.astore_n 3, 1) := by decide +kernel
theorem dX7_meet_34 : decode cX7_meet 34 = .ok (.aload_n 0, 1) := by decide +kernel
theorem dX7_meet_35 : decode cX7_meet 35 = .ok (.getfield 42, 3) := by decide +kernel
theorem dX7_meet_38 : decode cX7_meet 38 = .ok (.getfield 150, 3) := by decide +kernel
theorem dX7_meet_41 : decode cX7_meet 41 = .ok (.iload_n 2, 1) := by decide +kernel
theorem dX7_meet_42 : decode cX7_meet 42 = .ok (.aaload, 1) := by decide +kernel
theorem dX7_meet_43 : decode cX7_meet 43 = .ok (.astore 4, 2) := by decide +kernel
theorem dX7_meet_45 : decode cX7_meet 45 = .ok (.aload_n 3, 1) := by decide +kernel
theorem dX7_meet_46 : decode cX7_meet 46 = .ok (.getfield 154, 3) := by decide +kernel
theorem dX7_meet_49 : decode cX7_meet 49 = .ok (.aload 4, 2) := by decide +kernel
theorem dX7_meet_51 : decode cX7_meet 51 = .ok (.getfield 154, 3) := by decide +kernel
theorem dX7_meet_54 : decode cX7_meet 54 = .ok (.if_icmp .eq 6, 3) := by decide +kernel
theorem dX7_meet_57 : decode cX7_meet 57 = .ok (.ldc 172, 2) := by decide +kernel
theorem dX7_meet_59 : decode cX7_meet 59 = .ok (.ireturn, 1) := by decide +kernel
theorem dX7_meet_60 : decode cX7_meet 60 = .ok (.aload_n 0, 1) := by decide +kernel
theorem dX7_meet_61 : decode cX7_meet 61 = .ok (.getfield 60, 3) := by decide +kernel
theorem dX7_meet_64 : decode cX7_meet 64 = .ok (.aload_n 0, 1) := by decide +kernel
theorem dX7_meet_65 : decode cX7_meet 65 = .ok (.getfield 42, 3) := by decide +kernel
theorem dX7_meet_68 : decode cX7_meet 68 = .ok (.invokevirtual 162, 3) := by decide +kernel
theorem dX7_meet_71 : decode cX7_meet 71 = .ok (.aload_n 3, 1) := by decide +kernel
theorem dX7_meet_72 : decode cX7_meet 72 = .ok (.getfield 159, 3) := by decide +kernel
theorem dX7_meet_75 : decode cX7_meet 75 = .ok (.aload 4, 2) := by decide +kernel
theorem dX7_meet_77 : decode cX7_meet 77 = .ok (.getfield 159, 3) := by decide +kernel
theorem dX7_meet_80 : decode cX7_meet 80 = .ok (.invokestatic 173, 3) := by decide +kernel
theorem dX7_meet_83 : decode cX7_meet 83 = .ok (.istore 5, 2) := by decide +kernel
theorem dX7_meet_85 : decode cX7_meet 85 = .ok (.aload_n 3, 1) := by decide +kernel
theorem dX7_meet_86 : decode cX7_meet 86 = .ok (.iload 5, 2) := by decide +kernel
theorem dX7_meet_88 : decode cX7_meet 88 = .ok (.aload_n 3, 1) := by decide +kernel
theorem dX7_meet_89 : decode cX7_meet 89 = .ok (.getfield 159, 3) := by decide +kernel
theorem dX7_meet_92 : decode cX7_meet 92 = .ok (.isub, 1) := by decide +kernel
theorem dX7_meet_93 : decode cX7_meet 93 = .ok (.invokevirtual 165, 3) := by decide +kernel
theorem dX7_meet_96 : decode cX7_meet 96 = .ok (.aload 4, 2) := by decide +kernel
theorem dX7_meet_98 : decode cX7_meet 98 = .ok (.iload 5, 2) := by decide +kernel
theorem dX7_meet_100 : decode cX7_meet 100 = .ok (.aload 4, 2) := by decide +kernel
theorem dX7_meet_102 : decode cX7_meet 102 = .ok (.getfield 159, 3) := by decide +kernel
theorem dX7_meet_105 : decode cX7_meet 105 = .ok (.isub, 1) := by decide +kernel
theorem dX7_meet_106 : decode cX7_meet 106 = .ok (.invokevirtual 165, 3) := by decide +kernel
theorem dX7_meet_109 : decode cX7_meet 109 = .ok (.aload_n 3, 1) := by decide +kernel
theorem dX7_meet_110 : decode cX7_meet 110 = .ok (.getfield 169, 3) := by decide +kernel
theorem dX7_meet_113 : decode cX7_meet 113 = .ok (.aload 4, 2) := by decide +kernel
theorem dX7_meet_115 : decode cX7_meet 115 = .ok (.getfield 169, 3) := by decide +kernel
theorem dX7_meet_118 : decode cX7_meet 118 = .ok (.isub, 1) := by decide +kernel
theorem dX7_meet_119 : decode cX7_meet 119 = .ok (.ireturn, 1) := by decide +kernel
theorem dX7_borrow_0 : decode cX7_borrow 0 = .ok (.aload_n 0, 1) := by decide +kernel
theorem dX7_borrow_1 : decode cX7_borrow 1 = .ok (.iload_n 1, 1) := by decide +kernel
theorem dX7_borrow_2 : decode cX7_borrow 2 = .ok (.invokevirtual 141, 3) := by decide +kernel
theorem dX7_borrow_5 : decode cX7_borrow 5 = .ok (.ifCond .ne 14, 3) := by decide +kernel
theorem dX7_borrow_8 : decode cX7_borrow 8 = .ok (.iload_n 2, 1) := by decide +kernel
theorem dX7_borrow_9 : decode cX7_borrow 9 = .ok (.iconst 1, 1) := by decide +kernel
theorem dX7_borrow_10 : decode cX7_borrow 10 = .ok (.sipush 9999, 3) := by decide +kernel
theorem dX7_borrow_13 : decode cX7_borrow 13 = .ok (.invokestatic 85, 3) := by decide +kernel
theorem dX7_borrow_16 : decode cX7_borrow 16 = .ok (.ifCond .eq 6, 3) := by decide +kernel
theorem dX7_borrow_19 : decode cX7_borrow 19 = .ok (.ldc 89, 2) := by decide +kernel
theorem dX7_borrow_21 : decode cX7_borrow 21 = .ok (.ireturn, 1) := by decide +kernel
theorem dX7_borrow_22 : decode cX7_borrow 22 = .ok (.aload_n 0, 1) := by decide +kernel
theorem dX7_borrow_23 : decode cX7_borrow 23 = .ok (.getfield 42, 3) := by decide +kernel
theorem dX7_borrow_26 : decode cX7_borrow 26 = .ok (.getfield 150, 3) := by decide +kernel
theorem dX7_borrow_29 : decode cX7_borrow 29 = .ok (.iload_n 1, 1) := by decide +kernel
theorem dX7_borrow_30 : decode cX7_borrow 30 = .ok (.aaload, 1) := by decide +kernel
theorem dX7_borrow_31 : decode cX7_borrow 31 = .ok (.astore_n 3, 1) := by decide +kernel
theorem dX7_borrow_32 : decode cX7_borrow 32 = .ok (.aload_n 3, 1) := by decide +kernel
theorem dX7_borrow_33 : decode cX7_borrow 33 = .ok (.aload_n 0, 1) := by decide +kernel
theorem dX7_borrow_34 : decode cX7_borrow 34 = .ok (.getfield 42, 3) := by decide +kernel
theorem dX7_borrow_37 : decode cX7_borrow 37 = .ok (.getfield 178, 3) := by decide +kernel
theorem dX7_borrow_40 : decode cX7_borrow 40 = .ok (.invokevirtual 181, 3) := by decide +kernel
theorem dX7_borrow_43 : decode cX7_borrow 43 = .ok (.istore 4, 2) := by decide +kernel
theorem dX7_borrow_45 : decode cX7_borrow 45 = .ok (.aload_n 0, 1) := by decide +kernel
theorem dX7_borrow_46 : decode cX7_borrow 46 = .ok (.getfield 60, 3) := by decide +kernel
theorem dX7_borrow_49 : decode cX7_borrow 49 = .ok (.aload_n 0, 1) := by decide +kernel
theorem dX7_borrow_50 : decode cX7_borrow 50 = .ok (.getfield 42, 3) := by decide +kernel
theorem dX7_borrow_53 : decode cX7_borrow 53 = .ok (.invokevirtual 162, 3) := by decide +kernel
theorem dX7_borrow_56 : decode cX7_borrow 56 = .ok (.aload_n 3, 1) := by decide +kernel
theorem dX7_borrow_57 : decode cX7_borrow 57 = .ok (.iload_n 2, 1) := by decide +kernel
theorem dX7_borrow_58 : decode cX7_borrow 58 = .ok (.invokevirtual 184, 3) := by decide +kernel
theorem dX7_borrow_61 : decode cX7_borrow 61 = .ok (.iload 4, 2) := by decide +kernel
theorem dX7_borrow_63 : decode cX7_borrow 63 = .ok (.ireturn, 1) := by decide +kernel
theorem dX7_undo_0 : decode cX7_undo 0 = .ok (.aload_n 0, 1) := by decide +kernel
theorem dX7_undo_1 : decode cX7_undo 1 = .ok (.getfield 60, 3) := by decide +kernel
theorem dX7_undo_4 : decode cX7_undo 4 = .ok (.getfield 187, 3) := by decide +kernel
theorem dX7_undo_7 : decode cX7_undo 7 = .ok (.ifCond .ne 6, 3) := by decide +kernel
theorem dX7_undo_10 : decode cX7_undo 10 = .ok (.ldc 172, 2) := by decide +kernel
theorem dX7_undo_12 : decode cX7_undo 12 = .ok (.ireturn, 1) := by decide +kernel
theorem dX7_undo_13 : decode cX7_undo 13 = .ok (.aload_n 0, 1) := by decide +kernel
theorem dX7_undo_14 : decode cX7_undo 14 = .ok (.getfield 60, 3) := by decide +kernel
theorem dX7_undo_17 : decode cX7_undo 17 = .ok (.aload_n 0, 1) := by decide +kernel
theorem dX7_undo_18 : decode cX7_undo 18 = .ok (.getfield 42, 3) := by decide +kernel
theorem dX7_undo_21 : decode cX7_undo 21 = .ok (.invokevirtual 188, 3) := by decide +kernel
theorem dX7_undo_24 : decode cX7_undo 24 = .ok (.aload_n 0, 1) := by decide +kernel
theorem dX7_undo_25 : decode cX7_undo 25 = .ok (.getfield 60, 3) := by decide +kernel
theorem dX7_undo_28 : decode cX7_undo 28 = .ok (.getfield 187, 3) := by decide +kernel
theorem dX7_undo_31 : decode cX7_undo 31 = .ok (.ireturn, 1) := by decide +kernel
theorem dX7_person_0 : decode cX7_person 0 = .ok (.aload_n 0, 1) := by decide +kernel
theorem dX7_person_1 : decode cX7_person 1 = .ok (.iload_n 1, 1) := by decide +kernel
theorem dX7_person_2 : decode cX7_person 2 = .ok (.invokevirtual 141, 3) := by decide +kernel
theorem dX7_person_5 : decode cX7_person 5 = .ok (.ifCond .eq 6, 3) := by decide +kernel
theorem dX7_person_8 : decode cX7_person 8 = .ok (.ldc 89, 2) := by decide +kernel
theorem dX7_person_10 : decode cX7_person 10 = .ok (.ireturn, 1) := by decide +kernel
theorem dX7_person_11 : decode cX7_person 11 = .ok (.aload_n 0, 1) := by decide +kernel
theorem dX7_person_12 : decode cX7_person 12 = .ok (.getfield 42, 3) := by decide +kernel
theorem dX7_person_15 : decode cX7_person 15 = .ok (.getfield 150, 3) := by decide +kernel
theorem dX7_person_18 : decode cX7_person 18 = .ok (.iload_n 1, 1) := by decide +kernel
theorem dX7_person_19 : decode cX7_person 19 = .ok (.aaload, 1) := by decide +kernel
theorem dX7_person_20 : decode cX7_person 20 = .ok (.astore_n 3, 1) := by decide +kernel
theorem dX7_person_21 : decode cX7_person 21 = .ok (.iload_n 2, 1) := by decide +kernel
theorem dX7_person_22 : decode cX7_person 22 = .ok (.tableswitch 82 0 5 #[38, 43, 48, 53, 58, 70], 38) := by decide +kernel
theorem dX7_person_60 : decode cX7_person 60 = .ok (.aload_n 3, 1) := by decide +kernel
theorem dX7_person_61 : decode cX7_person 61 = .ok (.getfield 154, 3) := by decide +kernel
theorem dX7_person_64 : decode cX7_person 64 = .ok (.ireturn, 1) := by decide +kernel
theorem dX7_person_65 : decode cX7_person 65 = .ok (.aload_n 3, 1) := by decide +kernel
theorem dX7_person_66 : decode cX7_person 66 = .ok (.getfield 159, 3) := by decide +kernel
theorem dX7_person_69 : decode cX7_person 69 = .ok (.ireturn, 1) := by decide +kernel
theorem dX7_person_70 : decode cX7_person 70 = .ok (.aload_n 3, 1) := by decide +kernel
theorem dX7_person_71 : decode cX7_person 71 = .ok (.getfield 169, 3) := by decide +kernel
theorem dX7_person_74 : decode cX7_person 74 = .ok (.ireturn, 1) := by decide +kernel
theorem dX7_person_75 : decode cX7_person 75 = .ok (.aload_n 3, 1) := by decide +kernel
theorem dX7_person_76 : decode cX7_person 76 = .ok (.invokevirtual 191, 3) := by decide +kernel
theorem dX7_person_79 : decode cX7_person 79 = .ok (.ireturn, 1) := by decide +kernel
theorem dX7_person_80 : decode cX7_person 80 = .ok (.aload_n 3, 1) := by decide +kernel
theorem dX7_person_81 : decode cX7_person 81 = .ok (.aload_n 0, 1) := by decide +kernel
theorem dX7_person_82 : decode cX7_person 82 = .ok (.getfield 42, 3) := by decide +kernel
theorem dX7_person_85 : decode cX7_person 85 = .ok (.getfield 178, 3) := by decide +kernel
theorem dX7_person_88 : decode cX7_person 88 = .ok (.invokevirtual 181, 3) := by decide +kernel
theorem dX7_person_91 : decode cX7_person 91 = .ok (.ireturn, 1) := by decide +kernel
theorem dX7_person_92 : decode cX7_person 92 = .ok (.aload_n 3, 1) := by decide +kernel
theorem dX7_person_93 : decode cX7_person 93 = .ok (.aload_n 0, 1) := by decide +kernel
theorem dX7_person_94 : decode cX7_person 94 = .ok (.getfield 42, 3) := by decide +kernel
theorem dX7_person_97 : decode cX7_person 97 = .ok (.getfield 178, 3) := by decide +kernel
theorem dX7_person_100 : decode cX7_person 100 = .ok (.invokevirtual 195, 3) := by decide +kernel
theorem dX7_person_103 : decode cX7_person 103 = .ok (.ireturn, 1) := by decide +kernel
theorem dX7_person_104 : decode cX7_person 104 = .ok (.ldc 89, 2) := by decide +kernel
theorem dX7_person_106 : decode cX7_person 106 = .ok (.ireturn, 1) := by decide +kernel
theorem dX7_gains_0 : decode cX7_gains 0 = .ok (.aload_n 0, 1) := by decide +kernel
theorem dX7_gains_1 : decode cX7_gains 1 = .ok (.iload_n 1, 1) := by decide +kernel
theorem dX7_gains_2 : decode cX7_gains 2 = .ok (.invokevirtual 141, 3) := by decide +kernel
theorem dX7_gains_5 : decode cX7_gains 5 = .ok (.ifCond .ne 11, 3) := by decide +kernel
theorem dX7_gains_8 : decode cX7_gains 8 = .ok (.aload_n 0, 1) := by decide +kernel
theorem dX7_gains_9 : decode cX7_gains 9 = .ok (.iload_n 2, 1) := by decide +kernel
theorem dX7_gains_10 : decode cX7_gains 10 = .ok (.invokevirtual 198, 3) := by decide +kernel
theorem dX7_gains_13 : decode cX7_gains 13 = .ok (.ifCond .eq 6, 3) := by decide +kernel
theorem dX7_gains_16 : decode cX7_gains 16 = .ok (.ldc 89, 2) := by decide +kernel
theorem dX7_gains_18 : decode cX7_gains 18 = .ok (.ireturn, 1) := by decide +kernel
theorem dX7_gains_19 : decode cX7_gains 19 = .ok (.iload_n 3, 1) := by decide +kernel
theorem dX7_gains_20 : decode cX7_gains 20 = .ok (.iconst 0, 1) := by decide +kernel
theorem dX7_gains_21 : decode cX7_gains 21 = .ok (.bipush 40, 2) := by decide +kernel
theorem dX7_gains_23 : decode cX7_gains 23 = .ok (.invokestatic 85, 3) := by decide +kernel
theorem dX7_gains_26 : decode cX7_gains 26 = .ok (.ifCond .ne 13, 3) := by decide +kernel
theorem dX7_gains_29 : decode cX7_gains 29 = .ok (.iload 4, 2) := by decide +kernel
theorem dX7_gains_31 : decode cX7_gains 31 = .ok (.iconst 0, 1) := by decide +kernel
theorem dX7_gains_32 : decode cX7_gains 32 = .ok (.iconst 2, 1) := by decide +kernel
theorem dX7_gains_33 : decode cX7_gains 33 = .ok (.invokestatic 85, 3) := by decide +kernel
theorem dX7_gains_36 : decode cX7_gains 36 = .ok (.ifCond .eq 6, 3) := by decide +kernel
theorem dX7_gains_39 : decode cX7_gains 39 = .ok (.ldc 89, 2) := by decide +kernel
theorem dX7_gains_41 : decode cX7_gains 41 = .ok (.ireturn, 1) := by decide +kernel
theorem dX7_gains_42 : decode cX7_gains 42 = .ok (.aload_n 0, 1) := by decide +kernel
theorem dX7_gains_43 : decode cX7_gains 43 = .ok (.getfield 67, 3) := by decide +kernel
theorem dX7_gains_46 : decode cX7_gains 46 = .ok (.aload_n 0, 1) := by decide +kernel
theorem dX7_gains_47 : decode cX7_gains 47 = .ok (.getfield 42, 3) := by decide +kernel
theorem dX7_gains_50 : decode cX7_gains 50 = .ok (.aload_n 0, 1) := by decide +kernel
theorem dX7_gains_51 : decode cX7_gains 51 = .ok (.getfield 42, 3) := by decide +kernel
theorem dX7_gains_54 : decode cX7_gains 54 = .ok (.getfield 150, 3) := by decide +kernel
theorem dX7_gains_57 : decode cX7_gains 57 = .ok (.iload_n 1, 1) := by decide +kernel
theorem dX7_gains_58 : decode cX7_gains 58 = .ok (.aaload, 1) := by decide +kernel
theorem dX7_gains_59 : decode cX7_gains 59 = .ok (.invokevirtual 201, 3) := by decide +kernel
theorem dX7_gains_62 : decode cX7_gains 62 = .ok (.aload_n 0, 1) := by decide +kernel
theorem dX7_gains_63 : decode cX7_gains 63 = .ok (.getfield 67, 3) := by decide +kernel
theorem dX7_gains_66 : decode cX7_gains 66 = .ok (.iload_n 3, 1) := by decide +kernel
theorem dX7_gains_67 : decode cX7_gains 67 = .ok (.iload_n 2, 1) := by decide +kernel
theorem dX7_gains_68 : decode cX7_gains 68 = .ok (.invokevirtual 205, 3) := by decide +kernel
theorem dX7_gains_71 : decode cX7_gains 71 = .ok (.lstore 5, 2) := by decide +kernel
theorem dX7_gains_73 : decode cX7_gains 73 = .ok (.iload 4, 2) := by decide +kernel
theorem dX7_gains_75 : decode cX7_gains 75 = .ok (.ifCond .ne 9, 3) := by decide +kernel
theorem dX7_gains_78 : decode cX7_gains 78 = .ok (.lload 5, 2) := by decide +kernel
theorem dX7_gains_80 : decode cX7_gains 80 = .ok (.invokestatic 209, 3) := by decide +kernel
theorem dX7_gains_83 : decode cX7_gains 83 = .ok (.ireturn, 1) := by decide +kernel
theorem dX7_gains_84 : decode cX7_gains 84 = .ok (.lload 5, 2) := by decide +kernel
theorem dX7_gains_86 : decode cX7_gains 86 = .ok (.lconst 0, 1) := by decide +kernel
theorem dX7_gains_87 : decode cX7_gains 87 = .ok (.lcmp, 1) := by decide +kernel
theorem dX7_gains_88 : decode cX7_gains 88 = .ok (.ifCond .ne 6, 3) := by decide +kernel
theorem dX7_gains_91 : decode cX7_gains 91 = .ok (.ldc 215, 2) := by decide +kernel
theorem dX7_gains_93 : decode cX7_gains 93 = .ok (.ireturn, 1) := by decide +kernel
theorem dX7_gains_94 : decode cX7_gains 94 = .ok (.iload 4, 2) := by decide +kernel
theorem dX7_gains_96 : decode cX7_gains 96 = .ok (.iconst 1, 1) := by decide +kernel
theorem dX7_gains_97 : decode cX7_gains 97 = .ok (.if_icmp .ne 11, 3) := by decide +kernel
theorem dX7_gains_100 : decode cX7_gains 100 = .ok (.lload 5, 2) := by decide +kernel
theorem dX7_gains_102 : decode cX7_gains 102 = .ok (.invokestatic 216, 3) := by decide +kernel
theorem dX7_gains_105 : decode cX7_gains 105 = .ok (.goto 11, 3) := by decide +kernel
theorem dX7_gains_108 : decode cX7_gains 108 = .ok (.bipush 63, 2) := by decide +kernel
theorem dX7_gains_110 : decode cX7_gains 110 = .ok (.lload 5, 2) := by decide +kernel
theorem dX7_gains_112 : decode cX7_gains 112 = .ok (.invokestatic 219, 3) := by decide +kernel
theorem dX7_gains_115 : decode cX7_gains 115 = .ok (.isub, 1) := by decide +kernel
theorem dX7_gains_116 : decode cX7_gains 116 = .ok (.ireturn, 1) := by decide +kernel
theorem dX7_soonest_0 : decode cX7_soonest 0 = .ok (.aload_n 0, 1) := by decide +kernel
theorem dX7_soonest_1 : decode cX7_soonest 1 = .ok (.iload_n 1, 1) := by decide +kernel
theorem dX7_soonest_2 : decode cX7_soonest 2 = .ok (.invokevirtual 141, 3) := by decide +kernel
theorem dX7_soonest_5 : decode cX7_soonest 5 = .ok (.ifCond .ne 21, 3) := by decide +kernel
theorem dX7_soonest_8 : decode cX7_soonest 8 = .ok (.aload_n 0, 1) := by decide +kernel
theorem dX7_soonest_9 : decode cX7_soonest 9 = .ok (.iload_n 2, 1) := by decide +kernel
theorem dX7_soonest_10 : decode cX7_soonest 10 = .ok (.invokevirtual 198, 3) := by decide +kernel
theorem dX7_soonest_13 : decode cX7_soonest 13 = .ok (.ifCond .ne 13, 3) := by decide +kernel
theorem dX7_soonest_16 : decode cX7_soonest 16 = .ok (.iload_n 3, 1) := by decide +kernel
theorem dX7_soonest_17 : decode cX7_soonest 17 = .ok (.iconst 0, 1) := by decide +kernel
theorem dX7_soonest_18 : decode cX7_soonest 18 = .ok (.bipush 40, 2) := by decide +kernel
theorem dX7_soonest_20 : decode cX7_soonest 20 = .ok (.invokestatic 85, 3) := by decide +kernel
theorem dX7_soonest_23 : decode cX7_soonest 23 = .ok (.ifCond .eq 6, 3) := by decide +kernel
theorem dX7_soonest_26 : decode cX7_soonest 26 = .ok (.ldc 89, 2) := by decide +kernel
theorem dX7_soonest_28 : decode cX7_soonest 28 = .ok (.ireturn, 1) := by decide +kernel
theorem dX7_soonest_29 : decode cX7_soonest 29 = .ok (.aload_n 0, 1) := by decide +kernel
theorem dX7_soonest_30 : decode cX7_soonest 30 = .ok (.getfield 67, 3) := by decide +kernel
theorem dX7_soonest_33 : decode cX7_soonest 33 = .ok (.aload_n 0, 1) := by decide +kernel
theorem dX7_soonest_34 : decode cX7_soonest 34 = .ok (.getfield 42, 3) := by decide +kernel
theorem dX7_soonest_37 : decode cX7_soonest 37 = .ok (.aload_n 0, 1) := by decide +kernel
theorem dX7_soonest_38 : decode cX7_soonest 38 = .ok (.getfield 42, 3) := by decide +kernel
theorem dX7_soonest_41 : decode cX7_soonest 41 = .ok (.getfield 150, 3) := by decide +kernel
theorem dX7_soonest_44 : decode cX7_soonest 44 = .ok (.iload_n 1, 1) := by decide +kernel
theorem dX7_soonest_45 : decode cX7_soonest 45 = .ok (.aaload, 1) := by decide +kernel
theorem dX7_soonest_46 : decode cX7_soonest 46 = .ok (.invokevirtual 201, 3) := by decide +kernel
theorem dX7_soonest_49 : decode cX7_soonest 49 = .ok (.iconst 0, 1) := by decide +kernel
theorem dX7_soonest_50 : decode cX7_soonest 50 = .ok (.istore 4, 2) := by decide +kernel
theorem dX7_soonest_52 : decode cX7_soonest 52 = .ok (.iload 4, 2) := by decide +kernel
theorem dX7_soonest_54 : decode cX7_soonest 54 = .ok (.bipush 40, 2) := by decide +kernel
theorem dX7_soonest_56 : decode cX7_soonest 56 = .ok (.if_icmp .gt 26, 3) := by decide +kernel
theorem dX7_soonest_59 : decode cX7_soonest 59 = .ok (.aload_n 0, 1) := by decide +kernel
theorem dX7_soonest_60 : decode cX7_soonest 60 = .ok (.getfield 67, 3) := by decide +kernel
theorem dX7_soonest_63 : decode cX7_soonest 63 = .ok (.iload 4, 2) := by decide +kernel
theorem dX7_soonest_65 : decode cX7_soonest 65 = .ok (.iload_n 2, 1) := by decide +kernel
theorem dX7_soonest_66 : decode cX7_soonest 66 = .ok (.iload_n 3, 1) := by decide +kernel
theorem dX7_soonest_67 : decode cX7_soonest 67 = .ok (.invokevirtual 222, 3) := by decide +kernel
theorem dX7_soonest_70 : decode cX7_soonest 70 = .ok (.ifCond .eq 6, 3) := by decide +kernel
theorem dX7_soonest_73 : decode cX7_soonest 73 = .ok (.iload 4, 2) := by decide +kernel
theorem dX7_soonest_75 : decode cX7_soonest 75 = .ok (.ireturn, 1) := by decide +kernel
theorem dX7_soonest_76 : decode cX7_soonest 76 = .ok (.iinc 4 1, 3) := by decide +kernel
theorem dX7_soonest_79 : decode cX7_soonest 79 = .ok (.goto (-27), 3) := by decide +kernel
theorem dX7_soonest_82 : decode cX7_soonest 82 = .ok (.ldc 215, 2) := by decide +kernel
theorem dX7_soonest_84 : decode cX7_soonest 84 = .ok (.ireturn, 1) := by decide +kernel
theorem dX7_voyages_0 : decode cX7_voyages 0 = .ok (.aload_n 0, 1) := by decide +kernel
theorem dX7_voyages_1 : decode cX7_voyages 1 = .ok (.iload_n 1, 1) := by decide +kernel
theorem dX7_voyages_2 : decode cX7_voyages 2 = .ok (.invokevirtual 141, 3) := by decide +kernel
theorem dX7_voyages_5 : decode cX7_voyages 5 = .ok (.ifCond .ne 11, 3) := by decide +kernel
theorem dX7_voyages_8 : decode cX7_voyages 8 = .ok (.aload_n 0, 1) := by decide +kernel
theorem dX7_voyages_9 : decode cX7_voyages 9 = .ok (.iload_n 2, 1) := by decide +kernel
theorem dX7_voyages_10 : decode cX7_voyages 10 = .ok (.invokevirtual 198, 3) := by decide +kernel
theorem dX7_voyages_13 : decode cX7_voyages 13 = .ok (.ifCond .eq 6, 3) := by decide +kernel
theorem dX7_voyages_16 : decode cX7_voyages 16 = .ok (.ldc 89, 2) := by decide +kernel
theorem dX7_voyages_18 : decode cX7_voyages 18 = .ok (.ireturn, 1) := by decide +kernel
theorem dX7_voyages_19 : decode cX7_voyages 19 = .ok (.aload_n 0, 1) := by decide +kernel
theorem dX7_voyages_20 : decode cX7_voyages 20 = .ok (.getfield 42, 3) := by decide +kernel
theorem dX7_voyages_23 : decode cX7_voyages 23 = .ok (.getfield 150, 3) := by decide +kernel
theorem dX7_voyages_26 : decode cX7_voyages 26 = .ok (.iload_n 1, 1) := by decide +kernel
theorem dX7_voyages_27 : decode cX7_voyages 27 = .ok (.aaload, 1) := by decide +kernel
theorem dX7_voyages_28 : decode cX7_voyages 28 = .ok (.astore_n 3, 1) := by decide +kernel
theorem dX7_voyages_29 : decode cX7_voyages 29 = .ok (.iconst 1, 1) := by decide +kernel
theorem dX7_voyages_30 : decode cX7_voyages 30 = .ok (.aload_n 3, 1) := by decide +kernel
theorem dX7_voyages_31 : decode cX7_voyages 31 = .ok (.getfield 154, 3) := by decide +kernel
theorem dX7_voyages_34 : decode cX7_voyages 34 = .ok (.ishl, 1) := by decide +kernel
theorem dX7_voyages_35 : decode cX7_voyages 35 = .ok (.istore 4, 2) := by decide +kernel
theorem dX7_voyages_37 : decode cX7_voyages 37 = .ok (.iconst 0, 1) := by decide +kernel
theorem dX7_voyages_38 : decode cX7_voyages 38 = .ok (.istore 5, 2) := by decide +kernel
theorem dX7_voyages_40 : decode cX7_voyages 40 = .ok (.iload 5, 2) := by decide +kernel
theorem dX7_voyages_42 : decode cX7_voyages 42 = .ok (.iconst 5, 1) := by decide +kernel
theorem dX7_voyages_43 : decode cX7_voyages 43 = .ok (.if_icmp .ge 34, 3) := by decide +kernel
theorem dX7_voyages_46 : decode cX7_voyages 46 = .ok (.iload 4, 2) := by decide +kernel
theorem dX7_voyages_48 : decode cX7_voyages 48 = .ok (.iload_n 2, 1) := by decide +kernel
theorem dX7_voyages_49 : decode cX7_voyages 49 = .ok (.ishr, 1) := by decide +kernel
theorem dX7_voyages_50 : decode cX7_voyages 50 = .ok (.iconst 1, 1) := by decide +kernel
theorem dX7_voyages_51 : decode cX7_voyages 51 = .ok (.iand, 1) := by decide +kernel
theorem dX7_voyages_52 : decode cX7_voyages 52 = .ok (.iconst 1, 1) := by decide +kernel
theorem dX7_voyages_53 : decode cX7_voyages 53 = .ok (.if_icmp .ne 6, 3) := by decide +kernel
theorem dX7_voyages_56 : decode cX7_voyages 56 = .ok (.iload 5, 2) := by decide +kernel
theorem dX7_voyages_58 : decode cX7_voyages 58 = .ok (.ireturn, 1) := by decide +kernel
theorem dX7_voyages_59 : decode cX7_voyages 59 = .ok (.aload_n 0, 1) := by decide +kernel
theorem dX7_voyages_60 : decode cX7_voyages 60 = .ok (.getfield 42, 3) := by decide +kernel
theorem dX7_voyages_63 : decode cX7_voyages 63 = .ok (.aload_n 3, 1) := by decide +kernel
theorem dX7_voyages_64 : decode cX7_voyages 64 = .ok (.iload 4, 2) := by decide +kernel
theorem dX7_voyages_66 : decode cX7_voyages 66 = .ok (.invokevirtual 225, 3) := by decide +kernel
theorem dX7_voyages_69 : decode cX7_voyages 69 = .ok (.istore 4, 2) := by decide +kernel
theorem dX7_voyages_71 : decode cX7_voyages 71 = .ok (.iinc 5 1, 3) := by decide +kernel
theorem dX7_voyages_74 : decode cX7_voyages 74 = .ok (.goto (-34), 3) := by decide +kernel
theorem dX7_voyages_77 : decode cX7_voyages 77 = .ok (.ldc 215, 2) := by decide +kernel
theorem dX7_voyages_79 : decode cX7_voyages 79 = .ok (.ireturn, 1) := by decide +kernel
theorem dX7_even_0 : decode cX7_even 0 = .ok (.aload_n 0, 1) := by decide +kernel
theorem dX7_even_1 : decode cX7_even 1 = .ok (.iload_n 1, 1) := by decide +kernel
theorem dX7_even_2 : decode cX7_even 2 = .ok (.invokevirtual 141, 3) := by decide +kernel
theorem dX7_even_5 : decode cX7_even 5 = .ok (.ifCond .ne 24, 3) := by decide +kernel
theorem dX7_even_8 : decode cX7_even 8 = .ok (.aload_n 0, 1) := by decide +kernel
theorem dX7_even_9 : decode cX7_even 9 = .ok (.iload_n 2, 1) := by decide +kernel
theorem dX7_even_10 : decode cX7_even 10 = .ok (.invokevirtual 141, 3) := by decide +kernel
theorem dX7_even_13 : decode cX7_even 13 = .ok (.ifCond .ne 16, 3) := by decide +kernel
theorem dX7_even_16 : decode cX7_even 16 = .ok (.iload_n 1, 1) := by decide +kernel
theorem dX7_even_17 : decode cX7_even 17 = .ok (.iload_n 2, 1) := by decide +kernel
theorem dX7_even_18 : decode cX7_even 18 = .ok (.if_icmp .eq 11, 3) := by decide +kernel
theorem dX7_even_21 : decode cX7_even 21 = .ok (.aload_n 0, 1) := by decide +kernel
theorem dX7_even_22 : decode cX7_even 22 = .ok (.iload_n 3, 1) := by decide +kernel
theorem dX7_even_23 : decode cX7_even 23 = .ok (.invokevirtual 198, 3) := by decide +kernel
theorem dX7_even_26 : decode cX7_even 26 = .ok (.ifCond .eq 6, 3) := by decide +kernel
theorem dX7_even_29 : decode cX7_even 29 = .ok (.ldc 89, 2) := by decide +kernel
theorem dX7_even_31 : decode cX7_even 31 = .ok (.ireturn, 1) := by decide +kernel
theorem dX7_even_32 : decode cX7_even 32 = .ok (.aload_n 0, 1) := by decide +kernel
theorem dX7_even_33 : decode cX7_even 33 = .ok (.getfield 42, 3) := by decide +kernel
theorem dX7_even_36 : decode cX7_even 36 = .ok (.getfield 150, 3) := by decide +kernel
theorem dX7_even_39 : decode cX7_even 39 = .ok (.iload_n 1, 1) := by decide +kernel
theorem dX7_even_40 : decode cX7_even 40 = .ok (.aaload, 1) := by decide +kernel
theorem dX7_even_41 : decode cX7_even 41 = .ok (.astore 4, 2) := by decide +kernel
theorem dX7_even_43 : decode cX7_even 43 = .ok (.aload_n 0, 1) := by decide +kernel
theorem dX7_even_44 : decode cX7_even 44 = .ok (.getfield 42, 3) := by decide +kernel
theorem dX7_even_47 : decode cX7_even 47 = .ok (.getfield 150, 3) := by decide +kernel
theorem dX7_even_50 : decode cX7_even 50 = .ok (.iload_n 2, 1) := by decide +kernel
theorem dX7_even_51 : decode cX7_even 51 = .ok (.aaload, 1) := by decide +kernel
theorem dX7_even_52 : decode cX7_even 52 = .ok (.astore 5, 2) := by decide +kernel
theorem dX7_even_54 : decode cX7_even 54 = .ok (.aload_n 0, 1) := by decide +kernel
theorem dX7_even_55 : decode cX7_even 55 = .ok (.getfield 67, 3) := by decide +kernel
theorem dX7_even_58 : decode cX7_even 58 = .ok (.aload_n 0, 1) := by decide +kernel
theorem dX7_even_59 : decode cX7_even 59 = .ok (.getfield 42, 3) := by decide +kernel
theorem dX7_even_62 : decode cX7_even 62 = .ok (.aload 4, 2) := by decide +kernel
theorem dX7_even_64 : decode cX7_even 64 = .ok (.invokevirtual 201, 3) := by decide +kernel
theorem dX7_even_67 : decode cX7_even 67 = .ok (.aload_n 0, 1) := by decide +kernel
theorem dX7_even_68 : decode cX7_even 68 = .ok (.getfield 71, 3) := by decide +kernel
theorem dX7_even_71 : decode cX7_even 71 = .ok (.aload_n 0, 1) := by decide +kernel
theorem dX7_even_72 : decode cX7_even 72 = .ok (.getfield 42, 3) := by decide +kernel
theorem dX7_even_75 : decode cX7_even 75 = .ok (.aload 5, 2) := by decide +kernel
theorem dX7_even_77 : decode cX7_even 77 = .ok (.invokevirtual 201, 3) := by decide +kernel
theorem dX7_even_80 : decode cX7_even 80 = .ok (.aload 4, 2) := by decide +kernel
theorem dX7_even_82 : decode cX7_even 82 = .ok (.getfield 169, 3) := by decide +kernel
theorem dX7_even_85 : decode cX7_even 85 = .ok (.aload 4, 2) := by decide +kernel
theorem dX7_even_87 : decode cX7_even 87 = .ok (.getfield 159, 3) := by decide +kernel
theorem dX7_even_90 : decode cX7_even 90 = .ok (.isub, 1) := by decide +kernel
theorem dX7_even_91 : decode cX7_even 91 = .ok (.aload 5, 2) := by decide +kernel
theorem dX7_even_93 : decode cX7_even 93 = .ok (.getfield 169, 3) := by decide +kernel
theorem dX7_even_96 : decode cX7_even 96 = .ok (.aload 5, 2) := by decide +kernel
theorem dX7_even_98 : decode cX7_even 98 = .ok (.getfield 159, 3) := by decide +kernel
theorem dX7_even_101 : decode cX7_even 101 = .ok (.isub, 1) := by decide +kernel
theorem dX7_even_102 : decode cX7_even 102 = .ok (.isub, 1) := by decide +kernel
theorem dX7_even_103 : decode cX7_even 103 = .ok (.istore 6, 2) := by decide +kernel
theorem dX7_even_105 : decode cX7_even 105 = .ok (.aload 4, 2) := by decide +kernel
theorem dX7_even_107 : decode cX7_even 107 = .ok (.getfield 159, 3) := by decide +kernel
theorem dX7_even_110 : decode cX7_even 110 = .ok (.aload 5, 2) := by decide +kernel
theorem dX7_even_112 : decode cX7_even 112 = .ok (.getfield 159, 3) := by decide +kernel
theorem dX7_even_115 : decode cX7_even 115 = .ok (.invokestatic 229, 3) := by decide +kernel
theorem dX7_even_118 : decode cX7_even 118 = .ok (.bipush 40, 2) := by decide +kernel
theorem dX7_even_120 : decode cX7_even 120 = .ok (.iadd, 1) := by decide +kernel
theorem dX7_even_121 : decode cX7_even 121 = .ok (.istore 7, 2) := by decide +kernel
theorem dX7_even_123 : decode cX7_even 123 = .ok (.aload 4, 2) := by decide +kernel
theorem dX7_even_125 : decode cX7_even 125 = .ok (.getfield 159, 3) := by decide +kernel
theorem dX7_even_128 : decode cX7_even 128 = .ok (.aload 5, 2) := by decide +kernel
theorem dX7_even_130 : decode cX7_even 130 = .ok (.getfield 159, 3) := by decide +kernel
theorem dX7_even_133 : decode cX7_even 133 = .ok (.invokestatic 173, 3) := by decide +kernel
theorem dX7_even_136 : decode cX7_even 136 = .ok (.istore 8, 2) := by decide +kernel
theorem dX7_even_138 : decode cX7_even 138 = .ok (.iload 8, 2) := by decide +kernel
theorem dX7_even_140 : decode cX7_even 140 = .ok (.iload 7, 2) := by decide +kernel
theorem dX7_even_142 : decode cX7_even 142 = .ok (.if_icmp .gt 60, 3) := by decide +kernel
theorem dX7_even_145 : decode cX7_even 145 = .ok (.aload_n 0, 1) := by decide +kernel
theorem dX7_even_146 : decode cX7_even 146 = .ok (.getfield 67, 3) := by decide +kernel
theorem dX7_even_149 : decode cX7_even 149 = .ok (.iload 8, 2) := by decide +kernel
theorem dX7_even_151 : decode cX7_even 151 = .ok (.aload 4, 2) := by decide +kernel
theorem dX7_even_153 : decode cX7_even 153 = .ok (.getfield 159, 3) := by decide +kernel
theorem dX7_even_156 : decode cX7_even 156 = .ok (.isub, 1) := by decide +kernel
theorem dX7_even_157 : decode cX7_even 157 = .ok (.iload_n 3, 1) := by decide +kernel
theorem dX7_even_158 : decode cX7_even 158 = .ok (.invokevirtual 205, 3) := by decide +kernel
theorem dX7_even_161 : decode cX7_even 161 = .ok (.lstore 9, 2) := by decide +kernel
theorem dX7_even_163 : decode cX7_even 163 = .ok (.aload_n 0, 1) := by decide +kernel
theorem dX7_even_164 : decode cX7_even 164 = .ok (.getfield 71, 3) := by decide +kernel
theorem dX7_even_167 : decode cX7_even 167 = .ok (.iload 8, 2) := by decide +kernel
theorem dX7_even_169 : decode cX7_even 169 = .ok (.aload 5, 2) := by decide +kernel
theorem dX7_even_171 : decode cX7_even 171 = .ok (.getfield 159, 3) := by decide +kernel
theorem dX7_even_174 : decode cX7_even 174 = .ok (.isub, 1) := by decide +kernel
theorem dX7_even_175 : decode cX7_even 175 = .ok (.iload_n 3, 1) := by decide +kernel
theorem dX7_even_176 : decode cX7_even 176 = .ok (.invokevirtual 205, 3) := by decide +kernel
theorem dX7_even_179 : decode cX7_even 179 = .ok (.lstore 11, 2) := by decide +kernel
theorem dX7_even_181 : decode cX7_even 181 = .ok (.lload 9, 2) := by decide +kernel
theorem dX7_even_183 : decode cX7_even 183 = .ok (.lload 11, 2) := by decide +kernel
theorem dX7_even_185 : decode cX7_even 185 = .ok (.iload 6, 2) := by decide +kernel
theorem dX7_even_187 : decode cX7_even 187 = .ok (.invokestatic 232, 3) := by decide +kernel
theorem dX7_even_190 : decode cX7_even 190 = .ok (.ifCond .eq 6, 3) := by decide +kernel
theorem dX7_even_193 : decode cX7_even 193 = .ok (.iload 8, 2) := by decide +kernel
theorem dX7_even_195 : decode cX7_even 195 = .ok (.ireturn, 1) := by decide +kernel
theorem dX7_even_196 : decode cX7_even 196 = .ok (.iinc 8 1, 3) := by decide +kernel
theorem dX7_even_199 : decode cX7_even 199 = .ok (.goto (-61), 3) := by decide +kernel
theorem dX7_even_202 : decode cX7_even 202 = .ok (.ldc 215, 2) := by decide +kernel
theorem dX7_even_204 : decode cX7_even 204 = .ok (.ireturn, 1) := by decide +kernel
theorem dX7_where_0 : decode cX7_where 0 = .ok (.aload_n 0, 1) := by decide +kernel
theorem dX7_where_1 : decode cX7_where 1 = .ok (.iload_n 1, 1) := by decide +kernel
theorem dX7_where_2 : decode cX7_where 2 = .ok (.invokevirtual 141, 3) := by decide +kernel
theorem dX7_where_5 : decode cX7_where 5 = .ok (.ifCond .ne 25, 3) := by decide +kernel
theorem dX7_where_8 : decode cX7_where 8 = .ok (.iload_n 2, 1) := by decide +kernel
theorem dX7_where_9 : decode cX7_where 9 = .ok (.iconst 0, 1) := by decide +kernel
theorem dX7_where_10 : decode cX7_where 10 = .ok (.sipush 200, 3) := by decide +kernel
theorem dX7_where_13 : decode cX7_where 13 = .ok (.invokestatic 85, 3) := by decide +kernel
theorem dX7_where_16 : decode cX7_where 16 = .ok (.ifCond .ne 14, 3) := by decide +kernel
theorem dX7_where_19 : decode cX7_where 19 = .ok (.iload_n 3, 1) := by decide +kernel
theorem dX7_where_20 : decode cX7_where 20 = .ok (.iconst 0, 1) := by decide +kernel
theorem dX7_where_21 : decode cX7_where 21 = .ok (.sipush 399, 3) := by decide +kernel
theorem dX7_where_24 : decode cX7_where 24 = .ok (.invokestatic 85, 3) := by decide +kernel
theorem dX7_where_27 : decode cX7_where 27 = .ok (.ifCond .eq 6, 3) := by decide +kernel
theorem dX7_where_30 : decode cX7_where 30 = .ok (.ldc 89, 2) := by decide +kernel
theorem dX7_where_32 : decode cX7_where 32 = .ok (.ireturn, 1) := by decide +kernel
theorem dX7_where_33 : decode cX7_where 33 = .ok (.aload_n 0, 1) := by decide +kernel
theorem dX7_where_34 : decode cX7_where 34 = .ok (.getfield 42, 3) := by decide +kernel
theorem dX7_where_37 : decode cX7_where 37 = .ok (.getfield 150, 3) := by decide +kernel
theorem dX7_where_40 : decode cX7_where 40 = .ok (.iload_n 1, 1) := by decide +kernel
theorem dX7_where_41 : decode cX7_where 41 = .ok (.aaload, 1) := by decide +kernel
theorem dX7_where_42 : decode cX7_where 42 = .ok (.astore 4, 2) := by decide +kernel
theorem dX7_where_44 : decode cX7_where 44 = .ok (.iload_n 2, 1) := by decide +kernel
theorem dX7_where_45 : decode cX7_where 45 = .ok (.aload 4, 2) := by decide +kernel
theorem dX7_where_47 : decode cX7_where 47 = .ok (.getfield 159, 3) := by decide +kernel
theorem dX7_where_50 : decode cX7_where 50 = .ok (.isub, 1) := by decide +kernel
theorem dX7_where_51 : decode cX7_where 51 = .ok (.istore 5, 2) := by decide +kernel
theorem dX7_where_53 : decode cX7_where 53 = .ok (.aload 4, 2) := by decide +kernel
theorem dX7_where_55 : decode cX7_where 55 = .ok (.getfield 169, 3) := by decide +kernel
theorem dX7_where_58 : decode cX7_where 58 = .ok (.iload 5, 2) := by decide +kernel
theorem dX7_where_60 : decode cX7_where 60 = .ok (.iadd, 1) := by decide +kernel
theorem dX7_where_61 : decode cX7_where 61 = .ok (.iload_n 3, 1) := by decide +kernel
theorem dX7_where_62 : decode cX7_where 62 = .ok (.isub, 1) := by decide +kernel
theorem dX7_where_63 : decode cX7_where 63 = .ok (.istore 6, 2) := by decide +kernel
theorem dX7_where_65 : decode cX7_where 65 = .ok (.aload_n 0, 1) := by decide +kernel
theorem dX7_where_66 : decode cX7_where 66 = .ok (.getfield 67, 3) := by decide +kernel
theorem dX7_where_69 : decode cX7_where 69 = .ok (.aload_n 0, 1) := by decide +kernel
theorem dX7_where_70 : decode cX7_where 70 = .ok (.getfield 42, 3) := by decide +kernel
theorem dX7_where_73 : decode cX7_where 73 = .ok (.aload 4, 2) := by decide +kernel
theorem dX7_where_75 : decode cX7_where 75 = .ok (.invokevirtual 201, 3) := by decide +kernel
theorem dX7_where_78 : decode cX7_where 78 = .ok (.iconst 0, 1) := by decide +kernel
theorem dX7_where_79 : decode cX7_where 79 = .ok (.istore 7, 2) := by decide +kernel
theorem dX7_where_81 : decode cX7_where 81 = .ok (.iconst 0, 1) := by decide +kernel
theorem dX7_where_82 : decode cX7_where 82 = .ok (.istore 8, 2) := by decide +kernel
theorem dX7_where_84 : decode cX7_where 84 = .ok (.iload 8, 2) := by decide +kernel
theorem dX7_where_86 : decode cX7_where 86 = .ok (.aload_n 0, 1) := by decide +kernel
theorem dX7_where_87 : decode cX7_where 87 = .ok (.getfield 42, 3) := by decide +kernel
theorem dX7_where_90 : decode cX7_where 90 = .ok (.getfield 236, 3) := by decide +kernel
theorem dX7_where_93 : decode cX7_where 93 = .ok (.if_icmp .ge 34, 3) := by decide +kernel
theorem dX7_where_96 : decode cX7_where 96 = .ok (.aload_n 0, 1) := by decide +kernel
theorem dX7_where_97 : decode cX7_where 97 = .ok (.getfield 67, 3) := by decide +kernel
theorem dX7_where_100 : decode cX7_where 100 = .ok (.iload 5, 2) := by decide +kernel
theorem dX7_where_102 : decode cX7_where 102 = .ok (.iload 8, 2) := by decide +kernel
theorem dX7_where_104 : decode cX7_where 104 = .ok (.iload 6, 2) := by decide +kernel
theorem dX7_where_106 : decode cX7_where 106 = .ok (.invokevirtual 222, 3) := by decide +kernel
theorem dX7_where_109 : decode cX7_where 109 = .ok (.ifCond .eq 12, 3) := by decide +kernel
theorem dX7_where_112 : decode cX7_where 112 = .ok (.iload 7, 2) := by decide +kernel
theorem dX7_where_114 : decode cX7_where 114 = .ok (.iconst 1, 1) := by decide +kernel
theorem dX7_where_115 : decode cX7_where 115 = .ok (.iload 8, 2) := by decide +kernel
theorem dX7_where_117 : decode cX7_where 117 = .ok (.ishl, 1) := by decide +kernel
theorem dX7_where_118 : decode cX7_where 118 = .ok (.ior, 1) := by decide +kernel
theorem dX7_where_119 : decode cX7_where 119 = .ok (.istore 7, 2) := by decide +kernel
theorem dX7_where_121 : decode cX7_where 121 = .ok (.iinc 8 1, 3) := by decide +kernel
theorem dX7_where_124 : decode cX7_where 124 = .ok (.goto (-40), 3) := by decide +kernel
theorem dX7_where_127 : decode cX7_where 127 = .ok (.iload 7, 2) := by decide +kernel
theorem dX7_where_129 : decode cX7_where 129 = .ok (.ireturn, 1) := by decide +kernel
theorem dX7_gone_0 : decode cX7_gone 0 = .ok (.aload_n 0, 1) := by decide +kernel
theorem dX7_gone_1 : decode cX7_gone 1 = .ok (.iload_n 1, 1) := by decide +kernel
theorem dX7_gone_2 : decode cX7_gone 2 = .ok (.invokevirtual 141, 3) := by decide +kernel
theorem dX7_gone_5 : decode cX7_gone 5 = .ok (.ifCond .eq 6, 3) := by decide +kernel
theorem dX7_gone_8 : decode cX7_gone 8 = .ok (.ldc 89, 2) := by decide +kernel
theorem dX7_gone_10 : decode cX7_gone 10 = .ok (.ireturn, 1) := by decide +kernel
theorem dX7_gone_11 : decode cX7_gone 11 = .ok (.aload_n 0, 1) := by decide +kernel
theorem dX7_gone_12 : decode cX7_gone 12 = .ok (.getfield 42, 3) := by decide +kernel
theorem dX7_gone_15 : decode cX7_gone 15 = .ok (.getfield 150, 3) := by decide +kernel
theorem dX7_gone_18 : decode cX7_gone 18 = .ok (.iload_n 1, 1) := by decide +kernel
theorem dX7_gone_19 : decode cX7_gone 19 = .ok (.aaload, 1) := by decide +kernel
theorem dX7_gone_20 : decode cX7_gone 20 = .ok (.astore_n 2, 1) := by decide +kernel
theorem dX7_gone_21 : decode cX7_gone 21 = .ok (.aload_n 2, 1) := by decide +kernel
theorem dX7_gone_22 : decode cX7_gone 22 = .ok (.aload_n 0, 1) := by decide +kernel
theorem dX7_gone_23 : decode cX7_gone 23 = .ok (.getfield 42, 3) := by decide +kernel
theorem dX7_gone_26 : decode cX7_gone 26 = .ok (.getfield 178, 3) := by decide +kernel
theorem dX7_gone_29 : decode cX7_gone 29 = .ok (.invokevirtual 181, 3) := by decide +kernel
theorem dX7_gone_32 : decode cX7_gone 32 = .ok (.aload_n 2, 1) := by decide +kernel
theorem dX7_gone_33 : decode cX7_gone 33 = .ok (.aload_n 0, 1) := by decide +kernel
theorem dX7_gone_34 : decode cX7_gone 34 = .ok (.getfield 42, 3) := by decide +kernel
theorem dX7_gone_37 : decode cX7_gone 37 = .ok (.getfield 178, 3) := by decide +kernel
theorem dX7_gone_40 : decode cX7_gone 40 = .ok (.invokevirtual 195, 3) := by decide +kernel
theorem dX7_gone_43 : decode cX7_gone 43 = .ok (.isub, 1) := by decide +kernel
theorem dX7_gone_44 : decode cX7_gone 44 = .ok (.ireturn, 1) := by decide +kernel
theorem dX7_eldest_0 : decode cX7_eldest 0 = .ok (.aload_n 0, 1) := by decide +kernel
theorem dX7_eldest_1 : decode cX7_eldest 1 = .ok (.getfield 35, 3) := by decide +kernel
theorem dX7_eldest_4 : decode cX7_eldest 4 = .ok (.ifCond .ne 6, 3) := by decide +kernel
theorem dX7_eldest_7 : decode cX7_eldest 7 = .ok (.ldc 172, 2) := by decide +kernel
theorem dX7_eldest_9 : decode cX7_eldest 9 = .ok (.ireturn, 1) := by decide +kernel
theorem dX7_eldest_10 : decode cX7_eldest 10 = .ok (.iload_n 1, 1) := by decide +kernel
theorem dX7_eldest_11 : decode cX7_eldest 11 = .ok (.iconst 0, 1) := by decide +kernel
theorem dX7_eldest_12 : decode cX7_eldest 12 = .ok (.iconst 1, 1) := by decide +kernel
theorem dX7_eldest_13 : decode cX7_eldest 13 = .ok (.invokestatic 85, 3) := by decide +kernel
theorem dX7_eldest_16 : decode cX7_eldest 16 = .ok (.ifCond .eq 6, 3) := by decide +kernel
theorem dX7_eldest_19 : decode cX7_eldest 19 = .ok (.ldc 89, 2) := by decide +kernel
theorem dX7_eldest_21 : decode cX7_eldest 21 = .ok (.ireturn, 1) := by decide +kernel
theorem dX7_eldest_22 : decode cX7_eldest 22 = .ok (.ldc 215, 2) := by decide +kernel
theorem dX7_eldest_24 : decode cX7_eldest 24 = .ok (.istore_n 2, 1) := by decide +kernel
theorem dX7_eldest_25 : decode cX7_eldest 25 = .ok (.iconst (-1), 1) := by decide +kernel
theorem dX7_eldest_26 : decode cX7_eldest 26 = .ok (.istore_n 3, 1) := by decide +kernel
theorem dX7_eldest_27 : decode cX7_eldest 27 = .ok (.iconst 0, 1) := by decide +kernel
theorem dX7_eldest_28 : decode cX7_eldest 28 = .ok (.istore 4, 2) := by decide +kernel
theorem dX7_eldest_30 : decode cX7_eldest 30 = .ok (.iload 4, 2) := by decide +kernel
theorem dX7_eldest_32 : decode cX7_eldest 32 = .ok (.aload_n 0, 1) := by decide +kernel
theorem dX7_eldest_33 : decode cX7_eldest 33 = .ok (.getfield 42, 3) := by decide +kernel
theorem dX7_eldest_36 : decode cX7_eldest 36 = .ok (.getfield 138, 3) := by decide +kernel
theorem dX7_eldest_39 : decode cX7_eldest 39 = .ok (.if_icmp .ge 56, 3) := by decide +kernel
theorem dX7_eldest_42 : decode cX7_eldest 42 = .ok (.iload_n 1, 1) := by decide +kernel
theorem dX7_eldest_43 : decode cX7_eldest 43 = .ok (.ifCond .ne 19, 3) := by decide +kernel
theorem dX7_eldest_46 : decode cX7_eldest 46 = .ok (.aload_n 0, 1) := by decide +kernel
theorem dX7_eldest_47 : decode cX7_eldest 47 = .ok (.getfield 42, 3) := by decide +kernel
theorem dX7_eldest_50 : decode cX7_eldest 50 = .ok (.getfield 150, 3) := by decide +kernel
theorem dX7_eldest_53 : decode cX7_eldest 53 = .ok (.iload 4, 2) := by decide +kernel
theorem dX7_eldest_55 : decode cX7_eldest 55 = .ok (.aaload, 1) := by decide +kernel
theorem dX7_eldest_56 : decode cX7_eldest 56 = .ok (.getfield 169, 3) := by decide +kernel
theorem dX7_eldest_59 : decode cX7_eldest 59 = .ok (.goto 16, 3) := by decide +kernel
theorem dX7_eldest_62 : decode cX7_eldest 62 = .ok (.aload_n 0, 1) := by decide +kernel
theorem dX7_eldest_63 : decode cX7_eldest 63 = .ok (.getfield 42, 3) := by decide +kernel
theorem dX7_eldest_66 : decode cX7_eldest 66 = .ok (.getfield 150, 3) := by decide +kernel
theorem dX7_eldest_69 : decode cX7_eldest 69 = .ok (.iload 4, 2) := by decide +kernel
theorem dX7_eldest_71 : decode cX7_eldest 71 = .ok (.aaload, 1) := by decide +kernel
theorem dX7_eldest_72 : decode cX7_eldest 72 = .ok (.getfield 239, 3) := by decide +kernel
theorem dX7_eldest_75 : decode cX7_eldest 75 = .ok (.istore 5, 2) := by decide +kernel
theorem dX7_eldest_77 : decode cX7_eldest 77 = .ok (.iload 5, 2) := by decide +kernel
theorem dX7_eldest_79 : decode cX7_eldest 79 = .ok (.iload_n 3, 1) := by decide +kernel
theorem dX7_eldest_80 : decode cX7_eldest 80 = .ok (.if_icmp .le 9, 3) := by decide +kernel
theorem dX7_eldest_83 : decode cX7_eldest 83 = .ok (.iload 5, 2) := by decide +kernel
theorem dX7_eldest_85 : decode cX7_eldest 85 = .ok (.istore_n 3, 1) := by decide +kernel
theorem dX7_eldest_86 : decode cX7_eldest 86 = .ok (.iload 4, 2) := by decide +kernel
theorem dX7_eldest_88 : decode cX7_eldest 88 = .ok (.istore_n 2, 1) := by decide +kernel
theorem dX7_eldest_89 : decode cX7_eldest 89 = .ok (.iinc 4 1, 3) := by decide +kernel
theorem dX7_eldest_92 : decode cX7_eldest 92 = .ok (.goto (-62), 3) := by decide +kernel
theorem dX7_eldest_95 : decode cX7_eldest 95 = .ok (.iload_n 2, 1) := by decide +kernel
theorem dX7_eldest_96 : decode cX7_eldest 96 = .ok (.ireturn, 1) := by decide +kernel
theorem dX7_image_0 : decode cX7_image 0 = .ok (.iload_n 1, 1) := by decide +kernel
theorem dX7_image_1 : decode cX7_image 1 = .ok (.iconst 0, 1) := by decide +kernel
theorem dX7_image_2 : decode cX7_image 2 = .ok (.iconst 1, 1) := by decide +kernel
theorem dX7_image_3 : decode cX7_image 3 = .ok (.invokestatic 85, 3) := by decide +kernel
theorem dX7_image_6 : decode cX7_image 6 = .ok (.ifCond .eq 6, 3) := by decide +kernel
theorem dX7_image_9 : decode cX7_image 9 = .ok (.ldc 89, 2) := by decide +kernel
theorem dX7_image_11 : decode cX7_image 11 = .ok (.ireturn, 1) := by decide +kernel
theorem dX7_image_12 : decode cX7_image 12 = .ok (.aload_n 0, 1) := by decide +kernel
theorem dX7_image_13 : decode cX7_image 13 = .ok (.getfield 35, 3) := by decide +kernel
theorem dX7_image_16 : decode cX7_image 16 = .ok (.ifCond .ne 6, 3) := by decide +kernel
theorem dX7_image_19 : decode cX7_image 19 = .ok (.ldc 172, 2) := by decide +kernel
theorem dX7_image_21 : decode cX7_image 21 = .ok (.ireturn, 1) := by decide +kernel
theorem dX7_image_22 : decode cX7_image 22 = .ok (.aload_n 0, 1) := by decide +kernel
theorem dX7_image_23 : decode cX7_image 23 = .ok (.getfield 49, 3) := by decide +kernel
theorem dX7_image_26 : decode cX7_image 26 = .ok (.iload_n 1, 1) := by decide +kernel
theorem dX7_image_27 : decode cX7_image 27 = .ok (.aaload, 1) := by decide +kernel
theorem dX7_image_28 : decode cX7_image 28 = .ok (.aload_n 0, 1) := by decide +kernel
theorem dX7_image_29 : decode cX7_image 29 = .ok (.getfield 42, 3) := by decide +kernel
theorem dX7_image_32 : decode cX7_image 32 = .ok (.invokevirtual 132, 3) := by decide +kernel
theorem dX7_image_35 : decode cX7_image 35 = .ok (.aload_n 0, 1) := by decide +kernel
theorem dX7_image_36 : decode cX7_image 36 = .ok (.getfield 53, 3) := by decide +kernel
theorem dX7_image_39 : decode cX7_image 39 = .ok (.iload_n 1, 1) := by decide +kernel
theorem dX7_image_40 : decode cX7_image 40 = .ok (.iconst 1, 1) := by decide +kernel
theorem dX7_image_41 : decode cX7_image 41 = .ok (.bastore, 1) := by decide +kernel
theorem dX7_image_42 : decode cX7_image 42 = .ok (.iconst 1, 1) := by decide +kernel
theorem dX7_image_43 : decode cX7_image 43 = .ok (.ireturn, 1) := by decide +kernel
theorem dX7_restore_0 : decode cX7_restore 0 = .ok (.iload_n 1, 1) := by decide +kernel
theorem dX7_restore_1 : decode cX7_restore 1 = .ok (.iconst 0, 1) := by decide +kernel
theorem dX7_restore_2 : decode cX7_restore 2 = .ok (.iconst 1, 1) := by decide +kernel
theorem dX7_restore_3 : decode cX7_restore 3 = .ok (.invokestatic 85, 3) := by decide +kernel
theorem dX7_restore_6 : decode cX7_restore 6 = .ok (.ifCond .eq 6, 3) := by decide +kernel
theorem dX7_restore_9 : decode cX7_restore 9 = .ok (.ldc 89, 2) := by decide +kernel
theorem dX7_restore_11 : decode cX7_restore 11 = .ok (.ireturn, 1) := by decide +kernel
theorem dX7_restore_12 : decode cX7_restore 12 = .ok (.aload_n 0, 1) := by decide +kernel
theorem dX7_restore_13 : decode cX7_restore 13 = .ok (.getfield 53, 3) := by decide +kernel
theorem dX7_restore_16 : decode cX7_restore 16 = .ok (.iload_n 1, 1) := by decide +kernel
theorem dX7_restore_17 : decode cX7_restore 17 = .ok (.baload, 1) := by decide +kernel
theorem dX7_restore_18 : decode cX7_restore 18 = .ok (.ifCond .ne 6, 3) := by decide +kernel
theorem dX7_restore_21 : decode cX7_restore 21 = .ok (.ldc 172, 2) := by decide +kernel
theorem dX7_restore_23 : decode cX7_restore 23 = .ok (.ireturn, 1) := by decide +kernel
theorem dX7_restore_24 : decode cX7_restore 24 = .ok (.aload_n 0, 1) := by decide +kernel
theorem dX7_restore_25 : decode cX7_restore 25 = .ok (.getfield 42, 3) := by decide +kernel
theorem dX7_restore_28 : decode cX7_restore 28 = .ok (.aload_n 0, 1) := by decide +kernel
theorem dX7_restore_29 : decode cX7_restore 29 = .ok (.getfield 49, 3) := by decide +kernel
theorem dX7_restore_32 : decode cX7_restore 32 = .ok (.iload_n 1, 1) := by decide +kernel
theorem dX7_restore_33 : decode cX7_restore 33 = .ok (.aaload, 1) := by decide +kernel
theorem dX7_restore_34 : decode cX7_restore 34 = .ok (.invokevirtual 132, 3) := by decide +kernel
theorem dX7_restore_37 : decode cX7_restore 37 = .ok (.aload_n 0, 1) := by decide +kernel
theorem dX7_restore_38 : decode cX7_restore 38 = .ok (.getfield 60, 3) := by decide +kernel
theorem dX7_restore_41 : decode cX7_restore 41 = .ok (.invokevirtual 135, 3) := by decide +kernel
theorem dX7_restore_44 : decode cX7_restore 44 = .ok (.iconst 1, 1) := by decide +kernel
theorem dX7_restore_45 : decode cX7_restore 45 = .ok (.ireturn, 1) := by decide +kernel
theorem dX7_kind_0 : decode cX7_kind 0 = .ok (.aload_n 0, 1) := by decide +kernel
theorem dX7_kind_1 : decode cX7_kind 1 = .ok (.iload_n 1, 1) := by decide +kernel
theorem dX7_kind_2 : decode cX7_kind 2 = .ok (.invokevirtual 141, 3) := by decide +kernel
theorem dX7_kind_5 : decode cX7_kind 5 = .ok (.ifCond .eq 8, 3) := by decide +kernel
theorem dX7_kind_8 : decode cX7_kind 8 = .ok (.ldc 89, 2) := by decide +kernel
theorem dX7_kind_10 : decode cX7_kind 10 = .ok (.goto 15, 3) := by decide +kernel
theorem dX7_kind_13 : decode cX7_kind 13 = .ok (.aload_n 0, 1) := by decide +kernel
theorem dX7_kind_14 : decode cX7_kind 14 = .ok (.getfield 42, 3) := by decide +kernel
theorem dX7_kind_17 : decode cX7_kind 17 = .ok (.getfield 150, 3) := by decide +kernel
theorem dX7_kind_20 : decode cX7_kind 20 = .ok (.iload_n 1, 1) := by decide +kernel
theorem dX7_kind_21 : decode cX7_kind 21 = .ok (.aaload, 1) := by decide +kernel
theorem dX7_kind_22 : decode cX7_kind 22 = .ok (.getfield 242, 3) := by decide +kernel
theorem dX7_kind_25 : decode cX7_kind 25 = .ok (.ireturn, 1) := by decide +kernel
theorem dX7_as_0 : decode cX7_as 0 = .ok (.aload_n 0, 1) := by decide +kernel
theorem dX7_as_1 : decode cX7_as 1 = .ok (.iload_n 1, 1) := by decide +kernel
theorem dX7_as_2 : decode cX7_as 2 = .ok (.invokevirtual 141, 3) := by decide +kernel
theorem dX7_as_5 : decode cX7_as 5 = .ok (.ifCond .ne 12, 3) := by decide +kernel
theorem dX7_as_8 : decode cX7_as 8 = .ok (.iload_n 2, 1) := by decide +kernel
theorem dX7_as_9 : decode cX7_as 9 = .ok (.iconst 0, 1) := by decide +kernel
theorem dX7_as_10 : decode cX7_as 10 = .ok (.iconst 5, 1) := by decide +kernel
theorem dX7_as_11 : decode cX7_as 11 = .ok (.invokestatic 85, 3) := by decide +kernel
theorem dX7_as_14 : decode cX7_as 14 = .ok (.ifCond .eq 6, 3) := by decide +kernel
theorem dX7_as_17 : decode cX7_as 17 = .ok (.ldc 89, 2) := by decide +kernel
theorem dX7_as_19 : decode cX7_as 19 = .ok (.ireturn, 1) := by decide +kernel
theorem dX7_as_20 : decode cX7_as 20 = .ok (.aload_n 0, 1) := by decide +kernel
theorem dX7_as_21 : decode cX7_as 21 = .ok (.getfield 42, 3) := by decide +kernel
theorem dX7_as_24 : decode cX7_as 24 = .ok (.getfield 150, 3) := by decide +kernel
theorem dX7_as_27 : decode cX7_as 27 = .ok (.iload_n 1, 1) := by decide +kernel
theorem dX7_as_28 : decode cX7_as 28 = .ok (.aaload, 1) := by decide +kernel
theorem dX7_as_29 : decode cX7_as 29 = .ok (.getfield 242, 3) := by decide +kernel
theorem dX7_as_32 : decode cX7_as 32 = .ok (.iload_n 2, 1) := by decide +kernel
theorem dX7_as_33 : decode cX7_as 33 = .ok (.invokestatic 245, 3) := by decide +kernel
theorem dX7_as_36 : decode cX7_as 36 = .ok (.ifCond .ne 9, 3) := by decide +kernel
theorem dX7_as_39 : decode cX7_as 39 = .ok (.aload_n 0, 1) := by decide +kernel
theorem dX7_as_40 : decode cX7_as 40 = .ok (.iconst 3, 1) := by decide +kernel
theorem dX7_as_41 : decode cX7_as 41 = .ok (.invokevirtual 90, 3) := by decide +kernel
theorem dX7_as_44 : decode cX7_as 44 = .ok (.ireturn, 1) := by decide +kernel
theorem dX7_as_45 : decode cX7_as 45 = .ok (.aload_n 0, 1) := by decide +kernel
theorem dX7_as_46 : decode cX7_as 46 = .ok (.iload_n 1, 1) := by decide +kernel
theorem dX7_as_47 : decode cX7_as 47 = .ok (.invokevirtual 94, 3) := by decide +kernel
theorem dX7_as_50 : decode cX7_as 50 = .ok (.ireturn, 1) := by decide +kernel
theorem dX7_ask_0 : decode cX7_ask 0 = .ok (.aload_n 0, 1) := by decide +kernel
theorem dX7_ask_1 : decode cX7_ask 1 = .ok (.iload_n 1, 1) := by decide +kernel
theorem dX7_ask_2 : decode cX7_ask 2 = .ok (.invokevirtual 141, 3) := by decide +kernel
theorem dX7_ask_5 : decode cX7_ask 5 = .ok (.ifCond .ne 12, 3) := by decide +kernel
theorem dX7_ask_8 : decode cX7_ask 8 = .ok (.iload_n 2, 1) := by decide +kernel
theorem dX7_ask_9 : decode cX7_ask 9 = .ok (.iconst 0, 1) := by decide +kernel
theorem dX7_ask_10 : decode cX7_ask 10 = .ok (.iconst 1, 1) := by decide +kernel
theorem dX7_ask_11 : decode cX7_ask 11 = .ok (.invokestatic 85, 3) := by decide +kernel
theorem dX7_ask_14 : decode cX7_ask 14 = .ok (.ifCond .eq 6, 3) := by decide +kernel
theorem dX7_ask_17 : decode cX7_ask 17 = .ok (.ldc 89, 2) := by decide +kernel
theorem dX7_ask_19 : decode cX7_ask 19 = .ok (.ireturn, 1) := by decide +kernel
theorem dX7_ask_20 : decode cX7_ask 20 = .ok (.aload_n 0, 1) := by decide +kernel
theorem dX7_ask_21 : decode cX7_ask 21 = .ok (.getfield 77, 3) := by decide +kernel
theorem dX7_ask_24 : decode cX7_ask 24 = .ok (.iconst 0, 1) := by decide +kernel
theorem dX7_ask_25 : decode cX7_ask 25 = .ok (.putfield 249, 3) := by decide +kernel
theorem dX7_ask_28 : decode cX7_ask 28 = .ok (.aload_n 0, 1) := by decide +kernel
theorem dX7_ask_29 : decode cX7_ask 29 = .ok (.getfield 42, 3) := by decide +kernel
theorem dX7_ask_32 : decode cX7_ask 32 = .ok (.getfield 150, 3) := by decide +kernel
theorem dX7_ask_35 : decode cX7_ask 35 = .ok (.iload_n 1, 1) := by decide +kernel
theorem dX7_ask_36 : decode cX7_ask 36 = .ok (.aaload, 1) := by decide +kernel
theorem dX7_ask_37 : decode cX7_ask 37 = .ok (.astore_n 3, 1) := by decide +kernel
theorem dX7_ask_38 : decode cX7_ask 38 = .ok (.iload_n 2, 1) := by decide +kernel
theorem dX7_ask_39 : decode cX7_ask 39 = .ok (.ifCond .ne 15, 3) := by decide +kernel
theorem dX7_ask_42 : decode cX7_ask 42 = .ok (.aload_n 0, 1) := by decide +kernel
theorem dX7_ask_43 : decode cX7_ask 43 = .ok (.getfield 77, 3) := by decide +kernel
theorem dX7_ask_46 : decode cX7_ask 46 = .ok (.aload_n 3, 1) := by decide +kernel
theorem dX7_ask_47 : decode cX7_ask 47 = .ok (.iload_n 1, 1) := by decide +kernel
theorem dX7_ask_48 : decode cX7_ask 48 = .ok (.invokevirtual 252, 3) := by decide +kernel
theorem dX7_ask_51 : decode cX7_ask 51 = .ok (.goto 12, 3) := by decide +kernel
theorem dX7_ask_54 : decode cX7_ask 54 = .ok (.aload_n 0, 1) := by decide +kernel
theorem dX7_ask_55 : decode cX7_ask 55 = .ok (.getfield 77, 3) := by decide +kernel
theorem dX7_ask_58 : decode cX7_ask 58 = .ok (.aload_n 3, 1) := by decide +kernel
theorem dX7_ask_59 : decode cX7_ask 59 = .ok (.iload_n 1, 1) := by decide +kernel
theorem dX7_ask_60 : decode cX7_ask 60 = .ok (.invokevirtual 255, 3) := by decide +kernel
theorem dX7_ask_63 : decode cX7_ask 63 = .ok (.ireturn, 1) := by decide +kernel
theorem dX7_trace_0 : decode cX7_trace 0 = .ok (.iload_n 1, 1) := by decide +kernel
theorem dX7_trace_1 : decode cX7_trace 1 = .ok (.iconst 0, 1) := by decide +kernel
theorem dX7_trace_2 : decode cX7_trace 2 = .ok (.aload_n 0, 1) := by decide +kernel
theorem dX7_trace_3 : decode cX7_trace 3 = .ok (.getfield 77, 3) := by decide +kernel
theorem dX7_trace_6 : decode cX7_trace 6 = .ok (.getfield 249, 3) := by decide +kernel
theorem dX7_trace_9 : decode cX7_trace 9 = .ok (.iconst 1, 1) := by decide +kernel
theorem dX7_trace_10 : decode cX7_trace 10 = .ok (.isub, 1) := by decide +kernel
theorem dX7_trace_11 : decode cX7_trace 11 = .ok (.invokestatic 85, 3) := by decide +kernel
theorem dX7_trace_14 : decode cX7_trace 14 = .ok (.ifCond .eq 8, 3) := by decide +kernel
theorem dX7_trace_17 : decode cX7_trace 17 = .ok (.ldc 215, 2) := by decide +kernel
theorem dX7_trace_19 : decode cX7_trace 19 = .ok (.goto 12, 3) := by decide +kernel
theorem dX7_trace_22 : decode cX7_trace 22 = .ok (.aload_n 0, 1) := by decide +kernel
theorem dX7_trace_23 : decode cX7_trace 23 = .ok (.getfield 77, 3) := by decide +kernel
theorem dX7_trace_26 : decode cX7_trace 26 = .ok (.getfield 258, 3) := by decide +kernel
theorem dX7_trace_29 : decode cX7_trace 29 = .ok (.iload_n 1, 1) := by decide +kernel
theorem dX7_trace_30 : decode cX7_trace 30 = .ok (.iaload, 1) := by decide +kernel
theorem dX7_trace_31 : decode cX7_trace 31 = .ok (.ireturn, 1) := by decide +kernel
theorem dX7_count_0 : decode cX7_count 0 = .ok (.iload_n 1, 1) := by decide +kernel
theorem dX7_count_1 : decode cX7_count 1 = .ok (.tableswitch 96 0 6 #[43, 48, 56, 64, 72, 80, 88], 43) := by decide +kernel
theorem dX7_count_44 : decode cX7_count 44 = .ok (.aload_n 0, 1) := by decide +kernel
theorem dX7_count_45 : decode cX7_count 45 = .ok (.invokevirtual 261, 3) := by decide +kernel
theorem dX7_count_48 : decode cX7_count 48 = .ok (.ireturn, 1) := by decide +kernel
theorem dX7_count_49 : decode cX7_count 49 = .ok (.aload_n 0, 1) := by decide +kernel
theorem dX7_count_50 : decode cX7_count 50 = .ok (.getfield 42, 3) := by decide +kernel
theorem dX7_count_53 : decode cX7_count 53 = .ok (.getfield 138, 3) := by decide +kernel
theorem dX7_count_56 : decode cX7_count 56 = .ok (.ireturn, 1) := by decide +kernel
theorem dX7_count_57 : decode cX7_count 57 = .ok (.aload_n 0, 1) := by decide +kernel
theorem dX7_count_58 : decode cX7_count 58 = .ok (.getfield 42, 3) := by decide +kernel
theorem dX7_count_61 : decode cX7_count 61 = .ok (.getfield 264, 3) := by decide +kernel
theorem dX7_count_64 : decode cX7_count 64 = .ok (.ireturn, 1) := by decide +kernel
theorem dX7_count_65 : decode cX7_count 65 = .ok (.aload_n 0, 1) := by decide +kernel
theorem dX7_count_66 : decode cX7_count 66 = .ok (.getfield 42, 3) := by decide +kernel
theorem dX7_count_69 : decode cX7_count 69 = .ok (.getfield 236, 3) := by decide +kernel
theorem dX7_count_72 : decode cX7_count 72 = .ok (.ireturn, 1) := by decide +kernel
theorem dX7_count_73 : decode cX7_count 73 = .ok (.aload_n 0, 1) := by decide +kernel
theorem dX7_count_74 : decode cX7_count 74 = .ok (.getfield 60, 3) := by decide +kernel
theorem dX7_count_77 : decode cX7_count 77 = .ok (.getfield 187, 3) := by decide +kernel
theorem dX7_count_80 : decode cX7_count 80 = .ok (.ireturn, 1) := by decide +kernel
theorem dX7_count_81 : decode cX7_count 81 = .ok (.aload_n 0, 1) := by decide +kernel
theorem dX7_count_82 : decode cX7_count 82 = .ok (.getfield 42, 3) := by decide +kernel
theorem dX7_count_85 : decode cX7_count 85 = .ok (.getfield 178, 3) := by decide +kernel
theorem dX7_count_88 : decode cX7_count 88 = .ok (.ireturn, 1) := by decide +kernel
theorem dX7_count_89 : decode cX7_count 89 = .ok (.aload_n 0, 1) := by decide +kernel
theorem dX7_count_90 : decode cX7_count 90 = .ok (.getfield 28, 3) := by decide +kernel
theorem dX7_count_93 : decode cX7_count 93 = .ok (.getfield 113, 3) := by decide +kernel
theorem dX7_count_96 : decode cX7_count 96 = .ok (.ireturn, 1) := by decide +kernel
theorem dX7_count_97 : decode cX7_count 97 = .ok (.ldc 89, 2) := by decide +kernel
theorem dX7_count_99 : decode cX7_count 99 = .ok (.ireturn, 1) := by decide +kernel
theorem dX7_status_0 : decode cX7_status 0 = .ok (.aload_n 0, 1) := by decide +kernel
theorem dX7_status_1 : decode cX7_status 1 = .ok (.getfield 21, 3) := by decide +kernel
theorem dX7_status_4 : decode cX7_status 4 = .ok (.ireturn, 1) := by decide +kernel
theorem dX7_found_0 : decode cX7_found 0 = .ok (.aload_n 0, 1) := by decide +kernel
theorem dX7_found_1 : decode cX7_found 1 = .ok (.iload_n 1, 1) := by decide +kernel
theorem dX7_found_2 : decode cX7_found 2 = .ok (.putfield 21, 3) := by decide +kernel
theorem dX7_found_5 : decode cX7_found 5 = .ok (.ldc_w 267, 3) := by decide +kernel
theorem dX7_found_8 : decode cX7_found 8 = .ok (.iload_n 1, 1) := by decide +kernel
theorem dX7_found_9 : decode cX7_found 9 = .ok (.isub, 1) := by decide +kernel
theorem dX7_found_10 : decode cX7_found 10 = .ok (.ireturn, 1) := by decide +kernel
theorem dX7_foundNothing_0 : decode cX7_foundNothing 0 = .ok (.aload_n 0, 1) := by decide +kernel
theorem dX7_foundNothing_1 : decode cX7_foundNothing 1 = .ok (.iconst 0, 1) := by decide +kernel
theorem dX7_foundNothing_2 : decode cX7_foundNothing 2 = .ok (.putfield 21, 3) := by decide +kernel
theorem dX7_foundNothing_5 : decode cX7_foundNothing 5 = .ok (.iload_n 1, 1) := by decide +kernel
theorem dX7_foundNothing_6 : decode cX7_foundNothing 6 = .ok (.ireturn, 1) := by decide +kernel
theorem dX7_isOutside_0 : decode cX7_isOutside 0 = .ok (.iload_n 0, 1) := by decide +kernel
theorem dX7_isOutside_1 : decode cX7_isOutside 1 = .ok (.iload_n 1, 1) := by decide +kernel
theorem dX7_isOutside_2 : decode cX7_isOutside 2 = .ok (.if_icmp .lt 8, 3) := by decide +kernel
theorem dX7_isOutside_5 : decode cX7_isOutside 5 = .ok (.iload_n 0, 1) := by decide +kernel
theorem dX7_isOutside_6 : decode cX7_isOutside 6 = .ok (.iload_n 2, 1) := by decide +kernel
theorem dX7_isOutside_7 : decode cX7_isOutside 7 = .ok (.if_icmp .le 7, 3) := by decide +kernel
theorem dX7_isOutside_10 : decode cX7_isOutside 10 = .ok (.iconst 1, 1) := by decide +kernel
theorem dX7_isOutside_11 : decode cX7_isOutside 11 = .ok (.goto 4, 3) := by decide +kernel
theorem dX7_isOutside_14 : decode cX7_isOutside 14 = .ok (.iconst 0, 1) := by decide +kernel
theorem dX7_isOutside_15 : decode cX7_isOutside 15 = .ok (.ireturn, 1) := by decide +kernel
theorem dX7_isNoRow_0 : decode cX7_isNoRow 0 = .ok (.iload_n 0, 1) := by decide +kernel
theorem dX7_isNoRow_1 : decode cX7_isNoRow 1 = .ok (.iconst 0, 1) := by decide +kernel
theorem dX7_isNoRow_2 : decode cX7_isNoRow 2 = .ok (.bipush 7, 2) := by decide +kernel
theorem dX7_isNoRow_4 : decode cX7_isNoRow 4 = .ok (.invokestatic 85, 3) := by decide +kernel
theorem dX7_isNoRow_7 : decode cX7_isNoRow 7 = .ok (.ireturn, 1) := by decide +kernel
theorem dX7_isMissing_0 : decode cX7_isMissing 0 = .ok (.aload_n 0, 1) := by decide +kernel
theorem dX7_isMissing_1 : decode cX7_isMissing 1 = .ok (.getfield 18, 3) := by decide +kernel
theorem dX7_isMissing_4 : decode cX7_isMissing 4 = .ok (.iload_n 1, 1) := by decide +kernel
theorem dX7_isMissing_5 : decode cX7_isMissing 5 = .ok (.iaload, 1) := by decide +kernel
theorem dX7_isMissing_6 : decode cX7_isMissing 6 = .ok (.iconst (-1), 1) := by decide +kernel
theorem dX7_isMissing_7 : decode cX7_isMissing 7 = .ok (.if_icmp .ne 7, 3) := by decide +kernel
theorem dX7_isMissing_10 : decode cX7_isMissing 10 = .ok (.iconst 1, 1) := by decide +kernel
theorem dX7_isMissing_11 : decode cX7_isMissing 11 = .ok (.goto 4, 3) := by decide +kernel
theorem dX7_isMissing_14 : decode cX7_isMissing 14 = .ok (.iconst 0, 1) := by decide +kernel
theorem dX7_isMissing_15 : decode cX7_isMissing 15 = .ok (.ireturn, 1) := by decide +kernel
theorem dX7_isBeyond_0 : decode cX7_isBeyond 0 = .ok (.iload_n 2, 1) := by decide +kernel
theorem dX7_isBeyond_1 : decode cX7_isBeyond 1 = .ok (.ifCond .lt 23, 3) := by decide +kernel
theorem dX7_isBeyond_4 : decode cX7_isBeyond 4 = .ok (.iload_n 3, 1) := by decide +kernel
theorem dX7_isBeyond_5 : decode cX7_isBeyond 5 = .ok (.ifCond .lt 19, 3) := by decide +kernel
theorem dX7_isBeyond_8 : decode cX7_isBeyond 8 = .ok (.iload_n 2, 1) := by decide +kernel
theorem dX7_isBeyond_9 : decode cX7_isBeyond 9 = .ok (.i2l, 1) := by decide +kernel
theorem dX7_isBeyond_10 : decode cX7_isBeyond 10 = .ok (.iload_n 3, 1) := by decide +kernel
theorem dX7_isBeyond_11 : decode cX7_isBeyond 11 = .ok (.i2l, 1) := by decide +kernel
theorem dX7_isBeyond_12 : decode cX7_isBeyond 12 = .ok (.ladd, 1) := by decide +kernel
theorem dX7_isBeyond_13 : decode cX7_isBeyond 13 = .ok (.aload_n 0, 1) := by decide +kernel
theorem dX7_isBeyond_14 : decode cX7_isBeyond 14 = .ok (.getfield 18, 3) := by decide +kernel
theorem dX7_isBeyond_17 : decode cX7_isBeyond 17 = .ok (.iload_n 1, 1) := by decide +kernel
theorem dX7_isBeyond_18 : decode cX7_isBeyond 18 = .ok (.iaload, 1) := by decide +kernel
theorem dX7_isBeyond_19 : decode cX7_isBeyond 19 = .ok (.i2l, 1) := by decide +kernel
theorem dX7_isBeyond_20 : decode cX7_isBeyond 20 = .ok (.lcmp, 1) := by decide +kernel
theorem dX7_isBeyond_21 : decode cX7_isBeyond 21 = .ok (.ifCond .le 7, 3) := by decide +kernel
theorem dX7_isBeyond_24 : decode cX7_isBeyond 24 = .ok (.iconst 1, 1) := by decide +kernel
theorem dX7_isBeyond_25 : decode cX7_isBeyond 25 = .ok (.goto 4, 3) := by decide +kernel
theorem dX7_isBeyond_28 : decode cX7_isBeyond 28 = .ok (.iconst 0, 1) := by decide +kernel
theorem dX7_isBeyond_29 : decode cX7_isBeyond 29 = .ok (.ireturn, 1) := by decide +kernel
theorem dX7_lowestBits_0 : decode cX7_lowestBits 0 = .ok (.iload_n 0, 1) := by decide +kernel
theorem dX7_lowestBits_1 : decode cX7_lowestBits 1 = .ok (.ifCond .ne 6, 3) := by decide +kernel
theorem dX7_lowestBits_4 : decode cX7_lowestBits 4 = .ok (.iload_n 1, 1) := by decide +kernel
theorem dX7_lowestBits_5 : decode cX7_lowestBits 5 = .ok (.i2b, 1) := by decide +kernel
theorem dX7_lowestBits_6 : decode cX7_lowestBits 6 = .ok (.ireturn, 1) := by decide +kernel
theorem dX7_lowestBits_7 : decode cX7_lowestBits 7 = .ok (.iload_n 0, 1) := by decide +kernel
theorem dX7_lowestBits_8 : decode cX7_lowestBits 8 = .ok (.iconst 1, 1) := by decide +kernel
theorem dX7_lowestBits_9 : decode cX7_lowestBits 9 = .ok (.if_icmp .ne 8, 3) := by decide +kernel
theorem dX7_lowestBits_12 : decode cX7_lowestBits 12 = .ok (.iload_n 1, 1) := by decide +kernel
theorem dX7_lowestBits_13 : decode cX7_lowestBits 13 = .ok (.i2s, 1) := by decide +kernel
theorem dX7_lowestBits_14 : decode cX7_lowestBits 14 = .ok (.goto 4, 3) := by decide +kernel
theorem dX7_lowestBits_17 : decode cX7_lowestBits 17 = .ok (.iload_n 1, 1) := by decide +kernel
theorem dX7_lowestBits_18 : decode cX7_lowestBits 18 = .ok (.ireturn, 1) := by decide +kernel
theorem dX7_rowsThere_0 : decode cX7_rowsThere 0 = .ok (.iconst 0, 1) := by decide +kernel
theorem dX7_rowsThere_1 : decode cX7_rowsThere 1 = .ok (.istore_n 1, 1) := by decide +kernel
theorem dX7_rowsThere_2 : decode cX7_rowsThere 2 = .ok (.iconst 0, 1) := by decide +kernel
theorem dX7_rowsThere_3 : decode cX7_rowsThere 3 = .ok (.istore_n 2, 1) := by decide +kernel
theorem dX7_rowsThere_4 : decode cX7_rowsThere 4 = .ok (.iload_n 2, 1) := by decide +kernel
theorem dX7_rowsThere_5 : decode cX7_rowsThere 5 = .ok (.bipush 8, 2) := by decide +kernel
theorem dX7_rowsThere_7 : decode cX7_rowsThere 7 = .ok (.if_icmp .ge 20, 3) := by decide +kernel
theorem dX7_rowsThere_10 : decode cX7_rowsThere 10 = .ok (.aload_n 0, 1) := by decide +kernel
theorem dX7_rowsThere_11 : decode cX7_rowsThere 11 = .ok (.iload_n 2, 1) := by decide +kernel
theorem dX7_rowsThere_12 : decode cX7_rowsThere 12 = .ok (.invokevirtual 97, 3) := by decide +kernel
theorem dX7_rowsThere_15 : decode cX7_rowsThere 15 = .ok (.ifCond .ne 6, 3) := by decide +kernel
theorem dX7_rowsThere_18 : decode cX7_rowsThere 18 = .ok (.iinc 1 1, 3) := by decide +kernel
theorem dX7_rowsThere_21 : decode cX7_rowsThere 21 = .ok (.iinc 2 1, 3) := by decide +kernel
theorem dX7_rowsThere_24 : decode cX7_rowsThere 24 = .ok (.goto (-20), 3) := by decide +kernel
theorem dX7_rowsThere_27 : decode cX7_rowsThere 27 = .ok (.iload_n 1, 1) := by decide +kernel
theorem dX7_rowsThere_28 : decode cX7_rowsThere 28 = .ok (.ireturn, 1) := by decide +kernel
theorem dX7_isNobody_0 : decode cX7_isNobody 0 = .ok (.iload_n 1, 1) := by decide +kernel
theorem dX7_isNobody_1 : decode cX7_isNobody 1 = .ok (.iconst 0, 1) := by decide +kernel
theorem dX7_isNobody_2 : decode cX7_isNobody 2 = .ok (.aload_n 0, 1) := by decide +kernel
theorem dX7_isNobody_3 : decode cX7_isNobody 3 = .ok (.getfield 42, 3) := by decide +kernel
theorem dX7_isNobody_6 : decode cX7_isNobody 6 = .ok (.getfield 138, 3) := by decide +kernel
theorem dX7_isNobody_9 : decode cX7_isNobody 9 = .ok (.iconst 1, 1) := by decide +kernel
theorem dX7_isNobody_10 : decode cX7_isNobody 10 = .ok (.isub, 1) := by decide +kernel
theorem dX7_isNobody_11 : decode cX7_isNobody 11 = .ok (.invokestatic 85, 3) := by decide +kernel
theorem dX7_isNobody_14 : decode cX7_isNobody 14 = .ok (.ireturn, 1) := by decide +kernel
theorem dX7_isNoWay_0 : decode cX7_isNoWay 0 = .ok (.iload_n 1, 1) := by decide +kernel
theorem dX7_isNoWay_1 : decode cX7_isNoWay 1 = .ok (.iconst 0, 1) := by decide +kernel
theorem dX7_isNoWay_2 : decode cX7_isNoWay 2 = .ok (.aload_n 0, 1) := by decide +kernel
theorem dX7_isNoWay_3 : decode cX7_isNoWay 3 = .ok (.getfield 42, 3) := by decide +kernel
theorem dX7_isNoWay_6 : decode cX7_isNoWay 6 = .ok (.getfield 264, 3) := by decide +kernel
theorem dX7_isNoWay_9 : decode cX7_isNoWay 9 = .ok (.iconst 1, 1) := by decide +kernel
theorem dX7_isNoWay_10 : decode cX7_isNoWay 10 = .ok (.isub, 1) := by decide +kernel
theorem dX7_isNoWay_11 : decode cX7_isNoWay 11 = .ok (.invokestatic 85, 3) := by decide +kernel
theorem dX7_isNoWay_14 : decode cX7_isNoWay 14 = .ok (.ireturn, 1) := by decide +kernel
theorem dX7_isNoHarbour_0 : decode cX7_isNoHarbour 0 = .ok (.iload_n 1, 1) := by decide +kernel
theorem dX7_isNoHarbour_1 : decode cX7_isNoHarbour 1 = .ok (.iconst 0, 1) := by decide +kernel
theorem dX7_isNoHarbour_2 : decode cX7_isNoHarbour 2 = .ok (.aload_n 0, 1) := by decide +kernel
theorem dX7_isNoHarbour_3 : decode cX7_isNoHarbour 3 = .ok (.getfield 42, 3) := by decide +kernel
theorem dX7_isNoHarbour_6 : decode cX7_isNoHarbour 6 = .ok (.getfield 236, 3) := by decide +kernel
theorem dX7_isNoHarbour_9 : decode cX7_isNoHarbour 9 = .ok (.iconst 1, 1) := by decide +kernel
theorem dX7_isNoHarbour_10 : decode cX7_isNoHarbour 10 = .ok (.isub, 1) := by decide +kernel
theorem dX7_isNoHarbour_11 : decode cX7_isNoHarbour 11 = .ok (.invokestatic 85, 3) := by decide +kernel
theorem dX7_isNoHarbour_14 : decode cX7_isNoHarbour 14 = .ok (.ireturn, 1) := by decide +kernel
theorem dX7_sailOnce_0 : decode cX7_sailOnce 0 = .ok (.aload_n 0, 1) := by decide +kernel
theorem dX7_sailOnce_1 : decode cX7_sailOnce 1 = .ok (.getfield 42, 3) := by decide +kernel
theorem dX7_sailOnce_4 : decode cX7_sailOnce 4 = .ok (.getfield 150, 3) := by decide +kernel
theorem dX7_sailOnce_7 : decode cX7_sailOnce 7 = .ok (.iload_n 1, 1) := by decide +kernel
theorem dX7_sailOnce_8 : decode cX7_sailOnce 8 = .ok (.aaload, 1) := by decide +kernel
theorem dX7_sailOnce_9 : decode cX7_sailOnce 9 = .ok (.astore_n 3, 1) := by decide +kernel
theorem dX7_sailOnce_10 : decode cX7_sailOnce 10 = .ok (.aload_n 0, 1) := by decide +kernel
theorem dX7_sailOnce_11 : decode cX7_sailOnce 11 = .ok (.getfield 42, 3) := by decide +kernel
theorem dX7_sailOnce_14 : decode cX7_sailOnce 14 = .ok (.getfield 268, 3) := by decide +kernel
theorem dX7_sailOnce_17 : decode cX7_sailOnce 17 = .ok (.iload_n 2, 1) := by decide +kernel
theorem dX7_sailOnce_18 : decode cX7_sailOnce 18 = .ok (.aaload, 1) := by decide +kernel
theorem dX7_sailOnce_19 : decode cX7_sailOnce 19 = .ok (.astore 4, 2) := by decide +kernel
theorem dX7_sailOnce_21 : decode cX7_sailOnce 21 = .ok (.aload 4, 2) := by decide +kernel
theorem dX7_sailOnce_23 : decode cX7_sailOnce 23 = .ok (.aload_n 3, 1) := by decide +kernel
theorem dX7_sailOnce_24 : decode cX7_sailOnce 24 = .ok (.getfield 154, 3) := by decide +kernel
theorem dX7_sailOnce_27 : decode cX7_sailOnce 27 = .ok (.invokevirtual 272, 3) := by decide +kernel
theorem dX7_sailOnce_30 : decode cX7_sailOnce 30 = .ok (.ifCond .eq 12, 3) := by decide +kernel
theorem dX7_sailOnce_33 : decode cX7_sailOnce 33 = .ok (.aload_n 3, 1) := by decide +kernel
theorem dX7_sailOnce_34 : decode cX7_sailOnce 34 = .ok (.aload 4, 2) := by decide +kernel
theorem dX7_sailOnce_36 : decode cX7_sailOnce 36 = .ok (.invokevirtual 277, 3) := by decide +kernel
theorem dX7_sailOnce_39 : decode cX7_sailOnce 39 = .ok (.ifCond .ne 6, 3) := by decide +kernel
theorem dX7_sailOnce_42 : decode cX7_sailOnce 42 = .ok (.ldc 172, 2) := by decide +kernel
theorem dX7_sailOnce_44 : decode cX7_sailOnce 44 = .ok (.ireturn, 1) := by decide +kernel
theorem dX7_sailOnce_45 : decode cX7_sailOnce 45 = .ok (.aload_n 3, 1) := by decide +kernel
theorem dX7_sailOnce_46 : decode cX7_sailOnce 46 = .ok (.getfield 159, 3) := by decide +kernel
theorem dX7_sailOnce_49 : decode cX7_sailOnce 49 = .ok (.aload 4, 2) := by decide +kernel
theorem dX7_sailOnce_51 : decode cX7_sailOnce 51 = .ok (.getfield 281, 3) := by decide +kernel
theorem dX7_sailOnce_54 : decode cX7_sailOnce 54 = .ok (.iadd, 1) := by decide +kernel
theorem dX7_sailOnce_55 : decode cX7_sailOnce 55 = .ok (.sipush 200, 3) := by decide +kernel
theorem dX7_sailOnce_58 : decode cX7_sailOnce 58 = .ok (.if_icmp .le 6, 3) := by decide +kernel
theorem dX7_sailOnce_61 : decode cX7_sailOnce 61 = .ok (.ldc 116, 2) := by decide +kernel
theorem dX7_sailOnce_63 : decode cX7_sailOnce 63 = .ok (.ireturn, 1) := by decide +kernel
theorem dX7_sailOnce_64 : decode cX7_sailOnce 64 = .ok (.aload_n 0, 1) := by decide +kernel
theorem dX7_sailOnce_65 : decode cX7_sailOnce 65 = .ok (.getfield 60, 3) := by decide +kernel
theorem dX7_sailOnce_68 : decode cX7_sailOnce 68 = .ok (.aload_n 0, 1) := by decide +kernel
theorem dX7_sailOnce_69 : decode cX7_sailOnce 69 = .ok (.getfield 42, 3) := by decide +kernel
theorem dX7_sailOnce_72 : decode cX7_sailOnce 72 = .ok (.invokevirtual 162, 3) := by decide +kernel
theorem dX7_sailOnce_75 : decode cX7_sailOnce 75 = .ok (.aload_n 3, 1) := by decide +kernel
theorem dX7_sailOnce_76 : decode cX7_sailOnce 76 = .ok (.aload 4, 2) := by decide +kernel
theorem dX7_sailOnce_78 : decode cX7_sailOnce 78 = .ok (.invokevirtual 284, 3) := by decide +kernel
theorem dX7_sailOnce_81 : decode cX7_sailOnce 81 = .ok (.iconst 0, 1) := by decide +kernel
theorem dX7_sailOnce_82 : decode cX7_sailOnce 82 = .ok (.ireturn, 1) := by decide +kernel
theorem dX7_haveGainsApart_0 : decode cX7_haveGainsApart 0 = .ok (.iload 4, 2) := by decide +kernel
theorem dX7_haveGainsApart_2 : decode cX7_haveGainsApart 2 = .ok (.bipush (-40), 2) := by decide +kernel
theorem dX7_haveGainsApart_4 : decode cX7_haveGainsApart 4 = .ok (.bipush 40, 2) := by decide +kernel
theorem dX7_haveGainsApart_6 : decode cX7_haveGainsApart 6 = .ok (.invokestatic 85, 3) := by decide +kernel
theorem dX7_haveGainsApart_9 : decode cX7_haveGainsApart 9 = .ok (.ifCond .eq 5, 3) := by decide +kernel
theorem dX7_haveGainsApart_12 : decode cX7_haveGainsApart 12 = .ok (.iconst 0, 1) := by decide +kernel
theorem dX7_haveGainsApart_13 : decode cX7_haveGainsApart 13 = .ok (.ireturn, 1) := by decide +kernel
theorem dX7_haveGainsApart_14 : decode cX7_haveGainsApart 14 = .ok (.iload 4, 2) := by decide +kernel
theorem dX7_haveGainsApart_16 : decode cX7_haveGainsApart 16 = .ok (.ifCond .lt 12, 3) := by decide +kernel
theorem dX7_haveGainsApart_19 : decode cX7_haveGainsApart 19 = .ok (.lload_n 0, 1) := by decide +kernel
theorem dX7_haveGainsApart_20 : decode cX7_haveGainsApart 20 = .ok (.iload 4, 2) := by decide +kernel
theorem dX7_haveGainsApart_22 : decode cX7_haveGainsApart 22 = .ok (.lushr, 1) := by decide +kernel
theorem dX7_haveGainsApart_23 : decode cX7_haveGainsApart 23 = .ok (.lload_n 2, 1) := by decide +kernel
theorem dX7_haveGainsApart_24 : decode cX7_haveGainsApart 24 = .ok (.land, 1) := by decide +kernel
theorem dX7_haveGainsApart_25 : decode cX7_haveGainsApart 25 = .ok (.goto 10, 3) := by decide +kernel
theorem dX7_haveGainsApart_28 : decode cX7_haveGainsApart 28 = .ok (.lload_n 2, 1) := by decide +kernel
theorem dX7_haveGainsApart_29 : decode cX7_haveGainsApart 29 = .ok (.iload 4, 2) := by decide +kernel
theorem dX7_haveGainsApart_31 : decode cX7_haveGainsApart 31 = .ok (.ineg, 1) := by decide +kernel
theorem dX7_haveGainsApart_32 : decode cX7_haveGainsApart 32 = .ok (.lushr, 1) := by decide +kernel
theorem dX7_haveGainsApart_33 : decode cX7_haveGainsApart 33 = .ok (.lload_n 0, 1) := by decide +kernel
theorem dX7_haveGainsApart_34 : decode cX7_haveGainsApart 34 = .ok (.land, 1) := by decide +kernel
theorem dX7_haveGainsApart_35 : decode cX7_haveGainsApart 35 = .ok (.lstore 5, 2) := by decide +kernel
theorem dX7_haveGainsApart_37 : decode cX7_haveGainsApart 37 = .ok (.lload 5, 2) := by decide +kernel
theorem dX7_haveGainsApart_39 : decode cX7_haveGainsApart 39 = .ok (.lconst 0, 1) := by decide +kernel
theorem dX7_haveGainsApart_40 : decode cX7_haveGainsApart 40 = .ok (.lcmp, 1) := by decide +kernel
theorem dX7_haveGainsApart_41 : decode cX7_haveGainsApart 41 = .ok (.ifCond .eq 7, 3) := by decide +kernel
theorem dX7_haveGainsApart_44 : decode cX7_haveGainsApart 44 = .ok (.iconst 1, 1) := by decide +kernel
theorem dX7_haveGainsApart_45 : decode cX7_haveGainsApart 45 = .ok (.goto 4, 3) := by decide +kernel
theorem dX7_haveGainsApart_48 : decode cX7_haveGainsApart 48 = .ok (.iconst 0, 1) := by decide +kernel
theorem dX7_haveGainsApart_49 : decode cX7_haveGainsApart 49 = .ok (.ireturn, 1) := by decide +kernel
theorem dX7_isOfKind_0 : decode cX7_isOfKind 0 = .ok (.iload_n 1, 1) := by decide +kernel
theorem dX7_isOfKind_1 : decode cX7_isOfKind 1 = .ok (.ifCond .eq 16, 3) := by decide +kernel
theorem dX7_isOfKind_4 : decode cX7_isOfKind 4 = .ok (.iload_n 1, 1) := by decide +kernel
theorem dX7_isOfKind_5 : decode cX7_isOfKind 5 = .ok (.iload_n 0, 1) := by decide +kernel
theorem dX7_isOfKind_6 : decode cX7_isOfKind 6 = .ok (.if_icmp .eq 11, 3) := by decide +kernel
theorem dX7_isOfKind_9 : decode cX7_isOfKind 9 = .ok (.iload_n 1, 1) := by decide +kernel
theorem dX7_isOfKind_10 : decode cX7_isOfKind 10 = .ok (.iload_n 0, 1) := by decide +kernel
theorem dX7_isOfKind_11 : decode cX7_isOfKind 11 = .ok (.invokestatic 288, 3) := by decide +kernel
theorem dX7_isOfKind_14 : decode cX7_isOfKind 14 = .ok (.if_icmp .ne 7, 3) := by decide +kernel
theorem dX7_isOfKind_17 : decode cX7_isOfKind 17 = .ok (.iconst 1, 1) := by decide +kernel
theorem dX7_isOfKind_18 : decode cX7_isOfKind 18 = .ok (.goto 4, 3) := by decide +kernel
theorem dX7_isOfKind_21 : decode cX7_isOfKind 21 = .ok (.iconst 0, 1) := by decide +kernel
theorem dX7_isOfKind_22 : decode cX7_isOfKind 22 = .ok (.ireturn, 1) := by decide +kernel
theorem dX7_nearestKind_0 : decode cX7_nearestKind 0 = .ok (.iload_n 0, 1) := by decide +kernel
theorem dX7_nearestKind_1 : decode cX7_nearestKind 1 = .ok (.tableswitch 35 2 5 #[31, 31, 35, 33], 31) := by decide +kernel
theorem dX7_nearestKind_32 : decode cX7_nearestKind 32 = .ok (.iconst 1, 1) := by decide +kernel
theorem dX7_nearestKind_33 : decode cX7_nearestKind 33 = .ok (.ireturn, 1) := by decide +kernel
theorem dX7_nearestKind_34 : decode cX7_nearestKind 34 = .ok (.iconst 4, 1) := by decide +kernel
theorem dX7_nearestKind_35 : decode cX7_nearestKind 35 = .ok (.ireturn, 1) := by decide +kernel
theorem dX7_nearestKind_36 : decode cX7_nearestKind 36 = .ok (.iconst 0, 1) := by decide +kernel
theorem dX7_nearestKind_37 : decode cX7_nearestKind 37 = .ok (.ireturn, 1) := by decide +kernel
theorem dX8_init_0 : decode cX8_init 0 = .ok (.aload_n 0, 1) := by decide +kernel
theorem dX8_init_1 : decode cX8_init 1 = .ok (.invokespecial 1, 3) := by decide +kernel
theorem dX8_init_4 : decode cX8_init 4 = .ok (.aload_n 0, 1) := by decide +kernel
theorem dX8_init_5 : decode cX8_init 5 = .ok (.bipush 8, 2) := by decide +kernel
theorem dX8_init_7 : decode cX8_init 7 = .ok (.newarray .int, 2) := by decide +kernel
theorem dX8_init_9 : decode cX8_init 9 = .ok (.dup, 1) := by decide +kernel
theorem dX8_init_10 : decode cX8_init 10 = .ok (.iconst 0, 1) := by decide +kernel
theorem dX8_init_11 : decode cX8_init 11 = .ok (.iconst (-1), 1) := by decide +kernel
theorem dX8_init_12 : decode cX8_init 12 = .ok (.iastore, 1) := by decide +kernel
theorem dX8_init_13 : decode cX8_init 13 = .ok (.dup, 1) := by decide +kernel
theorem dX8_init_14 : decode cX8_init 14 = .ok (.iconst 1, 1) := by decide +kernel
theorem dX8_init_15 : decode cX8_init 15 = .ok (.iconst (-1), 1) := by decide +kernel
theorem dX8_init_16 : decode cX8_init 16 = .ok (.iastore, 1) := by decide +kernel
theorem dX8_init_17 : decode cX8_init 17 = .ok (.dup, 1) := by decide +kernel
theorem dX8_init_18 : decode cX8_init 18 = .ok (.iconst 2, 1) := by decide +kernel
theorem dX8_init_19 : decode cX8_init 19 = .ok (.iconst (-1), 1) := by decide +kernel
theorem dX8_init_20 : decode cX8_init 20 = .ok (.iastore, 1) := by decide +kernel
theorem dX8_init_21 : decode cX8_init 21 = .ok (.dup, 1) := by decide +kernel
theorem dX8_init_22 : decode cX8_init 22 = .ok (.iconst 3, 1) := by decide +kernel
theorem dX8_init_23 : decode cX8_init 23 = .ok (.iconst (-1), 1) := by decide +kernel
theorem dX8_init_24 : decode cX8_init 24 = .ok (.iastore, 1) := by decide +kernel
theorem dX8_init_25 : decode cX8_init 25 = .ok (.dup, 1) := by decide +kernel
theorem dX8_init_26 : decode cX8_init 26 = .ok (.iconst 4, 1) := by decide +kernel
theorem dX8_init_27 : decode cX8_init 27 = .ok (.iconst (-1), 1) := by decide +kernel
theorem dX8_init_28 : decode cX8_init 28 = .ok (.iastore, 1) := by decide +kernel
theorem dX8_init_29 : decode cX8_init 29 = .ok (.dup, 1) := by decide +kernel
theorem dX8_init_30 : decode cX8_init 30 = .ok (.iconst 5, 1) := by decide +kernel
theorem dX8_init_31 : decode cX8_init 31 = .ok (.iconst (-1), 1) := by decide +kernel
theorem dX8_init_32 : decode cX8_init 32 = .ok (.iastore, 1) := by decide +kernel
theorem dX8_init_33 : decode cX8_init 33 = .ok (.dup, 1) := by decide +kernel
theorem dX8_init_34 : decode cX8_init 34 = .ok (.bipush 6, 2) := by decide +kernel
theorem dX8_init_36 : decode cX8_init 36 = .ok (.iconst (-1), 1) := by decide +kernel
theorem dX8_init_37 : decode cX8_init 37 = .ok (.iastore, 1) := by decide +kernel
theorem dX8_init_38 : decode cX8_init 38 = .ok (.dup, 1) := by decide +kernel
theorem dX8_init_39 : decode cX8_init 39 = .ok (.bipush 7, 2) := by decide +kernel
theorem dX8_init_41 : decode cX8_init 41 = .ok (.iconst (-1), 1) := by decide +kernel
theorem dX8_init_42 : decode cX8_init 42 = .ok (.iastore, 1) := by decide +kernel
theorem dX8_init_43 : decode cX8_init 43 = .ok (.putfield 7, 3) := by decide +kernel
theorem dX8_init_46 : decode cX8_init 46 = .ok (.aload_n 0, 1) := by decide +kernel
theorem dX8_init_47 : decode cX8_init 47 = .ok (.bipush 8, 2) := by decide +kernel
theorem dX8_init_49 : decode cX8_init 49 = .ok (.newarray .int, 2) := by decide +kernel
theorem dX8_init_51 : decode cX8_init 51 = .ok (.putfield 13, 3) := by decide +kernel
theorem dX8_init_54 : decode cX8_init 54 = .ok (.aload_n 0, 1) := by decide +kernel
theorem dX8_init_55 : decode cX8_init 55 = .ok (.sipush 320, 3) := by decide +kernel
theorem dX8_init_58 : decode cX8_init 58 = .ok (.newarray .int, 2) := by decide +kernel
theorem dX8_init_60 : decode cX8_init 60 = .ok (.putfield 16, 3) := by decide +kernel
theorem dX8_init_63 : decode cX8_init 63 = .ok (.aload_n 0, 1) := by decide +kernel
theorem dX8_init_64 : decode cX8_init 64 = .ok (.bipush 68, 2) := by decide +kernel
theorem dX8_init_66 : decode cX8_init 66 = .ok (.newarray .int, 2) := by decide +kernel
theorem dX8_init_68 : decode cX8_init 68 = .ok (.putfield 19, 3) := by decide +kernel
theorem dX8_init_71 : decode cX8_init 71 = .ok (.aload_n 0, 1) := by decide +kernel
theorem dX8_init_72 : decode cX8_init 72 = .ok (.bipush 68, 2) := by decide +kernel
theorem dX8_init_74 : decode cX8_init 74 = .ok (.newarray .int, 2) := by decide +kernel
theorem dX8_init_76 : decode cX8_init 76 = .ok (.putfield 22, 3) := by decide +kernel
theorem dX8_init_79 : decode cX8_init 79 = .ok (.aload_n 0, 1) := by decide +kernel
theorem dX8_init_80 : decode cX8_init 80 = .ok (.sipush 1632, 3) := by decide +kernel
theorem dX8_init_83 : decode cX8_init 83 = .ok (.newarray .int, 2) := by decide +kernel
theorem dX8_init_85 : decode cX8_init 85 = .ok (.putfield 25, 3) := by decide +kernel
theorem dX8_init_88 : decode cX8_init 88 = .ok (.aload_n 0, 1) := by decide +kernel
theorem dX8_init_89 : decode cX8_init 89 = .ok (.sipush 400, 3) := by decide +kernel
theorem dX8_init_92 : decode cX8_init 92 = .ok (.newarray .int, 2) := by decide +kernel
theorem dX8_init_94 : decode cX8_init 94 = .ok (.putfield 28, 3) := by decide +kernel
theorem dX8_init_97 : decode cX8_init 97 = .ok (.aload_n 0, 1) := by decide +kernel
theorem dX8_init_98 : decode cX8_init 98 = .ok (.sipush 205, 3) := by decide +kernel
theorem dX8_init_101 : decode cX8_init 101 = .ok (.newarray .long, 2) := by decide +kernel
theorem dX8_init_103 : decode cX8_init 103 = .ok (.putfield 31, 3) := by decide +kernel
theorem dX8_init_106 : decode cX8_init 106 = .ok (.aload_n 0, 1) := by decide +kernel
theorem dX8_init_107 : decode cX8_init 107 = .ok (.sipush 205, 3) := by decide +kernel
theorem dX8_init_110 : decode cX8_init 110 = .ok (.newarray .long, 2) := by decide +kernel
theorem dX8_init_112 : decode cX8_init 112 = .ok (.putfield 35, 3) := by decide +kernel
theorem dX8_init_115 : decode cX8_init 115 = .ok (.aload_n 0, 1) := by decide +kernel
theorem dX8_init_116 : decode cX8_init 116 = .ok (.iconst 2, 1) := by decide +kernel
theorem dX8_init_117 : decode cX8_init 117 = .ok (.newarray .boolean, 2) := by decide +kernel
theorem dX8_init_119 : decode cX8_init 119 = .ok (.putfield 38, 3) := by decide +kernel
theorem dX8_init_122 : decode cX8_init 122 = .ok (.aload_n 0, 1) := by decide +kernel
theorem dX8_init_123 : decode cX8_init 123 = .ok (.sipush 136, 3) := by decide +kernel
theorem dX8_init_126 : decode cX8_init 126 = .ok (.newarray .int, 2) := by decide +kernel
theorem dX8_init_128 : decode cX8_init 128 = .ok (.putfield 42, 3) := by decide +kernel
theorem dX8_init_131 : decode cX8_init 131 = .ok (.aload_n 0, 1) := by decide +kernel
theorem dX8_init_132 : decode cX8_init 132 = .ok (.bipush 16, 2) := by decide +kernel
theorem dX8_init_134 : decode cX8_init 134 = .ok (.newarray .int, 2) := by decide +kernel
theorem dX8_init_136 : decode cX8_init 136 = .ok (.putfield 45, 3) := by decide +kernel
theorem dX8_init_139 : decode cX8_init 139 = .ok (.return_, 1) := by decide +kernel
theorem dX8_in_0 : decode cX8_in 0 = .ok (.lload_n 0, 1) := by decide +kernel
theorem dX8_in_1 : decode cX8_in 1 = .ok (.lload_n 2, 1) := by decide +kernel
theorem dX8_in_2 : decode cX8_in 2 = .ok (.lcmp, 1) := by decide +kernel
theorem dX8_in_3 : decode cX8_in 3 = .ok (.ifCond .lt 14, 3) := by decide +kernel
theorem dX8_in_6 : decode cX8_in 6 = .ok (.lload_n 0, 1) := by decide +kernel
theorem dX8_in_7 : decode cX8_in 7 = .ok (.lload 4, 2) := by decide +kernel
theorem dX8_in_9 : decode cX8_in 9 = .ok (.lcmp, 1) := by decide +kernel
theorem dX8_in_10 : decode cX8_in 10 = .ok (.ifCond .gt 7, 3) := by decide +kernel
theorem dX8_in_13 : decode cX8_in 13 = .ok (.iconst 1, 1) := by decide +kernel
theorem dX8_in_14 : decode cX8_in 14 = .ok (.goto 4, 3) := by decide +kernel
theorem dX8_in_17 : decode cX8_in 17 = .ok (.iconst 0, 1) := by decide +kernel
theorem dX8_in_18 : decode cX8_in 18 = .ok (.ireturn, 1) := by decide +kernel
theorem dX8_finding_0 : decode cX8_finding 0 = .ok (.aload_n 0, 1) := by decide +kernel
theorem dX8_finding_1 : decode cX8_finding 1 = .ok (.iload_n 1, 1) := by decide +kernel
theorem dX8_finding_2 : decode cX8_finding 2 = .ok (.putfield 52, 3) := by decide +kernel
theorem dX8_finding_5 : decode cX8_finding 5 = .ok (.ldc 55, 2) := by decide +kernel
theorem dX8_finding_7 : decode cX8_finding 7 = .ok (.iload_n 1, 1) := by decide +kernel
theorem dX8_finding_8 : decode cX8_finding 8 = .ok (.isub, 1) := by decide +kernel
theorem dX8_finding_9 : decode cX8_finding 9 = .ok (.ireturn, 1) := by decide +kernel
theorem dX8_isRow_0 : decode cX8_isRow 0 = .ok (.iload_n 0, 1) := by decide +kernel
theorem dX8_isRow_1 : decode cX8_isRow 1 = .ok (.i2l, 1) := by decide +kernel
theorem dX8_isRow_2 : decode cX8_isRow 2 = .ok (.lconst 0, 1) := by decide +kernel
theorem dX8_isRow_3 : decode cX8_isRow 3 = .ok (.ldc2_w 56, 3) := by decide +kernel
theorem dX8_isRow_6 : decode cX8_isRow 6 = .ok (.invokestatic 58, 3) := by decide +kernel
theorem dX8_isRow_9 : decode cX8_isRow 9 = .ok (.ireturn, 1) := by decide +kernel
theorem dX8_row_0 : decode cX8_row 0 = .ok (.aload_n 0, 1) := by decide +kernel
theorem dX8_row_1 : decode cX8_row 1 = .ok (.iconst 0, 1) := by decide +kernel
theorem dX8_row_2 : decode cX8_row 2 = .ok (.putfield 48, 3) := by decide +kernel
theorem dX8_row_5 : decode cX8_row 5 = .ok (.iload_n 1, 1) := by decide +kernel
theorem dX8_row_6 : decode cX8_row 6 = .ok (.invokestatic 62, 3) := by decide +kernel
theorem dX8_row_9 : decode cX8_row 9 = .ok (.ifCond .eq 21, 3) := by decide +kernel
theorem dX8_row_12 : decode cX8_row 12 = .ok (.iload_n 2, 1) := by decide +kernel
theorem dX8_row_13 : decode cX8_row 13 = .ok (.i2l, 1) := by decide +kernel
theorem dX8_row_14 : decode cX8_row 14 = .ok (.lconst 0, 1) := by decide +kernel
theorem dX8_row_15 : decode cX8_row 15 = .ok (.ldc2_w 66, 3) := by decide +kernel
theorem dX8_row_18 : decode cX8_row 18 = .ok (.invokestatic 58, 3) := by decide +kernel
theorem dX8_row_21 : decode cX8_row 21 = .ok (.ifCond .eq 9, 3) := by decide +kernel
theorem dX8_row_24 : decode cX8_row 24 = .ok (.iload_n 3, 1) := by decide +kernel
theorem dX8_row_25 : decode cX8_row 25 = .ok (.bipush 40, 2) := by decide +kernel
theorem dX8_row_27 : decode cX8_row 27 = .ok (.if_icmp .le 6, 3) := by decide +kernel
theorem dX8_row_30 : decode cX8_row 30 = .ok (.ldc 68, 2) := by decide +kernel
theorem dX8_row_32 : decode cX8_row 32 = .ok (.ireturn, 1) := by decide +kernel
theorem dX8_row_33 : decode cX8_row 33 = .ok (.aload_n 0, 1) := by decide +kernel
theorem dX8_row_34 : decode cX8_row 34 = .ok (.iconst 0, 1) := by decide +kernel
theorem dX8_row_35 : decode cX8_row 35 = .ok (.putfield 52, 3) := by decide +kernel
theorem dX8_row_38 : decode cX8_row 38 = .ok (.iload_n 3, 1) := by decide +kernel
theorem dX8_row_39 : decode cX8_row 39 = .ok (.ifCond .ge 9, 3) := by decide +kernel
theorem dX8_row_42 : decode cX8_row 42 = .ok (.aload_n 0, 1) := by decide +kernel
theorem dX8_row_43 : decode cX8_row 43 = .ok (.iconst 4, 1) := by decide +kernel
theorem dX8_row_44 : decode cX8_row 44 = .ok (.invokevirtual 69, 3) := by decide +kernel
theorem dX8_row_47 : decode cX8_row 47 = .ok (.ireturn, 1) := by decide +kernel
theorem dX8_row_48 : decode cX8_row 48 = .ok (.aload_n 0, 1) := by decide +kernel
theorem dX8_row_49 : decode cX8_row 49 = .ok (.getfield 7, 3) := by decide +kernel
theorem dX8_row_52 : decode cX8_row 52 = .ok (.iload_n 1, 1) := by decide +kernel
theorem dX8_row_53 : decode cX8_row 53 = .ok (.iload_n 2, 1) := by decide +kernel
theorem dX8_row_54 : decode cX8_row 54 = .ok (.iastore, 1) := by decide +kernel
theorem dX8_row_55 : decode cX8_row 55 = .ok (.aload_n 0, 1) := by decide +kernel
theorem dX8_row_56 : decode cX8_row 56 = .ok (.getfield 13, 3) := by decide +kernel
theorem dX8_row_59 : decode cX8_row 59 = .ok (.iload_n 1, 1) := by decide +kernel
theorem dX8_row_60 : decode cX8_row 60 = .ok (.iload_n 3, 1) := by decide +kernel
theorem dX8_row_61 : decode cX8_row 61 = .ok (.iastore, 1) := by decide +kernel
theorem dX8_row_62 : decode cX8_row 62 = .ok (.iconst 0, 1) := by decide +kernel
theorem dX8_row_63 : decode cX8_row 63 = .ok (.istore 4, 2) := by decide +kernel
theorem dX8_row_65 : decode cX8_row 65 = .ok (.iload 4, 2) := by decide +kernel
theorem dX8_row_67 : decode cX8_row 67 = .ok (.bipush 40, 2) := by decide +kernel
theorem dX8_row_69 : decode cX8_row 69 = .ok (.if_icmp .ge 22, 3) := by decide +kernel
theorem dX8_row_72 : decode cX8_row 72 = .ok (.aload_n 0, 1) := by decide +kernel
theorem dX8_row_73 : decode cX8_row 73 = .ok (.getfield 16, 3) := by decide +kernel
theorem dX8_row_76 : decode cX8_row 76 = .ok (.bipush 40, 2) := by decide +kernel
theorem dX8_row_78 : decode cX8_row 78 = .ok (.iload_n 1, 1) := by decide +kernel
theorem dX8_row_79 : decode cX8_row 79 = .ok (.imul, 1) := by decide +kernel
theorem dX8_row_80 : decode cX8_row 80 = .ok (.iload 4, 2) := by decide +kernel
theorem dX8_row_82 : decode cX8_row 82 = .ok (.iadd, 1) := by decide +kernel
theorem dX8_row_83 : decode cX8_row 83 = .ok (.iconst 0, 1) := by decide +kernel
theorem dX8_row_84 : decode cX8_row 84 = .ok (.iastore, 1) := by decide +kernel
theorem dX8_row_85 : decode cX8_row 85 = .ok (.iinc 4 1, 3) := by decide +kernel
theorem dX8_row_88 : decode cX8_row 88 = .ok (.goto (-23), 3) := by decide +kernel
theorem dX8_row_91 : decode cX8_row 91 = .ok (.iload_n 3, 1) := by decide +kernel
theorem dX8_row_92 : decode cX8_row 92 = .ok (.ireturn, 1) := by decide +kernel
theorem dX8_set_0 : decode cX8_set 0 = .ok (.aload_n 0, 1) := by decide +kernel
theorem dX8_set_1 : decode cX8_set 1 = .ok (.iconst 0, 1) := by decide +kernel
theorem dX8_set_2 : decode cX8_set 2 = .ok (.putfield 48, 3) := by decide +kernel
theorem dX8_set_5 : decode cX8_set 5 = .ok (.iload_n 1, 1) := by decide +kernel
theorem dX8_set_6 : decode cX8_set 6 = .ok (.invokestatic 62, 3) := by decide +kernel
theorem dX8_set_9 : decode cX8_set 9 = .ok (.ifCond .ne 6, 3) := by decide +kernel
theorem dX8_set_12 : decode cX8_set 12 = .ok (.ldc 68, 2) := by decide +kernel
theorem dX8_set_14 : decode cX8_set 14 = .ok (.ireturn, 1) := by decide +kernel
theorem dX8_set_15 : decode cX8_set 15 = .ok (.aload_n 0, 1) := by decide +kernel
theorem dX8_set_16 : decode cX8_set 16 = .ok (.iconst 0, 1) := by decide +kernel
theorem dX8_set_17 : decode cX8_set 17 = .ok (.putfield 52, 3) := by decide +kernel
theorem dX8_set_20 : decode cX8_set 20 = .ok (.aload_n 0, 1) := by decide +kernel
theorem dX8_set_21 : decode cX8_set 21 = .ok (.getfield 7, 3) := by decide +kernel
theorem dX8_set_24 : decode cX8_set 24 = .ok (.iload_n 1, 1) := by decide +kernel
theorem dX8_set_25 : decode cX8_set 25 = .ok (.iaload, 1) := by decide +kernel
theorem dX8_set_26 : decode cX8_set 26 = .ok (.ifCond .ge 9, 3) := by decide +kernel
theorem dX8_set_29 : decode cX8_set 29 = .ok (.aload_n 0, 1) := by decide +kernel
theorem dX8_set_30 : decode cX8_set 30 = .ok (.iconst 1, 1) := by decide +kernel
theorem dX8_set_31 : decode cX8_set 31 = .ok (.invokevirtual 69, 3) := by decide +kernel
theorem dX8_set_34 : decode cX8_set 34 = .ok (.ireturn, 1) := by decide +kernel
theorem dX8_set_35 : decode cX8_set 35 = .ok (.iload_n 2, 1) := by decide +kernel
theorem dX8_set_36 : decode cX8_set 36 = .ok (.i2l, 1) := by decide +kernel
theorem dX8_set_37 : decode cX8_set 37 = .ok (.lconst 0, 1) := by decide +kernel
theorem dX8_set_38 : decode cX8_set 38 = .ok (.aload_n 0, 1) := by decide +kernel
theorem dX8_set_39 : decode cX8_set 39 = .ok (.getfield 13, 3) := by decide +kernel
theorem dX8_set_42 : decode cX8_set 42 = .ok (.iload_n 1, 1) := by decide +kernel
theorem dX8_set_43 : decode cX8_set 43 = .ok (.iaload, 1) := by decide +kernel
theorem dX8_set_44 : decode cX8_set 44 = .ok (.iconst 1, 1) := by decide +kernel
theorem dX8_set_45 : decode cX8_set 45 = .ok (.isub, 1) := by decide +kernel
theorem dX8_set_46 : decode cX8_set 46 = .ok (.i2l, 1) := by decide +kernel
theorem dX8_set_47 : decode cX8_set 47 = .ok (.invokestatic 58, 3) := by decide +kernel
theorem dX8_set_50 : decode cX8_set 50 = .ok (.ifCond .ne 9, 3) := by decide +kernel
theorem dX8_set_53 : decode cX8_set 53 = .ok (.aload_n 0, 1) := by decide +kernel
theorem dX8_set_54 : decode cX8_set 54 = .ok (.iconst 2, 1) := by decide +kernel
theorem dX8_set_55 : decode cX8_set 55 = .ok (.invokevirtual 69, 3) := by decide +kernel
theorem dX8_set_58 : decode cX8_set 58 = .ok (.ireturn, 1) := by decide +kernel
theorem dX8_set_59 : decode cX8_set 59 = .ok (.aload_n 0, 1) := by decide +kernel
theorem dX8_set_60 : decode cX8_set 60 = .ok (.getfield 16, 3) := by decide +kernel
theorem dX8_set_63 : decode cX8_set 63 = .ok (.bipush 40, 2) := by decide +kernel
theorem dX8_set_65 : decode cX8_set 65 = .ok (.iload_n 1, 1) := by decide +kernel
theorem dX8_set_66 : decode cX8_set 66 = .ok (.imul, 1) := by decide +kernel
theorem dX8_set_67 : decode cX8_set 67 = .ok (.iload_n 2, 1) := by decide +kernel
theorem dX8_set_68 : decode cX8_set 68 = .ok (.iadd, 1) := by decide +kernel
theorem dX8_set_69 : decode cX8_set 69 = .ok (.aload_n 0, 1) := by decide +kernel
theorem dX8_set_70 : decode cX8_set 70 = .ok (.getfield 7, 3) := by decide +kernel
theorem dX8_set_73 : decode cX8_set 73 = .ok (.iload_n 1, 1) := by decide +kernel
theorem dX8_set_74 : decode cX8_set 74 = .ok (.iaload, 1) := by decide +kernel
theorem dX8_set_75 : decode cX8_set 75 = .ok (.ifCond .ne 8, 3) := by decide +kernel
theorem dX8_set_78 : decode cX8_set 78 = .ok (.iload_n 3, 1) := by decide +kernel
theorem dX8_set_79 : decode cX8_set 79 = .ok (.i2b, 1) := by decide +kernel
theorem dX8_set_80 : decode cX8_set 80 = .ok (.goto 19, 3) := by decide +kernel
theorem dX8_set_83 : decode cX8_set 83 = .ok (.aload_n 0, 1) := by decide +kernel
theorem dX8_set_84 : decode cX8_set 84 = .ok (.getfield 7, 3) := by decide +kernel
theorem dX8_set_87 : decode cX8_set 87 = .ok (.iload_n 1, 1) := by decide +kernel
theorem dX8_set_88 : decode cX8_set 88 = .ok (.iaload, 1) := by decide +kernel
theorem dX8_set_89 : decode cX8_set 89 = .ok (.iconst 1, 1) := by decide +kernel
theorem dX8_set_90 : decode cX8_set 90 = .ok (.if_icmp .ne 8, 3) := by decide +kernel
theorem dX8_set_93 : decode cX8_set 93 = .ok (.iload_n 3, 1) := by decide +kernel
theorem dX8_set_94 : decode cX8_set 94 = .ok (.i2s, 1) := by decide +kernel
theorem dX8_set_95 : decode cX8_set 95 = .ok (.goto 4, 3) := by decide +kernel
theorem dX8_set_98 : decode cX8_set 98 = .ok (.iload_n 3, 1) := by decide +kernel
theorem dX8_set_99 : decode cX8_set 99 = .ok (.iastore, 1) := by decide +kernel
theorem dX8_set_100 : decode cX8_set 100 = .ok (.aload_n 0, 1) := by decide +kernel
theorem dX8_set_101 : decode cX8_set 101 = .ok (.getfield 16, 3) := by decide +kernel
theorem dX8_set_104 : decode cX8_set 104 = .ok (.bipush 40, 2) := by decide +kernel
theorem dX8_set_106 : decode cX8_set 106 = .ok (.iload_n 1, 1) := by decide +kernel
theorem dX8_set_107 : decode cX8_set 107 = .ok (.imul, 1) := by decide +kernel
theorem dX8_set_108 : decode cX8_set 108 = .ok (.iload_n 2, 1) := by decide +kernel
theorem dX8_set_109 : decode cX8_set 109 = .ok (.iadd, 1) := by decide +kernel
theorem dX8_set_110 : decode cX8_set 110 = .ok (.iaload, 1) := by decide +kernel
theorem dX8_set_111 : decode cX8_set 111 = .ok (.ireturn, 1) := by decide +kernel
theorem dX8_copy_0 : decode cX8_copy 0 = .ok (.aload_n 0, 1) := by decide +kernel
theorem dX8_copy_1 : decode cX8_copy 1 = .ok (.iconst 0, 1) := by decide +kernel
theorem dX8_copy_2 : decode cX8_copy 2 = .ok (.putfield 48, 3) := by decide +kernel
theorem dX8_copy_5 : decode cX8_copy 5 = .ok (.iload_n 1, 1) := by decide +kernel
theorem dX8_copy_6 : decode cX8_copy 6 = .ok (.invokestatic 62, 3) := by decide +kernel
theorem dX8_copy_9 : decode cX8_copy 9 = .ok (.ifCond .eq 10, 3) := by decide +kernel
theorem dX8_copy_12 : decode cX8_copy 12 = .ok (.iload_n 3, 1) := by decide +kernel
theorem dX8_copy_13 : decode cX8_copy 13 = .ok (.invokestatic 62, 3) := by decide +kernel
theorem dX8_copy_16 : decode cX8_copy 16 = .ok (.ifCond .ne 6, 3) := by decide +kernel
theorem dX8_copy_19 : decode cX8_copy 19 = .ok (.ldc 68, 2) := by decide +kernel
theorem dX8_copy_21 : decode cX8_copy 21 = .ok (.ireturn, 1) := by decide +kernel
theorem dX8_copy_22 : decode cX8_copy 22 = .ok (.aload_n 0, 1) := by decide +kernel
theorem dX8_copy_23 : decode cX8_copy 23 = .ok (.iconst 0, 1) := by decide +kernel
theorem dX8_copy_24 : decode cX8_copy 24 = .ok (.putfield 52, 3) := by decide +kernel
theorem dX8_copy_27 : decode cX8_copy 27 = .ok (.aload_n 0, 1) := by decide +kernel
theorem dX8_copy_28 : decode cX8_copy 28 = .ok (.getfield 7, 3) := by decide +kernel
theorem dX8_copy_31 : decode cX8_copy 31 = .ok (.iload_n 1, 1) := by decide +kernel
theorem dX8_copy_32 : decode cX8_copy 32 = .ok (.iaload, 1) := by decide +kernel
theorem dX8_copy_33 : decode cX8_copy 33 = .ok (.ifCond .lt 12, 3) := by decide +kernel
theorem dX8_copy_36 : decode cX8_copy 36 = .ok (.aload_n 0, 1) := by decide +kernel
theorem dX8_copy_37 : decode cX8_copy 37 = .ok (.getfield 7, 3) := by decide +kernel
theorem dX8_copy_40 : decode cX8_copy 40 = .ok (.iload_n 3, 1) := by decide +kernel
theorem dX8_copy_41 : decode cX8_copy 41 = .ok (.iaload, 1) := by decide +kernel
theorem dX8_copy_42 : decode cX8_copy 42 = .ok (.ifCond .ge 9, 3) := by decide +kernel
theorem dX8_copy_45 : decode cX8_copy 45 = .ok (.aload_n 0, 1) := by decide +kernel
theorem dX8_copy_46 : decode cX8_copy 46 = .ok (.iconst 1, 1) := by decide +kernel
theorem dX8_copy_47 : decode cX8_copy 47 = .ok (.invokevirtual 69, 3) := by decide +kernel
theorem dX8_copy_50 : decode cX8_copy 50 = .ok (.ireturn, 1) := by decide +kernel
theorem dX8_copy_51 : decode cX8_copy 51 = .ok (.aload_n 0, 1) := by decide +kernel
theorem dX8_copy_52 : decode cX8_copy 52 = .ok (.getfield 7, 3) := by decide +kernel
theorem dX8_copy_55 : decode cX8_copy 55 = .ok (.iload_n 1, 1) := by decide +kernel
theorem dX8_copy_56 : decode cX8_copy 56 = .ok (.iaload, 1) := by decide +kernel
theorem dX8_copy_57 : decode cX8_copy 57 = .ok (.aload_n 0, 1) := by decide +kernel
theorem dX8_copy_58 : decode cX8_copy 58 = .ok (.getfield 7, 3) := by decide +kernel
theorem dX8_copy_61 : decode cX8_copy 61 = .ok (.iload_n 3, 1) := by decide +kernel
theorem dX8_copy_62 : decode cX8_copy 62 = .ok (.iaload, 1) := by decide +kernel
theorem dX8_copy_63 : decode cX8_copy 63 = .ok (.if_icmp .eq 9, 3) := by decide +kernel
theorem dX8_copy_66 : decode cX8_copy 66 = .ok (.aload_n 0, 1) := by decide +kernel
theorem dX8_copy_67 : decode cX8_copy 67 = .ok (.iconst 5, 1) := by decide +kernel
theorem dX8_copy_68 : decode cX8_copy 68 = .ok (.invokevirtual 69, 3) := by decide +kernel
theorem dX8_copy_71 : decode cX8_copy 71 = .ok (.ireturn, 1) := by decide +kernel
theorem dX8_copy_72 : decode cX8_copy 72 = .ok (.iload_n 2, 1) := by decide +kernel
theorem dX8_copy_73 : decode cX8_copy 73 = .ok (.ifCond .lt 48, 3) := by decide +kernel
theorem dX8_copy_76 : decode cX8_copy 76 = .ok (.iload 4, 2) := by decide +kernel
theorem dX8_copy_78 : decode cX8_copy 78 = .ok (.ifCond .lt 43, 3) := by decide +kernel
theorem dX8_copy_81 : decode cX8_copy 81 = .ok (.iload 5, 2) := by decide +kernel
theorem dX8_copy_83 : decode cX8_copy 83 = .ok (.ifCond .lt 38, 3) := by decide +kernel
theorem dX8_copy_86 : decode cX8_copy 86 = .ok (.iload_n 2, 1) := by decide +kernel
theorem dX8_copy_87 : decode cX8_copy 87 = .ok (.i2l, 1) := by decide +kernel
theorem dX8_copy_88 : decode cX8_copy 88 = .ok (.iload 5, 2) := by decide +kernel
theorem dX8_copy_90 : decode cX8_copy 90 = .ok (.i2l, 1) := by decide +kernel
theorem dX8_copy_91 : decode cX8_copy 91 = .ok (.ladd, 1) := by decide +kernel
theorem dX8_copy_92 : decode cX8_copy 92 = .ok (.aload_n 0, 1) := by decide +kernel
theorem dX8_copy_93 : decode cX8_copy 93 = .ok (.getfield 13, 3) := by decide +kernel
theorem dX8_copy_96 : decode cX8_copy 96 = .ok (.iload_n 1, 1) := by decide +kernel
theorem dX8_copy_97 : decode cX8_copy 97 = .ok (.iaload, 1) := by decide +kernel
theorem dX8_copy_98 : decode cX8_copy 98 = .ok (.i2l, 1) := by decide +kernel
theorem dX8_copy_99 : decode cX8_copy 99 = .ok (.lcmp, 1) := by decide +kernel
theorem dX8_copy_100 : decode cX8_copy 100 = .ok (.ifCond .gt 21, 3) := by decide +kernel
theorem dX8_copy_103 : decode cX8_copy 103 = .ok (.iload 4, 2) := by decide +kernel
theorem dX8_copy_105 : decode cX8_copy 105 = .ok (.i2l, 1) := by decide +kernel
theorem dX8_copy_106 : decode cX8_copy 106 = .ok (.iload 5, 2) := by decide +kernel
theorem dX8_copy_108 : decode cX8_copy 108 = .ok (.i2l, 1) := by decide +kernel
theorem dX8_copy_109 : decode cX8_copy 109 = .ok (.ladd, 1) := by decide +kernel
theorem dX8_copy_110 : decode cX8_copy 110 = .ok (.aload_n 0, 1) := by decide +kernel
theorem dX8_copy_111 : decode cX8_copy 111 = .ok (.getfield 13, 3) := by decide +kernel
theorem dX8_copy_114 : decode cX8_copy 114 = .ok (.iload_n 3, 1) := by decide +kernel
theorem dX8_copy_115 : decode cX8_copy 115 = .ok (.iaload, 1) := by decide +kernel
theorem dX8_copy_116 : decode cX8_copy 116 = .ok (.i2l, 1) := by decide +kernel
theorem dX8_copy_117 : decode cX8_copy 117 = .ok (.lcmp, 1) := by decide +kernel
theorem dX8_copy_118 : decode cX8_copy 118 = .ok (.ifCond .le 9, 3) := by decide +kernel
theorem dX8_copy_121 : decode cX8_copy 121 = .ok (.aload_n 0, 1) := by decide +kernel
theorem dX8_copy_122 : decode cX8_copy 122 = .ok (.iconst 2, 1) := by decide +kernel
theorem dX8_copy_123 : decode cX8_copy 123 = .ok (.invokevirtual 69, 3) := by decide +kernel
theorem dX8_copy_126 : decode cX8_copy 126 = .ok (.ireturn, 1) := by decide +kernel
theorem dX8_copy_127 : decode cX8_copy 127 = .ok (.iload_n 2, 1) := by decide +kernel
theorem dX8_copy_128 : decode cX8_copy 128 = .ok (.iload 4, 2) := by decide +kernel
theorem dX8_copy_130 : decode cX8_copy 130 = .ok (.if_icmp .lt 7, 3) := by decide +kernel
theorem dX8_copy_133 : decode cX8_copy 133 = .ok (.iconst 1, 1) := by decide +kernel
theorem dX8_copy_134 : decode cX8_copy 134 = .ok (.goto 4, 3) := by decide +kernel
theorem dX8_copy_137 : decode cX8_copy 137 = .ok (.iconst 0, 1) := by decide +kernel
theorem dX8_copy_138 : decode cX8_copy 138 = .ok (.istore 6, 2) := by decide +kernel
theorem dX8_copy_140 : decode cX8_copy 140 = .ok (.iconst 0, 1) := by decide +kernel
theorem dX8_copy_141 : decode cX8_copy 141 = .ok (.istore 7, 2) := by decide +kernel
theorem dX8_copy_143 : decode cX8_copy 143 = .ok (.iload 7, 2) := by decide +kernel
theorem dX8_copy_145 : decode cX8_copy 145 = .ok (.iload 5, 2) := by decide +kernel
theorem dX8_copy_147 : decode cX8_copy 147 = .ok (.if_icmp .ge 57, 3) := by decide +kernel
theorem dX8_copy_150 : decode cX8_copy 150 = .ok (.iload 6, 2) := by decide +kernel
theorem dX8_copy_152 : decode cX8_copy 152 = .ok (.ifCond .eq 8, 3) := by decide +kernel
theorem dX8_copy_155 : decode cX8_copy 155 = .ok (.iload 7, 2) := by decide +kernel
theorem dX8_copy_157 : decode cX8_copy 157 = .ok (.goto 10, 3) := by decide +kernel
theorem dX8_copy_160 : decode cX8_copy 160 = .ok (.iload 5, 2) := by decide +kernel
theorem dX8_copy_162 : decode cX8_copy 162 = .ok (.iconst 1, 1) := by decide +kernel
theorem dX8_copy_163 : decode cX8_copy 163 = .ok (.isub, 1) := by decide +kernel
theorem dX8_copy_164 : decode cX8_copy 164 = .ok (.iload 7, 2) := by decide +kernel
theorem dX8_copy_166 : decode cX8_copy 166 = .ok (.isub, 1) := by decide +kernel
theorem dX8_copy_167 : decode cX8_copy 167 = .ok (.istore 8, 2) := by decide +kernel
theorem dX8_copy_169 : decode cX8_copy 169 = .ok (.aload_n 0, 1) := by decide +kernel
theorem dX8_copy_170 : decode cX8_copy 170 = .ok (.getfield 16, 3) := by decide +kernel
theorem dX8_copy_173 : decode cX8_copy 173 = .ok (.bipush 40, 2) := by decide +kernel
theorem dX8_copy_175 : decode cX8_copy 175 = .ok (.iload_n 3, 1) := by decide +kernel
theorem dX8_copy_176 : decode cX8_copy 176 = .ok (.imul, 1) := by decide +kernel
theorem dX8_copy_177 : decode cX8_copy 177 = .ok (.iload 4, 2) := by decide +kernel
theorem dX8_copy_179 : decode cX8_copy 179 = .ok (.iadd, 1) := by decide +kernel
theorem dX8_copy_180 : decode cX8_copy 180 = .ok (.iload 8, 2) := by decide +kernel
theorem dX8_copy_182 : decode cX8_copy 182 = .ok (.iadd, 1) := by decide +kernel
theorem dX8_copy_183 : decode cX8_copy 183 = .ok (.aload_n 0, 1) := by decide +kernel
theorem dX8_copy_184 : decode cX8_copy 184 = .ok (.getfield 16, 3) := by decide +kernel
theorem dX8_copy_187 : decode cX8_copy 187 = .ok (.bipush 40, 2) := by decide +kernel
theorem dX8_copy_189 : decode cX8_copy 189 = .ok (.iload_n 1, 1) := by decide +kernel
theorem dX8_copy_190 : decode cX8_copy 190 = .ok (.imul, 1) := by decide +kernel
theorem dX8_copy_191 : decode cX8_copy 191 = .ok (.iload_n 2, 1) := by decide +kernel
theorem dX8_copy_192 : decode cX8_copy 192 = .ok (.iadd, 1) := by decide +kernel
theorem dX8_copy_193 : decode cX8_copy 193 = .ok (.iload 8, 2) := by decide +kernel
theorem dX8_copy_195 : decode cX8_copy 195 = .ok (.iadd, 1) := by decide +kernel
theorem dX8_copy_196 : decode cX8_copy 196 = .ok (.iaload, 1) := by decide +kernel
theorem dX8_copy_197 : decode cX8_copy 197 = .ok (.iastore, 1) := by decide +kernel
theorem dX8_copy_198 : decode cX8_copy 198 = .ok (.iinc 7 1, 3) := by decide +kernel
theorem dX8_copy_201 : decode cX8_copy 201 = .ok (.goto (-58), 3) := by decide +kernel
theorem dX8_copy_204 : decode cX8_copy 204 = .ok (.iload 5, 2) := by decide +kernel
theorem dX8_copy_206 : decode cX8_copy 206 = .ok (.ireturn, 1) := by decide +kernel
theorem dX8_drop_0 : decode cX8_drop 0 = .ok (.aload_n 0, 1) := by decide +kernel
theorem dX8_drop_1 : decode cX8_drop 1 = .ok (.iconst 0, 1) := by decide +kernel
theorem dX8_drop_2 : decode cX8_drop 2 = .ok (.putfield 48, 3) := by decide +kernel
theorem dX8_drop_5 : decode cX8_drop 5 = .ok (.iload_n 1, 1) := by decide +kernel
theorem dX8_drop_6 : decode cX8_drop 6 = .ok (.invokestatic 62, 3) := by decide +kernel
theorem dX8_drop_9 : decode cX8_drop 9 = .ok (.ifCond .ne 6, 3) := by decide +kernel
theorem dX8_drop_12 : decode cX8_drop 12 = .ok (.ldc 68, 2) := by decide +kernel
theorem dX8_drop_14 : decode cX8_drop 14 = .ok (.ireturn, 1) := by decide +kernel
theorem dX8_drop_15 : decode cX8_drop 15 = .ok (.aload_n 0, 1) := by decide +kernel
theorem dX8_drop_16 : decode cX8_drop 16 = .ok (.iconst 0, 1) := by decide +kernel
theorem dX8_drop_17 : decode cX8_drop 17 = .ok (.putfield 52, 3) := by decide +kernel
theorem dX8_drop_20 : decode cX8_drop 20 = .ok (.aload_n 0, 1) := by decide +kernel
theorem dX8_drop_21 : decode cX8_drop 21 = .ok (.getfield 7, 3) := by decide +kernel
theorem dX8_drop_24 : decode cX8_drop 24 = .ok (.iload_n 1, 1) := by decide +kernel
theorem dX8_drop_25 : decode cX8_drop 25 = .ok (.iaload, 1) := by decide +kernel
theorem dX8_drop_26 : decode cX8_drop 26 = .ok (.ifCond .ge 9, 3) := by decide +kernel
theorem dX8_drop_29 : decode cX8_drop 29 = .ok (.aload_n 0, 1) := by decide +kernel
theorem dX8_drop_30 : decode cX8_drop 30 = .ok (.iconst 1, 1) := by decide +kernel
theorem dX8_drop_31 : decode cX8_drop 31 = .ok (.invokevirtual 69, 3) := by decide +kernel
theorem dX8_drop_34 : decode cX8_drop 34 = .ok (.ireturn, 1) := by decide +kernel
theorem dX8_drop_35 : decode cX8_drop 35 = .ok (.aload_n 0, 1) := by decide +kernel
theorem dX8_drop_36 : decode cX8_drop 36 = .ok (.getfield 7, 3) := by decide +kernel
theorem dX8_drop_39 : decode cX8_drop 39 = .ok (.iload_n 1, 1) := by decide +kernel
theorem dX8_drop_40 : decode cX8_drop 40 = .ok (.iconst (-1), 1) := by decide +kernel
theorem dX8_drop_41 : decode cX8_drop 41 = .ok (.iastore, 1) := by decide +kernel
theorem dX8_drop_42 : decode cX8_drop 42 = .ok (.aload_n 0, 1) := by decide +kernel
theorem dX8_drop_43 : decode cX8_drop 43 = .ok (.getfield 13, 3) := by decide +kernel
theorem dX8_drop_46 : decode cX8_drop 46 = .ok (.iload_n 1, 1) := by decide +kernel
theorem dX8_drop_47 : decode cX8_drop 47 = .ok (.iaload, 1) := by decide +kernel
theorem dX8_drop_48 : decode cX8_drop 48 = .ok (.ireturn, 1) := by decide +kernel
theorem dX8_feed_0 : decode cX8_feed 0 = .ok (.aload_n 0, 1) := by decide +kernel
theorem dX8_feed_1 : decode cX8_feed 1 = .ok (.iconst 0, 1) := by decide +kernel
theorem dX8_feed_2 : decode cX8_feed 2 = .ok (.putfield 48, 3) := by decide +kernel
theorem dX8_feed_5 : decode cX8_feed 5 = .ok (.iload_n 3, 1) := by decide +kernel
theorem dX8_feed_6 : decode cX8_feed 6 = .ok (.i2l, 1) := by decide +kernel
theorem dX8_feed_7 : decode cX8_feed 7 = .ok (.lconst 1, 1) := by decide +kernel
theorem dX8_feed_8 : decode cX8_feed 8 = .ok (.ldc2_w 73, 3) := by decide +kernel
theorem dX8_feed_11 : decode cX8_feed 11 = .ok (.invokestatic 58, 3) := by decide +kernel
theorem dX8_feed_14 : decode cX8_feed 14 = .ok (.ifCond .ne 6, 3) := by decide +kernel
theorem dX8_feed_17 : decode cX8_feed 17 = .ok (.ldc 68, 2) := by decide +kernel
theorem dX8_feed_19 : decode cX8_feed 19 = .ok (.ireturn, 1) := by decide +kernel
theorem dX8_feed_20 : decode cX8_feed 20 = .ok (.aload_n 0, 1) := by decide +kernel
theorem dX8_feed_21 : decode cX8_feed 21 = .ok (.getfield 75, 3) := by decide +kernel
theorem dX8_feed_24 : decode cX8_feed 24 = .ok (.iload_n 3, 1) := by decide +kernel
theorem dX8_feed_25 : decode cX8_feed 25 = .ok (.iadd, 1) := by decide +kernel
theorem dX8_feed_26 : decode cX8_feed 26 = .ok (.sipush 400, 3) := by decide +kernel
theorem dX8_feed_29 : decode cX8_feed 29 = .ok (.if_icmp .le 6, 3) := by decide +kernel
theorem dX8_feed_32 : decode cX8_feed 32 = .ok (.ldc 78, 2) := by decide +kernel
theorem dX8_feed_34 : decode cX8_feed 34 = .ok (.ireturn, 1) := by decide +kernel
theorem dX8_feed_35 : decode cX8_feed 35 = .ok (.iload_n 3, 1) := by decide +kernel
theorem dX8_feed_36 : decode cX8_feed 36 = .ok (.iconst 1, 1) := by decide +kernel
theorem dX8_feed_37 : decode cX8_feed 37 = .ok (.isub, 1) := by decide +kernel
theorem dX8_feed_38 : decode cX8_feed 38 = .ok (.istore 4, 2) := by decide +kernel
theorem dX8_feed_40 : decode cX8_feed 40 = .ok (.iload 4, 2) := by decide +kernel
theorem dX8_feed_42 : decode cX8_feed 42 = .ok (.ifCond .lt 40, 3) := by decide +kernel
theorem dX8_feed_45 : decode cX8_feed 45 = .ok (.aload_n 0, 1) := by decide +kernel
theorem dX8_feed_46 : decode cX8_feed 46 = .ok (.getfield 28, 3) := by decide +kernel
theorem dX8_feed_49 : decode cX8_feed 49 = .ok (.aload_n 0, 1) := by decide +kernel
theorem dX8_feed_50 : decode cX8_feed 50 = .ok (.getfield 75, 3) := by decide +kernel
theorem dX8_feed_53 : decode cX8_feed 53 = .ok (.lload_n 1, 1) := by decide +kernel
theorem dX8_feed_54 : decode cX8_feed 54 = .ok (.bipush 8, 2) := by decide +kernel
theorem dX8_feed_56 : decode cX8_feed 56 = .ok (.iload 4, 2) := by decide +kernel
theorem dX8_feed_58 : decode cX8_feed 58 = .ok (.imul, 1) := by decide +kernel
theorem dX8_feed_59 : decode cX8_feed 59 = .ok (.lshr, 1) := by decide +kernel
theorem dX8_feed_60 : decode cX8_feed 60 = .ok (.ldc2_w 79, 3) := by decide +kernel
theorem dX8_feed_63 : decode cX8_feed 63 = .ok (.land, 1) := by decide +kernel
theorem dX8_feed_64 : decode cX8_feed 64 = .ok (.l2i, 1) := by decide +kernel
theorem dX8_feed_65 : decode cX8_feed 65 = .ok (.iastore, 1) := by decide +kernel
theorem dX8_feed_66 : decode cX8_feed 66 = .ok (.aload_n 0, 1) := by decide +kernel
theorem dX8_feed_67 : decode cX8_feed 67 = .ok (.dup, 1) := by decide +kernel
theorem dX8_feed_68 : decode cX8_feed 68 = .ok (.getfield 75, 3) := by decide +kernel
theorem dX8_feed_71 : decode cX8_feed 71 = .ok (.iconst 1, 1) := by decide +kernel
theorem dX8_feed_72 : decode cX8_feed 72 = .ok (.iadd, 1) := by decide +kernel
theorem dX8_feed_73 : decode cX8_feed 73 = .ok (.putfield 75, 3) := by decide +kernel
theorem dX8_feed_76 : decode cX8_feed 76 = .ok (.iinc 4 (-1), 3) := by decide +kernel
theorem dX8_feed_79 : decode cX8_feed 79 = .ok (.goto (-39), 3) := by decide +kernel
theorem dX8_feed_82 : decode cX8_feed 82 = .ok (.aload_n 0, 1) := by decide +kernel
theorem dX8_feed_83 : decode cX8_feed 83 = .ok (.getfield 75, 3) := by decide +kernel
theorem dX8_feed_86 : decode cX8_feed 86 = .ok (.ireturn, 1) := by decide +kernel
theorem dX8_byteAt_0 : decode cX8_byteAt 0 = .ok (.iload_n 1, 1) := by decide +kernel
theorem dX8_byteAt_1 : decode cX8_byteAt 1 = .ok (.aload_n 0, 1) := by decide +kernel
theorem dX8_byteAt_2 : decode cX8_byteAt 2 = .ok (.getfield 81, 3) := by decide +kernel
theorem dX8_byteAt_5 : decode cX8_byteAt 5 = .ok (.if_icmp .ge 12, 3) := by decide +kernel
theorem dX8_byteAt_8 : decode cX8_byteAt 8 = .ok (.aload_n 0, 1) := by decide +kernel
theorem dX8_byteAt_9 : decode cX8_byteAt 9 = .ok (.getfield 28, 3) := by decide +kernel
theorem dX8_byteAt_12 : decode cX8_byteAt 12 = .ok (.iload_n 1, 1) := by decide +kernel
theorem dX8_byteAt_13 : decode cX8_byteAt 13 = .ok (.iaload, 1) := by decide +kernel
theorem dX8_byteAt_14 : decode cX8_byteAt 14 = .ok (.goto 5, 3) := by decide +kernel
theorem dX8_byteAt_17 : decode cX8_byteAt 17 = .ok (.ldc 84, 2) := by decide +kernel
theorem dX8_byteAt_19 : decode cX8_byteAt 19 = .ok (.ireturn, 1) := by decide +kernel
theorem dX8_isLetter_0 : decode cX8_isLetter 0 = .ok (.iload_n 0, 1) := by decide +kernel
theorem dX8_isLetter_1 : decode cX8_isLetter 1 = .ok (.bipush 97, 2) := by decide +kernel
theorem dX8_isLetter_3 : decode cX8_isLetter 3 = .ok (.if_icmp .lt 13, 3) := by decide +kernel
theorem dX8_isLetter_6 : decode cX8_isLetter 6 = .ok (.iload_n 0, 1) := by decide +kernel
theorem dX8_isLetter_7 : decode cX8_isLetter 7 = .ok (.bipush 122, 2) := by decide +kernel
theorem dX8_isLetter_9 : decode cX8_isLetter 9 = .ok (.if_icmp .gt 7, 3) := by decide +kernel
theorem dX8_isLetter_12 : decode cX8_isLetter 12 = .ok (.iconst 1, 1) := by decide +kernel
theorem dX8_isLetter_13 : decode cX8_isLetter 13 = .ok (.goto 4, 3) := by decide +kernel
theorem dX8_isLetter_16 : decode cX8_isLetter 16 = .ok (.iconst 0, 1) := by decide +kernel
theorem dX8_isLetter_17 : decode cX8_isLetter 17 = .ok (.ireturn, 1) := by decide +kernel
theorem dX8_isFigure_0 : decode cX8_isFigure 0 = .ok (.iload_n 0, 1) := by decide +kernel
theorem dX8_isFigure_1 : decode cX8_isFigure 1 = .ok (.bipush 48, 2) := by decide +kernel
theorem dX8_isFigure_3 : decode cX8_isFigure 3 = .ok (.if_icmp .lt 13, 3) := by decide +kernel
theorem dX8_isFigure_6 : decode cX8_isFigure 6 = .ok (.iload_n 0, 1) := by decide +kernel
theorem dX8_isFigure_7 : decode cX8_isFigure 7 = .ok (.bipush 57, 2) := by decide +kernel
theorem dX8_isFigure_9 : decode cX8_isFigure 9 = .ok (.if_icmp .gt 7, 3) := by decide +kernel
theorem dX8_isFigure_12 : decode cX8_isFigure 12 = .ok (.iconst 1, 1) := by decide +kernel
theorem dX8_isFigure_13 : decode cX8_isFigure 13 = .ok (.goto 4, 3) := by decide +kernel
theorem dX8_isFigure_16 : decode cX8_isFigure 16 = .ok (.iconst 0, 1) := by decide +kernel
theorem dX8_isFigure_17 : decode cX8_isFigure 17 = .ok (.ireturn, 1) := by decide +kernel
theorem dX8_next_0 : decode cX8_next 0 = .ok (.aload_n 0, 1) := by decide +kernel
theorem dX8_next_1 : decode cX8_next 1 = .ok (.aload_n 0, 1) := by decide +kernel
theorem dX8_next_2 : decode cX8_next 2 = .ok (.getfield 85, 3) := by decide +kernel
theorem dX8_next_5 : decode cX8_next 5 = .ok (.invokevirtual 88, 3) := by decide +kernel
theorem dX8_next_8 : decode cX8_next 8 = .ok (.bipush 32, 2) := by decide +kernel
theorem dX8_next_10 : decode cX8_next 10 = .ok (.if_icmp .eq 16, 3) := by decide +kernel
theorem dX8_next_13 : decode cX8_next 13 = .ok (.aload_n 0, 1) := by decide +kernel
theorem dX8_next_14 : decode cX8_next 14 = .ok (.aload_n 0, 1) := by decide +kernel
theorem dX8_next_15 : decode cX8_next 15 = .ok (.getfield 85, 3) := by decide +kernel
theorem dX8_next_18 : decode cX8_next 18 = .ok (.invokevirtual 88, 3) := by decide +kernel
theorem dX8_next_21 : decode cX8_next 21 = .ok (.bipush 10, 2) := by decide +kernel
theorem dX8_next_23 : decode cX8_next 23 = .ok (.if_icmp .ne 16, 3) := by decide +kernel
theorem dX8_next_26 : decode cX8_next 26 = .ok (.aload_n 0, 1) := by decide +kernel
theorem dX8_next_27 : decode cX8_next 27 = .ok (.dup, 1) := by decide +kernel
theorem dX8_next_28 : decode cX8_next 28 = .ok (.getfield 85, 3) := by decide +kernel
theorem dX8_next_31 : decode cX8_next 31 = .ok (.iconst 1, 1) := by decide +kernel
theorem dX8_next_32 : decode cX8_next 32 = .ok (.iadd, 1) := by decide +kernel
theorem dX8_next_33 : decode cX8_next 33 = .ok (.putfield 85, 3) := by decide +kernel
theorem dX8_next_36 : decode cX8_next 36 = .ok (.goto (-36), 3) := by decide +kernel
theorem dX8_next_39 : decode cX8_next 39 = .ok (.aload_n 0, 1) := by decide +kernel
theorem dX8_next_40 : decode cX8_next 40 = .ok (.aload_n 0, 1) := by decide +kernel
theorem dX8_next_41 : decode cX8_next 41 = .ok (.getfield 85, 3) := by decide +kernel
theorem dX8_next_44 : decode cX8_next 44 = .ok (.putfield 91, 3) := by decide +kernel
theorem dX8_next_47 : decode cX8_next 47 = .ok (.aload_n 0, 1) := by decide +kernel
theorem dX8_next_48 : decode cX8_next 48 = .ok (.aload_n 0, 1) := by decide +kernel
theorem dX8_next_49 : decode cX8_next 49 = .ok (.getfield 85, 3) := by decide +kernel
theorem dX8_next_52 : decode cX8_next 52 = .ok (.invokevirtual 88, 3) := by decide +kernel
theorem dX8_next_55 : decode cX8_next 55 = .ok (.istore_n 1, 1) := by decide +kernel
theorem dX8_next_56 : decode cX8_next 56 = .ok (.iload_n 1, 1) := by decide +kernel
theorem dX8_next_57 : decode cX8_next 57 = .ok (.ldc 84, 2) := by decide +kernel
theorem dX8_next_59 : decode cX8_next 59 = .ok (.if_icmp .ne 11, 3) := by decide +kernel
theorem dX8_next_62 : decode cX8_next 62 = .ok (.aload_n 0, 1) := by decide +kernel
theorem dX8_next_63 : decode cX8_next 63 = .ok (.iconst 1, 1) := by decide +kernel
theorem dX8_next_64 : decode cX8_next 64 = .ok (.putfield 94, 3) := by decide +kernel
theorem dX8_next_67 : decode cX8_next 67 = .ok (.goto 129, 3) := by decide +kernel
theorem dX8_next_70 : decode cX8_next 70 = .ok (.iload_n 1, 1) := by decide +kernel
theorem dX8_next_71 : decode cX8_next 71 = .ok (.invokestatic 97, 3) := by decide +kernel
theorem dX8_next_74 : decode cX8_next 74 = .ok (.ifCond .eq 38, 3) := by decide +kernel
theorem dX8_next_77 : decode cX8_next 77 = .ok (.aload_n 0, 1) := by decide +kernel
theorem dX8_next_78 : decode cX8_next 78 = .ok (.aload_n 0, 1) := by decide +kernel
theorem dX8_next_79 : decode cX8_next 79 = .ok (.getfield 85, 3) := by decide +kernel
theorem dX8_next_82 : decode cX8_next 82 = .ok (.invokevirtual 88, 3) := by decide +kernel
theorem dX8_next_85 : decode cX8_next 85 = .ok (.invokestatic 97, 3) := by decide +kernel
theorem dX8_next_88 : decode cX8_next 88 = .ok (.ifCond .eq 16, 3) := by decide +kernel
theorem dX8_next_91 : decode cX8_next 91 = .ok (.aload_n 0, 1) := by decide +kernel
theorem dX8_next_92 : decode cX8_next 92 = .ok (.dup, 1) := by decide +kernel
theorem dX8_next_93 : decode cX8_next 93 = .ok (.getfield 85, 3) := by decide +kernel
theorem dX8_next_96 : decode cX8_next 96 = .ok (.iconst 1, 1) := by decide +kernel
theorem dX8_next_97 : decode cX8_next 97 = .ok (.iadd, 1) := by decide +kernel
theorem dX8_next_98 : decode cX8_next 98 = .ok (.putfield 85, 3) := by decide +kernel
theorem dX8_next_101 : decode cX8_next 101 = .ok (.goto (-24), 3) := by decide +kernel
theorem dX8_next_104 : decode cX8_next 104 = .ok (.aload_n 0, 1) := by decide +kernel
theorem dX8_next_105 : decode cX8_next 105 = .ok (.iconst 2, 1) := by decide +kernel
theorem dX8_next_106 : decode cX8_next 106 = .ok (.putfield 94, 3) := by decide +kernel
theorem dX8_next_109 : decode cX8_next 109 = .ok (.goto 87, 3) := by decide +kernel
theorem dX8_next_112 : decode cX8_next 112 = .ok (.iload_n 1, 1) := by decide +kernel
theorem dX8_next_113 : decode cX8_next 113 = .ok (.invokestatic 100, 3) := by decide +kernel
theorem dX8_next_116 : decode cX8_next 116 = .ok (.ifCond .eq 55, 3) := by decide +kernel
theorem dX8_next_119 : decode cX8_next 119 = .ok (.aload_n 0, 1) := by decide +kernel
theorem dX8_next_120 : decode cX8_next 120 = .ok (.aload_n 0, 1) := by decide +kernel
theorem dX8_next_121 : decode cX8_next 121 = .ok (.getfield 85, 3) := by decide +kernel
theorem dX8_next_124 : decode cX8_next 124 = .ok (.invokevirtual 88, 3) := by decide +kernel
theorem dX8_next_127 : decode cX8_next 127 = .ok (.invokestatic 100, 3) := by decide +kernel
theorem dX8_next_130 : decode cX8_next 130 = .ok (.ifCond .eq 16, 3) := by decide +kernel
theorem dX8_next_133 : decode cX8_next 133 = .ok (.aload_n 0, 1) := by decide +kernel
theorem dX8_next_134 : decode cX8_next 134 = .ok (.dup, 1) := by decide +kernel
theorem dX8_next_135 : decode cX8_next 135 = .ok (.getfield 85, 3) := by decide +kernel
theorem dX8_next_138 : decode cX8_next 138 = .ok (.iconst 1, 1) := by decide +kernel
theorem dX8_next_139 : decode cX8_next 139 = .ok (.iadd, 1) := by decide +kernel
theorem dX8_next_140 : decode cX8_next 140 = .ok (.putfield 85, 3) := by decide +kernel
theorem dX8_next_143 : decode cX8_next 143 = .ok (.goto (-24), 3) := by decide +kernel
theorem dX8_next_146 : decode cX8_next 146 = .ok (.aload_n 0, 1) := by decide +kernel
theorem dX8_next_147 : decode cX8_next 147 = .ok (.aload_n 0, 1) := by decide +kernel
theorem dX8_next_148 : decode cX8_next 148 = .ok (.getfield 85, 3) := by decide +kernel
theorem dX8_next_151 : decode cX8_next 151 = .ok (.aload_n 0, 1) := by decide +kernel
theorem dX8_next_152 : decode cX8_next 152 = .ok (.getfield 91, 3) := by decide +kernel
theorem dX8_next_155 : decode cX8_next 155 = .ok (.isub, 1) := by decide +kernel
theorem dX8_next_156 : decode cX8_next 156 = .ok (.iconst 3, 1) := by decide +kernel
theorem dX8_next_157 : decode cX8_next 157 = .ok (.if_icmp .le 7, 3) := by decide +kernel
theorem dX8_next_160 : decode cX8_next 160 = .ok (.iconst 0, 1) := by decide +kernel
theorem dX8_next_161 : decode cX8_next 161 = .ok (.goto 4, 3) := by decide +kernel
theorem dX8_next_164 : decode cX8_next 164 = .ok (.iconst 3, 1) := by decide +kernel
theorem dX8_next_165 : decode cX8_next 165 = .ok (.putfield 94, 3) := by decide +kernel
theorem dX8_next_168 : decode cX8_next 168 = .ok (.goto 28, 3) := by decide +kernel
theorem dX8_next_171 : decode cX8_next 171 = .ok (.aload_n 0, 1) := by decide +kernel
theorem dX8_next_172 : decode cX8_next 172 = .ok (.dup, 1) := by decide +kernel
theorem dX8_next_173 : decode cX8_next 173 = .ok (.getfield 85, 3) := by decide +kernel
theorem dX8_next_176 : decode cX8_next 176 = .ok (.iconst 1, 1) := by decide +kernel
theorem dX8_next_177 : decode cX8_next 177 = .ok (.iadd, 1) := by decide +kernel
theorem dX8_next_178 : decode cX8_next 178 = .ok (.putfield 85, 3) := by decide +kernel
theorem dX8_next_181 : decode cX8_next 181 = .ok (.aload_n 0, 1) := by decide +kernel
theorem dX8_next_182 : decode cX8_next 182 = .ok (.iload_n 1, 1) := by decide +kernel
theorem dX8_next_183 : decode cX8_next 183 = .ok (.bipush 59, 2) := by decide +kernel
theorem dX8_next_185 : decode cX8_next 185 = .ok (.if_icmp .ne 7, 3) := by decide +kernel
theorem dX8_next_188 : decode cX8_next 188 = .ok (.iconst 4, 1) := by decide +kernel
theorem dX8_next_189 : decode cX8_next 189 = .ok (.goto 4, 3) := by decide +kernel
theorem dX8_next_192 : decode cX8_next 192 = .ok (.iconst 0, 1) := by decide +kernel
theorem dX8_next_193 : decode cX8_next 193 = .ok (.putfield 94, 3) := by decide +kernel
theorem dX8_next_196 : decode cX8_next 196 = .ok (.aload_n 0, 1) := by decide +kernel
theorem dX8_next_197 : decode cX8_next 197 = .ok (.aload_n 0, 1) := by decide +kernel
theorem dX8_next_198 : decode cX8_next 198 = .ok (.getfield 85, 3) := by decide +kernel
theorem dX8_next_201 : decode cX8_next 201 = .ok (.putfield 103, 3) := by decide +kernel
theorem dX8_next_204 : decode cX8_next 204 = .ok (.return_, 1) := by decide +kernel
theorem dX8_begin_0 : decode cX8_begin 0 = .ok (.aload_n 0, 1) := by decide +kernel
theorem dX8_begin_1 : decode cX8_begin 1 = .ok (.aload_n 0, 1) := by decide +kernel
theorem dX8_begin_2 : decode cX8_begin 2 = .ok (.getfield 75, 3) := by decide +kernel
theorem dX8_begin_5 : decode cX8_begin 5 = .ok (.putfield 81, 3) := by decide +kernel
theorem dX8_begin_8 : decode cX8_begin 8 = .ok (.aload_n 0, 1) := by decide +kernel
theorem dX8_begin_9 : decode cX8_begin 9 = .ok (.iconst 0, 1) := by decide +kernel
theorem dX8_begin_10 : decode cX8_begin 10 = .ok (.putfield 75, 3) := by decide +kernel
theorem dX8_begin_13 : decode cX8_begin 13 = .ok (.aload_n 0, 1) := by decide +kernel
theorem dX8_begin_14 : decode cX8_begin 14 = .ok (.iconst 0, 1) := by decide +kernel
theorem dX8_begin_15 : decode cX8_begin 15 = .ok (.putfield 85, 3) := by decide +kernel
theorem dX8_begin_18 : decode cX8_begin 18 = .ok (.aload_n 0, 1) := by decide +kernel
theorem dX8_begin_19 : decode cX8_begin 19 = .ok (.iconst 0, 1) := by decide +kernel
theorem dX8_begin_20 : decode cX8_begin 20 = .ok (.putfield 106, 3) := by decide +kernel
theorem dX8_begin_23 : decode cX8_begin 23 = .ok (.aload_n 0, 1) := by decide +kernel
theorem dX8_begin_24 : decode cX8_begin 24 = .ok (.invokevirtual 109, 3) := by decide +kernel
theorem dX8_begin_27 : decode cX8_begin 27 = .ok (.return_, 1) := by decide +kernel
theorem dX8_bad_0 : decode cX8_bad 0 = .ok (.aload_n 0, 1) := by decide +kernel
theorem dX8_bad_1 : decode cX8_bad 1 = .ok (.getfield 106, 3) := by decide +kernel
theorem dX8_bad_4 : decode cX8_bad 4 = .ok (.ifCond .ne 16, 3) := by decide +kernel
theorem dX8_bad_7 : decode cX8_bad 7 = .ok (.aload_n 0, 1) := by decide +kernel
theorem dX8_bad_8 : decode cX8_bad 8 = .ok (.iload_n 1, 1) := by decide +kernel
theorem dX8_bad_9 : decode cX8_bad 9 = .ok (.putfield 106, 3) := by decide +kernel
theorem dX8_bad_12 : decode cX8_bad 12 = .ok (.aload_n 0, 1) := by decide +kernel
theorem dX8_bad_13 : decode cX8_bad 13 = .ok (.aload_n 0, 1) := by decide +kernel
theorem dX8_bad_14 : decode cX8_bad 14 = .ok (.getfield 91, 3) := by decide +kernel
theorem dX8_bad_17 : decode cX8_bad 17 = .ok (.putfield 112, 3) := by decide +kernel
theorem dX8_bad_20 : decode cX8_bad 20 = .ok (.return_, 1) := by decide +kernel
theorem dX8_must_0 : decode cX8_must 0 = .ok (.iload_n 1, 1) := by decide +kernel
theorem dX8_must_1 : decode cX8_must 1 = .ok (.ifCond .ne 8, 3) := by decide +kernel
theorem dX8_must_4 : decode cX8_must 4 = .ok (.aload_n 0, 1) := by decide +kernel
theorem dX8_must_5 : decode cX8_must 5 = .ok (.iconst 1, 1) := by decide +kernel
theorem dX8_must_6 : decode cX8_must 6 = .ok (.invokevirtual 115, 3) := by decide +kernel
theorem dX8_must_9 : decode cX8_must 9 = .ok (.aload_n 0, 1) := by decide +kernel
theorem dX8_must_10 : decode cX8_must 10 = .ok (.getfield 106, 3) := by decide +kernel
theorem dX8_must_13 : decode cX8_must 13 = .ok (.ifCond .ne 7, 3) := by decide +kernel
theorem dX8_must_16 : decode cX8_must 16 = .ok (.aload_n 0, 1) := by decide +kernel
theorem dX8_must_17 : decode cX8_must 17 = .ok (.invokevirtual 109, 3) := by decide +kernel
theorem dX8_must_20 : decode cX8_must 20 = .ok (.return_, 1) := by decide +kernel
theorem dX8_name_0 : decode cX8_name 0 = .ok (.lconst 0, 1) := by decide +kernel
theorem dX8_name_1 : decode cX8_name 1 = .ok (.lstore_n 1, 1) := by decide +kernel
theorem dX8_name_2 : decode cX8_name 2 = .ok (.aload_n 0, 1) := by decide +kernel
theorem dX8_name_3 : decode cX8_name 3 = .ok (.getfield 91, 3) := by decide +kernel
theorem dX8_name_6 : decode cX8_name 6 = .ok (.istore_n 3, 1) := by decide +kernel
theorem dX8_name_7 : decode cX8_name 7 = .ok (.iload_n 3, 1) := by decide +kernel
theorem dX8_name_8 : decode cX8_name 8 = .ok (.aload_n 0, 1) := by decide +kernel
theorem dX8_name_9 : decode cX8_name 9 = .ok (.getfield 103, 3) := by decide +kernel
theorem dX8_name_12 : decode cX8_name 12 = .ok (.if_icmp .ge 44, 3) := by decide +kernel
theorem dX8_name_15 : decode cX8_name 15 = .ok (.aload_n 0, 1) := by decide +kernel
theorem dX8_name_16 : decode cX8_name 16 = .ok (.getfield 94, 3) := by decide +kernel
theorem dX8_name_19 : decode cX8_name 19 = .ok (.iconst 2, 1) := by decide +kernel
theorem dX8_name_20 : decode cX8_name 20 = .ok (.if_icmp .ne 36, 3) := by decide +kernel
theorem dX8_name_23 : decode cX8_name 23 = .ok (.aload_n 0, 1) := by decide +kernel
theorem dX8_name_24 : decode cX8_name 24 = .ok (.getfield 103, 3) := by decide +kernel
theorem dX8_name_27 : decode cX8_name 27 = .ok (.aload_n 0, 1) := by decide +kernel
theorem dX8_name_28 : decode cX8_name 28 = .ok (.getfield 91, 3) := by decide +kernel
theorem dX8_name_31 : decode cX8_name 31 = .ok (.isub, 1) := by decide +kernel
theorem dX8_name_32 : decode cX8_name 32 = .ok (.bipush 8, 2) := by decide +kernel
theorem dX8_name_34 : decode cX8_name 34 = .ok (.if_icmp .ge 22, 3) := by decide +kernel
theorem dX8_name_37 : decode cX8_name 37 = .ok (.lload_n 1, 1) := by decide +kernel
theorem dX8_name_38 : decode cX8_name 38 = .ok (.bipush 8, 2) := by decide +kernel
theorem dX8_name_40 : decode cX8_name 40 = .ok (.lshl, 1) := by decide +kernel
theorem dX8_name_41 : decode cX8_name 41 = .ok (.aload_n 0, 1) := by decide +kernel
theorem dX8_name_42 : decode cX8_name 42 = .ok (.getfield 28, 3) := by decide +kernel
theorem dX8_name_45 : decode cX8_name 45 = .ok (.iload_n 3, 1) := by decide +kernel
theorem dX8_name_46 : decode cX8_name 46 = .ok (.iaload, 1) := by decide +kernel
theorem dX8_name_47 : decode cX8_name 47 = .ok (.i2l, 1) := by decide +kernel
theorem dX8_name_48 : decode cX8_name 48 = .ok (.lor, 1) := by decide +kernel
theorem dX8_name_49 : decode cX8_name 49 = .ok (.lstore_n 1, 1) := by decide +kernel
theorem dX8_name_50 : decode cX8_name 50 = .ok (.iinc 3 1, 3) := by decide +kernel
theorem dX8_name_53 : decode cX8_name 53 = .ok (.goto (-46), 3) := by decide +kernel
theorem dX8_name_56 : decode cX8_name 56 = .ok (.aload_n 0, 1) := by decide +kernel
theorem dX8_name_57 : decode cX8_name 57 = .ok (.getfield 106, 3) := by decide +kernel
theorem dX8_name_60 : decode cX8_name 60 = .ok (.ifCond .ne 7, 3) := by decide +kernel
theorem dX8_name_63 : decode cX8_name 63 = .ok (.lload_n 1, 1) := by decide +kernel
theorem dX8_name_64 : decode cX8_name 64 = .ok (.goto 4, 3) := by decide +kernel
theorem dX8_name_67 : decode cX8_name 67 = .ok (.lconst 0, 1) := by decide +kernel
theorem dX8_name_68 : decode cX8_name 68 = .ok (.lreturn, 1) := by decide +kernel
theorem dX8_figures_0 : decode cX8_figures 0 = .ok (.iconst 0, 1) := by decide +kernel
theorem dX8_figures_1 : decode cX8_figures 1 = .ok (.istore_n 1, 1) := by decide +kernel
theorem dX8_figures_2 : decode cX8_figures 2 = .ok (.aload_n 0, 1) := by decide +kernel
theorem dX8_figures_3 : decode cX8_figures 3 = .ok (.getfield 91, 3) := by decide +kernel
theorem dX8_figures_6 : decode cX8_figures 6 = .ok (.istore_n 2, 1) := by decide +kernel
theorem dX8_figures_7 : decode cX8_figures 7 = .ok (.iload_n 2, 1) := by decide +kernel
theorem dX8_figures_8 : decode cX8_figures 8 = .ok (.aload_n 0, 1) := by decide +kernel
theorem dX8_figures_9 : decode cX8_figures 9 = .ok (.getfield 103, 3) := by decide +kernel
theorem dX8_figures_12 : decode cX8_figures 12 = .ok (.if_icmp .ge 32, 3) := by decide +kernel
theorem dX8_figures_15 : decode cX8_figures 15 = .ok (.aload_n 0, 1) := by decide +kernel
theorem dX8_figures_16 : decode cX8_figures 16 = .ok (.getfield 94, 3) := by decide +kernel
theorem dX8_figures_19 : decode cX8_figures 19 = .ok (.iconst 3, 1) := by decide +kernel
theorem dX8_figures_20 : decode cX8_figures 20 = .ok (.if_icmp .ne 24, 3) := by decide +kernel
theorem dX8_figures_23 : decode cX8_figures 23 = .ok (.bipush 10, 2) := by decide +kernel
theorem dX8_figures_25 : decode cX8_figures 25 = .ok (.iload_n 1, 1) := by decide +kernel
theorem dX8_figures_26 : decode cX8_figures 26 = .ok (.imul, 1) := by decide +kernel
theorem dX8_figures_27 : decode cX8_figures 27 = .ok (.aload_n 0, 1) := by decide +kernel
theorem dX8_figures_28 : decode cX8_figures 28 = .ok (.getfield 28, 3) := by decide +kernel
theorem dX8_figures_31 : decode cX8_figures 31 = .ok (.iload_n 2, 1) := by decide +kernel
theorem dX8_figures_32 : decode cX8_figures 32 = .ok (.iaload, 1) := by decide +kernel
theorem dX8_figures_33 : decode cX8_figures 33 = .ok (.iadd, 1) := by decide +kernel
theorem dX8_figures_34 : decode cX8_figures 34 = .ok (.bipush 48, 2) := by decide +kernel
theorem dX8_figures_36 : decode cX8_figures 36 = .ok (.isub, 1) := by decide +kernel
theorem dX8_figures_37 : decode cX8_figures 37 = .ok (.istore_n 1, 1) := by decide +kernel
theorem dX8_figures_38 : decode cX8_figures 38 = .ok (.iinc 2 1, 3) := by decide +kernel
theorem dX8_figures_41 : decode cX8_figures 41 = .ok (.goto (-34), 3) := by decide +kernel
theorem dX8_figures_44 : decode cX8_figures 44 = .ok (.iload_n 1, 1) := by decide +kernel
theorem dX8_figures_45 : decode cX8_figures 45 = .ok (.ireturn, 1) := by decide +kernel
theorem dX8_number_0 : decode cX8_number 0 = .ok (.aload_n 0, 1) := by decide +kernel
theorem dX8_number_1 : decode cX8_number 1 = .ok (.getfield 106, 3) := by decide +kernel
theorem dX8_number_4 : decode cX8_number 4 = .ok (.ifCond .le 5, 3) := by decide +kernel
theorem dX8_number_7 : decode cX8_number 7 = .ok (.iconst 0, 1) := by decide +kernel
theorem dX8_number_8 : decode cX8_number 8 = .ok (.ireturn, 1) := by decide +kernel
theorem dX8_number_9 : decode cX8_number 9 = .ok (.aload_n 0, 1) := by decide +kernel
theorem dX8_number_10 : decode cX8_number 10 = .ok (.invokevirtual 119, 3) := by decide +kernel
theorem dX8_number_13 : decode cX8_number 13 = .ok (.istore_n 3, 1) := by decide +kernel
theorem dX8_number_14 : decode cX8_number 14 = .ok (.aload_n 0, 1) := by decide +kernel
theorem dX8_number_15 : decode cX8_number 15 = .ok (.getfield 94, 3) := by decide +kernel
theorem dX8_number_18 : decode cX8_number 18 = .ok (.iconst 3, 1) := by decide +kernel
theorem dX8_number_19 : decode cX8_number 19 = .ok (.if_icmp .ne 20, 3) := by decide +kernel
theorem dX8_number_22 : decode cX8_number 22 = .ok (.iload_n 3, 1) := by decide +kernel
theorem dX8_number_23 : decode cX8_number 23 = .ok (.i2l, 1) := by decide +kernel
theorem dX8_number_24 : decode cX8_number 24 = .ok (.iload_n 1, 1) := by decide +kernel
theorem dX8_number_25 : decode cX8_number 25 = .ok (.i2l, 1) := by decide +kernel
theorem dX8_number_26 : decode cX8_number 26 = .ok (.iload_n 2, 1) := by decide +kernel
theorem dX8_number_27 : decode cX8_number 27 = .ok (.i2l, 1) := by decide +kernel
theorem dX8_number_28 : decode cX8_number 28 = .ok (.invokestatic 58, 3) := by decide +kernel
theorem dX8_number_31 : decode cX8_number 31 = .ok (.ifCond .ne 8, 3) := by decide +kernel
theorem dX8_number_34 : decode cX8_number 34 = .ok (.aload_n 0, 1) := by decide +kernel
theorem dX8_number_35 : decode cX8_number 35 = .ok (.iconst 2, 1) := by decide +kernel
theorem dX8_number_36 : decode cX8_number 36 = .ok (.invokevirtual 115, 3) := by decide +kernel
theorem dX8_number_39 : decode cX8_number 39 = .ok (.aload_n 0, 1) := by decide +kernel
theorem dX8_number_40 : decode cX8_number 40 = .ok (.aload_n 0, 1) := by decide +kernel
theorem dX8_number_41 : decode cX8_number 41 = .ok (.getfield 94, 3) := by decide +kernel
theorem dX8_number_44 : decode cX8_number 44 = .ok (.iconst 3, 1) := by decide +kernel
theorem dX8_number_45 : decode cX8_number 45 = .ok (.if_icmp .ne 7, 3) := by decide +kernel
theorem dX8_number_48 : decode cX8_number 48 = .ok (.iconst 1, 1) := by decide +kernel
theorem dX8_number_49 : decode cX8_number 49 = .ok (.goto 4, 3) := by decide +kernel
theorem dX8_number_52 : decode cX8_number 52 = .ok (.iconst 0, 1) := by decide +kernel
theorem dX8_number_53 : decode cX8_number 53 = .ok (.invokevirtual 123, 3) := by decide +kernel
theorem dX8_number_56 : decode cX8_number 56 = .ok (.iload_n 3, 1) := by decide +kernel
theorem dX8_number_57 : decode cX8_number 57 = .ok (.ireturn, 1) := by decide +kernel
theorem dX8_kindBy_0 : decode cX8_kindBy 0 = .ok (.lload_n 0, 1) := by decide +kernel
theorem dX8_kindBy_1 : decode cX8_kindBy 1 = .ok (.ldc2_w 127, 3) := by decide +kernel
theorem dX8_kindBy_4 : decode cX8_kindBy 4 = .ok (.lcmp, 1) := by decide +kernel
theorem dX8_kindBy_5 : decode cX8_kindBy 5 = .ok (.ifCond .ne 7, 3) := by decide +kernel
theorem dX8_kindBy_8 : decode cX8_kindBy 8 = .ok (.iconst 1, 1) := by decide +kernel
theorem dX8_kindBy_9 : decode cX8_kindBy 9 = .ok (.goto 53, 3) := by decide +kernel
theorem dX8_kindBy_12 : decode cX8_kindBy 12 = .ok (.lload_n 0, 1) := by decide +kernel
theorem dX8_kindBy_13 : decode cX8_kindBy 13 = .ok (.ldc2_w 129, 3) := by decide +kernel
theorem dX8_kindBy_16 : decode cX8_kindBy 16 = .ok (.lcmp, 1) := by decide +kernel
theorem dX8_kindBy_17 : decode cX8_kindBy 17 = .ok (.ifCond .ne 7, 3) := by decide +kernel
theorem dX8_kindBy_20 : decode cX8_kindBy 20 = .ok (.iconst 2, 1) := by decide +kernel
theorem dX8_kindBy_21 : decode cX8_kindBy 21 = .ok (.goto 41, 3) := by decide +kernel
theorem dX8_kindBy_24 : decode cX8_kindBy 24 = .ok (.lload_n 0, 1) := by decide +kernel
theorem dX8_kindBy_25 : decode cX8_kindBy 25 = .ok (.ldc2_w 131, 3) := by decide +kernel
theorem dX8_kindBy_28 : decode cX8_kindBy 28 = .ok (.lcmp, 1) := by decide +kernel
theorem dX8_kindBy_29 : decode cX8_kindBy 29 = .ok (.ifCond .ne 7, 3) := by decide +kernel
theorem dX8_kindBy_32 : decode cX8_kindBy 32 = .ok (.iconst 3, 1) := by decide +kernel
theorem dX8_kindBy_33 : decode cX8_kindBy 33 = .ok (.goto 29, 3) := by decide +kernel
theorem dX8_kindBy_36 : decode cX8_kindBy 36 = .ok (.lload_n 0, 1) := by decide +kernel
theorem dX8_kindBy_37 : decode cX8_kindBy 37 = .ok (.ldc2_w 133, 3) := by decide +kernel
theorem dX8_kindBy_40 : decode cX8_kindBy 40 = .ok (.lcmp, 1) := by decide +kernel
theorem dX8_kindBy_41 : decode cX8_kindBy 41 = .ok (.ifCond .ne 7, 3) := by decide +kernel
theorem dX8_kindBy_44 : decode cX8_kindBy 44 = .ok (.iconst 4, 1) := by decide +kernel
theorem dX8_kindBy_45 : decode cX8_kindBy 45 = .ok (.goto 17, 3) := by decide +kernel
theorem dX8_kindBy_48 : decode cX8_kindBy 48 = .ok (.lload_n 0, 1) := by decide +kernel
theorem dX8_kindBy_49 : decode cX8_kindBy 49 = .ok (.ldc2_w 135, 3) := by decide +kernel
theorem dX8_kindBy_52 : decode cX8_kindBy 52 = .ok (.lcmp, 1) := by decide +kernel
theorem dX8_kindBy_53 : decode cX8_kindBy 53 = .ok (.ifCond .ne 7, 3) := by decide +kernel
theorem dX8_kindBy_56 : decode cX8_kindBy 56 = .ok (.iconst 5, 1) := by decide +kernel
theorem dX8_kindBy_57 : decode cX8_kindBy 57 = .ok (.goto 5, 3) := by decide +kernel
theorem dX8_kindBy_60 : decode cX8_kindBy 60 = .ok (.ldc 84, 2) := by decide +kernel
theorem dX8_kindBy_62 : decode cX8_kindBy 62 = .ok (.ireturn, 1) := by decide +kernel
theorem dX8_mustEnd_0 : decode cX8_mustEnd 0 = .ok (.aload_n 0, 1) := by decide +kernel
theorem dX8_mustEnd_1 : decode cX8_mustEnd 1 = .ok (.getfield 106, 3) := by decide +kernel
theorem dX8_mustEnd_4 : decode cX8_mustEnd 4 = .ok (.ifCond .ne 20, 3) := by decide +kernel
theorem dX8_mustEnd_7 : decode cX8_mustEnd 7 = .ok (.aload_n 0, 1) := by decide +kernel
theorem dX8_mustEnd_8 : decode cX8_mustEnd 8 = .ok (.aload_n 0, 1) := by decide +kernel
theorem dX8_mustEnd_9 : decode cX8_mustEnd 9 = .ok (.getfield 94, 3) := by decide +kernel
theorem dX8_mustEnd_12 : decode cX8_mustEnd 12 = .ok (.iconst 4, 1) := by decide +kernel
theorem dX8_mustEnd_13 : decode cX8_mustEnd 13 = .ok (.if_icmp .ne 7, 3) := by decide +kernel
theorem dX8_mustEnd_16 : decode cX8_mustEnd 16 = .ok (.iconst 1, 1) := by decide +kernel
theorem dX8_mustEnd_17 : decode cX8_mustEnd 17 = .ok (.goto 4, 3) := by decide +kernel
theorem dX8_mustEnd_20 : decode cX8_mustEnd 20 = .ok (.iconst 0, 1) := by decide +kernel
theorem dX8_mustEnd_21 : decode cX8_mustEnd 21 = .ok (.invokevirtual 123, 3) := by decide +kernel
theorem dX8_mustEnd_24 : decode cX8_mustEnd 24 = .ok (.return_, 1) := by decide +kernel
theorem dX8_begins_0 : decode cX8_begins 0 = .ok (.aload_n 0, 1) := by decide +kernel
theorem dX8_begins_1 : decode cX8_begins 1 = .ok (.getfield 22, 3) := by decide +kernel
theorem dX8_begins_4 : decode cX8_begins 4 = .ok (.iload_n 1, 1) := by decide +kernel
theorem dX8_begins_5 : decode cX8_begins 5 = .ok (.iaload, 1) := by decide +kernel
theorem dX8_begins_6 : decode cX8_begins 6 = .ok (.iload_n 2, 1) := by decide +kernel
theorem dX8_begins_7 : decode cX8_begins 7 = .ok (.if_icmp .ne 8, 3) := by decide +kernel
theorem dX8_begins_10 : decode cX8_begins 10 = .ok (.aload_n 0, 1) := by decide +kernel
theorem dX8_begins_11 : decode cX8_begins 11 = .ok (.iconst 3, 1) := by decide +kernel
theorem dX8_begins_12 : decode cX8_begins 12 = .ok (.invokevirtual 115, 3) := by decide +kernel
theorem dX8_begins_15 : decode cX8_begins 15 = .ok (.aload_n 0, 1) := by decide +kernel
theorem dX8_begins_16 : decode cX8_begins 16 = .ok (.iconst 1, 1) := by decide +kernel
theorem dX8_begins_17 : decode cX8_begins 17 = .ok (.invokevirtual 123, 3) := by decide +kernel
theorem dX8_begins_20 : decode cX8_begins 20 = .ok (.return_, 1) := by decide +kernel
theorem dX8_readWay_0 : decode cX8_readWay 0 = .ok (.aload_n 0, 1) := by decide +kernel
theorem dX8_readWay_1 : decode cX8_readWay 1 = .ok (.iconst 2, 1) := by decide +kernel
theorem dX8_readWay_2 : decode cX8_readWay 2 = .ok (.bipush 8, 2) := by decide +kernel
theorem dX8_readWay_4 : decode cX8_readWay 4 = .ok (.invokevirtual 137, 3) := by decide +kernel
theorem dX8_readWay_7 : decode cX8_readWay 7 = .ok (.aload_n 0, 1) := by decide +kernel
theorem dX8_readWay_8 : decode cX8_readWay 8 = .ok (.iconst 0, 1) := by decide +kernel
theorem dX8_readWay_9 : decode cX8_readWay 9 = .ok (.aload_n 0, 1) := by decide +kernel
theorem dX8_readWay_10 : decode cX8_readWay 10 = .ok (.getfield 22, 3) := by decide +kernel
theorem dX8_readWay_13 : decode cX8_readWay 13 = .ok (.iconst 0, 1) := by decide +kernel
theorem dX8_readWay_14 : decode cX8_readWay 14 = .ok (.iaload, 1) := by decide +kernel
theorem dX8_readWay_15 : decode cX8_readWay 15 = .ok (.iconst 1, 1) := by decide +kernel
theorem dX8_readWay_16 : decode cX8_readWay 16 = .ok (.isub, 1) := by decide +kernel
theorem dX8_readWay_17 : decode cX8_readWay 17 = .ok (.invokevirtual 141, 3) := by decide +kernel
theorem dX8_readWay_20 : decode cX8_readWay 20 = .ok (.istore_n 1, 1) := by decide +kernel
theorem dX8_readWay_21 : decode cX8_readWay 21 = .ok (.aload_n 0, 1) := by decide +kernel
theorem dX8_readWay_22 : decode cX8_readWay 22 = .ok (.getfield 106, 3) := by decide +kernel
theorem dX8_readWay_25 : decode cX8_readWay 25 = .ok (.ifCond .ne 24, 3) := by decide +kernel
theorem dX8_readWay_28 : decode cX8_readWay 28 = .ok (.aload_n 0, 1) := by decide +kernel
theorem dX8_readWay_29 : decode cX8_readWay 29 = .ok (.getfield 94, 3) := by decide +kernel
theorem dX8_readWay_32 : decode cX8_readWay 32 = .ok (.iconst 3, 1) := by decide +kernel
theorem dX8_readWay_33 : decode cX8_readWay 33 = .ok (.if_icmp .ne 16, 3) := by decide +kernel
theorem dX8_readWay_36 : decode cX8_readWay 36 = .ok (.aload_n 0, 1) := by decide +kernel
theorem dX8_readWay_37 : decode cX8_readWay 37 = .ok (.invokevirtual 119, 3) := by decide +kernel
theorem dX8_readWay_40 : decode cX8_readWay 40 = .ok (.iload_n 1, 1) := by decide +kernel
theorem dX8_readWay_41 : decode cX8_readWay 41 = .ok (.if_icmp .ne 8, 3) := by decide +kernel
theorem dX8_readWay_44 : decode cX8_readWay 44 = .ok (.aload_n 0, 1) := by decide +kernel
theorem dX8_readWay_45 : decode cX8_readWay 45 = .ok (.iconst 2, 1) := by decide +kernel
theorem dX8_readWay_46 : decode cX8_readWay 46 = .ok (.invokevirtual 115, 3) := by decide +kernel
theorem dX8_readWay_49 : decode cX8_readWay 49 = .ok (.aload_n 0, 1) := by decide +kernel
theorem dX8_readWay_50 : decode cX8_readWay 50 = .ok (.iconst 0, 1) := by decide +kernel
theorem dX8_readWay_51 : decode cX8_readWay 51 = .ok (.aload_n 0, 1) := by decide +kernel
theorem dX8_readWay_52 : decode cX8_readWay 52 = .ok (.getfield 22, 3) := by decide +kernel
theorem dX8_readWay_55 : decode cX8_readWay 55 = .ok (.iconst 0, 1) := by decide +kernel
theorem dX8_readWay_56 : decode cX8_readWay 56 = .ok (.iaload, 1) := by decide +kernel
theorem dX8_readWay_57 : decode cX8_readWay 57 = .ok (.iconst 1, 1) := by decide +kernel
theorem dX8_readWay_58 : decode cX8_readWay 58 = .ok (.isub, 1) := by decide +kernel
theorem dX8_readWay_59 : decode cX8_readWay 59 = .ok (.invokevirtual 141, 3) := by decide +kernel
theorem dX8_readWay_62 : decode cX8_readWay 62 = .ok (.istore_n 2, 1) := by decide +kernel
theorem dX8_readWay_63 : decode cX8_readWay 63 = .ok (.aload_n 0, 1) := by decide +kernel
theorem dX8_readWay_64 : decode cX8_readWay 64 = .ok (.iconst 1, 1) := by decide +kernel
theorem dX8_readWay_65 : decode cX8_readWay 65 = .ok (.bipush 20, 2) := by decide +kernel
theorem dX8_readWay_67 : decode cX8_readWay 67 = .ok (.invokevirtual 141, 3) := by decide +kernel
theorem dX8_readWay_70 : decode cX8_readWay 70 = .ok (.istore_n 3, 1) := by decide +kernel
theorem dX8_readWay_71 : decode cX8_readWay 71 = .ok (.aload_n 0, 1) := by decide +kernel
theorem dX8_readWay_72 : decode cX8_readWay 72 = .ok (.iconst 0, 1) := by decide +kernel
theorem dX8_readWay_73 : decode cX8_readWay 73 = .ok (.iload_n 3, 1) := by decide +kernel
theorem dX8_readWay_74 : decode cX8_readWay 74 = .ok (.invokevirtual 141, 3) := by decide +kernel
theorem dX8_readWay_77 : decode cX8_readWay 77 = .ok (.istore 4, 2) := by decide +kernel
theorem dX8_readWay_79 : decode cX8_readWay 79 = .ok (.aload_n 0, 1) := by decide +kernel
theorem dX8_readWay_80 : decode cX8_readWay 80 = .ok (.invokevirtual 145, 3) := by decide +kernel
theorem dX8_readWay_83 : decode cX8_readWay 83 = .ok (.aload_n 0, 1) := by decide +kernel
theorem dX8_readWay_84 : decode cX8_readWay 84 = .ok (.getfield 106, 3) := by decide +kernel
theorem dX8_readWay_87 : decode cX8_readWay 87 = .ok (.ifCond .ne 64, 3) := by decide +kernel
theorem dX8_readWay_90 : decode cX8_readWay 90 = .ok (.iconst 4, 1) := by decide +kernel
theorem dX8_readWay_91 : decode cX8_readWay 91 = .ok (.iconst 4, 1) := by decide +kernel
theorem dX8_readWay_92 : decode cX8_readWay 92 = .ok (.aload_n 0, 1) := by decide +kernel
theorem dX8_readWay_93 : decode cX8_readWay 93 = .ok (.getfield 22, 3) := by decide +kernel
theorem dX8_readWay_96 : decode cX8_readWay 96 = .ok (.iconst 2, 1) := by decide +kernel
theorem dX8_readWay_97 : decode cX8_readWay 97 = .ok (.iaload, 1) := by decide +kernel
theorem dX8_readWay_98 : decode cX8_readWay 98 = .ok (.imul, 1) := by decide +kernel
theorem dX8_readWay_99 : decode cX8_readWay 99 = .ok (.iadd, 1) := by decide +kernel
theorem dX8_readWay_100 : decode cX8_readWay 100 = .ok (.istore 5, 2) := by decide +kernel
theorem dX8_readWay_102 : decode cX8_readWay 102 = .ok (.aload_n 0, 1) := by decide +kernel
theorem dX8_readWay_103 : decode cX8_readWay 103 = .ok (.getfield 22, 3) := by decide +kernel
theorem dX8_readWay_106 : decode cX8_readWay 106 = .ok (.iload 5, 2) := by decide +kernel
theorem dX8_readWay_108 : decode cX8_readWay 108 = .ok (.iload_n 1, 1) := by decide +kernel
theorem dX8_readWay_109 : decode cX8_readWay 109 = .ok (.iastore, 1) := by decide +kernel
theorem dX8_readWay_110 : decode cX8_readWay 110 = .ok (.aload_n 0, 1) := by decide +kernel
theorem dX8_readWay_111 : decode cX8_readWay 111 = .ok (.getfield 22, 3) := by decide +kernel
theorem dX8_readWay_114 : decode cX8_readWay 114 = .ok (.iload 5, 2) := by decide +kernel
theorem dX8_readWay_116 : decode cX8_readWay 116 = .ok (.iconst 1, 1) := by decide +kernel
theorem dX8_readWay_117 : decode cX8_readWay 117 = .ok (.iadd, 1) := by decide +kernel
theorem dX8_readWay_118 : decode cX8_readWay 118 = .ok (.iload_n 2, 1) := by decide +kernel
theorem dX8_readWay_119 : decode cX8_readWay 119 = .ok (.iastore, 1) := by decide +kernel
theorem dX8_readWay_120 : decode cX8_readWay 120 = .ok (.aload_n 0, 1) := by decide +kernel
theorem dX8_readWay_121 : decode cX8_readWay 121 = .ok (.getfield 22, 3) := by decide +kernel
theorem dX8_readWay_124 : decode cX8_readWay 124 = .ok (.iload 5, 2) := by decide +kernel
theorem dX8_readWay_126 : decode cX8_readWay 126 = .ok (.iconst 2, 1) := by decide +kernel
theorem dX8_readWay_127 : decode cX8_readWay 127 = .ok (.iadd, 1) := by decide +kernel
theorem dX8_readWay_128 : decode cX8_readWay 128 = .ok (.iload_n 3, 1) := by decide +kernel
theorem dX8_readWay_129 : decode cX8_readWay 129 = .ok (.iastore, 1) := by decide +kernel
theorem dX8_readWay_130 : decode cX8_readWay 130 = .ok (.aload_n 0, 1) := by decide +kernel
theorem dX8_readWay_131 : decode cX8_readWay 131 = .ok (.getfield 22, 3) := by decide +kernel
theorem dX8_readWay_134 : decode cX8_readWay 134 = .ok (.iload 5, 2) := by decide +kernel
theorem dX8_readWay_136 : decode cX8_readWay 136 = .ok (.iconst 3, 1) := by decide +kernel
theorem dX8_readWay_137 : decode cX8_readWay 137 = .ok (.iadd, 1) := by decide +kernel
theorem dX8_readWay_138 : decode cX8_readWay 138 = .ok (.iload 4, 2) := by decide +kernel
theorem dX8_readWay_140 : decode cX8_readWay 140 = .ok (.iastore, 1) := by decide +kernel
theorem dX8_readWay_141 : decode cX8_readWay 141 = .ok (.aload_n 0, 1) := by decide +kernel
theorem dX8_readWay_142 : decode cX8_readWay 142 = .ok (.getfield 22, 3) := by decide +kernel
theorem dX8_readWay_145 : decode cX8_readWay 145 = .ok (.iconst 2, 1) := by decide +kernel
theorem dX8_readWay_146 : decode cX8_readWay 146 = .ok (.dup2, 1) := by decide +kernel
theorem dX8_readWay_147 : decode cX8_readWay 147 = .ok (.iaload, 1) := by decide +kernel
theorem dX8_readWay_148 : decode cX8_readWay 148 = .ok (.iconst 1, 1) := by decide +kernel
theorem dX8_readWay_149 : decode cX8_readWay 149 = .ok (.iadd, 1) := by decide +kernel
theorem dX8_readWay_150 : decode cX8_readWay 150 = .ok (.iastore, 1) := by decide +kernel
theorem dX8_readWay_151 : decode cX8_readWay 151 = .ok (.return_, 1) := by decide +kernel
theorem dX8_readPerson_0 : decode cX8_readPerson 0 = .ok (.aload_n 0, 1) := by decide +kernel
theorem dX8_readPerson_1 : decode cX8_readPerson 1 = .ok (.iconst 3, 1) := by decide +kernel
theorem dX8_readPerson_2 : decode cX8_readPerson 2 = .ok (.iconst 4, 1) := by decide +kernel
theorem dX8_readPerson_3 : decode cX8_readPerson 3 = .ok (.invokevirtual 137, 3) := by decide +kernel
theorem dX8_readPerson_6 : decode cX8_readPerson 6 = .ok (.aload_n 0, 1) := by decide +kernel
theorem dX8_readPerson_7 : decode cX8_readPerson 7 = .ok (.invokevirtual 148, 3) := by decide +kernel
theorem dX8_readPerson_10 : decode cX8_readPerson 10 = .ok (.invokestatic 152, 3) := by decide +kernel
theorem dX8_readPerson_13 : decode cX8_readPerson 13 = .ok (.istore_n 1, 1) := by decide +kernel
theorem dX8_readPerson_14 : decode cX8_readPerson 14 = .ok (.aload_n 0, 1) := by decide +kernel
theorem dX8_readPerson_15 : decode cX8_readPerson 15 = .ok (.getfield 106, 3) := by decide +kernel
theorem dX8_readPerson_18 : decode cX8_readPerson 18 = .ok (.ifCond .ne 18, 3) := by decide +kernel
theorem dX8_readPerson_21 : decode cX8_readPerson 21 = .ok (.aload_n 0, 1) := by decide +kernel
theorem dX8_readPerson_22 : decode cX8_readPerson 22 = .ok (.iload_n 1, 1) := by decide +kernel
theorem dX8_readPerson_23 : decode cX8_readPerson 23 = .ok (.ldc 84, 2) := by decide +kernel
theorem dX8_readPerson_25 : decode cX8_readPerson 25 = .ok (.if_icmp .eq 7, 3) := by decide +kernel
theorem dX8_readPerson_28 : decode cX8_readPerson 28 = .ok (.iconst 1, 1) := by decide +kernel
theorem dX8_readPerson_29 : decode cX8_readPerson 29 = .ok (.goto 4, 3) := by decide +kernel
theorem dX8_readPerson_32 : decode cX8_readPerson 32 = .ok (.iconst 0, 1) := by decide +kernel
theorem dX8_readPerson_33 : decode cX8_readPerson 33 = .ok (.invokevirtual 123, 3) := by decide +kernel
theorem dX8_readPerson_36 : decode cX8_readPerson 36 = .ok (.aload_n 0, 1) := by decide +kernel
theorem dX8_readPerson_37 : decode cX8_readPerson 37 = .ok (.iconst 0, 1) := by decide +kernel
theorem dX8_readPerson_38 : decode cX8_readPerson 38 = .ok (.aload_n 0, 1) := by decide +kernel
theorem dX8_readPerson_39 : decode cX8_readPerson 39 = .ok (.getfield 22, 3) := by decide +kernel
theorem dX8_readPerson_42 : decode cX8_readPerson 42 = .ok (.iconst 0, 1) := by decide +kernel
theorem dX8_readPerson_43 : decode cX8_readPerson 43 = .ok (.iaload, 1) := by decide +kernel
theorem dX8_readPerson_44 : decode cX8_readPerson 44 = .ok (.iconst 1, 1) := by decide +kernel
theorem dX8_readPerson_45 : decode cX8_readPerson 45 = .ok (.isub, 1) := by decide +kernel
theorem dX8_readPerson_46 : decode cX8_readPerson 46 = .ok (.invokevirtual 141, 3) := by decide +kernel
theorem dX8_readPerson_49 : decode cX8_readPerson 49 = .ok (.istore_n 2, 1) := by decide +kernel
theorem dX8_readPerson_50 : decode cX8_readPerson 50 = .ok (.aload_n 0, 1) := by decide +kernel
theorem dX8_readPerson_51 : decode cX8_readPerson 51 = .ok (.iconst 0, 1) := by decide +kernel
theorem dX8_readPerson_52 : decode cX8_readPerson 52 = .ok (.bipush 99, 2) := by decide +kernel
theorem dX8_readPerson_54 : decode cX8_readPerson 54 = .ok (.invokevirtual 141, 3) := by decide +kernel
theorem dX8_readPerson_57 : decode cX8_readPerson 57 = .ok (.istore_n 3, 1) := by decide +kernel
theorem dX8_readPerson_58 : decode cX8_readPerson 58 = .ok (.aload_n 0, 1) := by decide +kernel
theorem dX8_readPerson_59 : decode cX8_readPerson 59 = .ok (.invokevirtual 145, 3) := by decide +kernel
theorem dX8_readPerson_62 : decode cX8_readPerson 62 = .ok (.aload_n 0, 1) := by decide +kernel
theorem dX8_readPerson_63 : decode cX8_readPerson 63 = .ok (.getfield 106, 3) := by decide +kernel
theorem dX8_readPerson_66 : decode cX8_readPerson 66 = .ok (.ifCond .ne 65, 3) := by decide +kernel
theorem dX8_readPerson_69 : decode cX8_readPerson 69 = .ok (.bipush 36, 2) := by decide +kernel
theorem dX8_readPerson_71 : decode cX8_readPerson 71 = .ok (.bipush 8, 2) := by decide +kernel
theorem dX8_readPerson_73 : decode cX8_readPerson 73 = .ok (.aload_n 0, 1) := by decide +kernel
theorem dX8_readPerson_74 : decode cX8_readPerson 74 = .ok (.getfield 22, 3) := by decide +kernel
theorem dX8_readPerson_77 : decode cX8_readPerson 77 = .ok (.iconst 3, 1) := by decide +kernel
theorem dX8_readPerson_78 : decode cX8_readPerson 78 = .ok (.iaload, 1) := by decide +kernel
theorem dX8_readPerson_79 : decode cX8_readPerson 79 = .ok (.imul, 1) := by decide +kernel
theorem dX8_readPerson_80 : decode cX8_readPerson 80 = .ok (.iadd, 1) := by decide +kernel
theorem dX8_readPerson_81 : decode cX8_readPerson 81 = .ok (.istore 4, 2) := by decide +kernel
theorem dX8_readPerson_83 : decode cX8_readPerson 83 = .ok (.aload_n 0, 1) := by decide +kernel
theorem dX8_readPerson_84 : decode cX8_readPerson 84 = .ok (.getfield 22, 3) := by decide +kernel
theorem dX8_readPerson_87 : decode cX8_readPerson 87 = .ok (.iload 4, 2) := by decide +kernel
theorem dX8_readPerson_89 : decode cX8_readPerson 89 = .ok (.iload_n 1, 1) := by decide +kernel
theorem dX8_readPerson_90 : decode cX8_readPerson 90 = .ok (.iastore, 1) := by decide +kernel
theorem dX8_readPerson_91 : decode cX8_readPerson 91 = .ok (.aload_n 0, 1) := by decide +kernel
theorem dX8_readPerson_92 : decode cX8_readPerson 92 = .ok (.getfield 22, 3) := by decide +kernel
theorem dX8_readPerson_95 : decode cX8_readPerson 95 = .ok (.iload 4, 2) := by decide +kernel
theorem dX8_readPerson_97 : decode cX8_readPerson 97 = .ok (.iconst 1, 1) := by decide +kernel
theorem dX8_readPerson_98 : decode cX8_readPerson 98 = .ok (.iadd, 1) := by decide +kernel
theorem dX8_readPerson_99 : decode cX8_readPerson 99 = .ok (.iload_n 2, 1) := by decide +kernel
theorem dX8_readPerson_100 : decode cX8_readPerson 100 = .ok (.iastore, 1) := by decide +kernel
theorem dX8_readPerson_101 : decode cX8_readPerson 101 = .ok (.aload_n 0, 1) := by decide +kernel
theorem dX8_readPerson_102 : decode cX8_readPerson 102 = .ok (.getfield 22, 3) := by decide +kernel
theorem dX8_readPerson_105 : decode cX8_readPerson 105 = .ok (.iload 4, 2) := by decide +kernel
theorem dX8_readPerson_107 : decode cX8_readPerson 107 = .ok (.iconst 2, 1) := by decide +kernel
theorem dX8_readPerson_108 : decode cX8_readPerson 108 = .ok (.iadd, 1) := by decide +kernel
theorem dX8_readPerson_109 : decode cX8_readPerson 109 = .ok (.iload_n 3, 1) := by decide +kernel
theorem dX8_readPerson_110 : decode cX8_readPerson 110 = .ok (.iastore, 1) := by decide +kernel
theorem dX8_readPerson_111 : decode cX8_readPerson 111 = .ok (.aload_n 0, 1) := by decide +kernel
theorem dX8_readPerson_112 : decode cX8_readPerson 112 = .ok (.getfield 22, 3) := by decide +kernel
theorem dX8_readPerson_115 : decode cX8_readPerson 115 = .ok (.iload 4, 2) := by decide +kernel
theorem dX8_readPerson_117 : decode cX8_readPerson 117 = .ok (.iconst 4, 1) := by decide +kernel
theorem dX8_readPerson_118 : decode cX8_readPerson 118 = .ok (.iadd, 1) := by decide +kernel
theorem dX8_readPerson_119 : decode cX8_readPerson 119 = .ok (.iload_n 3, 1) := by decide +kernel
theorem dX8_readPerson_120 : decode cX8_readPerson 120 = .ok (.iastore, 1) := by decide +kernel
theorem dX8_readPerson_121 : decode cX8_readPerson 121 = .ok (.aload_n 0, 1) := by decide +kernel
theorem dX8_readPerson_122 : decode cX8_readPerson 122 = .ok (.getfield 22, 3) := by decide +kernel
theorem dX8_readPerson_125 : decode cX8_readPerson 125 = .ok (.iconst 3, 1) := by decide +kernel
theorem dX8_readPerson_126 : decode cX8_readPerson 126 = .ok (.dup2, 1) := by decide +kernel
theorem dX8_readPerson_127 : decode cX8_readPerson 127 = .ok (.iaload, 1) := by decide +kernel
theorem dX8_readPerson_128 : decode cX8_readPerson 128 = .ok (.iconst 1, 1) := by decide +kernel
theorem dX8_readPerson_129 : decode cX8_readPerson 129 = .ok (.iadd, 1) := by decide +kernel
theorem dX8_readPerson_130 : decode cX8_readPerson 130 = .ok (.iastore, 1) := by decide +kernel
theorem dX8_readPerson_131 : decode cX8_readPerson 131 = .ok (.return_, 1) := by decide +kernel
theorem dX8_league_0 : decode cX8_league 0 = .ok (.aload_n 0, 1) := by decide +kernel
theorem dX8_league_1 : decode cX8_league 1 = .ok (.iconst 0, 1) := by decide +kernel
theorem dX8_league_2 : decode cX8_league 2 = .ok (.putfield 48, 3) := by decide +kernel
theorem dX8_league_5 : decode cX8_league 5 = .ok (.aload_n 0, 1) := by decide +kernel
theorem dX8_league_6 : decode cX8_league 6 = .ok (.invokevirtual 156, 3) := by decide +kernel
theorem dX8_league_9 : decode cX8_league 9 = .ok (.iconst 0, 1) := by decide +kernel
theorem dX8_league_10 : decode cX8_league 10 = .ok (.istore_n 1, 1) := by decide +kernel
theorem dX8_league_11 : decode cX8_league 11 = .ok (.iload_n 1, 1) := by decide +kernel
theorem dX8_league_12 : decode cX8_league 12 = .ok (.bipush 68, 2) := by decide +kernel
theorem dX8_league_14 : decode cX8_league 14 = .ok (.if_icmp .ge 16, 3) := by decide +kernel
theorem dX8_league_17 : decode cX8_league 17 = .ok (.aload_n 0, 1) := by decide +kernel
theorem dX8_league_18 : decode cX8_league 18 = .ok (.getfield 22, 3) := by decide +kernel
theorem dX8_league_21 : decode cX8_league 21 = .ok (.iload_n 1, 1) := by decide +kernel
theorem dX8_league_22 : decode cX8_league 22 = .ok (.iconst 0, 1) := by decide +kernel
theorem dX8_league_23 : decode cX8_league 23 = .ok (.iastore, 1) := by decide +kernel
theorem dX8_league_24 : decode cX8_league 24 = .ok (.iinc 1 1, 3) := by decide +kernel
theorem dX8_league_27 : decode cX8_league 27 = .ok (.goto (-16), 3) := by decide +kernel
theorem dX8_league_30 : decode cX8_league 30 = .ok (.aload_n 0, 1) := by decide +kernel
theorem dX8_league_31 : decode cX8_league 31 = .ok (.aload_n 0, 1) := by decide +kernel
theorem dX8_league_32 : decode cX8_league 32 = .ok (.invokevirtual 148, 3) := by decide +kernel
theorem dX8_league_35 : decode cX8_league 35 = .ok (.ldc2_w 159, 3) := by decide +kernel
theorem dX8_league_38 : decode cX8_league 38 = .ok (.lcmp, 1) := by decide +kernel
theorem dX8_league_39 : decode cX8_league 39 = .ok (.ifCond .ne 7, 3) := by decide +kernel
theorem dX8_league_42 : decode cX8_league 42 = .ok (.iconst 1, 1) := by decide +kernel
theorem dX8_league_43 : decode cX8_league 43 = .ok (.goto 4, 3) := by decide +kernel
theorem dX8_league_46 : decode cX8_league 46 = .ok (.iconst 0, 1) := by decide +kernel
theorem dX8_league_47 : decode cX8_league 47 = .ok (.invokevirtual 123, 3) := by decide +kernel
theorem dX8_league_50 : decode cX8_league 50 = .ok (.aload_n 0, 1) := by decide +kernel
theorem dX8_league_51 : decode cX8_league 51 = .ok (.getfield 22, 3) := by decide +kernel
theorem dX8_league_54 : decode cX8_league 54 = .ok (.iconst 0, 1) := by decide +kernel
theorem dX8_league_55 : decode cX8_league 55 = .ok (.aload_n 0, 1) := by decide +kernel
theorem dX8_league_56 : decode cX8_league 56 = .ok (.iconst 1, 1) := by decide +kernel
theorem dX8_league_57 : decode cX8_league 57 = .ok (.iconst 5, 1) := by decide +kernel
theorem dX8_league_58 : decode cX8_league 58 = .ok (.invokevirtual 141, 3) := by decide +kernel
theorem dX8_league_61 : decode cX8_league 61 = .ok (.iastore, 1) := by decide +kernel
theorem dX8_league_62 : decode cX8_league 62 = .ok (.aload_n 0, 1) := by decide +kernel
theorem dX8_league_63 : decode cX8_league 63 = .ok (.getfield 22, 3) := by decide +kernel
theorem dX8_league_66 : decode cX8_league 66 = .ok (.iconst 1, 1) := by decide +kernel
theorem dX8_league_67 : decode cX8_league 67 = .ok (.aload_n 0, 1) := by decide +kernel
theorem dX8_league_68 : decode cX8_league 68 = .ok (.iconst 0, 1) := by decide +kernel
theorem dX8_league_69 : decode cX8_league 69 = .ok (.bipush 20, 2) := by decide +kernel
theorem dX8_league_71 : decode cX8_league 71 = .ok (.invokevirtual 141, 3) := by decide +kernel
theorem dX8_league_74 : decode cX8_league 74 = .ok (.iastore, 1) := by decide +kernel
theorem dX8_league_75 : decode cX8_league 75 = .ok (.aload_n 0, 1) := by decide +kernel
theorem dX8_league_76 : decode cX8_league 76 = .ok (.invokevirtual 145, 3) := by decide +kernel
theorem dX8_league_79 : decode cX8_league 79 = .ok (.aload_n 0, 1) := by decide +kernel
theorem dX8_league_80 : decode cX8_league 80 = .ok (.invokevirtual 148, 3) := by decide +kernel
theorem dX8_league_83 : decode cX8_league 83 = .ok (.ldc2_w 161, 3) := by decide +kernel
theorem dX8_league_86 : decode cX8_league 86 = .ok (.lcmp, 1) := by decide +kernel
theorem dX8_league_87 : decode cX8_league 87 = .ok (.ifCond .ne 10, 3) := by decide +kernel
theorem dX8_league_90 : decode cX8_league 90 = .ok (.aload_n 0, 1) := by decide +kernel
theorem dX8_league_91 : decode cX8_league 91 = .ok (.invokevirtual 163, 3) := by decide +kernel
theorem dX8_league_94 : decode cX8_league 94 = .ok (.goto (-15), 3) := by decide +kernel
theorem dX8_league_97 : decode cX8_league 97 = .ok (.aload_n 0, 1) := by decide +kernel
theorem dX8_league_98 : decode cX8_league 98 = .ok (.invokevirtual 148, 3) := by decide +kernel
theorem dX8_league_101 : decode cX8_league 101 = .ok (.ldc2_w 166, 3) := by decide +kernel
theorem dX8_league_104 : decode cX8_league 104 = .ok (.lcmp, 1) := by decide +kernel
theorem dX8_league_105 : decode cX8_league 105 = .ok (.ifCond .ne 10, 3) := by decide +kernel
theorem dX8_league_108 : decode cX8_league 108 = .ok (.aload_n 0, 1) := by decide +kernel
theorem dX8_league_109 : decode cX8_league 109 = .ok (.invokevirtual 168, 3) := by decide +kernel
theorem dX8_league_112 : decode cX8_league 112 = .ok (.goto (-15), 3) := by decide +kernel
theorem dX8_league_115 : decode cX8_league 115 = .ok (.aload_n 0, 1) := by decide +kernel
theorem dX8_league_116 : decode cX8_league 116 = .ok (.getfield 106, 3) := by decide +kernel
theorem dX8_league_119 : decode cX8_league 119 = .ok (.ifCond .ne 16, 3) := by decide +kernel
theorem dX8_league_122 : decode cX8_league 122 = .ok (.aload_n 0, 1) := by decide +kernel
theorem dX8_league_123 : decode cX8_league 123 = .ok (.getfield 94, 3) := by decide +kernel
theorem dX8_league_126 : decode cX8_league 126 = .ok (.iconst 1, 1) := by decide +kernel
theorem dX8_league_127 : decode cX8_league 127 = .ok (.if_icmp .eq 8, 3) := by decide +kernel
theorem dX8_league_130 : decode cX8_league 130 = .ok (.aload_n 0, 1) := by decide +kernel
theorem dX8_league_131 : decode cX8_league 131 = .ok (.iconst 1, 1) := by decide +kernel
theorem dX8_league_132 : decode cX8_league 132 = .ok (.invokevirtual 115, 3) := by decide +kernel
theorem dX8_league_135 : decode cX8_league 135 = .ok (.aload_n 0, 1) := by decide +kernel
theorem dX8_league_136 : decode cX8_league 136 = .ok (.getfield 106, 3) := by decide +kernel
theorem dX8_league_139 : decode cX8_league 139 = .ok (.ifCond .le 19, 3) := by decide +kernel
theorem dX8_league_142 : decode cX8_league 142 = .ok (.aload_n 0, 1) := by decide +kernel
theorem dX8_league_143 : decode cX8_league 143 = .ok (.aload_n 0, 1) := by decide +kernel
theorem dX8_league_144 : decode cX8_league 144 = .ok (.getfield 106, 3) := by decide +kernel
theorem dX8_league_147 : decode cX8_league 147 = .ok (.putfield 171, 3) := by decide +kernel
theorem dX8_league_150 : decode cX8_league 150 = .ok (.ldc 174, 2) := by decide +kernel
theorem dX8_league_152 : decode cX8_league 152 = .ok (.aload_n 0, 1) := by decide +kernel
theorem dX8_league_153 : decode cX8_league 153 = .ok (.getfield 112, 3) := by decide +kernel
theorem dX8_league_156 : decode cX8_league 156 = .ok (.isub, 1) := by decide +kernel
theorem dX8_league_157 : decode cX8_league 157 = .ok (.ireturn, 1) := by decide +kernel
theorem dX8_league_158 : decode cX8_league 158 = .ok (.aload_n 0, 1) := by decide +kernel
theorem dX8_league_159 : decode cX8_league 159 = .ok (.iconst 0, 1) := by decide +kernel
theorem dX8_league_160 : decode cX8_league 160 = .ok (.putfield 175, 3) := by decide +kernel
theorem dX8_league_163 : decode cX8_league 163 = .ok (.iconst 0, 1) := by decide +kernel
theorem dX8_league_164 : decode cX8_league 164 = .ok (.istore_n 1, 1) := by decide +kernel
theorem dX8_league_165 : decode cX8_league 165 = .ok (.iload_n 1, 1) := by decide +kernel
theorem dX8_league_166 : decode cX8_league 166 = .ok (.bipush 68, 2) := by decide +kernel
theorem dX8_league_168 : decode cX8_league 168 = .ok (.if_icmp .ge 21, 3) := by decide +kernel
theorem dX8_league_171 : decode cX8_league 171 = .ok (.aload_n 0, 1) := by decide +kernel
theorem dX8_league_172 : decode cX8_league 172 = .ok (.getfield 19, 3) := by decide +kernel
theorem dX8_league_175 : decode cX8_league 175 = .ok (.iload_n 1, 1) := by decide +kernel
theorem dX8_league_176 : decode cX8_league 176 = .ok (.aload_n 0, 1) := by decide +kernel
theorem dX8_league_177 : decode cX8_league 177 = .ok (.getfield 22, 3) := by decide +kernel
theorem dX8_league_180 : decode cX8_league 180 = .ok (.iload_n 1, 1) := by decide +kernel
theorem dX8_league_181 : decode cX8_league 181 = .ok (.iaload, 1) := by decide +kernel
theorem dX8_league_182 : decode cX8_league 182 = .ok (.iastore, 1) := by decide +kernel
theorem dX8_league_183 : decode cX8_league 183 = .ok (.iinc 1 1, 3) := by decide +kernel
theorem dX8_league_186 : decode cX8_league 186 = .ok (.goto (-21), 3) := by decide +kernel
theorem dX8_league_189 : decode cX8_league 189 = .ok (.aload_n 0, 1) := by decide +kernel
theorem dX8_league_190 : decode cX8_league 190 = .ok (.getfield 19, 3) := by decide +kernel
theorem dX8_league_193 : decode cX8_league 193 = .ok (.iconst 3, 1) := by decide +kernel
theorem dX8_league_194 : decode cX8_league 194 = .ok (.iaload, 1) := by decide +kernel
theorem dX8_league_195 : decode cX8_league 195 = .ok (.ireturn, 1) := by decide +kernel
theorem dX8_fault_0 : decode cX8_fault 0 = .ok (.aload_n 0, 1) := by decide +kernel
theorem dX8_fault_1 : decode cX8_fault 1 = .ok (.iconst 0, 1) := by decide +kernel
theorem dX8_fault_2 : decode cX8_fault 2 = .ok (.putfield 48, 3) := by decide +kernel
theorem dX8_fault_5 : decode cX8_fault 5 = .ok (.aload_n 0, 1) := by decide +kernel
theorem dX8_fault_6 : decode cX8_fault 6 = .ok (.getfield 171, 3) := by decide +kernel
theorem dX8_fault_9 : decode cX8_fault 9 = .ok (.ireturn, 1) := by decide +kernel
theorem dX8_isThere_0 : decode cX8_isThere 0 = .ok (.aload_n 0, 1) := by decide +kernel
theorem dX8_isThere_1 : decode cX8_isThere 1 = .ok (.getfield 19, 3) := by decide +kernel
theorem dX8_isThere_4 : decode cX8_isThere 4 = .ok (.iconst 0, 1) := by decide +kernel
theorem dX8_isThere_5 : decode cX8_isThere 5 = .ok (.iaload, 1) := by decide +kernel
theorem dX8_isThere_6 : decode cX8_isThere 6 = .ok (.ifCond .le 7, 3) := by decide +kernel
theorem dX8_isThere_9 : decode cX8_isThere 9 = .ok (.iconst 1, 1) := by decide +kernel
theorem dX8_isThere_10 : decode cX8_isThere 10 = .ok (.goto 4, 3) := by decide +kernel
theorem dX8_isThere_13 : decode cX8_isThere 13 = .ok (.iconst 0, 1) := by decide +kernel
theorem dX8_isThere_14 : decode cX8_isThere 14 = .ok (.ireturn, 1) := by decide +kernel
theorem dX8_isPerson_0 : decode cX8_isPerson 0 = .ok (.iload_n 1, 1) := by decide +kernel
theorem dX8_isPerson_1 : decode cX8_isPerson 1 = .ok (.i2l, 1) := by decide +kernel
theorem dX8_isPerson_2 : decode cX8_isPerson 2 = .ok (.lconst 0, 1) := by decide +kernel
theorem dX8_isPerson_3 : decode cX8_isPerson 3 = .ok (.aload_n 0, 1) := by decide +kernel
theorem dX8_isPerson_4 : decode cX8_isPerson 4 = .ok (.getfield 19, 3) := by decide +kernel
theorem dX8_isPerson_7 : decode cX8_isPerson 7 = .ok (.iconst 3, 1) := by decide +kernel
theorem dX8_isPerson_8 : decode cX8_isPerson 8 = .ok (.iaload, 1) := by decide +kernel
theorem dX8_isPerson_9 : decode cX8_isPerson 9 = .ok (.iconst 1, 1) := by decide +kernel
theorem dX8_isPerson_10 : decode cX8_isPerson 10 = .ok (.isub, 1) := by decide +kernel
theorem dX8_isPerson_11 : decode cX8_isPerson 11 = .ok (.i2l, 1) := by decide +kernel
theorem dX8_isPerson_12 : decode cX8_isPerson 12 = .ok (.invokestatic 58, 3) := by decide +kernel
theorem dX8_isPerson_15 : decode cX8_isPerson 15 = .ok (.ireturn, 1) := by decide +kernel
theorem dX8_isWay_0 : decode cX8_isWay 0 = .ok (.iload_n 1, 1) := by decide +kernel
theorem dX8_isWay_1 : decode cX8_isWay 1 = .ok (.i2l, 1) := by decide +kernel
theorem dX8_isWay_2 : decode cX8_isWay 2 = .ok (.lconst 0, 1) := by decide +kernel
theorem dX8_isWay_3 : decode cX8_isWay 3 = .ok (.aload_n 0, 1) := by decide +kernel
theorem dX8_isWay_4 : decode cX8_isWay 4 = .ok (.getfield 19, 3) := by decide +kernel
theorem dX8_isWay_7 : decode cX8_isWay 7 = .ok (.iconst 2, 1) := by decide +kernel
theorem dX8_isWay_8 : decode cX8_isWay 8 = .ok (.iaload, 1) := by decide +kernel
theorem dX8_isWay_9 : decode cX8_isWay 9 = .ok (.iconst 1, 1) := by decide +kernel
theorem dX8_isWay_10 : decode cX8_isWay 10 = .ok (.isub, 1) := by decide +kernel
theorem dX8_isWay_11 : decode cX8_isWay 11 = .ok (.i2l, 1) := by decide +kernel
theorem dX8_isWay_12 : decode cX8_isWay 12 = .ok (.invokestatic 58, 3) := by decide +kernel
theorem dX8_isWay_15 : decode cX8_isWay 15 = .ok (.ireturn, 1) := by decide +kernel
theorem dX8_isHarbour_0 : decode cX8_isHarbour 0 = .ok (.iload_n 1, 1) := by decide +kernel
theorem dX8_isHarbour_1 : decode cX8_isHarbour 1 = .ok (.i2l, 1) := by decide +kernel
theorem dX8_isHarbour_2 : decode cX8_isHarbour 2 = .ok (.lconst 0, 1) := by decide +kernel
theorem dX8_isHarbour_3 : decode cX8_isHarbour 3 = .ok (.aload_n 0, 1) := by decide +kernel
theorem dX8_isHarbour_4 : decode cX8_isHarbour 4 = .ok (.getfield 19, 3) := by decide +kernel
theorem dX8_isHarbour_7 : decode cX8_isHarbour 7 = .ok (.iconst 0, 1) := by decide +kernel
theorem dX8_isHarbour_8 : decode cX8_isHarbour 8 = .ok (.iaload, 1) := by decide +kernel
theorem dX8_isHarbour_9 : decode cX8_isHarbour 9 = .ok (.iconst 1, 1) := by decide +kernel
theorem dX8_isHarbour_10 : decode cX8_isHarbour 10 = .ok (.isub, 1) := by decide +kernel
theorem dX8_isHarbour_11 : decode cX8_isHarbour 11 = .ok (.i2l, 1) := by decide +kernel
theorem dX8_isHarbour_12 : decode cX8_isHarbour 12 = .ok (.invokestatic 58, 3) := by decide +kernel
theorem dX8_isHarbour_15 : decode cX8_isHarbour 15 = .ok (.ireturn, 1) := by decide +kernel
theorem dX8_of_0 : decode cX8_of 0 = .ok (.aload_n 0, 1) := by decide +kernel
theorem dX8_of_1 : decode cX8_of 1 = .ok (.getfield 19, 3) := by decide +kernel
theorem dX8_of_4 : decode cX8_of 4 = .ok (.bipush 36, 2) := by decide +kernel
theorem dX8_of_6 : decode cX8_of 6 = .ok (.bipush 8, 2) := by decide +kernel
theorem dX8_of_8 : decode cX8_of 8 = .ok (.iload_n 1, 1) := by decide +kernel
theorem dX8_of_9 : decode cX8_of 9 = .ok (.imul, 1) := by decide +kernel
theorem dX8_of_10 : decode cX8_of 10 = .ok (.iadd, 1) := by decide +kernel
theorem dX8_of_11 : decode cX8_of 11 = .ok (.iload_n 2, 1) := by decide +kernel
theorem dX8_of_12 : decode cX8_of 12 = .ok (.iadd, 1) := by decide +kernel
theorem dX8_of_13 : decode cX8_of 13 = .ok (.iaload, 1) := by decide +kernel
theorem dX8_of_14 : decode cX8_of 14 = .ok (.ireturn, 1) := by decide +kernel
theorem dX8_wayOf_0 : decode cX8_wayOf 0 = .ok (.aload_n 0, 1) := by decide +kernel
theorem dX8_wayOf_1 : decode cX8_wayOf 1 = .ok (.getfield 19, 3) := by decide +kernel
theorem dX8_wayOf_4 : decode cX8_wayOf 4 = .ok (.iconst 4, 1) := by decide +kernel
theorem dX8_wayOf_5 : decode cX8_wayOf 5 = .ok (.iconst 4, 1) := by decide +kernel
theorem dX8_wayOf_6 : decode cX8_wayOf 6 = .ok (.iload_n 1, 1) := by decide +kernel
theorem dX8_wayOf_7 : decode cX8_wayOf 7 = .ok (.imul, 1) := by decide +kernel
theorem dX8_wayOf_8 : decode cX8_wayOf 8 = .ok (.iadd, 1) := by decide +kernel
theorem dX8_wayOf_9 : decode cX8_wayOf 9 = .ok (.iload_n 2, 1) := by decide +kernel
theorem dX8_wayOf_10 : decode cX8_wayOf 10 = .ok (.iadd, 1) := by decide +kernel
theorem dX8_wayOf_11 : decode cX8_wayOf 11 = .ok (.iaload, 1) := by decide +kernel
theorem dX8_wayOf_12 : decode cX8_wayOf 12 = .ok (.ireturn, 1) := by decide +kernel
theorem dX8_endOf_0 : decode cX8_endOf 0 = .ok (.aload_n 0, 1) := by decide +kernel
theorem dX8_endOf_1 : decode cX8_endOf 1 = .ok (.iload_n 2, 1) := by decide +kernel
theorem dX8_endOf_2 : decode cX8_endOf 2 = .ok (.iconst 0, 1) := by decide +kernel
theorem dX8_endOf_3 : decode cX8_endOf 3 = .ok (.invokevirtual 178, 3) := by decide +kernel
theorem dX8_endOf_6 : decode cX8_endOf 6 = .ok (.iload_n 3, 1) := by decide +kernel
theorem dX8_endOf_7 : decode cX8_endOf 7 = .ok (.if_icmp .ne 12, 3) := by decide +kernel
theorem dX8_endOf_10 : decode cX8_endOf 10 = .ok (.aload_n 0, 1) := by decide +kernel
theorem dX8_endOf_11 : decode cX8_endOf 11 = .ok (.iload_n 2, 1) := by decide +kernel
theorem dX8_endOf_12 : decode cX8_endOf 12 = .ok (.iconst 1, 1) := by decide +kernel
theorem dX8_endOf_13 : decode cX8_endOf 13 = .ok (.invokevirtual 178, 3) := by decide +kernel
theorem dX8_endOf_16 : decode cX8_endOf 16 = .ok (.goto 24, 3) := by decide +kernel
theorem dX8_endOf_19 : decode cX8_endOf 19 = .ok (.aload_n 0, 1) := by decide +kernel
theorem dX8_endOf_20 : decode cX8_endOf 20 = .ok (.iload_n 2, 1) := by decide +kernel
theorem dX8_endOf_21 : decode cX8_endOf 21 = .ok (.iconst 1, 1) := by decide +kernel
theorem dX8_endOf_22 : decode cX8_endOf 22 = .ok (.invokevirtual 178, 3) := by decide +kernel
theorem dX8_endOf_25 : decode cX8_endOf 25 = .ok (.iload_n 3, 1) := by decide +kernel
theorem dX8_endOf_26 : decode cX8_endOf 26 = .ok (.if_icmp .ne 12, 3) := by decide +kernel
theorem dX8_endOf_29 : decode cX8_endOf 29 = .ok (.aload_n 0, 1) := by decide +kernel
theorem dX8_endOf_30 : decode cX8_endOf 30 = .ok (.iload_n 2, 1) := by decide +kernel
theorem dX8_endOf_31 : decode cX8_endOf 31 = .ok (.iconst 0, 1) := by decide +kernel
theorem dX8_endOf_32 : decode cX8_endOf 32 = .ok (.invokevirtual 178, 3) := by decide +kernel
theorem dX8_endOf_35 : decode cX8_endOf 35 = .ok (.goto 5, 3) := by decide +kernel
theorem dX8_endOf_38 : decode cX8_endOf 38 = .ok (.ldc 84, 2) := by decide +kernel
theorem dX8_endOf_40 : decode cX8_endOf 40 = .ok (.istore 4, 2) := by decide +kernel
theorem dX8_endOf_42 : decode cX8_endOf 42 = .ok (.aload_n 0, 1) := by decide +kernel
theorem dX8_endOf_43 : decode cX8_endOf 43 = .ok (.iload_n 1, 1) := by decide +kernel
theorem dX8_endOf_44 : decode cX8_endOf 44 = .ok (.iconst 0, 1) := by decide +kernel
theorem dX8_endOf_45 : decode cX8_endOf 45 = .ok (.invokevirtual 181, 3) := by decide +kernel
theorem dX8_endOf_48 : decode cX8_endOf 48 = .ok (.iconst 5, 1) := by decide +kernel
theorem dX8_endOf_49 : decode cX8_endOf 49 = .ok (.if_icmp .ne 19, 3) := by decide +kernel
theorem dX8_endOf_52 : decode cX8_endOf 52 = .ok (.aload_n 0, 1) := by decide +kernel
theorem dX8_endOf_53 : decode cX8_endOf 53 = .ok (.iload_n 2, 1) := by decide +kernel
theorem dX8_endOf_54 : decode cX8_endOf 54 = .ok (.iconst 2, 1) := by decide +kernel
theorem dX8_endOf_55 : decode cX8_endOf 55 = .ok (.invokevirtual 178, 3) := by decide +kernel
theorem dX8_endOf_58 : decode cX8_endOf 58 = .ok (.bipush 10, 2) := by decide +kernel
theorem dX8_endOf_60 : decode cX8_endOf 60 = .ok (.if_icmp .le 8, 3) := by decide +kernel
theorem dX8_endOf_63 : decode cX8_endOf 63 = .ok (.ldc 84, 2) := by decide +kernel
theorem dX8_endOf_65 : decode cX8_endOf 65 = .ok (.goto 5, 3) := by decide +kernel
theorem dX8_endOf_68 : decode cX8_endOf 68 = .ok (.iload 4, 2) := by decide +kernel
theorem dX8_endOf_70 : decode cX8_endOf 70 = .ok (.ireturn, 1) := by decide +kernel
theorem dX8_agesBy_0 : decode cX8_agesBy 0 = .ok (.aload_n 0, 1) := by decide +kernel
theorem dX8_agesBy_1 : decode cX8_agesBy 1 = .ok (.iload_n 2, 1) := by decide +kernel
theorem dX8_agesBy_2 : decode cX8_agesBy 2 = .ok (.iconst 3, 1) := by decide +kernel
theorem dX8_agesBy_3 : decode cX8_agesBy 3 = .ok (.invokevirtual 178, 3) := by decide +kernel
theorem dX8_agesBy_6 : decode cX8_agesBy 6 = .ok (.istore_n 3, 1) := by decide +kernel
theorem dX8_agesBy_7 : decode cX8_agesBy 7 = .ok (.aload_n 0, 1) := by decide +kernel
theorem dX8_agesBy_8 : decode cX8_agesBy 8 = .ok (.iload_n 1, 1) := by decide +kernel
theorem dX8_agesBy_9 : decode cX8_agesBy 9 = .ok (.iconst 0, 1) := by decide +kernel
theorem dX8_agesBy_10 : decode cX8_agesBy 10 = .ok (.invokevirtual 181, 3) := by decide +kernel
theorem dX8_agesBy_13 : decode cX8_agesBy 13 = .ok (.tableswitch 48 2 4 #[27, 39, 41], 27) := by decide +kernel
theorem dX8_agesBy_40 : decode cX8_agesBy 40 = .ok (.iload_n 3, 1) := by decide +kernel
theorem dX8_agesBy_41 : decode cX8_agesBy 41 = .ok (.ifCond .le 9, 3) := by decide +kernel
theorem dX8_agesBy_44 : decode cX8_agesBy 44 = .ok (.iload_n 3, 1) := by decide +kernel
theorem dX8_agesBy_45 : decode cX8_agesBy 45 = .ok (.iconst 1, 1) := by decide +kernel
theorem dX8_agesBy_46 : decode cX8_agesBy 46 = .ok (.isub, 1) := by decide +kernel
theorem dX8_agesBy_47 : decode cX8_agesBy 47 = .ok (.goto 4, 3) := by decide +kernel
theorem dX8_agesBy_50 : decode cX8_agesBy 50 = .ok (.iconst 0, 1) := by decide +kernel
theorem dX8_agesBy_51 : decode cX8_agesBy 51 = .ok (.ireturn, 1) := by decide +kernel
theorem dX8_agesBy_52 : decode cX8_agesBy 52 = .ok (.iconst 0, 1) := by decide +kernel
theorem dX8_agesBy_53 : decode cX8_agesBy 53 = .ok (.ireturn, 1) := by decide +kernel
theorem dX8_agesBy_54 : decode cX8_agesBy 54 = .ok (.aload_n 0, 1) := by decide +kernel
theorem dX8_agesBy_55 : decode cX8_agesBy 55 = .ok (.iload_n 2, 1) := by decide +kernel
theorem dX8_agesBy_56 : decode cX8_agesBy 56 = .ok (.iconst 2, 1) := by decide +kernel
theorem dX8_agesBy_57 : decode cX8_agesBy 57 = .ok (.invokevirtual 178, 3) := by decide +kernel
theorem dX8_agesBy_60 : decode cX8_agesBy 60 = .ok (.ireturn, 1) := by decide +kernel
theorem dX8_agesBy_61 : decode cX8_agesBy 61 = .ok (.iload_n 3, 1) := by decide +kernel
theorem dX8_agesBy_62 : decode cX8_agesBy 62 = .ok (.ireturn, 1) := by decide +kernel
theorem dX8_keep_0 : decode cX8_keep 0 = .ok (.aload_n 0, 1) := by decide +kernel
theorem dX8_keep_1 : decode cX8_keep 1 = .ok (.getfield 175, 3) := by decide +kernel
theorem dX8_keep_4 : decode cX8_keep 4 = .ok (.bipush 24, 2) := by decide +kernel
theorem dX8_keep_6 : decode cX8_keep 6 = .ok (.if_icmp .ne 43, 3) := by decide +kernel
theorem dX8_keep_9 : decode cX8_keep 9 = .ok (.iconst 0, 1) := by decide +kernel
theorem dX8_keep_10 : decode cX8_keep 10 = .ok (.istore_n 1, 1) := by decide +kernel
theorem dX8_keep_11 : decode cX8_keep 11 = .ok (.iload_n 1, 1) := by decide +kernel
theorem dX8_keep_12 : decode cX8_keep 12 = .ok (.sipush 1564, 3) := by decide +kernel
theorem dX8_keep_15 : decode cX8_keep 15 = .ok (.if_icmp .ge 24, 3) := by decide +kernel
theorem dX8_keep_18 : decode cX8_keep 18 = .ok (.aload_n 0, 1) := by decide +kernel
theorem dX8_keep_19 : decode cX8_keep 19 = .ok (.getfield 25, 3) := by decide +kernel
theorem dX8_keep_22 : decode cX8_keep 22 = .ok (.iload_n 1, 1) := by decide +kernel
theorem dX8_keep_23 : decode cX8_keep 23 = .ok (.aload_n 0, 1) := by decide +kernel
theorem dX8_keep_24 : decode cX8_keep 24 = .ok (.getfield 25, 3) := by decide +kernel
theorem dX8_keep_27 : decode cX8_keep 27 = .ok (.iload_n 1, 1) := by decide +kernel
theorem dX8_keep_28 : decode cX8_keep 28 = .ok (.bipush 68, 2) := by decide +kernel
theorem dX8_keep_30 : decode cX8_keep 30 = .ok (.iadd, 1) := by decide +kernel
theorem dX8_keep_31 : decode cX8_keep 31 = .ok (.iaload, 1) := by decide +kernel
theorem dX8_keep_32 : decode cX8_keep 32 = .ok (.iastore, 1) := by decide +kernel
theorem dX8_keep_33 : decode cX8_keep 33 = .ok (.iinc 1 1, 3) := by decide +kernel
theorem dX8_keep_36 : decode cX8_keep 36 = .ok (.goto (-25), 3) := by decide +kernel
theorem dX8_keep_39 : decode cX8_keep 39 = .ok (.aload_n 0, 1) := by decide +kernel
theorem dX8_keep_40 : decode cX8_keep 40 = .ok (.dup, 1) := by decide +kernel
theorem dX8_keep_41 : decode cX8_keep 41 = .ok (.getfield 175, 3) := by decide +kernel
theorem dX8_keep_44 : decode cX8_keep 44 = .ok (.iconst 1, 1) := by decide +kernel
theorem dX8_keep_45 : decode cX8_keep 45 = .ok (.isub, 1) := by decide +kernel
theorem dX8_keep_46 : decode cX8_keep 46 = .ok (.putfield 175, 3) := by decide +kernel
theorem dX8_keep_49 : decode cX8_keep 49 = .ok (.iconst 0, 1) := by decide +kernel
theorem dX8_keep_50 : decode cX8_keep 50 = .ok (.istore_n 1, 1) := by decide +kernel
theorem dX8_keep_51 : decode cX8_keep 51 = .ok (.iload_n 1, 1) := by decide +kernel
theorem dX8_keep_52 : decode cX8_keep 52 = .ok (.bipush 68, 2) := by decide +kernel
theorem dX8_keep_54 : decode cX8_keep 54 = .ok (.if_icmp .ge 29, 3) := by decide +kernel
theorem dX8_keep_57 : decode cX8_keep 57 = .ok (.aload_n 0, 1) := by decide +kernel
theorem dX8_keep_58 : decode cX8_keep 58 = .ok (.getfield 25, 3) := by decide +kernel
theorem dX8_keep_61 : decode cX8_keep 61 = .ok (.bipush 68, 2) := by decide +kernel
theorem dX8_keep_63 : decode cX8_keep 63 = .ok (.aload_n 0, 1) := by decide +kernel
theorem dX8_keep_64 : decode cX8_keep 64 = .ok (.getfield 175, 3) := by decide +kernel
theorem dX8_keep_67 : decode cX8_keep 67 = .ok (.imul, 1) := by decide +kernel
theorem dX8_keep_68 : decode cX8_keep 68 = .ok (.iload_n 1, 1) := by decide +kernel
theorem dX8_keep_69 : decode cX8_keep 69 = .ok (.iadd, 1) := by decide +kernel
theorem dX8_keep_70 : decode cX8_keep 70 = .ok (.aload_n 0, 1) := by decide +kernel
theorem dX8_keep_71 : decode cX8_keep 71 = .ok (.getfield 19, 3) := by decide +kernel
theorem dX8_keep_74 : decode cX8_keep 74 = .ok (.iload_n 1, 1) := by decide +kernel
theorem dX8_keep_75 : decode cX8_keep 75 = .ok (.iaload, 1) := by decide +kernel
theorem dX8_keep_76 : decode cX8_keep 76 = .ok (.iastore, 1) := by decide +kernel
theorem dX8_keep_77 : decode cX8_keep 77 = .ok (.iinc 1 1, 3) := by decide +kernel
theorem dX8_keep_80 : decode cX8_keep 80 = .ok (.goto (-29), 3) := by decide +kernel
theorem dX8_keep_83 : decode cX8_keep 83 = .ok (.aload_n 0, 1) := by decide +kernel
theorem dX8_keep_84 : decode cX8_keep 84 = .ok (.dup, 1) := by decide +kernel
theorem dX8_keep_85 : decode cX8_keep 85 = .ok (.getfield 175, 3) := by decide +kernel
theorem dX8_keep_88 : decode cX8_keep 88 = .ok (.iconst 1, 1) := by decide +kernel
theorem dX8_keep_89 : decode cX8_keep 89 = .ok (.iadd, 1) := by decide +kernel
theorem dX8_keep_90 : decode cX8_keep 90 = .ok (.putfield 175, 3) := by decide +kernel
theorem dX8_keep_93 : decode cX8_keep 93 = .ok (.return_, 1) := by decide +kernel
theorem dX8_ages_0 : decode cX8_ages 0 = .ok (.aload_n 0, 1) := by decide +kernel
theorem dX8_ages_1 : decode cX8_ages 1 = .ok (.getfield 19, 3) := by decide +kernel
theorem dX8_ages_4 : decode cX8_ages 4 = .ok (.bipush 36, 2) := by decide +kernel
theorem dX8_ages_6 : decode cX8_ages 6 = .ok (.bipush 8, 2) := by decide +kernel
theorem dX8_ages_8 : decode cX8_ages 8 = .ok (.iload_n 1, 1) := by decide +kernel
theorem dX8_ages_9 : decode cX8_ages 9 = .ok (.imul, 1) := by decide +kernel
theorem dX8_ages_10 : decode cX8_ages 10 = .ok (.iadd, 1) := by decide +kernel
theorem dX8_ages_11 : decode cX8_ages 11 = .ok (.iconst 3, 1) := by decide +kernel
theorem dX8_ages_12 : decode cX8_ages 12 = .ok (.iadd, 1) := by decide +kernel
theorem dX8_ages_13 : decode cX8_ages 13 = .ok (.dup2, 1) := by decide +kernel
theorem dX8_ages_14 : decode cX8_ages 14 = .ok (.iaload, 1) := by decide +kernel
theorem dX8_ages_15 : decode cX8_ages 15 = .ok (.iload_n 2, 1) := by decide +kernel
theorem dX8_ages_16 : decode cX8_ages 16 = .ok (.iadd, 1) := by decide +kernel
theorem dX8_ages_17 : decode cX8_ages 17 = .ok (.iastore, 1) := by decide +kernel
theorem dX8_ages_18 : decode cX8_ages 18 = .ok (.aload_n 0, 1) := by decide +kernel
theorem dX8_ages_19 : decode cX8_ages 19 = .ok (.getfield 19, 3) := by decide +kernel
theorem dX8_ages_22 : decode cX8_ages 22 = .ok (.bipush 36, 2) := by decide +kernel
theorem dX8_ages_24 : decode cX8_ages 24 = .ok (.bipush 8, 2) := by decide +kernel
theorem dX8_ages_26 : decode cX8_ages 26 = .ok (.iload_n 1, 1) := by decide +kernel
theorem dX8_ages_27 : decode cX8_ages 27 = .ok (.imul, 1) := by decide +kernel
theorem dX8_ages_28 : decode cX8_ages 28 = .ok (.iadd, 1) := by decide +kernel
theorem dX8_ages_29 : decode cX8_ages 29 = .ok (.iconst 4, 1) := by decide +kernel
theorem dX8_ages_30 : decode cX8_ages 30 = .ok (.iadd, 1) := by decide +kernel
theorem dX8_ages_31 : decode cX8_ages 31 = .ok (.dup2, 1) := by decide +kernel
theorem dX8_ages_32 : decode cX8_ages 32 = .ok (.iaload, 1) := by decide +kernel
theorem dX8_ages_33 : decode cX8_ages 33 = .ok (.iload_n 3, 1) := by decide +kernel
theorem dX8_ages_34 : decode cX8_ages 34 = .ok (.iadd, 1) := by decide +kernel
theorem dX8_ages_35 : decode cX8_ages 35 = .ok (.iastore, 1) := by decide +kernel
theorem dX8_ages_36 : decode cX8_ages 36 = .ok (.return_, 1) := by decide +kernel
theorem dX8_goes_0 : decode cX8_goes 0 = .ok (.aload_n 0, 1) := by decide +kernel
theorem dX8_goes_1 : decode cX8_goes 1 = .ok (.iload_n 1, 1) := by decide +kernel
theorem dX8_goes_2 : decode cX8_goes 2 = .ok (.iload_n 2, 1) := by decide +kernel
theorem dX8_goes_3 : decode cX8_goes 3 = .ok (.aload_n 0, 1) := by decide +kernel
theorem dX8_goes_4 : decode cX8_goes 4 = .ok (.iload_n 1, 1) := by decide +kernel
theorem dX8_goes_5 : decode cX8_goes 5 = .ok (.iconst 1, 1) := by decide +kernel
theorem dX8_goes_6 : decode cX8_goes 6 = .ok (.invokevirtual 181, 3) := by decide +kernel
theorem dX8_goes_9 : decode cX8_goes 9 = .ok (.invokevirtual 184, 3) := by decide +kernel
theorem dX8_goes_12 : decode cX8_goes 12 = .ok (.istore_n 3, 1) := by decide +kernel
theorem dX8_goes_13 : decode cX8_goes 13 = .ok (.iload_n 3, 1) := by decide +kernel
theorem dX8_goes_14 : decode cX8_goes 14 = .ok (.ldc 84, 2) := by decide +kernel
theorem dX8_goes_16 : decode cX8_goes 16 = .ok (.if_icmp .ne 6, 3) := by decide +kernel
theorem dX8_goes_19 : decode cX8_goes 19 = .ok (.ldc 188, 2) := by decide +kernel
theorem dX8_goes_21 : decode cX8_goes 21 = .ok (.ireturn, 1) := by decide +kernel
theorem dX8_goes_22 : decode cX8_goes 22 = .ok (.aload_n 0, 1) := by decide +kernel
theorem dX8_goes_23 : decode cX8_goes 23 = .ok (.iload_n 1, 1) := by decide +kernel
theorem dX8_goes_24 : decode cX8_goes 24 = .ok (.iconst 3, 1) := by decide +kernel
theorem dX8_goes_25 : decode cX8_goes 25 = .ok (.invokevirtual 181, 3) := by decide +kernel
theorem dX8_goes_28 : decode cX8_goes 28 = .ok (.aload_n 0, 1) := by decide +kernel
theorem dX8_goes_29 : decode cX8_goes 29 = .ok (.iload_n 2, 1) := by decide +kernel
theorem dX8_goes_30 : decode cX8_goes 30 = .ok (.iconst 2, 1) := by decide +kernel
theorem dX8_goes_31 : decode cX8_goes 31 = .ok (.invokevirtual 178, 3) := by decide +kernel
theorem dX8_goes_34 : decode cX8_goes 34 = .ok (.iadd, 1) := by decide +kernel
theorem dX8_goes_35 : decode cX8_goes 35 = .ok (.sipush 200, 3) := by decide +kernel
theorem dX8_goes_38 : decode cX8_goes 38 = .ok (.if_icmp .le 6, 3) := by decide +kernel
theorem dX8_goes_41 : decode cX8_goes 41 = .ok (.ldc 78, 2) := by decide +kernel
theorem dX8_goes_43 : decode cX8_goes 43 = .ok (.ireturn, 1) := by decide +kernel
theorem dX8_goes_44 : decode cX8_goes 44 = .ok (.aload_n 0, 1) := by decide +kernel
theorem dX8_goes_45 : decode cX8_goes 45 = .ok (.invokevirtual 189, 3) := by decide +kernel
theorem dX8_goes_48 : decode cX8_goes 48 = .ok (.aload_n 0, 1) := by decide +kernel
theorem dX8_goes_49 : decode cX8_goes 49 = .ok (.iload_n 1, 1) := by decide +kernel
theorem dX8_goes_50 : decode cX8_goes 50 = .ok (.aload_n 0, 1) := by decide +kernel
theorem dX8_goes_51 : decode cX8_goes 51 = .ok (.iload_n 2, 1) := by decide +kernel
theorem dX8_goes_52 : decode cX8_goes 52 = .ok (.iconst 2, 1) := by decide +kernel
theorem dX8_goes_53 : decode cX8_goes 53 = .ok (.invokevirtual 178, 3) := by decide +kernel
theorem dX8_goes_56 : decode cX8_goes 56 = .ok (.aload_n 0, 1) := by decide +kernel
theorem dX8_goes_57 : decode cX8_goes 57 = .ok (.iload_n 1, 1) := by decide +kernel
theorem dX8_goes_58 : decode cX8_goes 58 = .ok (.iload_n 2, 1) := by decide +kernel
theorem dX8_goes_59 : decode cX8_goes 59 = .ok (.invokevirtual 192, 3) := by decide +kernel
theorem dX8_goes_62 : decode cX8_goes 62 = .ok (.invokevirtual 195, 3) := by decide +kernel
theorem dX8_goes_65 : decode cX8_goes 65 = .ok (.aload_n 0, 1) := by decide +kernel
theorem dX8_goes_66 : decode cX8_goes 66 = .ok (.getfield 19, 3) := by decide +kernel
theorem dX8_goes_69 : decode cX8_goes 69 = .ok (.bipush 36, 2) := by decide +kernel
theorem dX8_goes_71 : decode cX8_goes 71 = .ok (.bipush 8, 2) := by decide +kernel
theorem dX8_goes_73 : decode cX8_goes 73 = .ok (.iload_n 1, 1) := by decide +kernel
theorem dX8_goes_74 : decode cX8_goes 74 = .ok (.imul, 1) := by decide +kernel
theorem dX8_goes_75 : decode cX8_goes 75 = .ok (.iadd, 1) := by decide +kernel
theorem dX8_goes_76 : decode cX8_goes 76 = .ok (.iconst 1, 1) := by decide +kernel
theorem dX8_goes_77 : decode cX8_goes 77 = .ok (.iadd, 1) := by decide +kernel
theorem dX8_goes_78 : decode cX8_goes 78 = .ok (.iload_n 3, 1) := by decide +kernel
theorem dX8_goes_79 : decode cX8_goes 79 = .ok (.iastore, 1) := by decide +kernel
theorem dX8_goes_80 : decode cX8_goes 80 = .ok (.iload_n 3, 1) := by decide +kernel
theorem dX8_goes_81 : decode cX8_goes 81 = .ok (.ireturn, 1) := by decide +kernel
theorem dX8_sail_0 : decode cX8_sail 0 = .ok (.aload_n 0, 1) := by decide +kernel
theorem dX8_sail_1 : decode cX8_sail 1 = .ok (.iconst 0, 1) := by decide +kernel
theorem dX8_sail_2 : decode cX8_sail 2 = .ok (.putfield 48, 3) := by decide +kernel
theorem dX8_sail_5 : decode cX8_sail 5 = .ok (.aload_n 0, 1) := by decide +kernel
theorem dX8_sail_6 : decode cX8_sail 6 = .ok (.iload_n 1, 1) := by decide +kernel
theorem dX8_sail_7 : decode cX8_sail 7 = .ok (.invokevirtual 199, 3) := by decide +kernel
theorem dX8_sail_10 : decode cX8_sail 10 = .ok (.ifCond .eq 20, 3) := by decide +kernel
theorem dX8_sail_13 : decode cX8_sail 13 = .ok (.aload_n 0, 1) := by decide +kernel
theorem dX8_sail_14 : decode cX8_sail 14 = .ok (.iload_n 2, 1) := by decide +kernel
theorem dX8_sail_15 : decode cX8_sail 15 = .ok (.invokevirtual 202, 3) := by decide +kernel
theorem dX8_sail_18 : decode cX8_sail 18 = .ok (.ifCond .eq 12, 3) := by decide +kernel
theorem dX8_sail_21 : decode cX8_sail 21 = .ok (.aload_n 0, 1) := by decide +kernel
theorem dX8_sail_22 : decode cX8_sail 22 = .ok (.iload_n 1, 1) := by decide +kernel
theorem dX8_sail_23 : decode cX8_sail 23 = .ok (.iload_n 2, 1) := by decide +kernel
theorem dX8_sail_24 : decode cX8_sail 24 = .ok (.invokevirtual 205, 3) := by decide +kernel
theorem dX8_sail_27 : decode cX8_sail 27 = .ok (.goto 5, 3) := by decide +kernel
theorem dX8_sail_30 : decode cX8_sail 30 = .ok (.ldc 68, 2) := by decide +kernel
theorem dX8_sail_32 : decode cX8_sail 32 = .ok (.ireturn, 1) := by decide +kernel
theorem dX8_sails_0 : decode cX8_sails 0 = .ok (.aload_n 0, 1) := by decide +kernel
theorem dX8_sails_1 : decode cX8_sails 1 = .ok (.iconst 0, 1) := by decide +kernel
theorem dX8_sails_2 : decode cX8_sails 2 = .ok (.putfield 48, 3) := by decide +kernel
theorem dX8_sails_5 : decode cX8_sails 5 = .ok (.aload_n 0, 1) := by decide +kernel
theorem dX8_sails_6 : decode cX8_sails 6 = .ok (.iload_n 1, 1) := by decide +kernel
theorem dX8_sails_7 : decode cX8_sails 7 = .ok (.invokevirtual 199, 3) := by decide +kernel
theorem dX8_sails_10 : decode cX8_sails 10 = .ok (.ifCond .eq 23, 3) := by decide +kernel
theorem dX8_sails_13 : decode cX8_sails 13 = .ok (.iload_n 2, 1) := by decide +kernel
theorem dX8_sails_14 : decode cX8_sails 14 = .ok (.invokestatic 62, 3) := by decide +kernel
theorem dX8_sails_17 : decode cX8_sails 17 = .ok (.ifCond .eq 16, 3) := by decide +kernel
theorem dX8_sails_20 : decode cX8_sails 20 = .ok (.iload 4, 2) := by decide +kernel
theorem dX8_sails_22 : decode cX8_sails 22 = .ok (.i2l, 1) := by decide +kernel
theorem dX8_sails_23 : decode cX8_sails 23 = .ok (.lconst 1, 1) := by decide +kernel
theorem dX8_sails_24 : decode cX8_sails 24 = .ok (.ldc2_w 208, 3) := by decide +kernel
theorem dX8_sails_27 : decode cX8_sails 27 = .ok (.invokestatic 58, 3) := by decide +kernel
theorem dX8_sails_30 : decode cX8_sails 30 = .ok (.ifCond .ne 6, 3) := by decide +kernel
theorem dX8_sails_33 : decode cX8_sails 33 = .ok (.ldc 68, 2) := by decide +kernel
theorem dX8_sails_35 : decode cX8_sails 35 = .ok (.ireturn, 1) := by decide +kernel
theorem dX8_sails_36 : decode cX8_sails 36 = .ok (.aload_n 0, 1) := by decide +kernel
theorem dX8_sails_37 : decode cX8_sails 37 = .ok (.getfield 7, 3) := by decide +kernel
theorem dX8_sails_40 : decode cX8_sails 40 = .ok (.iload_n 2, 1) := by decide +kernel
theorem dX8_sails_41 : decode cX8_sails 41 = .ok (.iaload, 1) := by decide +kernel
theorem dX8_sails_42 : decode cX8_sails 42 = .ok (.ifCond .ge 9, 3) := by decide +kernel
theorem dX8_sails_45 : decode cX8_sails 45 = .ok (.aload_n 0, 1) := by decide +kernel
theorem dX8_sails_46 : decode cX8_sails 46 = .ok (.iconst 1, 1) := by decide +kernel
theorem dX8_sails_47 : decode cX8_sails 47 = .ok (.invokevirtual 69, 3) := by decide +kernel
theorem dX8_sails_50 : decode cX8_sails 50 = .ok (.ireturn, 1) := by decide +kernel
theorem dX8_sails_51 : decode cX8_sails 51 = .ok (.iload_n 3, 1) := by decide +kernel
theorem dX8_sails_52 : decode cX8_sails 52 = .ok (.ifCond .lt 20, 3) := by decide +kernel
theorem dX8_sails_55 : decode cX8_sails 55 = .ok (.iload_n 3, 1) := by decide +kernel
theorem dX8_sails_56 : decode cX8_sails 56 = .ok (.i2l, 1) := by decide +kernel
theorem dX8_sails_57 : decode cX8_sails 57 = .ok (.iload 4, 2) := by decide +kernel
theorem dX8_sails_59 : decode cX8_sails 59 = .ok (.i2l, 1) := by decide +kernel
theorem dX8_sails_60 : decode cX8_sails 60 = .ok (.ladd, 1) := by decide +kernel
theorem dX8_sails_61 : decode cX8_sails 61 = .ok (.aload_n 0, 1) := by decide +kernel
theorem dX8_sails_62 : decode cX8_sails 62 = .ok (.getfield 13, 3) := by decide +kernel
theorem dX8_sails_65 : decode cX8_sails 65 = .ok (.iload_n 2, 1) := by decide +kernel
theorem dX8_sails_66 : decode cX8_sails 66 = .ok (.iaload, 1) := by decide +kernel
theorem dX8_sails_67 : decode cX8_sails 67 = .ok (.i2l, 1) := by decide +kernel
theorem dX8_sails_68 : decode cX8_sails 68 = .ok (.lcmp, 1) := by decide +kernel
theorem dX8_sails_69 : decode cX8_sails 69 = .ok (.ifCond .le 9, 3) := by decide +kernel
theorem dX8_sails_72 : decode cX8_sails 72 = .ok (.aload_n 0, 1) := by decide +kernel
theorem dX8_sails_73 : decode cX8_sails 73 = .ok (.iconst 2, 1) := by decide +kernel
theorem dX8_sails_74 : decode cX8_sails 74 = .ok (.invokevirtual 69, 3) := by decide +kernel
theorem dX8_sails_77 : decode cX8_sails 77 = .ok (.ireturn, 1) := by decide +kernel
theorem dX8_sails_78 : decode cX8_sails 78 = .ok (.iconst 0, 1) := by decide +kernel
theorem dX8_sails_79 : decode cX8_sails 79 = .ok (.istore 5, 2) := by decide +kernel
theorem dX8_sails_81 : decode cX8_sails 81 = .ok (.iload 5, 2) := by decide +kernel
theorem dX8_sails_83 : decode cX8_sails 83 = .ok (.iload 4, 2) := by decide +kernel
theorem dX8_sails_85 : decode cX8_sails 85 = .ok (.if_icmp .ge 33, 3) := by decide +kernel
theorem dX8_sails_88 : decode cX8_sails 88 = .ok (.aload_n 0, 1) := by decide +kernel
theorem dX8_sails_89 : decode cX8_sails 89 = .ok (.aload_n 0, 1) := by decide +kernel
theorem dX8_sails_90 : decode cX8_sails 90 = .ok (.getfield 16, 3) := by decide +kernel
theorem dX8_sails_93 : decode cX8_sails 93 = .ok (.bipush 40, 2) := by decide +kernel
theorem dX8_sails_95 : decode cX8_sails 95 = .ok (.iload_n 2, 1) := by decide +kernel
theorem dX8_sails_96 : decode cX8_sails 96 = .ok (.imul, 1) := by decide +kernel
theorem dX8_sails_97 : decode cX8_sails 97 = .ok (.iload_n 3, 1) := by decide +kernel
theorem dX8_sails_98 : decode cX8_sails 98 = .ok (.iadd, 1) := by decide +kernel
theorem dX8_sails_99 : decode cX8_sails 99 = .ok (.iload 5, 2) := by decide +kernel
theorem dX8_sails_101 : decode cX8_sails 101 = .ok (.iadd, 1) := by decide +kernel
theorem dX8_sails_102 : decode cX8_sails 102 = .ok (.iaload, 1) := by decide +kernel
theorem dX8_sails_103 : decode cX8_sails 103 = .ok (.invokevirtual 202, 3) := by decide +kernel
theorem dX8_sails_106 : decode cX8_sails 106 = .ok (.ifCond .ne 6, 3) := by decide +kernel
theorem dX8_sails_109 : decode cX8_sails 109 = .ok (.ldc 68, 2) := by decide +kernel
theorem dX8_sails_111 : decode cX8_sails 111 = .ok (.ireturn, 1) := by decide +kernel
theorem dX8_sails_112 : decode cX8_sails 112 = .ok (.iinc 5 1, 3) := by decide +kernel
theorem dX8_sails_115 : decode cX8_sails 115 = .ok (.goto (-34), 3) := by decide +kernel
theorem dX8_sails_118 : decode cX8_sails 118 = .ok (.aload_n 0, 1) := by decide +kernel
theorem dX8_sails_119 : decode cX8_sails 119 = .ok (.iconst 0, 1) := by decide +kernel
theorem dX8_sails_120 : decode cX8_sails 120 = .ok (.putfield 52, 3) := by decide +kernel
theorem dX8_sails_123 : decode cX8_sails 123 = .ok (.iconst 0, 1) := by decide +kernel
theorem dX8_sails_124 : decode cX8_sails 124 = .ok (.istore 5, 2) := by decide +kernel
theorem dX8_sails_126 : decode cX8_sails 126 = .ok (.iload 5, 2) := by decide +kernel
theorem dX8_sails_128 : decode cX8_sails 128 = .ok (.iload 4, 2) := by decide +kernel
theorem dX8_sails_130 : decode cX8_sails 130 = .ok (.if_icmp .ge 31, 3) := by decide +kernel
theorem dX8_sails_133 : decode cX8_sails 133 = .ok (.aload_n 0, 1) := by decide +kernel
theorem dX8_sails_134 : decode cX8_sails 134 = .ok (.iload_n 1, 1) := by decide +kernel
theorem dX8_sails_135 : decode cX8_sails 135 = .ok (.aload_n 0, 1) := by decide +kernel
theorem dX8_sails_136 : decode cX8_sails 136 = .ok (.getfield 16, 3) := by decide +kernel
theorem dX8_sails_139 : decode cX8_sails 139 = .ok (.bipush 40, 2) := by decide +kernel
theorem dX8_sails_141 : decode cX8_sails 141 = .ok (.iload_n 2, 1) := by decide +kernel
theorem dX8_sails_142 : decode cX8_sails 142 = .ok (.imul, 1) := by decide +kernel
theorem dX8_sails_143 : decode cX8_sails 143 = .ok (.iload_n 3, 1) := by decide +kernel
theorem dX8_sails_144 : decode cX8_sails 144 = .ok (.iadd, 1) := by decide +kernel
theorem dX8_sails_145 : decode cX8_sails 145 = .ok (.iload 5, 2) := by decide +kernel
theorem dX8_sails_147 : decode cX8_sails 147 = .ok (.iadd, 1) := by decide +kernel
theorem dX8_sails_148 : decode cX8_sails 148 = .ok (.iaload, 1) := by decide +kernel
theorem dX8_sails_149 : decode cX8_sails 149 = .ok (.invokevirtual 205, 3) := by decide +kernel
theorem dX8_sails_152 : decode cX8_sails 152 = .ok (.ifCond .lt 9, 3) := by decide +kernel
theorem dX8_sails_155 : decode cX8_sails 155 = .ok (.iinc 5 1, 3) := by decide +kernel
theorem dX8_sails_158 : decode cX8_sails 158 = .ok (.goto (-32), 3) := by decide +kernel
theorem dX8_sails_161 : decode cX8_sails 161 = .ok (.iload 5, 2) := by decide +kernel
theorem dX8_sails_163 : decode cX8_sails 163 = .ok (.ireturn, 1) := by decide +kernel
theorem dX8_stay_0 : decode cX8_stay 0 = .ok (.aload_n 0, 1) := by decide +kernel
theorem dX8_stay_1 : decode cX8_stay 1 = .ok (.iconst 0, 1) := by decide +kernel
theorem dX8_stay_2 : decode cX8_stay 2 = .ok (.putfield 48, 3) := by decide +kernel
theorem dX8_stay_5 : decode cX8_stay 5 = .ok (.aload_n 0, 1) := by decide +kernel
theorem dX8_stay_6 : decode cX8_stay 6 = .ok (.iload_n 1, 1) := by decide +kernel
theorem dX8_stay_7 : decode cX8_stay 7 = .ok (.invokevirtual 199, 3) := by decide +kernel
theorem dX8_stay_10 : decode cX8_stay 10 = .ok (.ifCond .eq 15, 3) := by decide +kernel
theorem dX8_stay_13 : decode cX8_stay 13 = .ok (.iload_n 2, 1) := by decide +kernel
theorem dX8_stay_14 : decode cX8_stay 14 = .ok (.i2l, 1) := by decide +kernel
theorem dX8_stay_15 : decode cX8_stay 15 = .ok (.lconst 1, 1) := by decide +kernel
theorem dX8_stay_16 : decode cX8_stay 16 = .ok (.ldc2_w 210, 3) := by decide +kernel
theorem dX8_stay_19 : decode cX8_stay 19 = .ok (.invokestatic 58, 3) := by decide +kernel
theorem dX8_stay_22 : decode cX8_stay 22 = .ok (.ifCond .ne 6, 3) := by decide +kernel
theorem dX8_stay_25 : decode cX8_stay 25 = .ok (.ldc 68, 2) := by decide +kernel
theorem dX8_stay_27 : decode cX8_stay 27 = .ok (.ireturn, 1) := by decide +kernel
theorem dX8_stay_28 : decode cX8_stay 28 = .ok (.aload_n 0, 1) := by decide +kernel
theorem dX8_stay_29 : decode cX8_stay 29 = .ok (.iload_n 1, 1) := by decide +kernel
theorem dX8_stay_30 : decode cX8_stay 30 = .ok (.iconst 3, 1) := by decide +kernel
theorem dX8_stay_31 : decode cX8_stay 31 = .ok (.invokevirtual 181, 3) := by decide +kernel
theorem dX8_stay_34 : decode cX8_stay 34 = .ok (.iload_n 2, 1) := by decide +kernel
theorem dX8_stay_35 : decode cX8_stay 35 = .ok (.iadd, 1) := by decide +kernel
theorem dX8_stay_36 : decode cX8_stay 36 = .ok (.sipush 200, 3) := by decide +kernel
theorem dX8_stay_39 : decode cX8_stay 39 = .ok (.if_icmp .le 6, 3) := by decide +kernel
theorem dX8_stay_42 : decode cX8_stay 42 = .ok (.ldc 78, 2) := by decide +kernel
theorem dX8_stay_44 : decode cX8_stay 44 = .ok (.ireturn, 1) := by decide +kernel
theorem dX8_stay_45 : decode cX8_stay 45 = .ok (.aload_n 0, 1) := by decide +kernel
theorem dX8_stay_46 : decode cX8_stay 46 = .ok (.invokevirtual 189, 3) := by decide +kernel
theorem dX8_stay_49 : decode cX8_stay 49 = .ok (.aload_n 0, 1) := by decide +kernel
theorem dX8_stay_50 : decode cX8_stay 50 = .ok (.iload_n 1, 1) := by decide +kernel
theorem dX8_stay_51 : decode cX8_stay 51 = .ok (.iload_n 2, 1) := by decide +kernel
theorem dX8_stay_52 : decode cX8_stay 52 = .ok (.iload_n 2, 1) := by decide +kernel
theorem dX8_stay_53 : decode cX8_stay 53 = .ok (.invokevirtual 195, 3) := by decide +kernel
theorem dX8_stay_56 : decode cX8_stay 56 = .ok (.aload_n 0, 1) := by decide +kernel
theorem dX8_stay_57 : decode cX8_stay 57 = .ok (.iload_n 1, 1) := by decide +kernel
theorem dX8_stay_58 : decode cX8_stay 58 = .ok (.iconst 4, 1) := by decide +kernel
theorem dX8_stay_59 : decode cX8_stay 59 = .ok (.invokevirtual 181, 3) := by decide +kernel
theorem dX8_stay_62 : decode cX8_stay 62 = .ok (.ireturn, 1) := by decide +kernel
theorem dX8_meet_0 : decode cX8_meet 0 = .ok (.aload_n 0, 1) := by decide +kernel
theorem dX8_meet_1 : decode cX8_meet 1 = .ok (.iconst 0, 1) := by decide +kernel
theorem dX8_meet_2 : decode cX8_meet 2 = .ok (.putfield 48, 3) := by decide +kernel
theorem dX8_meet_5 : decode cX8_meet 5 = .ok (.aload_n 0, 1) := by decide +kernel
theorem dX8_meet_6 : decode cX8_meet 6 = .ok (.iload_n 1, 1) := by decide +kernel
theorem dX8_meet_7 : decode cX8_meet 7 = .ok (.invokevirtual 199, 3) := by decide +kernel
theorem dX8_meet_10 : decode cX8_meet 10 = .ok (.ifCond .eq 16, 3) := by decide +kernel
theorem dX8_meet_13 : decode cX8_meet 13 = .ok (.aload_n 0, 1) := by decide +kernel
theorem dX8_meet_14 : decode cX8_meet 14 = .ok (.iload_n 2, 1) := by decide +kernel
theorem dX8_meet_15 : decode cX8_meet 15 = .ok (.invokevirtual 199, 3) := by decide +kernel
theorem dX8_meet_18 : decode cX8_meet 18 = .ok (.ifCond .eq 8, 3) := by decide +kernel
theorem dX8_meet_21 : decode cX8_meet 21 = .ok (.iload_n 1, 1) := by decide +kernel
theorem dX8_meet_22 : decode cX8_meet 22 = .ok (.iload_n 2, 1) := by decide +kernel
theorem dX8_meet_23 : decode cX8_meet 23 = .ok (.if_icmp .ne 6, 3) := by decide +kernel
theorem dX8_meet_26 : decode cX8_meet 26 = .ok (.ldc 68, 2) := by decide +kernel
theorem dX8_meet_28 : decode cX8_meet 28 = .ok (.ireturn, 1) := by decide +kernel
theorem dX8_meet_29 : decode cX8_meet 29 = .ok (.aload_n 0, 1) := by decide +kernel
theorem dX8_meet_30 : decode cX8_meet 30 = .ok (.iload_n 1, 1) := by decide +kernel
theorem dX8_meet_31 : decode cX8_meet 31 = .ok (.iconst 1, 1) := by decide +kernel
theorem dX8_meet_32 : decode cX8_meet 32 = .ok (.invokevirtual 181, 3) := by decide +kernel
theorem dX8_meet_35 : decode cX8_meet 35 = .ok (.aload_n 0, 1) := by decide +kernel
theorem dX8_meet_36 : decode cX8_meet 36 = .ok (.iload_n 2, 1) := by decide +kernel
theorem dX8_meet_37 : decode cX8_meet 37 = .ok (.iconst 1, 1) := by decide +kernel
theorem dX8_meet_38 : decode cX8_meet 38 = .ok (.invokevirtual 181, 3) := by decide +kernel
theorem dX8_meet_41 : decode cX8_meet 41 = .ok (.if_icmp .eq 6, 3) := by decide +kernel
theorem dX8_meet_44 : decode cX8_meet 44 = .ok (.ldc 188, 2) := by decide +kernel
theorem dX8_meet_46 : decode cX8_meet 46 = .ok (.ireturn, 1) := by decide +kernel
theorem dX8_meet_47 : decode cX8_meet 47 = .ok (.aload_n 0, 1) := by decide +kernel
theorem dX8_meet_48 : decode cX8_meet 48 = .ok (.invokevirtual 189, 3) := by decide +kernel
theorem dX8_meet_51 : decode cX8_meet 51 = .ok (.aload_n 0, 1) := by decide +kernel
theorem dX8_meet_52 : decode cX8_meet 52 = .ok (.iload_n 1, 1) := by decide +kernel
theorem dX8_meet_53 : decode cX8_meet 53 = .ok (.iconst 3, 1) := by decide +kernel
theorem dX8_meet_54 : decode cX8_meet 54 = .ok (.invokevirtual 181, 3) := by decide +kernel
theorem dX8_meet_57 : decode cX8_meet 57 = .ok (.aload_n 0, 1) := by decide +kernel
theorem dX8_meet_58 : decode cX8_meet 58 = .ok (.iload_n 2, 1) := by decide +kernel
theorem dX8_meet_59 : decode cX8_meet 59 = .ok (.iconst 3, 1) := by decide +kernel
theorem dX8_meet_60 : decode cX8_meet 60 = .ok (.invokevirtual 181, 3) := by decide +kernel
theorem dX8_meet_63 : decode cX8_meet 63 = .ok (.isub, 1) := by decide +kernel
theorem dX8_meet_64 : decode cX8_meet 64 = .ok (.istore_n 3, 1) := by decide +kernel
theorem dX8_meet_65 : decode cX8_meet 65 = .ok (.aload_n 0, 1) := by decide +kernel
theorem dX8_meet_66 : decode cX8_meet 66 = .ok (.iload_n 3, 1) := by decide +kernel
theorem dX8_meet_67 : decode cX8_meet 67 = .ok (.ifCond .ge 7, 3) := by decide +kernel
theorem dX8_meet_70 : decode cX8_meet 70 = .ok (.iload_n 1, 1) := by decide +kernel
theorem dX8_meet_71 : decode cX8_meet 71 = .ok (.goto 4, 3) := by decide +kernel
theorem dX8_meet_74 : decode cX8_meet 74 = .ok (.iload_n 2, 1) := by decide +kernel
theorem dX8_meet_75 : decode cX8_meet 75 = .ok (.iload_n 3, 1) := by decide +kernel
theorem dX8_meet_76 : decode cX8_meet 76 = .ok (.ifCond .ge 8, 3) := by decide +kernel
theorem dX8_meet_79 : decode cX8_meet 79 = .ok (.iload_n 3, 1) := by decide +kernel
theorem dX8_meet_80 : decode cX8_meet 80 = .ok (.ineg, 1) := by decide +kernel
theorem dX8_meet_81 : decode cX8_meet 81 = .ok (.goto 4, 3) := by decide +kernel
theorem dX8_meet_84 : decode cX8_meet 84 = .ok (.iload_n 3, 1) := by decide +kernel
theorem dX8_meet_85 : decode cX8_meet 85 = .ok (.iload_n 3, 1) := by decide +kernel
theorem dX8_meet_86 : decode cX8_meet 86 = .ok (.ifCond .ge 8, 3) := by decide +kernel
theorem dX8_meet_89 : decode cX8_meet 89 = .ok (.iload_n 3, 1) := by decide +kernel
theorem dX8_meet_90 : decode cX8_meet 90 = .ok (.ineg, 1) := by decide +kernel
theorem dX8_meet_91 : decode cX8_meet 91 = .ok (.goto 4, 3) := by decide +kernel
theorem dX8_meet_94 : decode cX8_meet 94 = .ok (.iload_n 3, 1) := by decide +kernel
theorem dX8_meet_95 : decode cX8_meet 95 = .ok (.invokevirtual 195, 3) := by decide +kernel
theorem dX8_meet_98 : decode cX8_meet 98 = .ok (.aload_n 0, 1) := by decide +kernel
theorem dX8_meet_99 : decode cX8_meet 99 = .ok (.iload_n 1, 1) := by decide +kernel
theorem dX8_meet_100 : decode cX8_meet 100 = .ok (.iconst 4, 1) := by decide +kernel
theorem dX8_meet_101 : decode cX8_meet 101 = .ok (.invokevirtual 181, 3) := by decide +kernel
theorem dX8_meet_104 : decode cX8_meet 104 = .ok (.aload_n 0, 1) := by decide +kernel
theorem dX8_meet_105 : decode cX8_meet 105 = .ok (.iload_n 2, 1) := by decide +kernel
theorem dX8_meet_106 : decode cX8_meet 106 = .ok (.iconst 4, 1) := by decide +kernel
theorem dX8_meet_107 : decode cX8_meet 107 = .ok (.invokevirtual 181, 3) := by decide +kernel
theorem dX8_meet_110 : decode cX8_meet 110 = .ok (.isub, 1) := by decide +kernel
theorem dX8_meet_111 : decode cX8_meet 111 = .ok (.ireturn, 1) := by decide +kernel
theorem dX8_grown_0 : decode cX8_grown 0 = .ok (.iload_n 1, 1) := by decide +kernel
theorem dX8_grown_1 : decode cX8_grown 1 = .ok (.istore_n 3, 1) := by decide +kernel
theorem dX8_grown_2 : decode cX8_grown 2 = .ok (.iconst 0, 1) := by decide +kernel
theorem dX8_grown_3 : decode cX8_grown 3 = .ok (.istore 4, 2) := by decide +kernel
theorem dX8_grown_5 : decode cX8_grown 5 = .ok (.iload 4, 2) := by decide +kernel
theorem dX8_grown_7 : decode cX8_grown 7 = .ok (.iload_n 2, 1) := by decide +kernel
theorem dX8_grown_8 : decode cX8_grown 8 = .ok (.if_icmp .ge 39, 3) := by decide +kernel
theorem dX8_grown_11 : decode cX8_grown 11 = .ok (.iload_n 3, 1) := by decide +kernel
theorem dX8_grown_12 : decode cX8_grown 12 = .ok (.iload_n 3, 1) := by decide +kernel
theorem dX8_grown_13 : decode cX8_grown 13 = .ok (.aload_n 0, 1) := by decide +kernel
theorem dX8_grown_14 : decode cX8_grown 14 = .ok (.getfield 19, 3) := by decide +kernel
theorem dX8_grown_17 : decode cX8_grown 17 = .ok (.iconst 1, 1) := by decide +kernel
theorem dX8_grown_18 : decode cX8_grown 18 = .ok (.iaload, 1) := by decide +kernel
theorem dX8_grown_19 : decode cX8_grown 19 = .ok (.imul, 1) := by decide +kernel
theorem dX8_grown_20 : decode cX8_grown 20 = .ok (.bipush 100, 2) := by decide +kernel
theorem dX8_grown_22 : decode cX8_grown 22 = .ok (.idiv, 1) := by decide +kernel
theorem dX8_grown_23 : decode cX8_grown 23 = .ok (.iadd, 1) := by decide +kernel
theorem dX8_grown_24 : decode cX8_grown 24 = .ok (.istore 5, 2) := by decide +kernel
theorem dX8_grown_26 : decode cX8_grown 26 = .ok (.iload 5, 2) := by decide +kernel
theorem dX8_grown_28 : decode cX8_grown 28 = .ok (.ldc 212, 2) := by decide +kernel
theorem dX8_grown_30 : decode cX8_grown 30 = .ok (.if_icmp .le 8, 3) := by decide +kernel
theorem dX8_grown_33 : decode cX8_grown 33 = .ok (.ldc 212, 2) := by decide +kernel
theorem dX8_grown_35 : decode cX8_grown 35 = .ok (.goto 5, 3) := by decide +kernel
theorem dX8_grown_38 : decode cX8_grown 38 = .ok (.iload 5, 2) := by decide +kernel
theorem dX8_grown_40 : decode cX8_grown 40 = .ok (.istore_n 3, 1) := by decide +kernel
theorem dX8_grown_41 : decode cX8_grown 41 = .ok (.iinc 4 1, 3) := by decide +kernel
theorem dX8_grown_44 : decode cX8_grown 44 = .ok (.goto (-39), 3) := by decide +kernel
theorem dX8_grown_47 : decode cX8_grown 47 = .ok (.iload_n 3, 1) := by decide +kernel
theorem dX8_grown_48 : decode cX8_grown 48 = .ok (.ireturn, 1) := by decide +kernel
theorem dX8_owedBy_0 : decode cX8_owedBy 0 = .ok (.aload_n 0, 1) := by decide +kernel
theorem dX8_owedBy_1 : decode cX8_owedBy 1 = .ok (.aload_n 0, 1) := by decide +kernel
theorem dX8_owedBy_2 : decode cX8_owedBy 2 = .ok (.iload_n 1, 1) := by decide +kernel
theorem dX8_owedBy_3 : decode cX8_owedBy 3 = .ok (.iconst 5, 1) := by decide +kernel
theorem dX8_owedBy_4 : decode cX8_owedBy 4 = .ok (.invokevirtual 181, 3) := by decide +kernel
theorem dX8_owedBy_7 : decode cX8_owedBy 7 = .ok (.iload_n 2, 1) := by decide +kernel
theorem dX8_owedBy_8 : decode cX8_owedBy 8 = .ok (.ifCond .ne 20, 3) := by decide +kernel
theorem dX8_owedBy_11 : decode cX8_owedBy 11 = .ok (.aload_n 0, 1) := by decide +kernel
theorem dX8_owedBy_12 : decode cX8_owedBy 12 = .ok (.iload_n 1, 1) := by decide +kernel
theorem dX8_owedBy_13 : decode cX8_owedBy 13 = .ok (.iconst 3, 1) := by decide +kernel
theorem dX8_owedBy_14 : decode cX8_owedBy 14 = .ok (.invokevirtual 181, 3) := by decide +kernel
theorem dX8_owedBy_17 : decode cX8_owedBy 17 = .ok (.aload_n 0, 1) := by decide +kernel
theorem dX8_owedBy_18 : decode cX8_owedBy 18 = .ok (.iload_n 1, 1) := by decide +kernel
theorem dX8_owedBy_19 : decode cX8_owedBy 19 = .ok (.bipush 6, 2) := by decide +kernel
theorem dX8_owedBy_21 : decode cX8_owedBy 21 = .ok (.invokevirtual 181, 3) := by decide +kernel
theorem dX8_owedBy_24 : decode cX8_owedBy 24 = .ok (.isub, 1) := by decide +kernel
theorem dX8_owedBy_25 : decode cX8_owedBy 25 = .ok (.goto 17, 3) := by decide +kernel
theorem dX8_owedBy_28 : decode cX8_owedBy 28 = .ok (.aload_n 0, 1) := by decide +kernel
theorem dX8_owedBy_29 : decode cX8_owedBy 29 = .ok (.iload_n 1, 1) := by decide +kernel
theorem dX8_owedBy_30 : decode cX8_owedBy 30 = .ok (.iconst 4, 1) := by decide +kernel
theorem dX8_owedBy_31 : decode cX8_owedBy 31 = .ok (.invokevirtual 181, 3) := by decide +kernel
theorem dX8_owedBy_34 : decode cX8_owedBy 34 = .ok (.aload_n 0, 1) := by decide +kernel
theorem dX8_owedBy_35 : decode cX8_owedBy 35 = .ok (.iload_n 1, 1) := by decide +kernel
theorem dX8_owedBy_36 : decode cX8_owedBy 36 = .ok (.bipush 7, 2) := by decide +kernel
theorem dX8_owedBy_38 : decode cX8_owedBy 38 = .ok (.invokevirtual 181, 3) := by decide +kernel
theorem dX8_owedBy_41 : decode cX8_owedBy 41 = .ok (.isub, 1) := by decide +kernel
theorem dX8_owedBy_42 : decode cX8_owedBy 42 = .ok (.invokevirtual 213, 3) := by decide +kernel
theorem dX8_owedBy_45 : decode cX8_owedBy 45 = .ok (.ireturn, 1) := by decide +kernel
theorem dX8_borrow_0 : decode cX8_borrow 0 = .ok (.aload_n 0, 1) := by decide +kernel
theorem dX8_borrow_1 : decode cX8_borrow 1 = .ok (.iconst 0, 1) := by decide +kernel
theorem dX8_borrow_2 : decode cX8_borrow 2 = .ok (.putfield 48, 3) := by decide +kernel
theorem dX8_borrow_5 : decode cX8_borrow 5 = .ok (.aload_n 0, 1) := by decide +kernel
theorem dX8_borrow_6 : decode cX8_borrow 6 = .ok (.iload_n 1, 1) := by decide +kernel
theorem dX8_borrow_7 : decode cX8_borrow 7 = .ok (.invokevirtual 199, 3) := by decide +kernel
theorem dX8_borrow_10 : decode cX8_borrow 10 = .ok (.ifCond .eq 15, 3) := by decide +kernel
theorem dX8_borrow_13 : decode cX8_borrow 13 = .ok (.iload_n 2, 1) := by decide +kernel
theorem dX8_borrow_14 : decode cX8_borrow 14 = .ok (.i2l, 1) := by decide +kernel
theorem dX8_borrow_15 : decode cX8_borrow 15 = .ok (.lconst 1, 1) := by decide +kernel
theorem dX8_borrow_16 : decode cX8_borrow 16 = .ok (.ldc2_w 216, 3) := by decide +kernel
theorem dX8_borrow_19 : decode cX8_borrow 19 = .ok (.invokestatic 58, 3) := by decide +kernel
theorem dX8_borrow_22 : decode cX8_borrow 22 = .ok (.ifCond .ne 6, 3) := by decide +kernel
theorem dX8_borrow_25 : decode cX8_borrow 25 = .ok (.ldc 68, 2) := by decide +kernel
theorem dX8_borrow_27 : decode cX8_borrow 27 = .ok (.ireturn, 1) := by decide +kernel
theorem dX8_borrow_28 : decode cX8_borrow 28 = .ok (.aload_n 0, 1) := by decide +kernel
theorem dX8_borrow_29 : decode cX8_borrow 29 = .ok (.invokevirtual 189, 3) := by decide +kernel
theorem dX8_borrow_32 : decode cX8_borrow 32 = .ok (.aload_n 0, 1) := by decide +kernel
theorem dX8_borrow_33 : decode cX8_borrow 33 = .ok (.iload_n 1, 1) := by decide +kernel
theorem dX8_borrow_34 : decode cX8_borrow 34 = .ok (.iconst 0, 1) := by decide +kernel
theorem dX8_borrow_35 : decode cX8_borrow 35 = .ok (.invokevirtual 218, 3) := by decide +kernel
theorem dX8_borrow_38 : decode cX8_borrow 38 = .ok (.istore_n 3, 1) := by decide +kernel
theorem dX8_borrow_39 : decode cX8_borrow 39 = .ok (.aload_n 0, 1) := by decide +kernel
theorem dX8_borrow_40 : decode cX8_borrow 40 = .ok (.getfield 19, 3) := by decide +kernel
theorem dX8_borrow_43 : decode cX8_borrow 43 = .ok (.bipush 36, 2) := by decide +kernel
theorem dX8_borrow_45 : decode cX8_borrow 45 = .ok (.bipush 8, 2) := by decide +kernel
theorem dX8_borrow_47 : decode cX8_borrow 47 = .ok (.iload_n 1, 1) := by decide +kernel
theorem dX8_borrow_48 : decode cX8_borrow 48 = .ok (.imul, 1) := by decide +kernel
theorem dX8_borrow_49 : decode cX8_borrow 49 = .ok (.iadd, 1) := by decide +kernel
theorem dX8_borrow_50 : decode cX8_borrow 50 = .ok (.iconst 5, 1) := by decide +kernel
theorem dX8_borrow_51 : decode cX8_borrow 51 = .ok (.iadd, 1) := by decide +kernel
theorem dX8_borrow_52 : decode cX8_borrow 52 = .ok (.iload_n 2, 1) := by decide +kernel
theorem dX8_borrow_53 : decode cX8_borrow 53 = .ok (.iastore, 1) := by decide +kernel
theorem dX8_borrow_54 : decode cX8_borrow 54 = .ok (.aload_n 0, 1) := by decide +kernel
theorem dX8_borrow_55 : decode cX8_borrow 55 = .ok (.getfield 19, 3) := by decide +kernel
theorem dX8_borrow_58 : decode cX8_borrow 58 = .ok (.bipush 36, 2) := by decide +kernel
theorem dX8_borrow_60 : decode cX8_borrow 60 = .ok (.bipush 8, 2) := by decide +kernel
theorem dX8_borrow_62 : decode cX8_borrow 62 = .ok (.iload_n 1, 1) := by decide +kernel
theorem dX8_borrow_63 : decode cX8_borrow 63 = .ok (.imul, 1) := by decide +kernel
theorem dX8_borrow_64 : decode cX8_borrow 64 = .ok (.iadd, 1) := by decide +kernel
theorem dX8_borrow_65 : decode cX8_borrow 65 = .ok (.bipush 6, 2) := by decide +kernel
theorem dX8_borrow_67 : decode cX8_borrow 67 = .ok (.iadd, 1) := by decide +kernel
theorem dX8_borrow_68 : decode cX8_borrow 68 = .ok (.aload_n 0, 1) := by decide +kernel
theorem dX8_borrow_69 : decode cX8_borrow 69 = .ok (.iload_n 1, 1) := by decide +kernel
theorem dX8_borrow_70 : decode cX8_borrow 70 = .ok (.iconst 3, 1) := by decide +kernel
theorem dX8_borrow_71 : decode cX8_borrow 71 = .ok (.invokevirtual 181, 3) := by decide +kernel
theorem dX8_borrow_74 : decode cX8_borrow 74 = .ok (.iastore, 1) := by decide +kernel
theorem dX8_borrow_75 : decode cX8_borrow 75 = .ok (.aload_n 0, 1) := by decide +kernel
theorem dX8_borrow_76 : decode cX8_borrow 76 = .ok (.getfield 19, 3) := by decide +kernel
theorem dX8_borrow_79 : decode cX8_borrow 79 = .ok (.bipush 36, 2) := by decide +kernel
theorem dX8_borrow_81 : decode cX8_borrow 81 = .ok (.bipush 8, 2) := by decide +kernel
theorem dX8_borrow_83 : decode cX8_borrow 83 = .ok (.iload_n 1, 1) := by decide +kernel
theorem dX8_borrow_84 : decode cX8_borrow 84 = .ok (.imul, 1) := by decide +kernel
theorem dX8_borrow_85 : decode cX8_borrow 85 = .ok (.iadd, 1) := by decide +kernel
theorem dX8_borrow_86 : decode cX8_borrow 86 = .ok (.bipush 7, 2) := by decide +kernel
theorem dX8_borrow_88 : decode cX8_borrow 88 = .ok (.iadd, 1) := by decide +kernel
theorem dX8_borrow_89 : decode cX8_borrow 89 = .ok (.aload_n 0, 1) := by decide +kernel
theorem dX8_borrow_90 : decode cX8_borrow 90 = .ok (.iload_n 1, 1) := by decide +kernel
theorem dX8_borrow_91 : decode cX8_borrow 91 = .ok (.iconst 4, 1) := by decide +kernel
theorem dX8_borrow_92 : decode cX8_borrow 92 = .ok (.invokevirtual 181, 3) := by decide +kernel
theorem dX8_borrow_95 : decode cX8_borrow 95 = .ok (.iastore, 1) := by decide +kernel
theorem dX8_borrow_96 : decode cX8_borrow 96 = .ok (.iload_n 3, 1) := by decide +kernel
theorem dX8_borrow_97 : decode cX8_borrow 97 = .ok (.ireturn, 1) := by decide +kernel
theorem dX8_undo_0 : decode cX8_undo 0 = .ok (.aload_n 0, 1) := by decide +kernel
theorem dX8_undo_1 : decode cX8_undo 1 = .ok (.iconst 0, 1) := by decide +kernel
theorem dX8_undo_2 : decode cX8_undo 2 = .ok (.putfield 48, 3) := by decide +kernel
theorem dX8_undo_5 : decode cX8_undo 5 = .ok (.aload_n 0, 1) := by decide +kernel
theorem dX8_undo_6 : decode cX8_undo 6 = .ok (.getfield 175, 3) := by decide +kernel
theorem dX8_undo_9 : decode cX8_undo 9 = .ok (.ifCond .ne 6, 3) := by decide +kernel
theorem dX8_undo_12 : decode cX8_undo 12 = .ok (.ldc 188, 2) := by decide +kernel
theorem dX8_undo_14 : decode cX8_undo 14 = .ok (.ireturn, 1) := by decide +kernel
theorem dX8_undo_15 : decode cX8_undo 15 = .ok (.aload_n 0, 1) := by decide +kernel
theorem dX8_undo_16 : decode cX8_undo 16 = .ok (.dup, 1) := by decide +kernel
theorem dX8_undo_17 : decode cX8_undo 17 = .ok (.getfield 175, 3) := by decide +kernel
theorem dX8_undo_20 : decode cX8_undo 20 = .ok (.iconst 1, 1) := by decide +kernel
theorem dX8_undo_21 : decode cX8_undo 21 = .ok (.isub, 1) := by decide +kernel
theorem dX8_undo_22 : decode cX8_undo 22 = .ok (.putfield 175, 3) := by decide +kernel
theorem dX8_undo_25 : decode cX8_undo 25 = .ok (.iconst 0, 1) := by decide +kernel
theorem dX8_undo_26 : decode cX8_undo 26 = .ok (.istore_n 1, 1) := by decide +kernel
theorem dX8_undo_27 : decode cX8_undo 27 = .ok (.iload_n 1, 1) := by decide +kernel
theorem dX8_undo_28 : decode cX8_undo 28 = .ok (.bipush 68, 2) := by decide +kernel
theorem dX8_undo_30 : decode cX8_undo 30 = .ok (.if_icmp .ge 29, 3) := by decide +kernel
theorem dX8_undo_33 : decode cX8_undo 33 = .ok (.aload_n 0, 1) := by decide +kernel
theorem dX8_undo_34 : decode cX8_undo 34 = .ok (.getfield 19, 3) := by decide +kernel
theorem dX8_undo_37 : decode cX8_undo 37 = .ok (.iload_n 1, 1) := by decide +kernel
theorem dX8_undo_38 : decode cX8_undo 38 = .ok (.aload_n 0, 1) := by decide +kernel
theorem dX8_undo_39 : decode cX8_undo 39 = .ok (.getfield 25, 3) := by decide +kernel
theorem dX8_undo_42 : decode cX8_undo 42 = .ok (.bipush 68, 2) := by decide +kernel
theorem dX8_undo_44 : decode cX8_undo 44 = .ok (.aload_n 0, 1) := by decide +kernel
theorem dX8_undo_45 : decode cX8_undo 45 = .ok (.getfield 175, 3) := by decide +kernel
theorem dX8_undo_48 : decode cX8_undo 48 = .ok (.imul, 1) := by decide +kernel
theorem dX8_undo_49 : decode cX8_undo 49 = .ok (.iload_n 1, 1) := by decide +kernel
theorem dX8_undo_50 : decode cX8_undo 50 = .ok (.iadd, 1) := by decide +kernel
theorem dX8_undo_51 : decode cX8_undo 51 = .ok (.iaload, 1) := by decide +kernel
theorem dX8_undo_52 : decode cX8_undo 52 = .ok (.iastore, 1) := by decide +kernel
theorem dX8_undo_53 : decode cX8_undo 53 = .ok (.iinc 1 1, 3) := by decide +kernel
theorem dX8_undo_56 : decode cX8_undo 56 = .ok (.goto (-29), 3) := by decide +kernel
theorem dX8_undo_59 : decode cX8_undo 59 = .ok (.aload_n 0, 1) := by decide +kernel
theorem dX8_undo_60 : decode cX8_undo 60 = .ok (.getfield 175, 3) := by decide +kernel
theorem dX8_undo_63 : decode cX8_undo 63 = .ok (.ireturn, 1) := by decide +kernel
theorem dX8_person_0 : decode cX8_person 0 = .ok (.aload_n 0, 1) := by decide +kernel
theorem dX8_person_1 : decode cX8_person 1 = .ok (.iconst 0, 1) := by decide +kernel
theorem dX8_person_2 : decode cX8_person 2 = .ok (.putfield 48, 3) := by decide +kernel
theorem dX8_person_5 : decode cX8_person 5 = .ok (.aload_n 0, 1) := by decide +kernel
theorem dX8_person_6 : decode cX8_person 6 = .ok (.iload_n 1, 1) := by decide +kernel
theorem dX8_person_7 : decode cX8_person 7 = .ok (.invokevirtual 199, 3) := by decide +kernel
theorem dX8_person_10 : decode cX8_person 10 = .ok (.ifCond .eq 15, 3) := by decide +kernel
theorem dX8_person_13 : decode cX8_person 13 = .ok (.iload_n 2, 1) := by decide +kernel
theorem dX8_person_14 : decode cX8_person 14 = .ok (.i2l, 1) := by decide +kernel
theorem dX8_person_15 : decode cX8_person 15 = .ok (.lconst 0, 1) := by decide +kernel
theorem dX8_person_16 : decode cX8_person 16 = .ok (.ldc2_w 221, 3) := by decide +kernel
theorem dX8_person_19 : decode cX8_person 19 = .ok (.invokestatic 58, 3) := by decide +kernel
theorem dX8_person_22 : decode cX8_person 22 = .ok (.ifCond .ne 6, 3) := by decide +kernel
theorem dX8_person_25 : decode cX8_person 25 = .ok (.ldc 68, 2) := by decide +kernel
theorem dX8_person_27 : decode cX8_person 27 = .ok (.ireturn, 1) := by decide +kernel
theorem dX8_person_28 : decode cX8_person 28 = .ok (.iload_n 2, 1) := by decide +kernel
theorem dX8_person_29 : decode cX8_person 29 = .ok (.tableswitch 73 0 3 #[31, 38, 45, 52], 31) := by decide +kernel
theorem dX8_person_60 : decode cX8_person 60 = .ok (.aload_n 0, 1) := by decide +kernel
theorem dX8_person_61 : decode cX8_person 61 = .ok (.iload_n 1, 1) := by decide +kernel
theorem dX8_person_62 : decode cX8_person 62 = .ok (.iconst 1, 1) := by decide +kernel
theorem dX8_person_63 : decode cX8_person 63 = .ok (.invokevirtual 181, 3) := by decide +kernel
theorem dX8_person_66 : decode cX8_person 66 = .ok (.ireturn, 1) := by decide +kernel
theorem dX8_person_67 : decode cX8_person 67 = .ok (.aload_n 0, 1) := by decide +kernel
theorem dX8_person_68 : decode cX8_person 68 = .ok (.iload_n 1, 1) := by decide +kernel
theorem dX8_person_69 : decode cX8_person 69 = .ok (.iconst 3, 1) := by decide +kernel
theorem dX8_person_70 : decode cX8_person 70 = .ok (.invokevirtual 181, 3) := by decide +kernel
theorem dX8_person_73 : decode cX8_person 73 = .ok (.ireturn, 1) := by decide +kernel
theorem dX8_person_74 : decode cX8_person 74 = .ok (.aload_n 0, 1) := by decide +kernel
theorem dX8_person_75 : decode cX8_person 75 = .ok (.iload_n 1, 1) := by decide +kernel
theorem dX8_person_76 : decode cX8_person 76 = .ok (.iconst 4, 1) := by decide +kernel
theorem dX8_person_77 : decode cX8_person 77 = .ok (.invokevirtual 181, 3) := by decide +kernel
theorem dX8_person_80 : decode cX8_person 80 = .ok (.ireturn, 1) := by decide +kernel
theorem dX8_person_81 : decode cX8_person 81 = .ok (.aload_n 0, 1) := by decide +kernel
theorem dX8_person_82 : decode cX8_person 82 = .ok (.iload_n 1, 1) := by decide +kernel
theorem dX8_person_83 : decode cX8_person 83 = .ok (.iconst 3, 1) := by decide +kernel
theorem dX8_person_84 : decode cX8_person 84 = .ok (.invokevirtual 181, 3) := by decide +kernel
theorem dX8_person_87 : decode cX8_person 87 = .ok (.aload_n 0, 1) := by decide +kernel
theorem dX8_person_88 : decode cX8_person 88 = .ok (.iload_n 1, 1) := by decide +kernel
theorem dX8_person_89 : decode cX8_person 89 = .ok (.iconst 2, 1) := by decide +kernel
theorem dX8_person_90 : decode cX8_person 90 = .ok (.invokevirtual 181, 3) := by decide +kernel
theorem dX8_person_93 : decode cX8_person 93 = .ok (.iadd, 1) := by decide +kernel
theorem dX8_person_94 : decode cX8_person 94 = .ok (.aload_n 0, 1) := by decide +kernel
theorem dX8_person_95 : decode cX8_person 95 = .ok (.iload_n 1, 1) := by decide +kernel
theorem dX8_person_96 : decode cX8_person 96 = .ok (.iconst 4, 1) := by decide +kernel
theorem dX8_person_97 : decode cX8_person 97 = .ok (.invokevirtual 181, 3) := by decide +kernel
theorem dX8_person_100 : decode cX8_person 100 = .ok (.isub, 1) := by decide +kernel
theorem dX8_person_101 : decode cX8_person 101 = .ok (.ireturn, 1) := by decide +kernel
theorem dX8_person_102 : decode cX8_person 102 = .ok (.aload_n 0, 1) := by decide +kernel
theorem dX8_person_103 : decode cX8_person 103 = .ok (.iload_n 1, 1) := by decide +kernel
theorem dX8_person_104 : decode cX8_person 104 = .ok (.iload_n 2, 1) := by decide +kernel
theorem dX8_person_105 : decode cX8_person 105 = .ok (.iconst 4, 1) := by decide +kernel
theorem dX8_person_106 : decode cX8_person 106 = .ok (.isub, 1) := by decide +kernel
theorem dX8_person_107 : decode cX8_person 107 = .ok (.invokevirtual 218, 3) := by decide +kernel
theorem dX8_person_110 : decode cX8_person 110 = .ok (.ireturn, 1) := by decide +kernel
theorem dX8_layGains_0 : decode cX8_layGains 0 = .ok (.iconst 0, 1) := by decide +kernel
theorem dX8_layGains_1 : decode cX8_layGains 1 = .ok (.istore_n 2, 1) := by decide +kernel
theorem dX8_layGains_2 : decode cX8_layGains 2 = .ok (.iload_n 2, 1) := by decide +kernel
theorem dX8_layGains_3 : decode cX8_layGains 3 = .ok (.sipush 205, 3) := by decide +kernel
theorem dX8_layGains_6 : decode cX8_layGains 6 = .ok (.if_icmp .ge 16, 3) := by decide +kernel
theorem dX8_layGains_9 : decode cX8_layGains 9 = .ok (.aload_n 0, 1) := by decide +kernel
theorem dX8_layGains_10 : decode cX8_layGains 10 = .ok (.getfield 31, 3) := by decide +kernel
theorem dX8_layGains_13 : decode cX8_layGains 13 = .ok (.iload_n 2, 1) := by decide +kernel
theorem dX8_layGains_14 : decode cX8_layGains 14 = .ok (.lconst 0, 1) := by decide +kernel
theorem dX8_layGains_15 : decode cX8_layGains 15 = .ok (.lastore, 1) := by decide +kernel
theorem dX8_layGains_16 : decode cX8_layGains 16 = .ok (.iinc 2 1, 3) := by decide +kernel
theorem dX8_layGains_19 : decode cX8_layGains 19 = .ok (.goto (-17), 3) := by decide +kernel
theorem dX8_layGains_22 : decode cX8_layGains 22 = .ok (.aload_n 0, 1) := by decide +kernel
theorem dX8_layGains_23 : decode cX8_layGains 23 = .ok (.getfield 31, 3) := by decide +kernel
theorem dX8_layGains_26 : decode cX8_layGains 26 = .ok (.aload_n 0, 1) := by decide +kernel
theorem dX8_layGains_27 : decode cX8_layGains 27 = .ok (.iload_n 1, 1) := by decide +kernel
theorem dX8_layGains_28 : decode cX8_layGains 28 = .ok (.iconst 1, 1) := by decide +kernel
theorem dX8_layGains_29 : decode cX8_layGains 29 = .ok (.invokevirtual 181, 3) := by decide +kernel
theorem dX8_layGains_32 : decode cX8_layGains 32 = .ok (.lconst 1, 1) := by decide +kernel
theorem dX8_layGains_33 : decode cX8_layGains 33 = .ok (.lastore, 1) := by decide +kernel
theorem dX8_layGains_34 : decode cX8_layGains 34 = .ok (.iconst 0, 1) := by decide +kernel
theorem dX8_layGains_35 : decode cX8_layGains 35 = .ok (.istore_n 2, 1) := by decide +kernel
theorem dX8_layGains_36 : decode cX8_layGains 36 = .ok (.iload_n 2, 1) := by decide +kernel
theorem dX8_layGains_37 : decode cX8_layGains 37 = .ok (.bipush 40, 2) := by decide +kernel
theorem dX8_layGains_39 : decode cX8_layGains 39 = .ok (.if_icmp .ge 144, 3) := by decide +kernel
theorem dX8_layGains_42 : decode cX8_layGains 42 = .ok (.iconst 0, 1) := by decide +kernel
theorem dX8_layGains_43 : decode cX8_layGains 43 = .ok (.istore_n 3, 1) := by decide +kernel
theorem dX8_layGains_44 : decode cX8_layGains 44 = .ok (.iload_n 3, 1) := by decide +kernel
theorem dX8_layGains_45 : decode cX8_layGains 45 = .ok (.aload_n 0, 1) := by decide +kernel
theorem dX8_layGains_46 : decode cX8_layGains 46 = .ok (.getfield 19, 3) := by decide +kernel
theorem dX8_layGains_49 : decode cX8_layGains 49 = .ok (.iconst 0, 1) := by decide +kernel
theorem dX8_layGains_50 : decode cX8_layGains 50 = .ok (.iaload, 1) := by decide +kernel
theorem dX8_layGains_51 : decode cX8_layGains 51 = .ok (.if_icmp .ge 126, 3) := by decide +kernel
theorem dX8_layGains_54 : decode cX8_layGains 54 = .ok (.aload_n 0, 1) := by decide +kernel
theorem dX8_layGains_55 : decode cX8_layGains 55 = .ok (.getfield 31, 3) := by decide +kernel
theorem dX8_layGains_58 : decode cX8_layGains 58 = .ok (.iconst 5, 1) := by decide +kernel
theorem dX8_layGains_59 : decode cX8_layGains 59 = .ok (.iload_n 2, 1) := by decide +kernel
theorem dX8_layGains_60 : decode cX8_layGains 60 = .ok (.imul, 1) := by decide +kernel
theorem dX8_layGains_61 : decode cX8_layGains 61 = .ok (.iload_n 3, 1) := by decide +kernel
theorem dX8_layGains_62 : decode cX8_layGains 62 = .ok (.iadd, 1) := by decide +kernel
theorem dX8_layGains_63 : decode cX8_layGains 63 = .ok (.laload, 1) := by decide +kernel
theorem dX8_layGains_64 : decode cX8_layGains 64 = .ok (.lstore 4, 2) := by decide +kernel
theorem dX8_layGains_66 : decode cX8_layGains 66 = .ok (.aload_n 0, 1) := by decide +kernel
theorem dX8_layGains_67 : decode cX8_layGains 67 = .ok (.getfield 31, 3) := by decide +kernel
theorem dX8_layGains_70 : decode cX8_layGains 70 = .ok (.iconst 5, 1) := by decide +kernel
theorem dX8_layGains_71 : decode cX8_layGains 71 = .ok (.iload_n 2, 1) := by decide +kernel
theorem dX8_layGains_72 : decode cX8_layGains 72 = .ok (.imul, 1) := by decide +kernel
theorem dX8_layGains_73 : decode cX8_layGains 73 = .ok (.iconst 5, 1) := by decide +kernel
theorem dX8_layGains_74 : decode cX8_layGains 74 = .ok (.iadd, 1) := by decide +kernel
theorem dX8_layGains_75 : decode cX8_layGains 75 = .ok (.iload_n 3, 1) := by decide +kernel
theorem dX8_layGains_76 : decode cX8_layGains 76 = .ok (.iadd, 1) := by decide +kernel
theorem dX8_layGains_77 : decode cX8_layGains 77 = .ok (.dup2, 1) := by decide +kernel
theorem dX8_layGains_78 : decode cX8_layGains 78 = .ok (.laload, 1) := by decide +kernel
theorem dX8_layGains_79 : decode cX8_layGains 79 = .ok (.lload 4, 2) := by decide +kernel
theorem dX8_layGains_81 : decode cX8_layGains 81 = .ok (.lor, 1) := by decide +kernel
theorem dX8_layGains_82 : decode cX8_layGains 82 = .ok (.lastore, 1) := by decide +kernel
theorem dX8_layGains_83 : decode cX8_layGains 83 = .ok (.iconst 0, 1) := by decide +kernel
theorem dX8_layGains_84 : decode cX8_layGains 84 = .ok (.istore 6, 2) := by decide +kernel
theorem dX8_layGains_86 : decode cX8_layGains 86 = .ok (.iload 6, 2) := by decide +kernel
theorem dX8_layGains_88 : decode cX8_layGains 88 = .ok (.aload_n 0, 1) := by decide +kernel
theorem dX8_layGains_89 : decode cX8_layGains 89 = .ok (.getfield 19, 3) := by decide +kernel
theorem dX8_layGains_92 : decode cX8_layGains 92 = .ok (.iconst 2, 1) := by decide +kernel
theorem dX8_layGains_93 : decode cX8_layGains 93 = .ok (.iaload, 1) := by decide +kernel
theorem dX8_layGains_94 : decode cX8_layGains 94 = .ok (.if_icmp .ge 77, 3) := by decide +kernel
theorem dX8_layGains_97 : decode cX8_layGains 97 = .ok (.aload_n 0, 1) := by decide +kernel
theorem dX8_layGains_98 : decode cX8_layGains 98 = .ok (.iload_n 1, 1) := by decide +kernel
theorem dX8_layGains_99 : decode cX8_layGains 99 = .ok (.iload 6, 2) := by decide +kernel
theorem dX8_layGains_101 : decode cX8_layGains 101 = .ok (.iload_n 3, 1) := by decide +kernel
theorem dX8_layGains_102 : decode cX8_layGains 102 = .ok (.invokevirtual 184, 3) := by decide +kernel
theorem dX8_layGains_105 : decode cX8_layGains 105 = .ok (.istore 7, 2) := by decide +kernel
theorem dX8_layGains_107 : decode cX8_layGains 107 = .ok (.iload_n 2, 1) := by decide +kernel
theorem dX8_layGains_108 : decode cX8_layGains 108 = .ok (.aload_n 0, 1) := by decide +kernel
theorem dX8_layGains_109 : decode cX8_layGains 109 = .ok (.iload 6, 2) := by decide +kernel
theorem dX8_layGains_111 : decode cX8_layGains 111 = .ok (.iconst 2, 1) := by decide +kernel
theorem dX8_layGains_112 : decode cX8_layGains 112 = .ok (.invokevirtual 178, 3) := by decide +kernel
theorem dX8_layGains_115 : decode cX8_layGains 115 = .ok (.iadd, 1) := by decide +kernel
theorem dX8_layGains_116 : decode cX8_layGains 116 = .ok (.istore 8, 2) := by decide +kernel
theorem dX8_layGains_118 : decode cX8_layGains 118 = .ok (.iload 7, 2) := by decide +kernel
theorem dX8_layGains_120 : decode cX8_layGains 120 = .ok (.ldc 84, 2) := by decide +kernel
theorem dX8_layGains_122 : decode cX8_layGains 122 = .ok (.if_icmp .eq 43, 3) := by decide +kernel
theorem dX8_layGains_125 : decode cX8_layGains 125 = .ok (.iload 8, 2) := by decide +kernel
theorem dX8_layGains_127 : decode cX8_layGains 127 = .ok (.bipush 40, 2) := by decide +kernel
theorem dX8_layGains_129 : decode cX8_layGains 129 = .ok (.if_icmp .gt 36, 3) := by decide +kernel
theorem dX8_layGains_132 : decode cX8_layGains 132 = .ok (.aload_n 0, 1) := by decide +kernel
theorem dX8_layGains_133 : decode cX8_layGains 133 = .ok (.getfield 31, 3) := by decide +kernel
theorem dX8_layGains_136 : decode cX8_layGains 136 = .ok (.iconst 5, 1) := by decide +kernel
theorem dX8_layGains_137 : decode cX8_layGains 137 = .ok (.iload 8, 2) := by decide +kernel
theorem dX8_layGains_139 : decode cX8_layGains 139 = .ok (.imul, 1) := by decide +kernel
theorem dX8_layGains_140 : decode cX8_layGains 140 = .ok (.iload 7, 2) := by decide +kernel
theorem dX8_layGains_142 : decode cX8_layGains 142 = .ok (.iadd, 1) := by decide +kernel
theorem dX8_layGains_143 : decode cX8_layGains 143 = .ok (.dup2, 1) := by decide +kernel
theorem dX8_layGains_144 : decode cX8_layGains 144 = .ok (.laload, 1) := by decide +kernel
theorem dX8_layGains_145 : decode cX8_layGains 145 = .ok (.lload 4, 2) := by decide +kernel
theorem dX8_layGains_147 : decode cX8_layGains 147 = .ok (.aload_n 0, 1) := by decide +kernel
theorem dX8_layGains_148 : decode cX8_layGains 148 = .ok (.iload 6, 2) := by decide +kernel
theorem dX8_layGains_150 : decode cX8_layGains 150 = .ok (.iconst 2, 1) := by decide +kernel
theorem dX8_layGains_151 : decode cX8_layGains 151 = .ok (.invokevirtual 178, 3) := by decide +kernel
theorem dX8_layGains_154 : decode cX8_layGains 154 = .ok (.aload_n 0, 1) := by decide +kernel
theorem dX8_layGains_155 : decode cX8_layGains 155 = .ok (.iload_n 1, 1) := by decide +kernel
theorem dX8_layGains_156 : decode cX8_layGains 156 = .ok (.iload 6, 2) := by decide +kernel
theorem dX8_layGains_158 : decode cX8_layGains 158 = .ok (.invokevirtual 192, 3) := by decide +kernel
theorem dX8_layGains_161 : decode cX8_layGains 161 = .ok (.isub, 1) := by decide +kernel
theorem dX8_layGains_162 : decode cX8_layGains 162 = .ok (.lshl, 1) := by decide +kernel
theorem dX8_layGains_163 : decode cX8_layGains 163 = .ok (.lor, 1) := by decide +kernel
theorem dX8_layGains_164 : decode cX8_layGains 164 = .ok (.lastore, 1) := by decide +kernel
theorem dX8_layGains_165 : decode cX8_layGains 165 = .ok (.iinc 6 1, 3) := by decide +kernel
theorem dX8_layGains_168 : decode cX8_layGains 168 = .ok (.goto (-82), 3) := by decide +kernel
theorem dX8_layGains_171 : decode cX8_layGains 171 = .ok (.iinc 3 1, 3) := by decide +kernel
theorem dX8_layGains_174 : decode cX8_layGains 174 = .ok (.goto (-130), 3) := by decide +kernel
theorem dX8_layGains_177 : decode cX8_layGains 177 = .ok (.iinc 2 1, 3) := by decide +kernel
theorem dX8_layGains_180 : decode cX8_layGains 180 = .ok (.goto (-144), 3) := by decide +kernel
theorem dX8_layGains_183 : decode cX8_layGains 183 = .ok (.return_, 1) := by decide +kernel
theorem dX8_gains_0 : decode cX8_gains 0 = .ok (.aload_n 0, 1) := by decide +kernel
theorem dX8_gains_1 : decode cX8_gains 1 = .ok (.iconst 0, 1) := by decide +kernel
theorem dX8_gains_2 : decode cX8_gains 2 = .ok (.putfield 48, 3) := by decide +kernel
theorem dX8_gains_5 : decode cX8_gains 5 = .ok (.aload_n 0, 1) := by decide +kernel
theorem dX8_gains_6 : decode cX8_gains 6 = .ok (.iload_n 1, 1) := by decide +kernel
theorem dX8_gains_7 : decode cX8_gains 7 = .ok (.invokevirtual 199, 3) := by decide +kernel
theorem dX8_gains_10 : decode cX8_gains 10 = .ok (.ifCond .eq 36, 3) := by decide +kernel
theorem dX8_gains_13 : decode cX8_gains 13 = .ok (.aload_n 0, 1) := by decide +kernel
theorem dX8_gains_14 : decode cX8_gains 14 = .ok (.iload_n 2, 1) := by decide +kernel
theorem dX8_gains_15 : decode cX8_gains 15 = .ok (.invokevirtual 223, 3) := by decide +kernel
theorem dX8_gains_18 : decode cX8_gains 18 = .ok (.ifCond .eq 28, 3) := by decide +kernel
theorem dX8_gains_21 : decode cX8_gains 21 = .ok (.iload_n 3, 1) := by decide +kernel
theorem dX8_gains_22 : decode cX8_gains 22 = .ok (.i2l, 1) := by decide +kernel
theorem dX8_gains_23 : decode cX8_gains 23 = .ok (.lconst 0, 1) := by decide +kernel
theorem dX8_gains_24 : decode cX8_gains 24 = .ok (.ldc2_w 226, 3) := by decide +kernel
theorem dX8_gains_27 : decode cX8_gains 27 = .ok (.invokestatic 58, 3) := by decide +kernel
theorem dX8_gains_30 : decode cX8_gains 30 = .ok (.ifCond .eq 16, 3) := by decide +kernel
theorem dX8_gains_33 : decode cX8_gains 33 = .ok (.iload 4, 2) := by decide +kernel
theorem dX8_gains_35 : decode cX8_gains 35 = .ok (.i2l, 1) := by decide +kernel
theorem dX8_gains_36 : decode cX8_gains 36 = .ok (.lconst 0, 1) := by decide +kernel
theorem dX8_gains_37 : decode cX8_gains 37 = .ok (.ldc2_w 66, 3) := by decide +kernel
theorem dX8_gains_40 : decode cX8_gains 40 = .ok (.invokestatic 58, 3) := by decide +kernel
theorem dX8_gains_43 : decode cX8_gains 43 = .ok (.ifCond .ne 6, 3) := by decide +kernel
theorem dX8_gains_46 : decode cX8_gains 46 = .ok (.ldc 68, 2) := by decide +kernel
theorem dX8_gains_48 : decode cX8_gains 48 = .ok (.ireturn, 1) := by decide +kernel
theorem dX8_gains_49 : decode cX8_gains 49 = .ok (.aload_n 0, 1) := by decide +kernel
theorem dX8_gains_50 : decode cX8_gains 50 = .ok (.iload_n 1, 1) := by decide +kernel
theorem dX8_gains_51 : decode cX8_gains 51 = .ok (.invokevirtual 228, 3) := by decide +kernel
theorem dX8_gains_54 : decode cX8_gains 54 = .ok (.iconst 0, 1) := by decide +kernel
theorem dX8_gains_55 : decode cX8_gains 55 = .ok (.istore 5, 2) := by decide +kernel
theorem dX8_gains_57 : decode cX8_gains 57 = .ok (.ldc 84, 2) := by decide +kernel
theorem dX8_gains_59 : decode cX8_gains 59 = .ok (.istore 6, 2) := by decide +kernel
theorem dX8_gains_61 : decode cX8_gains 61 = .ok (.ldc 84, 2) := by decide +kernel
theorem dX8_gains_63 : decode cX8_gains 63 = .ok (.istore 7, 2) := by decide +kernel
theorem dX8_gains_65 : decode cX8_gains 65 = .ok (.iconst 0, 1) := by decide +kernel
theorem dX8_gains_66 : decode cX8_gains 66 = .ok (.istore 8, 2) := by decide +kernel
theorem dX8_gains_68 : decode cX8_gains 68 = .ok (.iload 8, 2) := by decide +kernel
theorem dX8_gains_70 : decode cX8_gains 70 = .ok (.bipush 40, 2) := by decide +kernel
theorem dX8_gains_72 : decode cX8_gains 72 = .ok (.if_icmp .gt 52, 3) := by decide +kernel
theorem dX8_gains_75 : decode cX8_gains 75 = .ok (.aload_n 0, 1) := by decide +kernel
theorem dX8_gains_76 : decode cX8_gains 76 = .ok (.getfield 31, 3) := by decide +kernel
theorem dX8_gains_79 : decode cX8_gains 79 = .ok (.iconst 5, 1) := by decide +kernel
theorem dX8_gains_80 : decode cX8_gains 80 = .ok (.iload_n 3, 1) := by decide +kernel
theorem dX8_gains_81 : decode cX8_gains 81 = .ok (.imul, 1) := by decide +kernel
theorem dX8_gains_82 : decode cX8_gains 82 = .ok (.iload_n 2, 1) := by decide +kernel
theorem dX8_gains_83 : decode cX8_gains 83 = .ok (.iadd, 1) := by decide +kernel
theorem dX8_gains_84 : decode cX8_gains 84 = .ok (.laload, 1) := by decide +kernel
theorem dX8_gains_85 : decode cX8_gains 85 = .ok (.iload 8, 2) := by decide +kernel
theorem dX8_gains_87 : decode cX8_gains 87 = .ok (.lshr, 1) := by decide +kernel
theorem dX8_gains_88 : decode cX8_gains 88 = .ok (.lconst 1, 1) := by decide +kernel
theorem dX8_gains_89 : decode cX8_gains 89 = .ok (.land, 1) := by decide +kernel
theorem dX8_gains_90 : decode cX8_gains 90 = .ok (.lconst 1, 1) := by decide +kernel
theorem dX8_gains_91 : decode cX8_gains 91 = .ok (.lcmp, 1) := by decide +kernel
theorem dX8_gains_92 : decode cX8_gains 92 = .ok (.ifCond .ne 26, 3) := by decide +kernel
theorem dX8_gains_95 : decode cX8_gains 95 = .ok (.iinc 5 1, 3) := by decide +kernel
theorem dX8_gains_98 : decode cX8_gains 98 = .ok (.iload 6, 2) := by decide +kernel
theorem dX8_gains_100 : decode cX8_gains 100 = .ok (.ldc 84, 2) := by decide +kernel
theorem dX8_gains_102 : decode cX8_gains 102 = .ok (.if_icmp .ne 8, 3) := by decide +kernel
theorem dX8_gains_105 : decode cX8_gains 105 = .ok (.iload 8, 2) := by decide +kernel
theorem dX8_gains_107 : decode cX8_gains 107 = .ok (.goto 5, 3) := by decide +kernel
theorem dX8_gains_110 : decode cX8_gains 110 = .ok (.iload 6, 2) := by decide +kernel
theorem dX8_gains_112 : decode cX8_gains 112 = .ok (.istore 6, 2) := by decide +kernel
theorem dX8_gains_114 : decode cX8_gains 114 = .ok (.iload 8, 2) := by decide +kernel
theorem dX8_gains_116 : decode cX8_gains 116 = .ok (.istore 7, 2) := by decide +kernel
theorem dX8_gains_118 : decode cX8_gains 118 = .ok (.iinc 8 1, 3) := by decide +kernel
theorem dX8_gains_121 : decode cX8_gains 121 = .ok (.goto (-53), 3) := by decide +kernel
theorem dX8_gains_124 : decode cX8_gains 124 = .ok (.iload 4, 2) := by decide +kernel
theorem dX8_gains_126 : decode cX8_gains 126 = .ok (.ifCond .ne 8, 3) := by decide +kernel
theorem dX8_gains_129 : decode cX8_gains 129 = .ok (.iload 5, 2) := by decide +kernel
theorem dX8_gains_131 : decode cX8_gains 131 = .ok (.goto 16, 3) := by decide +kernel
theorem dX8_gains_134 : decode cX8_gains 134 = .ok (.iload 4, 2) := by decide +kernel
theorem dX8_gains_136 : decode cX8_gains 136 = .ok (.iconst 1, 1) := by decide +kernel
theorem dX8_gains_137 : decode cX8_gains 137 = .ok (.if_icmp .ne 8, 3) := by decide +kernel
theorem dX8_gains_140 : decode cX8_gains 140 = .ok (.iload 6, 2) := by decide +kernel
theorem dX8_gains_142 : decode cX8_gains 142 = .ok (.goto 5, 3) := by decide +kernel
theorem dX8_gains_145 : decode cX8_gains 145 = .ok (.iload 7, 2) := by decide +kernel
theorem dX8_gains_147 : decode cX8_gains 147 = .ok (.ireturn, 1) := by decide +kernel
theorem dX8_soonest_0 : decode cX8_soonest 0 = .ok (.aload_n 0, 1) := by decide +kernel
theorem dX8_soonest_1 : decode cX8_soonest 1 = .ok (.iconst 0, 1) := by decide +kernel
theorem dX8_soonest_2 : decode cX8_soonest 2 = .ok (.putfield 48, 3) := by decide +kernel
theorem dX8_soonest_5 : decode cX8_soonest 5 = .ok (.aload_n 0, 1) := by decide +kernel
theorem dX8_soonest_6 : decode cX8_soonest 6 = .ok (.iload_n 1, 1) := by decide +kernel
theorem dX8_soonest_7 : decode cX8_soonest 7 = .ok (.invokevirtual 199, 3) := by decide +kernel
theorem dX8_soonest_10 : decode cX8_soonest 10 = .ok (.ifCond .eq 23, 3) := by decide +kernel
theorem dX8_soonest_13 : decode cX8_soonest 13 = .ok (.aload_n 0, 1) := by decide +kernel
theorem dX8_soonest_14 : decode cX8_soonest 14 = .ok (.iload_n 2, 1) := by decide +kernel
theorem dX8_soonest_15 : decode cX8_soonest 15 = .ok (.invokevirtual 223, 3) := by decide +kernel
theorem dX8_soonest_18 : decode cX8_soonest 18 = .ok (.ifCond .eq 15, 3) := by decide +kernel
theorem dX8_soonest_21 : decode cX8_soonest 21 = .ok (.iload_n 3, 1) := by decide +kernel
theorem dX8_soonest_22 : decode cX8_soonest 22 = .ok (.i2l, 1) := by decide +kernel
theorem dX8_soonest_23 : decode cX8_soonest 23 = .ok (.lconst 0, 1) := by decide +kernel
theorem dX8_soonest_24 : decode cX8_soonest 24 = .ok (.ldc2_w 226, 3) := by decide +kernel
theorem dX8_soonest_27 : decode cX8_soonest 27 = .ok (.invokestatic 58, 3) := by decide +kernel
theorem dX8_soonest_30 : decode cX8_soonest 30 = .ok (.ifCond .ne 6, 3) := by decide +kernel
theorem dX8_soonest_33 : decode cX8_soonest 33 = .ok (.ldc 68, 2) := by decide +kernel
theorem dX8_soonest_35 : decode cX8_soonest 35 = .ok (.ireturn, 1) := by decide +kernel
theorem dX8_soonest_36 : decode cX8_soonest 36 = .ok (.aload_n 0, 1) := by decide +kernel
theorem dX8_soonest_37 : decode cX8_soonest 37 = .ok (.iload_n 1, 1) := by decide +kernel
theorem dX8_soonest_38 : decode cX8_soonest 38 = .ok (.invokevirtual 228, 3) := by decide +kernel
theorem dX8_soonest_41 : decode cX8_soonest 41 = .ok (.iconst 0, 1) := by decide +kernel
theorem dX8_soonest_42 : decode cX8_soonest 42 = .ok (.istore 4, 2) := by decide +kernel
theorem dX8_soonest_44 : decode cX8_soonest 44 = .ok (.iload 4, 2) := by decide +kernel
theorem dX8_soonest_46 : decode cX8_soonest 46 = .ok (.bipush 40, 2) := by decide +kernel
theorem dX8_soonest_48 : decode cX8_soonest 48 = .ok (.if_icmp .gt 32, 3) := by decide +kernel
theorem dX8_soonest_51 : decode cX8_soonest 51 = .ok (.aload_n 0, 1) := by decide +kernel
theorem dX8_soonest_52 : decode cX8_soonest 52 = .ok (.getfield 31, 3) := by decide +kernel
theorem dX8_soonest_55 : decode cX8_soonest 55 = .ok (.iconst 5, 1) := by decide +kernel
theorem dX8_soonest_56 : decode cX8_soonest 56 = .ok (.iload 4, 2) := by decide +kernel
theorem dX8_soonest_58 : decode cX8_soonest 58 = .ok (.imul, 1) := by decide +kernel
theorem dX8_soonest_59 : decode cX8_soonest 59 = .ok (.iload_n 2, 1) := by decide +kernel
theorem dX8_soonest_60 : decode cX8_soonest 60 = .ok (.iadd, 1) := by decide +kernel
theorem dX8_soonest_61 : decode cX8_soonest 61 = .ok (.laload, 1) := by decide +kernel
theorem dX8_soonest_62 : decode cX8_soonest 62 = .ok (.iload_n 3, 1) := by decide +kernel
theorem dX8_soonest_63 : decode cX8_soonest 63 = .ok (.lshr, 1) := by decide +kernel
theorem dX8_soonest_64 : decode cX8_soonest 64 = .ok (.lconst 1, 1) := by decide +kernel
theorem dX8_soonest_65 : decode cX8_soonest 65 = .ok (.land, 1) := by decide +kernel
theorem dX8_soonest_66 : decode cX8_soonest 66 = .ok (.lconst 1, 1) := by decide +kernel
theorem dX8_soonest_67 : decode cX8_soonest 67 = .ok (.lcmp, 1) := by decide +kernel
theorem dX8_soonest_68 : decode cX8_soonest 68 = .ok (.ifCond .ne 6, 3) := by decide +kernel
theorem dX8_soonest_71 : decode cX8_soonest 71 = .ok (.iload 4, 2) := by decide +kernel
theorem dX8_soonest_73 : decode cX8_soonest 73 = .ok (.ireturn, 1) := by decide +kernel
theorem dX8_soonest_74 : decode cX8_soonest 74 = .ok (.iinc 4 1, 3) := by decide +kernel
theorem dX8_soonest_77 : decode cX8_soonest 77 = .ok (.goto (-33), 3) := by decide +kernel
theorem dX8_soonest_80 : decode cX8_soonest 80 = .ok (.ldc 84, 2) := by decide +kernel
theorem dX8_soonest_82 : decode cX8_soonest 82 = .ok (.ireturn, 1) := by decide +kernel
theorem dX8_voyages_0 : decode cX8_voyages 0 = .ok (.aload_n 0, 1) := by decide +kernel
theorem dX8_voyages_1 : decode cX8_voyages 1 = .ok (.iconst 0, 1) := by decide +kernel
theorem dX8_voyages_2 : decode cX8_voyages 2 = .ok (.putfield 48, 3) := by decide +kernel
theorem dX8_voyages_5 : decode cX8_voyages 5 = .ok (.aload_n 0, 1) := by decide +kernel
theorem dX8_voyages_6 : decode cX8_voyages 6 = .ok (.iload_n 1, 1) := by decide +kernel
theorem dX8_voyages_7 : decode cX8_voyages 7 = .ok (.invokevirtual 199, 3) := by decide +kernel
theorem dX8_voyages_10 : decode cX8_voyages 10 = .ok (.ifCond .eq 11, 3) := by decide +kernel
theorem dX8_voyages_13 : decode cX8_voyages 13 = .ok (.aload_n 0, 1) := by decide +kernel
theorem dX8_voyages_14 : decode cX8_voyages 14 = .ok (.iload_n 2, 1) := by decide +kernel
theorem dX8_voyages_15 : decode cX8_voyages 15 = .ok (.invokevirtual 223, 3) := by decide +kernel
theorem dX8_voyages_18 : decode cX8_voyages 18 = .ok (.ifCond .ne 6, 3) := by decide +kernel
theorem dX8_voyages_21 : decode cX8_voyages 21 = .ok (.ldc 68, 2) := by decide +kernel
theorem dX8_voyages_23 : decode cX8_voyages 23 = .ok (.ireturn, 1) := by decide +kernel
theorem dX8_voyages_24 : decode cX8_voyages 24 = .ok (.iconst 1, 1) := by decide +kernel
theorem dX8_voyages_25 : decode cX8_voyages 25 = .ok (.aload_n 0, 1) := by decide +kernel
theorem dX8_voyages_26 : decode cX8_voyages 26 = .ok (.iload_n 1, 1) := by decide +kernel
theorem dX8_voyages_27 : decode cX8_voyages 27 = .ok (.iconst 1, 1) := by decide +kernel
theorem dX8_voyages_28 : decode cX8_voyages 28 = .ok (.invokevirtual 181, 3) := by decide +kernel
theorem dX8_voyages_31 : decode cX8_voyages 31 = .ok (.ishl, 1) := by decide +kernel
theorem dX8_voyages_32 : decode cX8_voyages 32 = .ok (.istore_n 3, 1) := by decide +kernel
theorem dX8_voyages_33 : decode cX8_voyages 33 = .ok (.iconst 0, 1) := by decide +kernel
theorem dX8_voyages_34 : decode cX8_voyages 34 = .ok (.istore 4, 2) := by decide +kernel
theorem dX8_voyages_36 : decode cX8_voyages 36 = .ok (.iload 4, 2) := by decide +kernel
theorem dX8_voyages_38 : decode cX8_voyages 38 = .ok (.iconst 5, 1) := by decide +kernel
theorem dX8_voyages_39 : decode cX8_voyages 39 = .ok (.if_icmp .ge 108, 3) := by decide +kernel
theorem dX8_voyages_42 : decode cX8_voyages 42 = .ok (.iload_n 3, 1) := by decide +kernel
theorem dX8_voyages_43 : decode cX8_voyages 43 = .ok (.iload_n 2, 1) := by decide +kernel
theorem dX8_voyages_44 : decode cX8_voyages 44 = .ok (.ishr, 1) := by decide +kernel
theorem dX8_voyages_45 : decode cX8_voyages 45 = .ok (.iconst 1, 1) := by decide +kernel
theorem dX8_voyages_46 : decode cX8_voyages 46 = .ok (.iand, 1) := by decide +kernel
theorem dX8_voyages_47 : decode cX8_voyages 47 = .ok (.iconst 1, 1) := by decide +kernel
theorem dX8_voyages_48 : decode cX8_voyages 48 = .ok (.if_icmp .ne 6, 3) := by decide +kernel
theorem dX8_voyages_51 : decode cX8_voyages 51 = .ok (.iload 4, 2) := by decide +kernel
theorem dX8_voyages_53 : decode cX8_voyages 53 = .ok (.ireturn, 1) := by decide +kernel
theorem dX8_voyages_54 : decode cX8_voyages 54 = .ok (.iload_n 3, 1) := by decide +kernel
theorem dX8_voyages_55 : decode cX8_voyages 55 = .ok (.istore 5, 2) := by decide +kernel
theorem dX8_voyages_57 : decode cX8_voyages 57 = .ok (.iconst 0, 1) := by decide +kernel
theorem dX8_voyages_58 : decode cX8_voyages 58 = .ok (.istore 6, 2) := by decide +kernel
theorem dX8_voyages_60 : decode cX8_voyages 60 = .ok (.iload 6, 2) := by decide +kernel
theorem dX8_voyages_62 : decode cX8_voyages 62 = .ok (.aload_n 0, 1) := by decide +kernel
theorem dX8_voyages_63 : decode cX8_voyages 63 = .ok (.getfield 19, 3) := by decide +kernel
theorem dX8_voyages_66 : decode cX8_voyages 66 = .ok (.iconst 0, 1) := by decide +kernel
theorem dX8_voyages_67 : decode cX8_voyages 67 = .ok (.iaload, 1) := by decide +kernel
theorem dX8_voyages_68 : decode cX8_voyages 68 = .ok (.if_icmp .ge 70, 3) := by decide +kernel
theorem dX8_voyages_71 : decode cX8_voyages 71 = .ok (.iconst 0, 1) := by decide +kernel
theorem dX8_voyages_72 : decode cX8_voyages 72 = .ok (.istore 7, 2) := by decide +kernel
theorem dX8_voyages_74 : decode cX8_voyages 74 = .ok (.iload 7, 2) := by decide +kernel
theorem dX8_voyages_76 : decode cX8_voyages 76 = .ok (.aload_n 0, 1) := by decide +kernel
theorem dX8_voyages_77 : decode cX8_voyages 77 = .ok (.getfield 19, 3) := by decide +kernel
theorem dX8_voyages_80 : decode cX8_voyages 80 = .ok (.iconst 2, 1) := by decide +kernel
theorem dX8_voyages_81 : decode cX8_voyages 81 = .ok (.iaload, 1) := by decide +kernel
theorem dX8_voyages_82 : decode cX8_voyages 82 = .ok (.if_icmp .ge 50, 3) := by decide +kernel
theorem dX8_voyages_85 : decode cX8_voyages 85 = .ok (.iload_n 3, 1) := by decide +kernel
theorem dX8_voyages_86 : decode cX8_voyages 86 = .ok (.iload 6, 2) := by decide +kernel
theorem dX8_voyages_88 : decode cX8_voyages 88 = .ok (.ishr, 1) := by decide +kernel
theorem dX8_voyages_89 : decode cX8_voyages 89 = .ok (.iconst 1, 1) := by decide +kernel
theorem dX8_voyages_90 : decode cX8_voyages 90 = .ok (.iand, 1) := by decide +kernel
theorem dX8_voyages_91 : decode cX8_voyages 91 = .ok (.iconst 1, 1) := by decide +kernel
theorem dX8_voyages_92 : decode cX8_voyages 92 = .ok (.if_icmp .ne 40, 3) := by decide +kernel
theorem dX8_voyages_95 : decode cX8_voyages 95 = .ok (.aload_n 0, 1) := by decide +kernel
theorem dX8_voyages_96 : decode cX8_voyages 96 = .ok (.iload_n 1, 1) := by decide +kernel
theorem dX8_voyages_97 : decode cX8_voyages 97 = .ok (.iload 7, 2) := by decide +kernel
theorem dX8_voyages_99 : decode cX8_voyages 99 = .ok (.iload 6, 2) := by decide +kernel
theorem dX8_voyages_101 : decode cX8_voyages 101 = .ok (.invokevirtual 184, 3) := by decide +kernel
theorem dX8_voyages_104 : decode cX8_voyages 104 = .ok (.istore 8, 2) := by decide +kernel
theorem dX8_voyages_106 : decode cX8_voyages 106 = .ok (.iload 5, 2) := by decide +kernel
theorem dX8_voyages_108 : decode cX8_voyages 108 = .ok (.iload 8, 2) := by decide +kernel
theorem dX8_voyages_110 : decode cX8_voyages 110 = .ok (.ldc 84, 2) := by decide +kernel
theorem dX8_voyages_112 : decode cX8_voyages 112 = .ok (.if_icmp .eq 10, 3) := by decide +kernel
theorem dX8_voyages_115 : decode cX8_voyages 115 = .ok (.iconst 1, 1) := by decide +kernel
theorem dX8_voyages_116 : decode cX8_voyages 116 = .ok (.iload 8, 2) := by decide +kernel
theorem dX8_voyages_118 : decode cX8_voyages 118 = .ok (.ishl, 1) := by decide +kernel
theorem dX8_voyages_119 : decode cX8_voyages 119 = .ok (.goto 4, 3) := by decide +kernel
theorem dX8_voyages_122 : decode cX8_voyages 122 = .ok (.iconst 0, 1) := by decide +kernel
theorem dX8_voyages_123 : decode cX8_voyages 123 = .ok (.ior, 1) := by decide +kernel
theorem dX8_voyages_124 : decode cX8_voyages 124 = .ok (.istore 5, 2) := by decide +kernel
theorem dX8_voyages_126 : decode cX8_voyages 126 = .ok (.iinc 7 1, 3) := by decide +kernel
theorem dX8_voyages_129 : decode cX8_voyages 129 = .ok (.goto (-55), 3) := by decide +kernel
theorem dX8_voyages_132 : decode cX8_voyages 132 = .ok (.iinc 6 1, 3) := by decide +kernel
theorem dX8_voyages_135 : decode cX8_voyages 135 = .ok (.goto (-75), 3) := by decide +kernel
theorem dX8_voyages_138 : decode cX8_voyages 138 = .ok (.iload 5, 2) := by decide +kernel
theorem dX8_voyages_140 : decode cX8_voyages 140 = .ok (.istore_n 3, 1) := by decide +kernel
theorem dX8_voyages_141 : decode cX8_voyages 141 = .ok (.iinc 4 1, 3) := by decide +kernel
theorem dX8_voyages_144 : decode cX8_voyages 144 = .ok (.goto (-108), 3) := by decide +kernel
theorem dX8_voyages_147 : decode cX8_voyages 147 = .ok (.ldc 84, 2) := by decide +kernel
theorem dX8_voyages_149 : decode cX8_voyages 149 = .ok (.ireturn, 1) := by decide +kernel
theorem dX8_even_0 : decode cX8_even 0 = .ok (.aload_n 0, 1) := by decide +kernel
theorem dX8_even_1 : decode cX8_even 1 = .ok (.iconst 0, 1) := by decide +kernel
theorem dX8_even_2 : decode cX8_even 2 = .ok (.putfield 48, 3) := by decide +kernel
theorem dX8_even_5 : decode cX8_even 5 = .ok (.aload_n 0, 1) := by decide +kernel
theorem dX8_even_6 : decode cX8_even 6 = .ok (.iload_n 1, 1) := by decide +kernel
theorem dX8_even_7 : decode cX8_even 7 = .ok (.invokevirtual 199, 3) := by decide +kernel
theorem dX8_even_10 : decode cX8_even 10 = .ok (.ifCond .eq 24, 3) := by decide +kernel
theorem dX8_even_13 : decode cX8_even 13 = .ok (.aload_n 0, 1) := by decide +kernel
theorem dX8_even_14 : decode cX8_even 14 = .ok (.iload_n 2, 1) := by decide +kernel
theorem dX8_even_15 : decode cX8_even 15 = .ok (.invokevirtual 199, 3) := by decide +kernel
theorem dX8_even_18 : decode cX8_even 18 = .ok (.ifCond .eq 16, 3) := by decide +kernel
theorem dX8_even_21 : decode cX8_even 21 = .ok (.iload_n 1, 1) := by decide +kernel
theorem dX8_even_22 : decode cX8_even 22 = .ok (.iload_n 2, 1) := by decide +kernel
theorem dX8_even_23 : decode cX8_even 23 = .ok (.if_icmp .eq 11, 3) := by decide +kernel
theorem dX8_even_26 : decode cX8_even 26 = .ok (.aload_n 0, 1) := by decide +kernel
theorem dX8_even_27 : decode cX8_even 27 = .ok (.iload_n 3, 1) := by decide +kernel
theorem dX8_even_28 : decode cX8_even 28 = .ok (.invokevirtual 223, 3) := by decide +kernel
theorem dX8_even_31 : decode cX8_even 31 = .ok (.ifCond .ne 6, 3) := by decide +kernel
theorem dX8_even_34 : decode cX8_even 34 = .ok (.ldc 68, 2) := by decide +kernel
theorem dX8_even_36 : decode cX8_even 36 = .ok (.ireturn, 1) := by decide +kernel
theorem dX8_even_37 : decode cX8_even 37 = .ok (.aload_n 0, 1) := by decide +kernel
theorem dX8_even_38 : decode cX8_even 38 = .ok (.iload_n 2, 1) := by decide +kernel
theorem dX8_even_39 : decode cX8_even 39 = .ok (.invokevirtual 228, 3) := by decide +kernel
theorem dX8_even_42 : decode cX8_even 42 = .ok (.iconst 0, 1) := by decide +kernel
theorem dX8_even_43 : decode cX8_even 43 = .ok (.istore 4, 2) := by decide +kernel
theorem dX8_even_45 : decode cX8_even 45 = .ok (.iload 4, 2) := by decide +kernel
theorem dX8_even_47 : decode cX8_even 47 = .ok (.sipush 205, 3) := by decide +kernel
theorem dX8_even_50 : decode cX8_even 50 = .ok (.if_icmp .ge 23, 3) := by decide +kernel
theorem dX8_even_53 : decode cX8_even 53 = .ok (.aload_n 0, 1) := by decide +kernel
theorem dX8_even_54 : decode cX8_even 54 = .ok (.getfield 35, 3) := by decide +kernel
theorem dX8_even_57 : decode cX8_even 57 = .ok (.iload 4, 2) := by decide +kernel
theorem dX8_even_59 : decode cX8_even 59 = .ok (.aload_n 0, 1) := by decide +kernel
theorem dX8_even_60 : decode cX8_even 60 = .ok (.getfield 31, 3) := by decide +kernel
theorem dX8_even_63 : decode cX8_even 63 = .ok (.iload 4, 2) := by decide +kernel
theorem dX8_even_65 : decode cX8_even 65 = .ok (.laload, 1) := by decide +kernel
theorem dX8_even_66 : decode cX8_even 66 = .ok (.lastore, 1) := by decide +kernel
theorem dX8_even_67 : decode cX8_even 67 = .ok (.iinc 4 1, 3) := by decide +kernel
theorem dX8_even_70 : decode cX8_even 70 = .ok (.goto (-25), 3) := by decide +kernel
theorem dX8_even_73 : decode cX8_even 73 = .ok (.aload_n 0, 1) := by decide +kernel
theorem dX8_even_74 : decode cX8_even 74 = .ok (.iload_n 1, 1) := by decide +kernel
theorem dX8_even_75 : decode cX8_even 75 = .ok (.invokevirtual 228, 3) := by decide +kernel
theorem dX8_even_78 : decode cX8_even 78 = .ok (.aload_n 0, 1) := by decide +kernel
theorem dX8_even_79 : decode cX8_even 79 = .ok (.iload_n 1, 1) := by decide +kernel
theorem dX8_even_80 : decode cX8_even 80 = .ok (.iconst 3, 1) := by decide +kernel
theorem dX8_even_81 : decode cX8_even 81 = .ok (.invokevirtual 181, 3) := by decide +kernel
theorem dX8_even_84 : decode cX8_even 84 = .ok (.aload_n 0, 1) := by decide +kernel
theorem dX8_even_85 : decode cX8_even 85 = .ok (.iload_n 2, 1) := by decide +kernel
theorem dX8_even_86 : decode cX8_even 86 = .ok (.iconst 3, 1) := by decide +kernel
theorem dX8_even_87 : decode cX8_even 87 = .ok (.invokevirtual 181, 3) := by decide +kernel
theorem dX8_even_90 : decode cX8_even 90 = .ok (.if_icmp .le 12, 3) := by decide +kernel
theorem dX8_even_93 : decode cX8_even 93 = .ok (.aload_n 0, 1) := by decide +kernel
theorem dX8_even_94 : decode cX8_even 94 = .ok (.iload_n 1, 1) := by decide +kernel
theorem dX8_even_95 : decode cX8_even 95 = .ok (.iconst 3, 1) := by decide +kernel
theorem dX8_even_96 : decode cX8_even 96 = .ok (.invokevirtual 181, 3) := by decide +kernel
theorem dX8_even_99 : decode cX8_even 99 = .ok (.goto 9, 3) := by decide +kernel
theorem dX8_even_102 : decode cX8_even 102 = .ok (.aload_n 0, 1) := by decide +kernel
theorem dX8_even_103 : decode cX8_even 103 = .ok (.iload_n 2, 1) := by decide +kernel
theorem dX8_even_104 : decode cX8_even 104 = .ok (.iconst 3, 1) := by decide +kernel
theorem dX8_even_105 : decode cX8_even 105 = .ok (.invokevirtual 181, 3) := by decide +kernel
theorem dX8_even_108 : decode cX8_even 108 = .ok (.istore 4, 2) := by decide +kernel
theorem dX8_even_110 : decode cX8_even 110 = .ok (.iload 4, 2) := by decide +kernel
theorem dX8_even_112 : decode cX8_even 112 = .ok (.istore 5, 2) := by decide +kernel
theorem dX8_even_114 : decode cX8_even 114 = .ok (.iload 5, 2) := by decide +kernel
theorem dX8_even_116 : decode cX8_even 116 = .ok (.aload_n 0, 1) := by decide +kernel
theorem dX8_even_117 : decode cX8_even 117 = .ok (.iload_n 1, 1) := by decide +kernel
theorem dX8_even_118 : decode cX8_even 118 = .ok (.iconst 3, 1) := by decide +kernel
theorem dX8_even_119 : decode cX8_even 119 = .ok (.invokevirtual 181, 3) := by decide +kernel
theorem dX8_even_122 : decode cX8_even 122 = .ok (.isub, 1) := by decide +kernel
theorem dX8_even_123 : decode cX8_even 123 = .ok (.bipush 40, 2) := by decide +kernel
theorem dX8_even_125 : decode cX8_even 125 = .ok (.if_icmp .gt 147, 3) := by decide +kernel
theorem dX8_even_128 : decode cX8_even 128 = .ok (.iload 5, 2) := by decide +kernel
theorem dX8_even_130 : decode cX8_even 130 = .ok (.aload_n 0, 1) := by decide +kernel
theorem dX8_even_131 : decode cX8_even 131 = .ok (.iload_n 2, 1) := by decide +kernel
theorem dX8_even_132 : decode cX8_even 132 = .ok (.iconst 3, 1) := by decide +kernel
theorem dX8_even_133 : decode cX8_even 133 = .ok (.invokevirtual 181, 3) := by decide +kernel
theorem dX8_even_136 : decode cX8_even 136 = .ok (.isub, 1) := by decide +kernel
theorem dX8_even_137 : decode cX8_even 137 = .ok (.bipush 40, 2) := by decide +kernel
theorem dX8_even_139 : decode cX8_even 139 = .ok (.if_icmp .gt 133, 3) := by decide +kernel
theorem dX8_even_142 : decode cX8_even 142 = .ok (.iload 5, 2) := by decide +kernel
theorem dX8_even_144 : decode cX8_even 144 = .ok (.aload_n 0, 1) := by decide +kernel
theorem dX8_even_145 : decode cX8_even 145 = .ok (.iload_n 1, 1) := by decide +kernel
theorem dX8_even_146 : decode cX8_even 146 = .ok (.iconst 3, 1) := by decide +kernel
theorem dX8_even_147 : decode cX8_even 147 = .ok (.invokevirtual 181, 3) := by decide +kernel
theorem dX8_even_150 : decode cX8_even 150 = .ok (.isub, 1) := by decide +kernel
theorem dX8_even_151 : decode cX8_even 151 = .ok (.istore 6, 2) := by decide +kernel
theorem dX8_even_153 : decode cX8_even 153 = .ok (.iload 5, 2) := by decide +kernel
theorem dX8_even_155 : decode cX8_even 155 = .ok (.aload_n 0, 1) := by decide +kernel
theorem dX8_even_156 : decode cX8_even 156 = .ok (.iload_n 2, 1) := by decide +kernel
theorem dX8_even_157 : decode cX8_even 157 = .ok (.iconst 3, 1) := by decide +kernel
theorem dX8_even_158 : decode cX8_even 158 = .ok (.invokevirtual 181, 3) := by decide +kernel
theorem dX8_even_161 : decode cX8_even 161 = .ok (.isub, 1) := by decide +kernel
theorem dX8_even_162 : decode cX8_even 162 = .ok (.istore 7, 2) := by decide +kernel
theorem dX8_even_164 : decode cX8_even 164 = .ok (.aload_n 0, 1) := by decide +kernel
theorem dX8_even_165 : decode cX8_even 165 = .ok (.iload_n 1, 1) := by decide +kernel
theorem dX8_even_166 : decode cX8_even 166 = .ok (.iconst 4, 1) := by decide +kernel
theorem dX8_even_167 : decode cX8_even 167 = .ok (.invokevirtual 181, 3) := by decide +kernel
theorem dX8_even_170 : decode cX8_even 170 = .ok (.iload 6, 2) := by decide +kernel
theorem dX8_even_172 : decode cX8_even 172 = .ok (.iadd, 1) := by decide +kernel
theorem dX8_even_173 : decode cX8_even 173 = .ok (.aload_n 0, 1) := by decide +kernel
theorem dX8_even_174 : decode cX8_even 174 = .ok (.iload_n 2, 1) := by decide +kernel
theorem dX8_even_175 : decode cX8_even 175 = .ok (.iconst 4, 1) := by decide +kernel
theorem dX8_even_176 : decode cX8_even 176 = .ok (.invokevirtual 181, 3) := by decide +kernel
theorem dX8_even_179 : decode cX8_even 179 = .ok (.isub, 1) := by decide +kernel
theorem dX8_even_180 : decode cX8_even 180 = .ok (.iload 7, 2) := by decide +kernel
theorem dX8_even_182 : decode cX8_even 182 = .ok (.isub, 1) := by decide +kernel
theorem dX8_even_183 : decode cX8_even 183 = .ok (.istore 8, 2) := by decide +kernel
theorem dX8_even_185 : decode cX8_even 185 = .ok (.iconst 0, 1) := by decide +kernel
theorem dX8_even_186 : decode cX8_even 186 = .ok (.istore 9, 2) := by decide +kernel
theorem dX8_even_188 : decode cX8_even 188 = .ok (.iload 9, 2) := by decide +kernel
theorem dX8_even_190 : decode cX8_even 190 = .ok (.bipush 40, 2) := by decide +kernel
theorem dX8_even_192 : decode cX8_even 192 = .ok (.if_icmp .gt 74, 3) := by decide +kernel
theorem dX8_even_195 : decode cX8_even 195 = .ok (.iload 9, 2) := by decide +kernel
theorem dX8_even_197 : decode cX8_even 197 = .ok (.iload 8, 2) := by decide +kernel
theorem dX8_even_199 : decode cX8_even 199 = .ok (.isub, 1) := by decide +kernel
theorem dX8_even_200 : decode cX8_even 200 = .ok (.istore 10, 2) := by decide +kernel
theorem dX8_even_202 : decode cX8_even 202 = .ok (.aload_n 0, 1) := by decide +kernel
theorem dX8_even_203 : decode cX8_even 203 = .ok (.getfield 31, 3) := by decide +kernel
theorem dX8_even_206 : decode cX8_even 206 = .ok (.iconst 5, 1) := by decide +kernel
theorem dX8_even_207 : decode cX8_even 207 = .ok (.iload 6, 2) := by decide +kernel
theorem dX8_even_209 : decode cX8_even 209 = .ok (.imul, 1) := by decide +kernel
theorem dX8_even_210 : decode cX8_even 210 = .ok (.iload_n 3, 1) := by decide +kernel
theorem dX8_even_211 : decode cX8_even 211 = .ok (.iadd, 1) := by decide +kernel
theorem dX8_even_212 : decode cX8_even 212 = .ok (.laload, 1) := by decide +kernel
theorem dX8_even_213 : decode cX8_even 213 = .ok (.iload 9, 2) := by decide +kernel
theorem dX8_even_215 : decode cX8_even 215 = .ok (.lshr, 1) := by decide +kernel
theorem dX8_even_216 : decode cX8_even 216 = .ok (.lconst 1, 1) := by decide +kernel
theorem dX8_even_217 : decode cX8_even 217 = .ok (.land, 1) := by decide +kernel
theorem dX8_even_218 : decode cX8_even 218 = .ok (.lconst 1, 1) := by decide +kernel
theorem dX8_even_219 : decode cX8_even 219 = .ok (.lcmp, 1) := by decide +kernel
theorem dX8_even_220 : decode cX8_even 220 = .ok (.ifCond .ne 40, 3) := by decide +kernel
theorem dX8_even_223 : decode cX8_even 223 = .ok (.iload 10, 2) := by decide +kernel
theorem dX8_even_225 : decode cX8_even 225 = .ok (.i2l, 1) := by decide +kernel
theorem dX8_even_226 : decode cX8_even 226 = .ok (.lconst 0, 1) := by decide +kernel
theorem dX8_even_227 : decode cX8_even 227 = .ok (.ldc2_w 226, 3) := by decide +kernel
theorem dX8_even_230 : decode cX8_even 230 = .ok (.invokestatic 58, 3) := by decide +kernel
theorem dX8_even_233 : decode cX8_even 233 = .ok (.ifCond .eq 27, 3) := by decide +kernel
theorem dX8_even_236 : decode cX8_even 236 = .ok (.aload_n 0, 1) := by decide +kernel
theorem dX8_even_237 : decode cX8_even 237 = .ok (.getfield 35, 3) := by decide +kernel
theorem dX8_even_240 : decode cX8_even 240 = .ok (.iconst 5, 1) := by decide +kernel
theorem dX8_even_241 : decode cX8_even 241 = .ok (.iload 7, 2) := by decide +kernel
theorem dX8_even_243 : decode cX8_even 243 = .ok (.imul, 1) := by decide +kernel
theorem dX8_even_244 : decode cX8_even 244 = .ok (.iload_n 3, 1) := by decide +kernel
theorem dX8_even_245 : decode cX8_even 245 = .ok (.iadd, 1) := by decide +kernel
theorem dX8_even_246 : decode cX8_even 246 = .ok (.laload, 1) := by decide +kernel
theorem dX8_even_247 : decode cX8_even 247 = .ok (.iload 10, 2) := by decide +kernel
theorem dX8_even_249 : decode cX8_even 249 = .ok (.lshr, 1) := by decide +kernel
theorem dX8_even_250 : decode cX8_even 250 = .ok (.lconst 1, 1) := by decide +kernel
theorem dX8_even_251 : decode cX8_even 251 = .ok (.land, 1) := by decide +kernel
theorem dX8_even_252 : decode cX8_even 252 = .ok (.lconst 1, 1) := by decide +kernel
theorem dX8_even_253 : decode cX8_even 253 = .ok (.lcmp, 1) := by decide +kernel
theorem dX8_even_254 : decode cX8_even 254 = .ok (.ifCond .ne 6, 3) := by decide +kernel
theorem dX8_even_257 : decode cX8_even 257 = .ok (.iload 5, 2) := by decide +kernel
theorem dX8_even_259 : decode cX8_even 259 = .ok (.ireturn, 1) := by decide +kernel
theorem dX8_even_260 : decode cX8_even 260 = .ok (.iinc 9 1, 3) := by decide +kernel
theorem dX8_even_263 : decode cX8_even 263 = .ok (.goto (-75), 3) := by decide +kernel
theorem dX8_even_266 : decode cX8_even 266 = .ok (.iinc 5 1, 3) := by decide +kernel
theorem dX8_even_269 : decode cX8_even 269 = .ok (.goto (-155), 3) := by decide +kernel
theorem dX8_even_272 : decode cX8_even 272 = .ok (.ldc 84, 2) := by decide +kernel
theorem dX8_even_274 : decode cX8_even 274 = .ok (.ireturn, 1) := by decide +kernel
theorem dX8_where_0 : decode cX8_where 0 = .ok (.aload_n 0, 1) := by decide +kernel
theorem dX8_where_1 : decode cX8_where 1 = .ok (.iconst 0, 1) := by decide +kernel
theorem dX8_where_2 : decode cX8_where 2 = .ok (.putfield 48, 3) := by decide +kernel
theorem dX8_where_5 : decode cX8_where 5 = .ok (.aload_n 0, 1) := by decide +kernel
theorem dX8_where_6 : decode cX8_where 6 = .ok (.iload_n 1, 1) := by decide +kernel
theorem dX8_where_7 : decode cX8_where 7 = .ok (.invokevirtual 199, 3) := by decide +kernel
theorem dX8_where_10 : decode cX8_where 10 = .ok (.ifCond .eq 27, 3) := by decide +kernel
theorem dX8_where_13 : decode cX8_where 13 = .ok (.iload_n 2, 1) := by decide +kernel
theorem dX8_where_14 : decode cX8_where 14 = .ok (.i2l, 1) := by decide +kernel
theorem dX8_where_15 : decode cX8_where 15 = .ok (.lconst 0, 1) := by decide +kernel
theorem dX8_where_16 : decode cX8_where 16 = .ok (.ldc2_w 231, 3) := by decide +kernel
theorem dX8_where_19 : decode cX8_where 19 = .ok (.invokestatic 58, 3) := by decide +kernel
theorem dX8_where_22 : decode cX8_where 22 = .ok (.ifCond .eq 15, 3) := by decide +kernel
theorem dX8_where_25 : decode cX8_where 25 = .ok (.iload_n 3, 1) := by decide +kernel
theorem dX8_where_26 : decode cX8_where 26 = .ok (.i2l, 1) := by decide +kernel
theorem dX8_where_27 : decode cX8_where 27 = .ok (.lconst 0, 1) := by decide +kernel
theorem dX8_where_28 : decode cX8_where 28 = .ok (.ldc2_w 233, 3) := by decide +kernel
theorem dX8_where_31 : decode cX8_where 31 = .ok (.invokestatic 58, 3) := by decide +kernel
theorem dX8_where_34 : decode cX8_where 34 = .ok (.ifCond .ne 6, 3) := by decide +kernel
theorem dX8_where_37 : decode cX8_where 37 = .ok (.ldc 68, 2) := by decide +kernel
theorem dX8_where_39 : decode cX8_where 39 = .ok (.ireturn, 1) := by decide +kernel
theorem dX8_where_40 : decode cX8_where 40 = .ok (.iload_n 2, 1) := by decide +kernel
theorem dX8_where_41 : decode cX8_where 41 = .ok (.aload_n 0, 1) := by decide +kernel
theorem dX8_where_42 : decode cX8_where 42 = .ok (.iload_n 1, 1) := by decide +kernel
theorem dX8_where_43 : decode cX8_where 43 = .ok (.iconst 3, 1) := by decide +kernel
theorem dX8_where_44 : decode cX8_where 44 = .ok (.invokevirtual 181, 3) := by decide +kernel
theorem dX8_where_47 : decode cX8_where 47 = .ok (.isub, 1) := by decide +kernel
theorem dX8_where_48 : decode cX8_where 48 = .ok (.istore 4, 2) := by decide +kernel
theorem dX8_where_50 : decode cX8_where 50 = .ok (.aload_n 0, 1) := by decide +kernel
theorem dX8_where_51 : decode cX8_where 51 = .ok (.iload_n 1, 1) := by decide +kernel
theorem dX8_where_52 : decode cX8_where 52 = .ok (.iconst 4, 1) := by decide +kernel
theorem dX8_where_53 : decode cX8_where 53 = .ok (.invokevirtual 181, 3) := by decide +kernel
theorem dX8_where_56 : decode cX8_where 56 = .ok (.iload 4, 2) := by decide +kernel
theorem dX8_where_58 : decode cX8_where 58 = .ok (.iadd, 1) := by decide +kernel
theorem dX8_where_59 : decode cX8_where 59 = .ok (.iload_n 3, 1) := by decide +kernel
theorem dX8_where_60 : decode cX8_where 60 = .ok (.isub, 1) := by decide +kernel
theorem dX8_where_61 : decode cX8_where 61 = .ok (.istore 5, 2) := by decide +kernel
theorem dX8_where_63 : decode cX8_where 63 = .ok (.iload 4, 2) := by decide +kernel
theorem dX8_where_65 : decode cX8_where 65 = .ok (.i2l, 1) := by decide +kernel
theorem dX8_where_66 : decode cX8_where 66 = .ok (.lconst 0, 1) := by decide +kernel
theorem dX8_where_67 : decode cX8_where 67 = .ok (.ldc2_w 226, 3) := by decide +kernel
theorem dX8_where_70 : decode cX8_where 70 = .ok (.invokestatic 58, 3) := by decide +kernel
theorem dX8_where_73 : decode cX8_where 73 = .ok (.ifCond .eq 16, 3) := by decide +kernel
theorem dX8_where_76 : decode cX8_where 76 = .ok (.iload 5, 2) := by decide +kernel
theorem dX8_where_78 : decode cX8_where 78 = .ok (.i2l, 1) := by decide +kernel
theorem dX8_where_79 : decode cX8_where 79 = .ok (.lconst 0, 1) := by decide +kernel
theorem dX8_where_80 : decode cX8_where 80 = .ok (.ldc2_w 226, 3) := by decide +kernel
theorem dX8_where_83 : decode cX8_where 83 = .ok (.invokestatic 58, 3) := by decide +kernel
theorem dX8_where_86 : decode cX8_where 86 = .ok (.ifCond .ne 5, 3) := by decide +kernel
theorem dX8_where_89 : decode cX8_where 89 = .ok (.iconst 0, 1) := by decide +kernel
theorem dX8_where_90 : decode cX8_where 90 = .ok (.ireturn, 1) := by decide +kernel
theorem dX8_where_91 : decode cX8_where 91 = .ok (.aload_n 0, 1) := by decide +kernel
theorem dX8_where_92 : decode cX8_where 92 = .ok (.iload_n 1, 1) := by decide +kernel
theorem dX8_where_93 : decode cX8_where 93 = .ok (.invokevirtual 228, 3) := by decide +kernel
theorem dX8_where_96 : decode cX8_where 96 = .ok (.iconst 0, 1) := by decide +kernel
theorem dX8_where_97 : decode cX8_where 97 = .ok (.istore 6, 2) := by decide +kernel
theorem dX8_where_99 : decode cX8_where 99 = .ok (.iconst 0, 1) := by decide +kernel
theorem dX8_where_100 : decode cX8_where 100 = .ok (.istore 7, 2) := by decide +kernel
theorem dX8_where_102 : decode cX8_where 102 = .ok (.iload 7, 2) := by decide +kernel
theorem dX8_where_104 : decode cX8_where 104 = .ok (.aload_n 0, 1) := by decide +kernel
theorem dX8_where_105 : decode cX8_where 105 = .ok (.getfield 19, 3) := by decide +kernel
theorem dX8_where_108 : decode cX8_where 108 = .ok (.iconst 0, 1) := by decide +kernel
theorem dX8_where_109 : decode cX8_where 109 = .ok (.iaload, 1) := by decide +kernel
theorem dX8_where_110 : decode cX8_where 110 = .ok (.if_icmp .ge 44, 3) := by decide +kernel
theorem dX8_where_113 : decode cX8_where 113 = .ok (.iload 6, 2) := by decide +kernel
theorem dX8_where_115 : decode cX8_where 115 = .ok (.aload_n 0, 1) := by decide +kernel
theorem dX8_where_116 : decode cX8_where 116 = .ok (.getfield 31, 3) := by decide +kernel
theorem dX8_where_119 : decode cX8_where 119 = .ok (.iconst 5, 1) := by decide +kernel
theorem dX8_where_120 : decode cX8_where 120 = .ok (.iload 4, 2) := by decide +kernel
theorem dX8_where_122 : decode cX8_where 122 = .ok (.imul, 1) := by decide +kernel
theorem dX8_where_123 : decode cX8_where 123 = .ok (.iload 7, 2) := by decide +kernel
theorem dX8_where_125 : decode cX8_where 125 = .ok (.iadd, 1) := by decide +kernel
theorem dX8_where_126 : decode cX8_where 126 = .ok (.laload, 1) := by decide +kernel
theorem dX8_where_127 : decode cX8_where 127 = .ok (.iload 5, 2) := by decide +kernel
theorem dX8_where_129 : decode cX8_where 129 = .ok (.lshr, 1) := by decide +kernel
theorem dX8_where_130 : decode cX8_where 130 = .ok (.lconst 1, 1) := by decide +kernel
theorem dX8_where_131 : decode cX8_where 131 = .ok (.land, 1) := by decide +kernel
theorem dX8_where_132 : decode cX8_where 132 = .ok (.lconst 1, 1) := by decide +kernel
theorem dX8_where_133 : decode cX8_where 133 = .ok (.lcmp, 1) := by decide +kernel
theorem dX8_where_134 : decode cX8_where 134 = .ok (.ifCond .ne 10, 3) := by decide +kernel
theorem dX8_where_137 : decode cX8_where 137 = .ok (.iconst 1, 1) := by decide +kernel
theorem dX8_where_138 : decode cX8_where 138 = .ok (.iload 7, 2) := by decide +kernel
theorem dX8_where_140 : decode cX8_where 140 = .ok (.ishl, 1) := by decide +kernel
theorem dX8_where_141 : decode cX8_where 141 = .ok (.goto 4, 3) := by decide +kernel
theorem dX8_where_144 : decode cX8_where 144 = .ok (.iconst 0, 1) := by decide +kernel
theorem dX8_where_145 : decode cX8_where 145 = .ok (.ior, 1) := by decide +kernel
theorem dX8_where_146 : decode cX8_where 146 = .ok (.istore 6, 2) := by decide +kernel
theorem dX8_where_148 : decode cX8_where 148 = .ok (.iinc 7 1, 3) := by decide +kernel
theorem dX8_where_151 : decode cX8_where 151 = .ok (.goto (-49), 3) := by decide +kernel
theorem dX8_where_154 : decode cX8_where 154 = .ok (.iload 6, 2) := by decide +kernel
theorem dX8_where_156 : decode cX8_where 156 = .ok (.ireturn, 1) := by decide +kernel
theorem dX8_gone_0 : decode cX8_gone 0 = .ok (.aload_n 0, 1) := by decide +kernel
theorem dX8_gone_1 : decode cX8_gone 1 = .ok (.iconst 0, 1) := by decide +kernel
theorem dX8_gone_2 : decode cX8_gone 2 = .ok (.putfield 48, 3) := by decide +kernel
theorem dX8_gone_5 : decode cX8_gone 5 = .ok (.aload_n 0, 1) := by decide +kernel
theorem dX8_gone_6 : decode cX8_gone 6 = .ok (.iload_n 1, 1) := by decide +kernel
theorem dX8_gone_7 : decode cX8_gone 7 = .ok (.invokevirtual 199, 3) := by decide +kernel
theorem dX8_gone_10 : decode cX8_gone 10 = .ok (.ifCond .eq 19, 3) := by decide +kernel
theorem dX8_gone_13 : decode cX8_gone 13 = .ok (.aload_n 0, 1) := by decide +kernel
theorem dX8_gone_14 : decode cX8_gone 14 = .ok (.iload_n 1, 1) := by decide +kernel
theorem dX8_gone_15 : decode cX8_gone 15 = .ok (.iconst 0, 1) := by decide +kernel
theorem dX8_gone_16 : decode cX8_gone 16 = .ok (.invokevirtual 218, 3) := by decide +kernel
theorem dX8_gone_19 : decode cX8_gone 19 = .ok (.aload_n 0, 1) := by decide +kernel
theorem dX8_gone_20 : decode cX8_gone 20 = .ok (.iload_n 1, 1) := by decide +kernel
theorem dX8_gone_21 : decode cX8_gone 21 = .ok (.iconst 1, 1) := by decide +kernel
theorem dX8_gone_22 : decode cX8_gone 22 = .ok (.invokevirtual 218, 3) := by decide +kernel
theorem dX8_gone_25 : decode cX8_gone 25 = .ok (.isub, 1) := by decide +kernel
theorem dX8_gone_26 : decode cX8_gone 26 = .ok (.goto 5, 3) := by decide +kernel
theorem dX8_gone_29 : decode cX8_gone 29 = .ok (.ldc 68, 2) := by decide +kernel
theorem dX8_gone_31 : decode cX8_gone 31 = .ok (.ireturn, 1) := by decide +kernel
theorem dX8_eldest_0 : decode cX8_eldest 0 = .ok (.aload_n 0, 1) := by decide +kernel
theorem dX8_eldest_1 : decode cX8_eldest 1 = .ok (.iconst 0, 1) := by decide +kernel
theorem dX8_eldest_2 : decode cX8_eldest 2 = .ok (.putfield 48, 3) := by decide +kernel
theorem dX8_eldest_5 : decode cX8_eldest 5 = .ok (.aload_n 0, 1) := by decide +kernel
theorem dX8_eldest_6 : decode cX8_eldest 6 = .ok (.invokevirtual 235, 3) := by decide +kernel
theorem dX8_eldest_9 : decode cX8_eldest 9 = .ok (.ifCond .ne 6, 3) := by decide +kernel
theorem dX8_eldest_12 : decode cX8_eldest 12 = .ok (.ldc 188, 2) := by decide +kernel
theorem dX8_eldest_14 : decode cX8_eldest 14 = .ok (.ireturn, 1) := by decide +kernel
theorem dX8_eldest_15 : decode cX8_eldest 15 = .ok (.iload_n 1, 1) := by decide +kernel
theorem dX8_eldest_16 : decode cX8_eldest 16 = .ok (.i2l, 1) := by decide +kernel
theorem dX8_eldest_17 : decode cX8_eldest 17 = .ok (.lconst 0, 1) := by decide +kernel
theorem dX8_eldest_18 : decode cX8_eldest 18 = .ok (.lconst 1, 1) := by decide +kernel
theorem dX8_eldest_19 : decode cX8_eldest 19 = .ok (.invokestatic 58, 3) := by decide +kernel
theorem dX8_eldest_22 : decode cX8_eldest 22 = .ok (.ifCond .ne 6, 3) := by decide +kernel
theorem dX8_eldest_25 : decode cX8_eldest 25 = .ok (.ldc 68, 2) := by decide +kernel
theorem dX8_eldest_27 : decode cX8_eldest 27 = .ok (.ireturn, 1) := by decide +kernel
theorem dX8_eldest_28 : decode cX8_eldest 28 = .ok (.iload_n 1, 1) := by decide +kernel
theorem dX8_eldest_29 : decode cX8_eldest 29 = .ok (.ifCond .ne 7, 3) := by decide +kernel
theorem dX8_eldest_32 : decode cX8_eldest 32 = .ok (.iconst 4, 1) := by decide +kernel
theorem dX8_eldest_33 : decode cX8_eldest 33 = .ok (.goto 4, 3) := by decide +kernel
theorem dX8_eldest_36 : decode cX8_eldest 36 = .ok (.iconst 2, 1) := by decide +kernel
theorem dX8_eldest_37 : decode cX8_eldest 37 = .ok (.istore_n 2, 1) := by decide +kernel
theorem dX8_eldest_38 : decode cX8_eldest 38 = .ok (.ldc 84, 2) := by decide +kernel
theorem dX8_eldest_40 : decode cX8_eldest 40 = .ok (.istore_n 3, 1) := by decide +kernel
theorem dX8_eldest_41 : decode cX8_eldest 41 = .ok (.iconst 0, 1) := by decide +kernel
theorem dX8_eldest_42 : decode cX8_eldest 42 = .ok (.istore 4, 2) := by decide +kernel
theorem dX8_eldest_44 : decode cX8_eldest 44 = .ok (.iload 4, 2) := by decide +kernel
theorem dX8_eldest_46 : decode cX8_eldest 46 = .ok (.aload_n 0, 1) := by decide +kernel
theorem dX8_eldest_47 : decode cX8_eldest 47 = .ok (.getfield 19, 3) := by decide +kernel
theorem dX8_eldest_50 : decode cX8_eldest 50 = .ok (.iconst 3, 1) := by decide +kernel
theorem dX8_eldest_51 : decode cX8_eldest 51 = .ok (.iaload, 1) := by decide +kernel
theorem dX8_eldest_52 : decode cX8_eldest 52 = .ok (.if_icmp .ge 38, 3) := by decide +kernel
theorem dX8_eldest_55 : decode cX8_eldest 55 = .ok (.iload_n 3, 1) := by decide +kernel
theorem dX8_eldest_56 : decode cX8_eldest 56 = .ok (.ldc 84, 2) := by decide +kernel
theorem dX8_eldest_58 : decode cX8_eldest 58 = .ok (.if_icmp .eq 19, 3) := by decide +kernel
theorem dX8_eldest_61 : decode cX8_eldest 61 = .ok (.aload_n 0, 1) := by decide +kernel
theorem dX8_eldest_62 : decode cX8_eldest 62 = .ok (.iload 4, 2) := by decide +kernel
theorem dX8_eldest_64 : decode cX8_eldest 64 = .ok (.iload_n 2, 1) := by decide +kernel
theorem dX8_eldest_65 : decode cX8_eldest 65 = .ok (.invokevirtual 181, 3) := by decide +kernel
theorem dX8_eldest_68 : decode cX8_eldest 68 = .ok (.aload_n 0, 1) := by decide +kernel
theorem dX8_eldest_69 : decode cX8_eldest 69 = .ok (.iload_n 3, 1) := by decide +kernel
theorem dX8_eldest_70 : decode cX8_eldest 70 = .ok (.iload_n 2, 1) := by decide +kernel
theorem dX8_eldest_71 : decode cX8_eldest 71 = .ok (.invokevirtual 181, 3) := by decide +kernel
theorem dX8_eldest_74 : decode cX8_eldest 74 = .ok (.if_icmp .le 8, 3) := by decide +kernel
theorem dX8_eldest_77 : decode cX8_eldest 77 = .ok (.iload 4, 2) := by decide +kernel
theorem dX8_eldest_79 : decode cX8_eldest 79 = .ok (.goto 4, 3) := by decide +kernel
theorem dX8_eldest_82 : decode cX8_eldest 82 = .ok (.iload_n 3, 1) := by decide +kernel
theorem dX8_eldest_83 : decode cX8_eldest 83 = .ok (.istore_n 3, 1) := by decide +kernel
theorem dX8_eldest_84 : decode cX8_eldest 84 = .ok (.iinc 4 1, 3) := by decide +kernel
theorem dX8_eldest_87 : decode cX8_eldest 87 = .ok (.goto (-43), 3) := by decide +kernel
theorem dX8_eldest_90 : decode cX8_eldest 90 = .ok (.iload_n 3, 1) := by decide +kernel
theorem dX8_eldest_91 : decode cX8_eldest 91 = .ok (.ireturn, 1) := by decide +kernel
theorem dX8_image_0 : decode cX8_image 0 = .ok (.aload_n 0, 1) := by decide +kernel
theorem dX8_image_1 : decode cX8_image 1 = .ok (.iconst 0, 1) := by decide +kernel
theorem dX8_image_2 : decode cX8_image 2 = .ok (.putfield 48, 3) := by decide +kernel
theorem dX8_image_5 : decode cX8_image 5 = .ok (.iload_n 1, 1) := by decide +kernel
theorem dX8_image_6 : decode cX8_image 6 = .ok (.i2l, 1) := by decide +kernel
theorem dX8_image_7 : decode cX8_image 7 = .ok (.lconst 0, 1) := by decide +kernel
theorem dX8_image_8 : decode cX8_image 8 = .ok (.lconst 1, 1) := by decide +kernel
theorem dX8_image_9 : decode cX8_image 9 = .ok (.invokestatic 58, 3) := by decide +kernel
theorem dX8_image_12 : decode cX8_image 12 = .ok (.ifCond .ne 6, 3) := by decide +kernel
theorem dX8_image_15 : decode cX8_image 15 = .ok (.ldc 68, 2) := by decide +kernel
theorem dX8_image_17 : decode cX8_image 17 = .ok (.ireturn, 1) := by decide +kernel
theorem dX8_image_18 : decode cX8_image 18 = .ok (.aload_n 0, 1) := by decide +kernel
theorem dX8_image_19 : decode cX8_image 19 = .ok (.invokevirtual 235, 3) := by decide +kernel
theorem dX8_image_22 : decode cX8_image 22 = .ok (.ifCond .ne 6, 3) := by decide +kernel
theorem dX8_image_25 : decode cX8_image 25 = .ok (.ldc 188, 2) := by decide +kernel
theorem dX8_image_27 : decode cX8_image 27 = .ok (.ireturn, 1) := by decide +kernel
theorem dX8_image_28 : decode cX8_image 28 = .ok (.iconst 0, 1) := by decide +kernel
theorem dX8_image_29 : decode cX8_image 29 = .ok (.istore_n 2, 1) := by decide +kernel
theorem dX8_image_30 : decode cX8_image 30 = .ok (.iload_n 2, 1) := by decide +kernel
theorem dX8_image_31 : decode cX8_image 31 = .ok (.bipush 68, 2) := by decide +kernel
theorem dX8_image_33 : decode cX8_image 33 = .ok (.if_icmp .ge 26, 3) := by decide +kernel
theorem dX8_image_36 : decode cX8_image 36 = .ok (.aload_n 0, 1) := by decide +kernel
theorem dX8_image_37 : decode cX8_image 37 = .ok (.getfield 42, 3) := by decide +kernel
theorem dX8_image_40 : decode cX8_image 40 = .ok (.bipush 68, 2) := by decide +kernel
theorem dX8_image_42 : decode cX8_image 42 = .ok (.iload_n 1, 1) := by decide +kernel
theorem dX8_image_43 : decode cX8_image 43 = .ok (.imul, 1) := by decide +kernel
theorem dX8_image_44 : decode cX8_image 44 = .ok (.iload_n 2, 1) := by decide +kernel
theorem dX8_image_45 : decode cX8_image 45 = .ok (.iadd, 1) := by decide +kernel
theorem dX8_image_46 : decode cX8_image 46 = .ok (.aload_n 0, 1) := by decide +kernel
theorem dX8_image_47 : decode cX8_image 47 = .ok (.getfield 19, 3) := by decide +kernel
theorem dX8_image_50 : decode cX8_image 50 = .ok (.iload_n 2, 1) := by decide +kernel
theorem dX8_image_51 : decode cX8_image 51 = .ok (.iaload, 1) := by decide +kernel
theorem dX8_image_52 : decode cX8_image 52 = .ok (.iastore, 1) := by decide +kernel
theorem dX8_image_53 : decode cX8_image 53 = .ok (.iinc 2 1, 3) := by decide +kernel
theorem dX8_image_56 : decode cX8_image 56 = .ok (.goto (-26), 3) := by decide +kernel
theorem dX8_image_59 : decode cX8_image 59 = .ok (.aload_n 0, 1) := by decide +kernel
theorem dX8_image_60 : decode cX8_image 60 = .ok (.getfield 38, 3) := by decide +kernel
theorem dX8_image_63 : decode cX8_image 63 = .ok (.iload_n 1, 1) := by decide +kernel
theorem dX8_image_64 : decode cX8_image 64 = .ok (.iconst 1, 1) := by decide +kernel
theorem dX8_image_65 : decode cX8_image 65 = .ok (.bastore, 1) := by decide +kernel
theorem dX8_image_66 : decode cX8_image 66 = .ok (.iconst 1, 1) := by decide +kernel
theorem dX8_image_67 : decode cX8_image 67 = .ok (.ireturn, 1) := by decide +kernel
theorem dX8_restore_0 : decode cX8_restore 0 = .ok (.aload_n 0, 1) := by decide +kernel
theorem dX8_restore_1 : decode cX8_restore 1 = .ok (.iconst 0, 1) := by decide +kernel
theorem dX8_restore_2 : decode cX8_restore 2 = .ok (.putfield 48, 3) := by decide +kernel
theorem dX8_restore_5 : decode cX8_restore 5 = .ok (.iload_n 1, 1) := by decide +kernel
theorem dX8_restore_6 : decode cX8_restore 6 = .ok (.i2l, 1) := by decide +kernel
theorem dX8_restore_7 : decode cX8_restore 7 = .ok (.lconst 0, 1) := by decide +kernel
theorem dX8_restore_8 : decode cX8_restore 8 = .ok (.lconst 1, 1) := by decide +kernel
theorem dX8_restore_9 : decode cX8_restore 9 = .ok (.invokestatic 58, 3) := by decide +kernel
theorem dX8_restore_12 : decode cX8_restore 12 = .ok (.ifCond .ne 6, 3) := by decide +kernel
theorem dX8_restore_15 : decode cX8_restore 15 = .ok (.ldc 68, 2) := by decide +kernel
theorem dX8_restore_17 : decode cX8_restore 17 = .ok (.ireturn, 1) := by decide +kernel
theorem dX8_restore_18 : decode cX8_restore 18 = .ok (.aload_n 0, 1) := by decide +kernel
theorem dX8_restore_19 : decode cX8_restore 19 = .ok (.getfield 38, 3) := by decide +kernel
theorem dX8_restore_22 : decode cX8_restore 22 = .ok (.iload_n 1, 1) := by decide +kernel
theorem dX8_restore_23 : decode cX8_restore 23 = .ok (.baload, 1) := by decide +kernel
theorem dX8_restore_24 : decode cX8_restore 24 = .ok (.ifCond .ne 6, 3) := by decide +kernel
theorem dX8_restore_27 : decode cX8_restore 27 = .ok (.ldc 188, 2) := by decide +kernel
theorem dX8_restore_29 : decode cX8_restore 29 = .ok (.ireturn, 1) := by decide +kernel
theorem dX8_restore_30 : decode cX8_restore 30 = .ok (.iconst 0, 1) := by decide +kernel
theorem dX8_restore_31 : decode cX8_restore 31 = .ok (.istore_n 2, 1) := by decide +kernel
theorem dX8_restore_32 : decode cX8_restore 32 = .ok (.iload_n 2, 1) := by decide +kernel
theorem dX8_restore_33 : decode cX8_restore 33 = .ok (.bipush 68, 2) := by decide +kernel
theorem dX8_restore_35 : decode cX8_restore 35 = .ok (.if_icmp .ge 26, 3) := by decide +kernel
theorem dX8_restore_38 : decode cX8_restore 38 = .ok (.aload_n 0, 1) := by decide +kernel
theorem dX8_restore_39 : decode cX8_restore 39 = .ok (.getfield 19, 3) := by decide +kernel
theorem dX8_restore_42 : decode cX8_restore 42 = .ok (.iload_n 2, 1) := by decide +kernel
theorem dX8_restore_43 : decode cX8_restore 43 = .ok (.aload_n 0, 1) := by decide +kernel
theorem dX8_restore_44 : decode cX8_restore 44 = .ok (.getfield 42, 3) := by decide +kernel
theorem dX8_restore_47 : decode cX8_restore 47 = .ok (.bipush 68, 2) := by decide +kernel
theorem dX8_restore_49 : decode cX8_restore 49 = .ok (.iload_n 1, 1) := by decide +kernel
theorem dX8_restore_50 : decode cX8_restore 50 = .ok (.imul, 1) := by decide +kernel
theorem dX8_restore_51 : decode cX8_restore 51 = .ok (.iload_n 2, 1) := by decide +kernel
theorem dX8_restore_52 : decode cX8_restore 52 = .ok (.iadd, 1) := by decide +kernel
theorem dX8_restore_53 : decode cX8_restore 53 = .ok (.iaload, 1) := by decide +kernel
theorem dX8_restore_54 : decode cX8_restore 54 = .ok (.iastore, 1) := by decide +kernel
theorem dX8_restore_55 : decode cX8_restore 55 = .ok (.iinc 2 1, 3) := by decide +kernel
theorem dX8_restore_58 : decode cX8_restore 58 = .ok (.goto (-26), 3) := by decide +kernel
theorem dX8_restore_61 : decode cX8_restore 61 = .ok (.aload_n 0, 1) := by decide +kernel
theorem dX8_restore_62 : decode cX8_restore 62 = .ok (.iconst 0, 1) := by decide +kernel
theorem dX8_restore_63 : decode cX8_restore 63 = .ok (.putfield 175, 3) := by decide +kernel
theorem dX8_restore_66 : decode cX8_restore 66 = .ok (.iconst 1, 1) := by decide +kernel
theorem dX8_restore_67 : decode cX8_restore 67 = .ok (.ireturn, 1) := by decide +kernel
theorem dX8_isOf_0 : decode cX8_isOf 0 = .ok (.iload_n 1, 1) := by decide +kernel
theorem dX8_isOf_1 : decode cX8_isOf 1 = .ok (.ifCond .eq 28, 3) := by decide +kernel
theorem dX8_isOf_4 : decode cX8_isOf 4 = .ok (.iload_n 0, 1) := by decide +kernel
theorem dX8_isOf_5 : decode cX8_isOf 5 = .ok (.iload_n 1, 1) := by decide +kernel
theorem dX8_isOf_6 : decode cX8_isOf 6 = .ok (.if_icmp .eq 23, 3) := by decide +kernel
theorem dX8_isOf_9 : decode cX8_isOf 9 = .ok (.iload_n 1, 1) := by decide +kernel
theorem dX8_isOf_10 : decode cX8_isOf 10 = .ok (.iconst 1, 1) := by decide +kernel
theorem dX8_isOf_11 : decode cX8_isOf 11 = .ok (.if_icmp .ne 8, 3) := by decide +kernel
theorem dX8_isOf_14 : decode cX8_isOf 14 = .ok (.iload_n 0, 1) := by decide +kernel
theorem dX8_isOf_15 : decode cX8_isOf 15 = .ok (.iconst 4, 1) := by decide +kernel
theorem dX8_isOf_16 : decode cX8_isOf 16 = .ok (.if_icmp .lt 13, 3) := by decide +kernel
theorem dX8_isOf_19 : decode cX8_isOf 19 = .ok (.iload_n 1, 1) := by decide +kernel
theorem dX8_isOf_20 : decode cX8_isOf 20 = .ok (.iconst 4, 1) := by decide +kernel
theorem dX8_isOf_21 : decode cX8_isOf 21 = .ok (.if_icmp .ne 12, 3) := by decide +kernel
theorem dX8_isOf_24 : decode cX8_isOf 24 = .ok (.iload_n 0, 1) := by decide +kernel
theorem dX8_isOf_25 : decode cX8_isOf 25 = .ok (.iconst 5, 1) := by decide +kernel
theorem dX8_isOf_26 : decode cX8_isOf 26 = .ok (.if_icmp .ne 7, 3) := by decide +kernel
theorem dX8_isOf_29 : decode cX8_isOf 29 = .ok (.iconst 1, 1) := by decide +kernel
theorem dX8_isOf_30 : decode cX8_isOf 30 = .ok (.goto 4, 3) := by decide +kernel
theorem dX8_isOf_33 : decode cX8_isOf 33 = .ok (.iconst 0, 1) := by decide +kernel
theorem dX8_isOf_34 : decode cX8_isOf 34 = .ok (.ireturn, 1) := by decide +kernel
theorem dX8_kind_0 : decode cX8_kind 0 = .ok (.aload_n 0, 1) := by decide +kernel
theorem dX8_kind_1 : decode cX8_kind 1 = .ok (.iconst 0, 1) := by decide +kernel
theorem dX8_kind_2 : decode cX8_kind 2 = .ok (.putfield 48, 3) := by decide +kernel
theorem dX8_kind_5 : decode cX8_kind 5 = .ok (.aload_n 0, 1) := by decide +kernel
theorem dX8_kind_6 : decode cX8_kind 6 = .ok (.iload_n 1, 1) := by decide +kernel
theorem dX8_kind_7 : decode cX8_kind 7 = .ok (.invokevirtual 199, 3) := by decide +kernel
theorem dX8_kind_10 : decode cX8_kind 10 = .ok (.ifCond .eq 12, 3) := by decide +kernel
theorem dX8_kind_13 : decode cX8_kind 13 = .ok (.aload_n 0, 1) := by decide +kernel
theorem dX8_kind_14 : decode cX8_kind 14 = .ok (.iload_n 1, 1) := by decide +kernel
theorem dX8_kind_15 : decode cX8_kind 15 = .ok (.iconst 0, 1) := by decide +kernel
theorem dX8_kind_16 : decode cX8_kind 16 = .ok (.invokevirtual 181, 3) := by decide +kernel
theorem dX8_kind_19 : decode cX8_kind 19 = .ok (.goto 5, 3) := by decide +kernel
theorem dX8_kind_22 : decode cX8_kind 22 = .ok (.ldc 68, 2) := by decide +kernel
theorem dX8_kind_24 : decode cX8_kind 24 = .ok (.ireturn, 1) := by decide +kernel
theorem dX8_as_0 : decode cX8_as 0 = .ok (.aload_n 0, 1) := by decide +kernel
theorem dX8_as_1 : decode cX8_as 1 = .ok (.iconst 0, 1) := by decide +kernel
theorem dX8_as_2 : decode cX8_as 2 = .ok (.putfield 48, 3) := by decide +kernel
theorem dX8_as_5 : decode cX8_as 5 = .ok (.aload_n 0, 1) := by decide +kernel
theorem dX8_as_6 : decode cX8_as 6 = .ok (.iload_n 1, 1) := by decide +kernel
theorem dX8_as_7 : decode cX8_as 7 = .ok (.invokevirtual 199, 3) := by decide +kernel
theorem dX8_as_10 : decode cX8_as 10 = .ok (.ifCond .eq 15, 3) := by decide +kernel
theorem dX8_as_13 : decode cX8_as 13 = .ok (.iload_n 2, 1) := by decide +kernel
theorem dX8_as_14 : decode cX8_as 14 = .ok (.i2l, 1) := by decide +kernel
theorem dX8_as_15 : decode cX8_as 15 = .ok (.lconst 0, 1) := by decide +kernel
theorem dX8_as_16 : decode cX8_as 16 = .ok (.ldc2_w 221, 3) := by decide +kernel
theorem dX8_as_19 : decode cX8_as 19 = .ok (.invokestatic 58, 3) := by decide +kernel
theorem dX8_as_22 : decode cX8_as 22 = .ok (.ifCond .ne 6, 3) := by decide +kernel
theorem dX8_as_25 : decode cX8_as 25 = .ok (.ldc 68, 2) := by decide +kernel
theorem dX8_as_27 : decode cX8_as 27 = .ok (.ireturn, 1) := by decide +kernel
theorem dX8_as_28 : decode cX8_as 28 = .ok (.aload_n 0, 1) := by decide +kernel
theorem dX8_as_29 : decode cX8_as 29 = .ok (.iconst 0, 1) := by decide +kernel
theorem dX8_as_30 : decode cX8_as 30 = .ok (.putfield 52, 3) := by decide +kernel
theorem dX8_as_33 : decode cX8_as 33 = .ok (.aload_n 0, 1) := by decide +kernel
theorem dX8_as_34 : decode cX8_as 34 = .ok (.iload_n 1, 1) := by decide +kernel
theorem dX8_as_35 : decode cX8_as 35 = .ok (.iconst 0, 1) := by decide +kernel
theorem dX8_as_36 : decode cX8_as 36 = .ok (.invokevirtual 181, 3) := by decide +kernel
theorem dX8_as_39 : decode cX8_as 39 = .ok (.iload_n 2, 1) := by decide +kernel
theorem dX8_as_40 : decode cX8_as 40 = .ok (.invokestatic 239, 3) := by decide +kernel
theorem dX8_as_43 : decode cX8_as 43 = .ok (.ifCond .eq 7, 3) := by decide +kernel
theorem dX8_as_46 : decode cX8_as 46 = .ok (.iload_n 1, 1) := by decide +kernel
theorem dX8_as_47 : decode cX8_as 47 = .ok (.goto 8, 3) := by decide +kernel
theorem dX8_as_50 : decode cX8_as 50 = .ok (.aload_n 0, 1) := by decide +kernel
theorem dX8_as_51 : decode cX8_as 51 = .ok (.iconst 3, 1) := by decide +kernel
theorem dX8_as_52 : decode cX8_as 52 = .ok (.invokevirtual 69, 3) := by decide +kernel
theorem dX8_as_55 : decode cX8_as 55 = .ok (.ireturn, 1) := by decide +kernel
theorem dX8_began_0 : decode cX8_began 0 = .ok (.aload_n 0, 1) := by decide +kernel
theorem dX8_began_1 : decode cX8_began 1 = .ok (.getfield 243, 3) := by decide +kernel
theorem dX8_began_4 : decode cX8_began 4 = .ok (.bipush 16, 2) := by decide +kernel
theorem dX8_began_6 : decode cX8_began 6 = .ok (.if_icmp .ge 23, 3) := by decide +kernel
theorem dX8_began_9 : decode cX8_began 9 = .ok (.aload_n 0, 1) := by decide +kernel
theorem dX8_began_10 : decode cX8_began 10 = .ok (.getfield 45, 3) := by decide +kernel
theorem dX8_began_13 : decode cX8_began 13 = .ok (.aload_n 0, 1) := by decide +kernel
theorem dX8_began_14 : decode cX8_began 14 = .ok (.getfield 243, 3) := by decide +kernel
theorem dX8_began_17 : decode cX8_began 17 = .ok (.iload_n 1, 1) := by decide +kernel
theorem dX8_began_18 : decode cX8_began 18 = .ok (.iastore, 1) := by decide +kernel
theorem dX8_began_19 : decode cX8_began 19 = .ok (.aload_n 0, 1) := by decide +kernel
theorem dX8_began_20 : decode cX8_began 20 = .ok (.dup, 1) := by decide +kernel
theorem dX8_began_21 : decode cX8_began 21 = .ok (.getfield 243, 3) := by decide +kernel
theorem dX8_began_24 : decode cX8_began 24 = .ok (.iconst 1, 1) := by decide +kernel
theorem dX8_began_25 : decode cX8_began 25 = .ok (.iadd, 1) := by decide +kernel
theorem dX8_began_26 : decode cX8_began 26 = .ok (.putfield 243, 3) := by decide +kernel
theorem dX8_began_29 : decode cX8_began 29 = .ok (.return_, 1) := by decide +kernel
theorem dX8_plainSize_0 : decode cX8_plainSize 0 = .ok (.aload_n 0, 1) := by decide +kernel
theorem dX8_plainSize_1 : decode cX8_plainSize 1 = .ok (.bipush 10, 2) := by decide +kernel
theorem dX8_plainSize_3 : decode cX8_plainSize 3 = .ok (.invokevirtual 246, 3) := by decide +kernel
theorem dX8_plainSize_6 : decode cX8_plainSize 6 = .ok (.aload_n 0, 1) := by decide +kernel
theorem dX8_plainSize_7 : decode cX8_plainSize 7 = .ok (.iload_n 1, 1) := by decide +kernel
theorem dX8_plainSize_8 : decode cX8_plainSize 8 = .ok (.iconst 4, 1) := by decide +kernel
theorem dX8_plainSize_9 : decode cX8_plainSize 9 = .ok (.invokevirtual 181, 3) := by decide +kernel
theorem dX8_plainSize_12 : decode cX8_plainSize 12 = .ok (.ireturn, 1) := by decide +kernel
theorem dX8_clerkSize_0 : decode cX8_clerkSize 0 = .ok (.aload_n 0, 1) := by decide +kernel
theorem dX8_clerkSize_1 : decode cX8_clerkSize 1 = .ok (.iload_n 1, 1) := by decide +kernel
theorem dX8_clerkSize_2 : decode cX8_clerkSize 2 = .ok (.iconst 0, 1) := by decide +kernel
theorem dX8_clerkSize_3 : decode cX8_clerkSize 3 = .ok (.invokevirtual 181, 3) := by decide +kernel
theorem dX8_clerkSize_6 : decode cX8_clerkSize 6 = .ok (.iconst 5, 1) := by decide +kernel
theorem dX8_clerkSize_7 : decode cX8_clerkSize 7 = .ok (.if_icmp .ne 9, 3) := by decide +kernel
theorem dX8_clerkSize_10 : decode cX8_clerkSize 10 = .ok (.aload_n 0, 1) := by decide +kernel
theorem dX8_clerkSize_11 : decode cX8_clerkSize 11 = .ok (.bipush 14, 2) := by decide +kernel
theorem dX8_clerkSize_13 : decode cX8_clerkSize 13 = .ok (.invokevirtual 246, 3) := by decide +kernel
theorem dX8_clerkSize_16 : decode cX8_clerkSize 16 = .ok (.aload_n 0, 1) := by decide +kernel
theorem dX8_clerkSize_17 : decode cX8_clerkSize 17 = .ok (.bipush 13, 2) := by decide +kernel
theorem dX8_clerkSize_19 : decode cX8_clerkSize 19 = .ok (.invokevirtual 246, 3) := by decide +kernel
theorem dX8_clerkSize_22 : decode cX8_clerkSize 22 = .ok (.aload_n 0, 1) := by decide +kernel
theorem dX8_clerkSize_23 : decode cX8_clerkSize 23 = .ok (.iload_n 1, 1) := by decide +kernel
theorem dX8_clerkSize_24 : decode cX8_clerkSize 24 = .ok (.invokevirtual 249, 3) := by decide +kernel
theorem dX8_clerkSize_27 : decode cX8_clerkSize 27 = .ok (.bipush 100, 2) := by decide +kernel
theorem dX8_clerkSize_29 : decode cX8_clerkSize 29 = .ok (.isub, 1) := by decide +kernel
theorem dX8_clerkSize_30 : decode cX8_clerkSize 30 = .ok (.istore_n 2, 1) := by decide +kernel
theorem dX8_clerkSize_31 : decode cX8_clerkSize 31 = .ok (.aload_n 0, 1) := by decide +kernel
theorem dX8_clerkSize_32 : decode cX8_clerkSize 32 = .ok (.iload_n 1, 1) := by decide +kernel
theorem dX8_clerkSize_33 : decode cX8_clerkSize 33 = .ok (.iconst 0, 1) := by decide +kernel
theorem dX8_clerkSize_34 : decode cX8_clerkSize 34 = .ok (.invokevirtual 181, 3) := by decide +kernel
theorem dX8_clerkSize_37 : decode cX8_clerkSize 37 = .ok (.iconst 5, 1) := by decide +kernel
theorem dX8_clerkSize_38 : decode cX8_clerkSize 38 = .ok (.if_icmp .ne 9, 3) := by decide +kernel
theorem dX8_clerkSize_41 : decode cX8_clerkSize 41 = .ok (.iconst 2, 1) := by decide +kernel
theorem dX8_clerkSize_42 : decode cX8_clerkSize 42 = .ok (.iload_n 2, 1) := by decide +kernel
theorem dX8_clerkSize_43 : decode cX8_clerkSize 43 = .ok (.imul, 1) := by decide +kernel
theorem dX8_clerkSize_44 : decode cX8_clerkSize 44 = .ok (.goto 4, 3) := by decide +kernel
theorem dX8_clerkSize_47 : decode cX8_clerkSize 47 = .ok (.iload_n 2, 1) := by decide +kernel
theorem dX8_clerkSize_48 : decode cX8_clerkSize 48 = .ok (.ireturn, 1) := by decide +kernel
theorem dX8_markOf_0 : decode cX8_markOf 0 = .ok (.aload_n 0, 1) := by decide +kernel
theorem dX8_markOf_1 : decode cX8_markOf 1 = .ok (.iload_n 1, 1) := by decide +kernel
theorem dX8_markOf_2 : decode cX8_markOf 2 = .ok (.iconst 0, 1) := by decide +kernel
theorem dX8_markOf_3 : decode cX8_markOf 3 = .ok (.invokevirtual 181, 3) := by decide +kernel
theorem dX8_markOf_6 : decode cX8_markOf 6 = .ok (.istore_n 2, 1) := by decide +kernel
theorem dX8_markOf_7 : decode cX8_markOf 7 = .ok (.iload_n 2, 1) := by decide +kernel
theorem dX8_markOf_8 : decode cX8_markOf 8 = .ok (.iconst 4, 1) := by decide +kernel
theorem dX8_markOf_9 : decode cX8_markOf 9 = .ok (.if_icmp .lt 23, 3) := by decide +kernel
theorem dX8_markOf_12 : decode cX8_markOf 12 = .ok (.aload_n 0, 1) := by decide +kernel
theorem dX8_markOf_13 : decode cX8_markOf 13 = .ok (.bipush 23, 2) := by decide +kernel
theorem dX8_markOf_15 : decode cX8_markOf 15 = .ok (.invokevirtual 246, 3) := by decide +kernel
theorem dX8_markOf_18 : decode cX8_markOf 18 = .ok (.aload_n 0, 1) := by decide +kernel
theorem dX8_markOf_19 : decode cX8_markOf 19 = .ok (.bipush 20, 2) := by decide +kernel
theorem dX8_markOf_21 : decode cX8_markOf 21 = .ok (.invokevirtual 246, 3) := by decide +kernel
theorem dX8_markOf_24 : decode cX8_markOf 24 = .ok (.iload_n 1, 1) := by decide +kernel
theorem dX8_markOf_25 : decode cX8_markOf 25 = .ok (.aload_n 0, 1) := by decide +kernel
theorem dX8_markOf_26 : decode cX8_markOf 26 = .ok (.iload_n 1, 1) := by decide +kernel
theorem dX8_markOf_27 : decode cX8_markOf 27 = .ok (.invokevirtual 252, 3) := by decide +kernel
theorem dX8_markOf_30 : decode cX8_markOf 30 = .ok (.isub, 1) := by decide +kernel
theorem dX8_markOf_31 : decode cX8_markOf 31 = .ok (.ireturn, 1) := by decide +kernel
theorem dX8_markOf_32 : decode cX8_markOf 32 = .ok (.iload_n 2, 1) := by decide +kernel
theorem dX8_markOf_33 : decode cX8_markOf 33 = .ok (.iconst 1, 1) := by decide +kernel
theorem dX8_markOf_34 : decode cX8_markOf 34 = .ok (.if_icmp .eq 19, 3) := by decide +kernel
theorem dX8_markOf_37 : decode cX8_markOf 37 = .ok (.aload_n 0, 1) := by decide +kernel
theorem dX8_markOf_38 : decode cX8_markOf 38 = .ok (.iload_n 2, 1) := by decide +kernel
theorem dX8_markOf_39 : decode cX8_markOf 39 = .ok (.iconst 3, 1) := by decide +kernel
theorem dX8_markOf_40 : decode cX8_markOf 40 = .ok (.if_icmp .ne 8, 3) := by decide +kernel
theorem dX8_markOf_43 : decode cX8_markOf 43 = .ok (.bipush 22, 2) := by decide +kernel
theorem dX8_markOf_45 : decode cX8_markOf 45 = .ok (.goto 5, 3) := by decide +kernel
theorem dX8_markOf_48 : decode cX8_markOf 48 = .ok (.bipush 24, 2) := by decide +kernel
theorem dX8_markOf_50 : decode cX8_markOf 50 = .ok (.invokevirtual 246, 3) := by decide +kernel
theorem dX8_markOf_53 : decode cX8_markOf 53 = .ok (.aload_n 0, 1) := by decide +kernel
theorem dX8_markOf_54 : decode cX8_markOf 54 = .ok (.bipush 21, 2) := by decide +kernel
theorem dX8_markOf_56 : decode cX8_markOf 56 = .ok (.invokevirtual 246, 3) := by decide +kernel
theorem dX8_markOf_59 : decode cX8_markOf 59 = .ok (.aload_n 0, 1) := by decide +kernel
theorem dX8_markOf_60 : decode cX8_markOf 60 = .ok (.bipush 20, 2) := by decide +kernel
theorem dX8_markOf_62 : decode cX8_markOf 62 = .ok (.invokevirtual 246, 3) := by decide +kernel
theorem dX8_markOf_65 : decode cX8_markOf 65 = .ok (.iload_n 1, 1) := by decide +kernel
theorem dX8_markOf_66 : decode cX8_markOf 66 = .ok (.aload_n 0, 1) := by decide +kernel
theorem dX8_markOf_67 : decode cX8_markOf 67 = .ok (.iload_n 1, 1) := by decide +kernel
theorem dX8_markOf_68 : decode cX8_markOf 68 = .ok (.iconst 1, 1) := by decide +kernel
theorem dX8_markOf_69 : decode cX8_markOf 69 = .ok (.invokevirtual 181, 3) := by decide +kernel
theorem dX8_markOf_72 : decode cX8_markOf 72 = .ok (.iadd, 1) := by decide +kernel
theorem dX8_markOf_73 : decode cX8_markOf 73 = .ok (.istore_n 3, 1) := by decide +kernel
theorem dX8_markOf_74 : decode cX8_markOf 74 = .ok (.iload_n 2, 1) := by decide +kernel
theorem dX8_markOf_75 : decode cX8_markOf 75 = .ok (.iconst 1, 1) := by decide +kernel
theorem dX8_markOf_76 : decode cX8_markOf 76 = .ok (.if_icmp .ne 7, 3) := by decide +kernel
theorem dX8_markOf_79 : decode cX8_markOf 79 = .ok (.iload_n 3, 1) := by decide +kernel
theorem dX8_markOf_80 : decode cX8_markOf 80 = .ok (.goto 19, 3) := by decide +kernel
theorem dX8_markOf_83 : decode cX8_markOf 83 = .ok (.iload_n 2, 1) := by decide +kernel
theorem dX8_markOf_84 : decode cX8_markOf 84 = .ok (.iconst 3, 1) := by decide +kernel
theorem dX8_markOf_85 : decode cX8_markOf 85 = .ok (.if_icmp .ne 11, 3) := by decide +kernel
theorem dX8_markOf_88 : decode cX8_markOf 88 = .ok (.iload_n 3, 1) := by decide +kernel
theorem dX8_markOf_89 : decode cX8_markOf 89 = .ok (.sipush 1000, 3) := by decide +kernel
theorem dX8_markOf_92 : decode cX8_markOf 92 = .ok (.isub, 1) := by decide +kernel
theorem dX8_markOf_93 : decode cX8_markOf 93 = .ok (.goto 6, 3) := by decide +kernel
theorem dX8_markOf_96 : decode cX8_markOf 96 = .ok (.iconst 2, 1) := by decide +kernel
theorem dX8_markOf_97 : decode cX8_markOf 97 = .ok (.iload_n 3, 1) := by decide +kernel
theorem dX8_markOf_98 : decode cX8_markOf 98 = .ok (.imul, 1) := by decide +kernel
theorem dX8_markOf_99 : decode cX8_markOf 99 = .ok (.ireturn, 1) := by decide +kernel
theorem dX8_sizeOf_0 : decode cX8_sizeOf 0 = .ok (.aload_n 0, 1) := by decide +kernel
theorem dX8_sizeOf_1 : decode cX8_sizeOf 1 = .ok (.iload_n 1, 1) := by decide +kernel
theorem dX8_sizeOf_2 : decode cX8_sizeOf 2 = .ok (.iconst 0, 1) := by decide +kernel
theorem dX8_sizeOf_3 : decode cX8_sizeOf 3 = .ok (.invokevirtual 181, 3) := by decide +kernel
theorem dX8_sizeOf_6 : decode cX8_sizeOf 6 = .ok (.istore_n 2, 1) := by decide +kernel
theorem dX8_sizeOf_7 : decode cX8_sizeOf 7 = .ok (.iload_n 2, 1) := by decide +kernel
theorem dX8_sizeOf_8 : decode cX8_sizeOf 8 = .ok (.iconst 4, 1) := by decide +kernel
theorem dX8_sizeOf_9 : decode cX8_sizeOf 9 = .ok (.if_icmp .lt 9, 3) := by decide +kernel
theorem dX8_sizeOf_12 : decode cX8_sizeOf 12 = .ok (.aload_n 0, 1) := by decide +kernel
theorem dX8_sizeOf_13 : decode cX8_sizeOf 13 = .ok (.iload_n 1, 1) := by decide +kernel
theorem dX8_sizeOf_14 : decode cX8_sizeOf 14 = .ok (.invokevirtual 252, 3) := by decide +kernel
theorem dX8_sizeOf_17 : decode cX8_sizeOf 17 = .ok (.ireturn, 1) := by decide +kernel
theorem dX8_sizeOf_18 : decode cX8_sizeOf 18 = .ok (.iload_n 2, 1) := by decide +kernel
theorem dX8_sizeOf_19 : decode cX8_sizeOf 19 = .ok (.iconst 2, 1) := by decide +kernel
theorem dX8_sizeOf_20 : decode cX8_sizeOf 20 = .ok (.if_icmp .ne 9, 3) := by decide +kernel
theorem dX8_sizeOf_23 : decode cX8_sizeOf 23 = .ok (.aload_n 0, 1) := by decide +kernel
theorem dX8_sizeOf_24 : decode cX8_sizeOf 24 = .ok (.bipush 12, 2) := by decide +kernel
theorem dX8_sizeOf_26 : decode cX8_sizeOf 26 = .ok (.invokevirtual 246, 3) := by decide +kernel
theorem dX8_sizeOf_29 : decode cX8_sizeOf 29 = .ok (.aload_n 0, 1) := by decide +kernel
theorem dX8_sizeOf_30 : decode cX8_sizeOf 30 = .ok (.bipush 11, 2) := by decide +kernel
theorem dX8_sizeOf_32 : decode cX8_sizeOf 32 = .ok (.invokevirtual 246, 3) := by decide +kernel
theorem dX8_sizeOf_35 : decode cX8_sizeOf 35 = .ok (.aload_n 0, 1) := by decide +kernel
theorem dX8_sizeOf_36 : decode cX8_sizeOf 36 = .ok (.iload_n 1, 1) := by decide +kernel
theorem dX8_sizeOf_37 : decode cX8_sizeOf 37 = .ok (.invokevirtual 249, 3) := by decide +kernel
theorem dX8_sizeOf_40 : decode cX8_sizeOf 40 = .ok (.istore_n 3, 1) := by decide +kernel
theorem dX8_sizeOf_41 : decode cX8_sizeOf 41 = .ok (.iload_n 3, 1) := by decide +kernel
theorem dX8_sizeOf_42 : decode cX8_sizeOf 42 = .ok (.aload_n 0, 1) := by decide +kernel
theorem dX8_sizeOf_43 : decode cX8_sizeOf 43 = .ok (.iload_n 1, 1) := by decide +kernel
theorem dX8_sizeOf_44 : decode cX8_sizeOf 44 = .ok (.invokevirtual 255, 3) := by decide +kernel
theorem dX8_sizeOf_47 : decode cX8_sizeOf 47 = .ok (.iadd, 1) := by decide +kernel
theorem dX8_sizeOf_48 : decode cX8_sizeOf 48 = .ok (.istore_n 3, 1) := by decide +kernel
theorem dX8_sizeOf_49 : decode cX8_sizeOf 49 = .ok (.iload_n 2, 1) := by decide +kernel
theorem dX8_sizeOf_50 : decode cX8_sizeOf 50 = .ok (.iconst 2, 1) := by decide +kernel
theorem dX8_sizeOf_51 : decode cX8_sizeOf 51 = .ok (.if_icmp .ne 8, 3) := by decide +kernel
theorem dX8_sizeOf_54 : decode cX8_sizeOf 54 = .ok (.iload_n 3, 1) := by decide +kernel
theorem dX8_sizeOf_55 : decode cX8_sizeOf 55 = .ok (.ineg, 1) := by decide +kernel
theorem dX8_sizeOf_56 : decode cX8_sizeOf 56 = .ok (.goto 4, 3) := by decide +kernel
theorem dX8_sizeOf_59 : decode cX8_sizeOf 59 = .ok (.iload_n 3, 1) := by decide +kernel
theorem dX8_sizeOf_60 : decode cX8_sizeOf 60 = .ok (.ireturn, 1) := by decide +kernel
theorem dX8_ask_0 : decode cX8_ask 0 = .ok (.aload_n 0, 1) := by decide +kernel
theorem dX8_ask_1 : decode cX8_ask 1 = .ok (.iconst 0, 1) := by decide +kernel
theorem dX8_ask_2 : decode cX8_ask 2 = .ok (.putfield 48, 3) := by decide +kernel
theorem dX8_ask_5 : decode cX8_ask 5 = .ok (.aload_n 0, 1) := by decide +kernel
theorem dX8_ask_6 : decode cX8_ask 6 = .ok (.iload_n 1, 1) := by decide +kernel
theorem dX8_ask_7 : decode cX8_ask 7 = .ok (.invokevirtual 199, 3) := by decide +kernel
theorem dX8_ask_10 : decode cX8_ask 10 = .ok (.ifCond .eq 13, 3) := by decide +kernel
theorem dX8_ask_13 : decode cX8_ask 13 = .ok (.iload_n 2, 1) := by decide +kernel
theorem dX8_ask_14 : decode cX8_ask 14 = .ok (.i2l, 1) := by decide +kernel
theorem dX8_ask_15 : decode cX8_ask 15 = .ok (.lconst 0, 1) := by decide +kernel
theorem dX8_ask_16 : decode cX8_ask 16 = .ok (.lconst 1, 1) := by decide +kernel
theorem dX8_ask_17 : decode cX8_ask 17 = .ok (.invokestatic 58, 3) := by decide +kernel
theorem dX8_ask_20 : decode cX8_ask 20 = .ok (.ifCond .ne 6, 3) := by decide +kernel
theorem dX8_ask_23 : decode cX8_ask 23 = .ok (.ldc 68, 2) := by decide +kernel
theorem dX8_ask_25 : decode cX8_ask 25 = .ok (.ireturn, 1) := by decide +kernel
theorem dX8_ask_26 : decode cX8_ask 26 = .ok (.aload_n 0, 1) := by decide +kernel
theorem dX8_ask_27 : decode cX8_ask 27 = .ok (.iconst 0, 1) := by decide +kernel
theorem dX8_ask_28 : decode cX8_ask 28 = .ok (.putfield 243, 3) := by decide +kernel
theorem dX8_ask_31 : decode cX8_ask 31 = .ok (.iload_n 2, 1) := by decide +kernel
theorem dX8_ask_32 : decode cX8_ask 32 = .ok (.ifCond .ne 11, 3) := by decide +kernel
theorem dX8_ask_35 : decode cX8_ask 35 = .ok (.aload_n 0, 1) := by decide +kernel
theorem dX8_ask_36 : decode cX8_ask 36 = .ok (.iload_n 1, 1) := by decide +kernel
theorem dX8_ask_37 : decode cX8_ask 37 = .ok (.invokevirtual 258, 3) := by decide +kernel
theorem dX8_ask_40 : decode cX8_ask 40 = .ok (.goto 8, 3) := by decide +kernel
theorem dX8_ask_43 : decode cX8_ask 43 = .ok (.aload_n 0, 1) := by decide +kernel
theorem dX8_ask_44 : decode cX8_ask 44 = .ok (.iload_n 1, 1) := by decide +kernel
theorem dX8_ask_45 : decode cX8_ask 45 = .ok (.invokevirtual 255, 3) := by decide +kernel
theorem dX8_ask_48 : decode cX8_ask 48 = .ok (.ireturn, 1) := by decide +kernel
theorem dX8_trace_0 : decode cX8_trace 0 = .ok (.aload_n 0, 1) := by decide +kernel
theorem dX8_trace_1 : decode cX8_trace 1 = .ok (.iconst 0, 1) := by decide +kernel
theorem dX8_trace_2 : decode cX8_trace 2 = .ok (.putfield 48, 3) := by decide +kernel
theorem dX8_trace_5 : decode cX8_trace 5 = .ok (.iload_n 1, 1) := by decide +kernel
theorem dX8_trace_6 : decode cX8_trace 6 = .ok (.i2l, 1) := by decide +kernel
theorem dX8_trace_7 : decode cX8_trace 7 = .ok (.lconst 0, 1) := by decide +kernel
theorem dX8_trace_8 : decode cX8_trace 8 = .ok (.aload_n 0, 1) := by decide +kernel
theorem dX8_trace_9 : decode cX8_trace 9 = .ok (.getfield 243, 3) := by decide +kernel
theorem dX8_trace_12 : decode cX8_trace 12 = .ok (.iconst 1, 1) := by decide +kernel
theorem dX8_trace_13 : decode cX8_trace 13 = .ok (.isub, 1) := by decide +kernel
theorem dX8_trace_14 : decode cX8_trace 14 = .ok (.i2l, 1) := by decide +kernel
theorem dX8_trace_15 : decode cX8_trace 15 = .ok (.invokestatic 58, 3) := by decide +kernel
theorem dX8_trace_18 : decode cX8_trace 18 = .ok (.ifCond .eq 12, 3) := by decide +kernel
theorem dX8_trace_21 : decode cX8_trace 21 = .ok (.aload_n 0, 1) := by decide +kernel
theorem dX8_trace_22 : decode cX8_trace 22 = .ok (.getfield 45, 3) := by decide +kernel
theorem dX8_trace_25 : decode cX8_trace 25 = .ok (.iload_n 1, 1) := by decide +kernel
theorem dX8_trace_26 : decode cX8_trace 26 = .ok (.iaload, 1) := by decide +kernel
theorem dX8_trace_27 : decode cX8_trace 27 = .ok (.goto 5, 3) := by decide +kernel
theorem dX8_trace_30 : decode cX8_trace 30 = .ok (.ldc 84, 2) := by decide +kernel
theorem dX8_trace_32 : decode cX8_trace 32 = .ok (.ireturn, 1) := by decide +kernel
theorem dX8_count_0 : decode cX8_count 0 = .ok (.aload_n 0, 1) := by decide +kernel
theorem dX8_count_1 : decode cX8_count 1 = .ok (.iconst 0, 1) := by decide +kernel
theorem dX8_count_2 : decode cX8_count 2 = .ok (.putfield 48, 3) := by decide +kernel
theorem dX8_count_5 : decode cX8_count 5 = .ok (.iconst 0, 1) := by decide +kernel
theorem dX8_count_6 : decode cX8_count 6 = .ok (.istore_n 2, 1) := by decide +kernel
theorem dX8_count_7 : decode cX8_count 7 = .ok (.iload_n 1, 1) := by decide +kernel
theorem dX8_count_8 : decode cX8_count 8 = .ok (.tableswitch 115 0 6 #[44, 77, 84, 91, 98, 103, 110], 44) := by decide +kernel
theorem dX8_count_52 : decode cX8_count 52 = .ok (.iconst 0, 1) := by decide +kernel
theorem dX8_count_53 : decode cX8_count 53 = .ok (.istore_n 3, 1) := by decide +kernel
theorem dX8_count_54 : decode cX8_count 54 = .ok (.iload_n 3, 1) := by decide +kernel
theorem dX8_count_55 : decode cX8_count 55 = .ok (.bipush 8, 2) := by decide +kernel
theorem dX8_count_57 : decode cX8_count 57 = .ok (.if_icmp .ge 26, 3) := by decide +kernel
theorem dX8_count_60 : decode cX8_count 60 = .ok (.iload_n 2, 1) := by decide +kernel
theorem dX8_count_61 : decode cX8_count 61 = .ok (.aload_n 0, 1) := by decide +kernel
theorem dX8_count_62 : decode cX8_count 62 = .ok (.getfield 7, 3) := by decide +kernel
theorem dX8_count_65 : decode cX8_count 65 = .ok (.iload_n 3, 1) := by decide +kernel
theorem dX8_count_66 : decode cX8_count 66 = .ok (.iaload, 1) := by decide +kernel
theorem dX8_count_67 : decode cX8_count 67 = .ok (.ifCond .lt 7, 3) := by decide +kernel
theorem dX8_count_70 : decode cX8_count 70 = .ok (.iconst 1, 1) := by decide +kernel
theorem dX8_count_71 : decode cX8_count 71 = .ok (.goto 4, 3) := by decide +kernel
theorem dX8_count_74 : decode cX8_count 74 = .ok (.iconst 0, 1) := by decide +kernel
theorem dX8_count_75 : decode cX8_count 75 = .ok (.iadd, 1) := by decide +kernel
theorem dX8_count_76 : decode cX8_count 76 = .ok (.istore_n 2, 1) := by decide +kernel
theorem dX8_count_77 : decode cX8_count 77 = .ok (.iinc 3 1, 3) := by decide +kernel
theorem dX8_count_80 : decode cX8_count 80 = .ok (.goto (-26), 3) := by decide +kernel
theorem dX8_count_83 : decode cX8_count 83 = .ok (.iload_n 2, 1) := by decide +kernel
theorem dX8_count_84 : decode cX8_count 84 = .ok (.ireturn, 1) := by decide +kernel
theorem dX8_count_85 : decode cX8_count 85 = .ok (.aload_n 0, 1) := by decide +kernel
theorem dX8_count_86 : decode cX8_count 86 = .ok (.getfield 19, 3) := by decide +kernel
theorem dX8_count_89 : decode cX8_count 89 = .ok (.iconst 3, 1) := by decide +kernel
theorem dX8_count_90 : decode cX8_count 90 = .ok (.iaload, 1) := by decide +kernel
theorem dX8_count_91 : decode cX8_count 91 = .ok (.ireturn, 1) := by decide +kernel
theorem dX8_count_92 : decode cX8_count 92 = .ok (.aload_n 0, 1) := by decide +kernel
theorem dX8_count_93 : decode cX8_count 93 = .ok (.getfield 19, 3) := by decide +kernel
theorem dX8_count_96 : decode cX8_count 96 = .ok (.iconst 2, 1) := by decide +kernel
theorem dX8_count_97 : decode cX8_count 97 = .ok (.iaload, 1) := by decide +kernel
theorem dX8_count_98 : decode cX8_count 98 = .ok (.ireturn, 1) := by decide +kernel
theorem dX8_count_99 : decode cX8_count 99 = .ok (.aload_n 0, 1) := by decide +kernel
theorem dX8_count_100 : decode cX8_count 100 = .ok (.getfield 19, 3) := by decide +kernel
theorem dX8_count_103 : decode cX8_count 103 = .ok (.iconst 0, 1) := by decide +kernel
theorem dX8_count_104 : decode cX8_count 104 = .ok (.iaload, 1) := by decide +kernel
theorem dX8_count_105 : decode cX8_count 105 = .ok (.ireturn, 1) := by decide +kernel
theorem dX8_count_106 : decode cX8_count 106 = .ok (.aload_n 0, 1) := by decide +kernel
theorem dX8_count_107 : decode cX8_count 107 = .ok (.getfield 175, 3) := by decide +kernel
theorem dX8_count_110 : decode cX8_count 110 = .ok (.ireturn, 1) := by decide +kernel
theorem dX8_count_111 : decode cX8_count 111 = .ok (.aload_n 0, 1) := by decide +kernel
theorem dX8_count_112 : decode cX8_count 112 = .ok (.getfield 19, 3) := by decide +kernel
theorem dX8_count_115 : decode cX8_count 115 = .ok (.iconst 1, 1) := by decide +kernel
theorem dX8_count_116 : decode cX8_count 116 = .ok (.iaload, 1) := by decide +kernel
theorem dX8_count_117 : decode cX8_count 117 = .ok (.ireturn, 1) := by decide +kernel
theorem dX8_count_118 : decode cX8_count 118 = .ok (.aload_n 0, 1) := by decide +kernel
theorem dX8_count_119 : decode cX8_count 119 = .ok (.getfield 75, 3) := by decide +kernel
theorem dX8_count_122 : decode cX8_count 122 = .ok (.ireturn, 1) := by decide +kernel
theorem dX8_count_123 : decode cX8_count 123 = .ok (.ldc 68, 2) := by decide +kernel
theorem dX8_count_125 : decode cX8_count 125 = .ok (.ireturn, 1) := by decide +kernel
theorem dX8_status_0 : decode cX8_status 0 = .ok (.aload_n 0, 1) := by decide +kernel
theorem dX8_status_1 : decode cX8_status 1 = .ok (.iconst 0, 1) := by decide +kernel
theorem dX8_status_2 : decode cX8_status 2 = .ok (.putfield 48, 3) := by decide +kernel
theorem dX8_status_5 : decode cX8_status 5 = .ok (.aload_n 0, 1) := by decide +kernel
theorem dX8_status_6 : decode cX8_status 6 = .ok (.getfield 52, 3) := by decide +kernel
theorem dX8_status_9 : decode cX8_status 9 = .ok (.ireturn, 1) := by decide +kernel
theorem dJ6_numberOfLeadingZeros_0f7a4_0 : decode cJ6_numberOfLeadingZeros_0f7a4 0 = .ok (.iload_n 0, 1) := by decide +kernel
theorem dJ6_numberOfLeadingZeros_0f7a4_1 : decode cJ6_numberOfLeadingZeros_0f7a4 1 = .ok (.ifCond .gt 14, 3) := by decide +kernel
theorem dJ6_numberOfLeadingZeros_0f7a4_4 : decode cJ6_numberOfLeadingZeros_0f7a4 4 = .ok (.iload_n 0, 1) := by decide +kernel
theorem dJ6_numberOfLeadingZeros_0f7a4_5 : decode cJ6_numberOfLeadingZeros_0f7a4 5 = .ok (.ifCond .ne 8, 3) := by decide +kernel
theorem dJ6_numberOfLeadingZeros_0f7a4_8 : decode cJ6_numberOfLeadingZeros_0f7a4 8 = .ok (.bipush 32, 2) := by decide +kernel
theorem dJ6_numberOfLeadingZeros_0f7a4_10 : decode cJ6_numberOfLeadingZeros_0f7a4 10 = .ok (.goto 4, 3) := by decide +kernel
theorem dJ6_numberOfLeadingZeros_0f7a4_13 : decode cJ6_numberOfLeadingZeros_0f7a4 13 = .ok (.iconst 0, 1) := by decide +kernel
theorem dJ6_numberOfLeadingZeros_0f7a4_14 : decode cJ6_numberOfLeadingZeros_0f7a4 14 = .ok (.ireturn, 1) := by decide +kernel
theorem dJ6_numberOfLeadingZeros_0f7a4_15 : decode cJ6_numberOfLeadingZeros_0f7a4 15 = .ok (.bipush 31, 2) := by decide +kernel
theorem dJ6_numberOfLeadingZeros_0f7a4_17 : decode cJ6_numberOfLeadingZeros_0f7a4 17 = .ok (.istore_n 1, 1) := by decide +kernel
theorem dJ6_numberOfLeadingZeros_0f7a4_18 : decode cJ6_numberOfLeadingZeros_0f7a4 18 = .ok (.iload_n 0, 1) := by decide +kernel
theorem dJ6_numberOfLeadingZeros_0f7a4_19 : decode cJ6_numberOfLeadingZeros_0f7a4 19 = .ok (.ldc_w 264, 3) := by decide +kernel
theorem dJ6_numberOfLeadingZeros_0f7a4_22 : decode cJ6_numberOfLeadingZeros_0f7a4 22 = .ok (.if_icmp .lt 11, 3) := by decide +kernel
theorem dJ6_numberOfLeadingZeros_0f7a4_25 : decode cJ6_numberOfLeadingZeros_0f7a4 25 = .ok (.iinc 1 (-16), 3) := by decide +kernel
theorem dJ6_numberOfLeadingZeros_0f7a4_28 : decode cJ6_numberOfLeadingZeros_0f7a4 28 = .ok (.iload_n 0, 1) := by decide +kernel
theorem dJ6_numberOfLeadingZeros_0f7a4_29 : decode cJ6_numberOfLeadingZeros_0f7a4 29 = .ok (.bipush 16, 2) := by decide +kernel
theorem dJ6_numberOfLeadingZeros_0f7a4_31 : decode cJ6_numberOfLeadingZeros_0f7a4 31 = .ok (.iushr, 1) := by decide +kernel
theorem dJ6_numberOfLeadingZeros_0f7a4_32 : decode cJ6_numberOfLeadingZeros_0f7a4 32 = .ok (.istore_n 0, 1) := by decide +kernel
theorem dJ6_numberOfLeadingZeros_0f7a4_33 : decode cJ6_numberOfLeadingZeros_0f7a4 33 = .ok (.iload_n 0, 1) := by decide +kernel
theorem dJ6_numberOfLeadingZeros_0f7a4_34 : decode cJ6_numberOfLeadingZeros_0f7a4 34 = .ok (.sipush 256, 3) := by decide +kernel
theorem dJ6_numberOfLeadingZeros_0f7a4_37 : decode cJ6_numberOfLeadingZeros_0f7a4 37 = .ok (.if_icmp .lt 11, 3) := by decide +kernel
theorem dJ6_numberOfLeadingZeros_0f7a4_40 : decode cJ6_numberOfLeadingZeros_0f7a4 40 = .ok (.iinc 1 (-8), 3) := by decide +kernel
theorem dJ6_numberOfLeadingZeros_0f7a4_43 : decode cJ6_numberOfLeadingZeros_0f7a4 43 = .ok (.iload_n 0, 1) := by decide +kernel
theorem dJ6_numberOfLeadingZeros_0f7a4_44 : decode cJ6_numberOfLeadingZeros_0f7a4 44 = .ok (.bipush 8, 2) := by decide +kernel
theorem dJ6_numberOfLeadingZeros_0f7a4_46 : decode cJ6_numberOfLeadingZeros_0f7a4 46 = .ok (.iushr, 1) := by decide +kernel
theorem dJ6_numberOfLeadingZeros_0f7a4_47 : decode cJ6_numberOfLeadingZeros_0f7a4 47 = .ok (.istore_n 0, 1) := by decide +kernel
theorem dJ6_numberOfLeadingZeros_0f7a4_48 : decode cJ6_numberOfLeadingZeros_0f7a4 48 = .ok (.iload_n 0, 1) := by decide +kernel
theorem dJ6_numberOfLeadingZeros_0f7a4_49 : decode cJ6_numberOfLeadingZeros_0f7a4 49 = .ok (.bipush 16, 2) := by decide +kernel
theorem dJ6_numberOfLeadingZeros_0f7a4_51 : decode cJ6_numberOfLeadingZeros_0f7a4 51 = .ok (.if_icmp .lt 10, 3) := by decide +kernel
theorem dJ6_numberOfLeadingZeros_0f7a4_54 : decode cJ6_numberOfLeadingZeros_0f7a4 54 = .ok (.iinc 1 (-4), 3) := by decide +kernel
theorem dJ6_numberOfLeadingZeros_0f7a4_57 : decode cJ6_numberOfLeadingZeros_0f7a4 57 = .ok (.iload_n 0, 1) := by decide +kernel
theorem dJ6_numberOfLeadingZeros_0f7a4_58 : decode cJ6_numberOfLeadingZeros_0f7a4 58 = .ok (.iconst 4, 1) := by decide +kernel
theorem dJ6_numberOfLeadingZeros_0f7a4_59 : decode cJ6_numberOfLeadingZeros_0f7a4 59 = .ok (.iushr, 1) := by decide +kernel
theorem dJ6_numberOfLeadingZeros_0f7a4_60 : decode cJ6_numberOfLeadingZeros_0f7a4 60 = .ok (.istore_n 0, 1) := by decide +kernel
theorem dJ6_numberOfLeadingZeros_0f7a4_61 : decode cJ6_numberOfLeadingZeros_0f7a4 61 = .ok (.iload_n 0, 1) := by decide +kernel
theorem dJ6_numberOfLeadingZeros_0f7a4_62 : decode cJ6_numberOfLeadingZeros_0f7a4 62 = .ok (.iconst 4, 1) := by decide +kernel
theorem dJ6_numberOfLeadingZeros_0f7a4_63 : decode cJ6_numberOfLeadingZeros_0f7a4 63 = .ok (.if_icmp .lt 10, 3) := by decide +kernel
theorem dJ6_numberOfLeadingZeros_0f7a4_66 : decode cJ6_numberOfLeadingZeros_0f7a4 66 = .ok (.iinc 1 (-2), 3) := by decide +kernel
theorem dJ6_numberOfLeadingZeros_0f7a4_69 : decode cJ6_numberOfLeadingZeros_0f7a4 69 = .ok (.iload_n 0, 1) := by decide +kernel
theorem dJ6_numberOfLeadingZeros_0f7a4_70 : decode cJ6_numberOfLeadingZeros_0f7a4 70 = .ok (.iconst 2, 1) := by decide +kernel
theorem dJ6_numberOfLeadingZeros_0f7a4_71 : decode cJ6_numberOfLeadingZeros_0f7a4 71 = .ok (.iushr, 1) := by decide +kernel
theorem dJ6_numberOfLeadingZeros_0f7a4_72 : decode cJ6_numberOfLeadingZeros_0f7a4 72 = .ok (.istore_n 0, 1) := by decide +kernel
theorem dJ6_numberOfLeadingZeros_0f7a4_73 : decode cJ6_numberOfLeadingZeros_0f7a4 73 = .ok (.iload_n 1, 1) := by decide +kernel
theorem dJ6_numberOfLeadingZeros_0f7a4_74 : decode cJ6_numberOfLeadingZeros_0f7a4 74 = .ok (.iload_n 0, 1) := by decide +kernel
theorem dJ6_numberOfLeadingZeros_0f7a4_75 : decode cJ6_numberOfLeadingZeros_0f7a4 75 = .ok (.iconst 1, 1) := by decide +kernel
theorem dJ6_numberOfLeadingZeros_0f7a4_76 : decode cJ6_numberOfLeadingZeros_0f7a4 76 = .ok (.iushr, 1) := by decide +kernel
theorem dJ6_numberOfLeadingZeros_0f7a4_77 : decode cJ6_numberOfLeadingZeros_0f7a4 77 = .ok (.isub, 1) := by decide +kernel
theorem dJ6_numberOfLeadingZeros_0f7a4_78 : decode cJ6_numberOfLeadingZeros_0f7a4 78 = .ok (.ireturn, 1) := by decide +kernel
theorem dJ6_numberOfTrailingZeros_0f7a4_0 : decode cJ6_numberOfTrailingZeros_0f7a4 0 = .ok (.iload_n 0, 1) := by decide +kernel
theorem dJ6_numberOfTrailingZeros_0f7a4_1 : decode cJ6_numberOfTrailingZeros_0f7a4 1 = .ok (.iconst (-1), 1) := by decide +kernel
theorem dJ6_numberOfTrailingZeros_0f7a4_2 : decode cJ6_numberOfTrailingZeros_0f7a4 2 = .ok (.ixor, 1) := by decide +kernel
theorem dJ6_numberOfTrailingZeros_0f7a4_3 : decode cJ6_numberOfTrailingZeros_0f7a4 3 = .ok (.iload_n 0, 1) := by decide +kernel
theorem dJ6_numberOfTrailingZeros_0f7a4_4 : decode cJ6_numberOfTrailingZeros_0f7a4 4 = .ok (.iconst 1, 1) := by decide +kernel
theorem dJ6_numberOfTrailingZeros_0f7a4_5 : decode cJ6_numberOfTrailingZeros_0f7a4 5 = .ok (.isub, 1) := by decide +kernel
theorem dJ6_numberOfTrailingZeros_0f7a4_6 : decode cJ6_numberOfTrailingZeros_0f7a4 6 = .ok (.iand, 1) := by decide +kernel
theorem dJ6_numberOfTrailingZeros_0f7a4_7 : decode cJ6_numberOfTrailingZeros_0f7a4 7 = .ok (.istore_n 0, 1) := by decide +kernel
theorem dJ6_numberOfTrailingZeros_0f7a4_8 : decode cJ6_numberOfTrailingZeros_0f7a4 8 = .ok (.iload_n 0, 1) := by decide +kernel
theorem dJ6_numberOfTrailingZeros_0f7a4_9 : decode cJ6_numberOfTrailingZeros_0f7a4 9 = .ok (.ifCond .gt 8, 3) := by decide +kernel
theorem dJ6_numberOfTrailingZeros_0f7a4_12 : decode cJ6_numberOfTrailingZeros_0f7a4 12 = .ok (.iload_n 0, 1) := by decide +kernel
theorem dJ6_numberOfTrailingZeros_0f7a4_13 : decode cJ6_numberOfTrailingZeros_0f7a4 13 = .ok (.bipush 32, 2) := by decide +kernel
theorem dJ6_numberOfTrailingZeros_0f7a4_15 : decode cJ6_numberOfTrailingZeros_0f7a4 15 = .ok (.iand, 1) := by decide +kernel
theorem dJ6_numberOfTrailingZeros_0f7a4_16 : decode cJ6_numberOfTrailingZeros_0f7a4 16 = .ok (.ireturn, 1) := by decide +kernel
theorem dJ6_numberOfTrailingZeros_0f7a4_17 : decode cJ6_numberOfTrailingZeros_0f7a4 17 = .ok (.iconst 1, 1) := by decide +kernel
theorem dJ6_numberOfTrailingZeros_0f7a4_18 : decode cJ6_numberOfTrailingZeros_0f7a4 18 = .ok (.istore_n 1, 1) := by decide +kernel
theorem dJ6_numberOfTrailingZeros_0f7a4_19 : decode cJ6_numberOfTrailingZeros_0f7a4 19 = .ok (.iload_n 0, 1) := by decide +kernel
theorem dJ6_numberOfTrailingZeros_0f7a4_20 : decode cJ6_numberOfTrailingZeros_0f7a4 20 = .ok (.ldc_w 264, 3) := by decide +kernel
theorem dJ6_numberOfTrailingZeros_0f7a4_23 : decode cJ6_numberOfTrailingZeros_0f7a4 23 = .ok (.if_icmp .le 11, 3) := by decide +kernel
theorem dJ6_numberOfTrailingZeros_0f7a4_26 : decode cJ6_numberOfTrailingZeros_0f7a4 26 = .ok (.iinc 1 16, 3) := by decide +kernel
theorem dJ6_numberOfTrailingZeros_0f7a4_29 : decode cJ6_numberOfTrailingZeros_0f7a4 29 = .ok (.iload_n 0, 1) := by decide +kernel
theorem dJ6_numberOfTrailingZeros_0f7a4_30 : decode cJ6_numberOfTrailingZeros_0f7a4 30 = .ok (.bipush 16, 2) := by decide +kernel
theorem dJ6_numberOfTrailingZeros_0f7a4_32 : decode cJ6_numberOfTrailingZeros_0f7a4 32 = .ok (.iushr, 1) := by decide +kernel
theorem dJ6_numberOfTrailingZeros_0f7a4_33 : decode cJ6_numberOfTrailingZeros_0f7a4 33 = .ok (.istore_n 0, 1) := by decide +kernel
theorem dJ6_numberOfTrailingZeros_0f7a4_34 : decode cJ6_numberOfTrailingZeros_0f7a4 34 = .ok (.iload_n 0, 1) := by decide +kernel
theorem dJ6_numberOfTrailingZeros_0f7a4_35 : decode cJ6_numberOfTrailingZeros_0f7a4 35 = .ok (.sipush 256, 3) := by decide +kernel
theorem dJ6_numberOfTrailingZeros_0f7a4_38 : decode cJ6_numberOfTrailingZeros_0f7a4 38 = .ok (.if_icmp .le 11, 3) := by decide +kernel
theorem dJ6_numberOfTrailingZeros_0f7a4_41 : decode cJ6_numberOfTrailingZeros_0f7a4 41 = .ok (.iinc 1 8, 3) := by decide +kernel
theorem dJ6_numberOfTrailingZeros_0f7a4_44 : decode cJ6_numberOfTrailingZeros_0f7a4 44 = .ok (.iload_n 0, 1) := by decide +kernel
theorem dJ6_numberOfTrailingZeros_0f7a4_45 : decode cJ6_numberOfTrailingZeros_0f7a4 45 = .ok (.bipush 8, 2) := by decide +kernel
theorem dJ6_numberOfTrailingZeros_0f7a4_47 : decode cJ6_numberOfTrailingZeros_0f7a4 47 = .ok (.iushr, 1) := by decide +kernel
theorem dJ6_numberOfTrailingZeros_0f7a4_48 : decode cJ6_numberOfTrailingZeros_0f7a4 48 = .ok (.istore_n 0, 1) := by decide +kernel
theorem dJ6_numberOfTrailingZeros_0f7a4_49 : decode cJ6_numberOfTrailingZeros_0f7a4 49 = .ok (.iload_n 0, 1) := by decide +kernel
theorem dJ6_numberOfTrailingZeros_0f7a4_50 : decode cJ6_numberOfTrailingZeros_0f7a4 50 = .ok (.bipush 16, 2) := by decide +kernel
theorem dJ6_numberOfTrailingZeros_0f7a4_52 : decode cJ6_numberOfTrailingZeros_0f7a4 52 = .ok (.if_icmp .le 10, 3) := by decide +kernel
theorem dJ6_numberOfTrailingZeros_0f7a4_55 : decode cJ6_numberOfTrailingZeros_0f7a4 55 = .ok (.iinc 1 4, 3) := by decide +kernel
theorem dJ6_numberOfTrailingZeros_0f7a4_58 : decode cJ6_numberOfTrailingZeros_0f7a4 58 = .ok (.iload_n 0, 1) := by decide +kernel
theorem dJ6_numberOfTrailingZeros_0f7a4_59 : decode cJ6_numberOfTrailingZeros_0f7a4 59 = .ok (.iconst 4, 1) := by decide +kernel
theorem dJ6_numberOfTrailingZeros_0f7a4_60 : decode cJ6_numberOfTrailingZeros_0f7a4 60 = .ok (.iushr, 1) := by decide +kernel
theorem dJ6_numberOfTrailingZeros_0f7a4_61 : decode cJ6_numberOfTrailingZeros_0f7a4 61 = .ok (.istore_n 0, 1) := by decide +kernel
theorem dJ6_numberOfTrailingZeros_0f7a4_62 : decode cJ6_numberOfTrailingZeros_0f7a4 62 = .ok (.iload_n 0, 1) := by decide +kernel
theorem dJ6_numberOfTrailingZeros_0f7a4_63 : decode cJ6_numberOfTrailingZeros_0f7a4 63 = .ok (.iconst 4, 1) := by decide +kernel
theorem dJ6_numberOfTrailingZeros_0f7a4_64 : decode cJ6_numberOfTrailingZeros_0f7a4 64 = .ok (.if_icmp .le 10, 3) := by decide +kernel
theorem dJ6_numberOfTrailingZeros_0f7a4_67 : decode cJ6_numberOfTrailingZeros_0f7a4 67 = .ok (.iinc 1 2, 3) := by decide +kernel
theorem dJ6_numberOfTrailingZeros_0f7a4_70 : decode cJ6_numberOfTrailingZeros_0f7a4 70 = .ok (.iload_n 0, 1) := by decide +kernel
theorem dJ6_numberOfTrailingZeros_0f7a4_71 : decode cJ6_numberOfTrailingZeros_0f7a4 71 = .ok (.iconst 2, 1) := by decide +kernel
theorem dJ6_numberOfTrailingZeros_0f7a4_72 : decode cJ6_numberOfTrailingZeros_0f7a4 72 = .ok (.iushr, 1) := by decide +kernel
theorem dJ6_numberOfTrailingZeros_0f7a4_73 : decode cJ6_numberOfTrailingZeros_0f7a4 73 = .ok (.istore_n 0, 1) := by decide +kernel
theorem dJ6_numberOfTrailingZeros_0f7a4_74 : decode cJ6_numberOfTrailingZeros_0f7a4 74 = .ok (.iload_n 1, 1) := by decide +kernel
theorem dJ6_numberOfTrailingZeros_0f7a4_75 : decode cJ6_numberOfTrailingZeros_0f7a4 75 = .ok (.iload_n 0, 1) := by decide +kernel
theorem dJ6_numberOfTrailingZeros_0f7a4_76 : decode cJ6_numberOfTrailingZeros_0f7a4 76 = .ok (.iconst 1, 1) := by decide +kernel
theorem dJ6_numberOfTrailingZeros_0f7a4_77 : decode cJ6_numberOfTrailingZeros_0f7a4 77 = .ok (.iushr, 1) := by decide +kernel
theorem dJ6_numberOfTrailingZeros_0f7a4_78 : decode cJ6_numberOfTrailingZeros_0f7a4 78 = .ok (.iadd, 1) := by decide +kernel
theorem dJ6_numberOfTrailingZeros_0f7a4_79 : decode cJ6_numberOfTrailingZeros_0f7a4 79 = .ok (.ireturn, 1) := by decide +kernel
theorem dJ13_numberOfLeadingZeros_95d88_0 : decode cJ13_numberOfLeadingZeros_95d88 0 = .ok (.lload_n 0, 1) := by decide +kernel
theorem dJ13_numberOfLeadingZeros_95d88_1 : decode cJ13_numberOfLeadingZeros_95d88 1 = .ok (.bipush 32, 2) := by decide +kernel
theorem dJ13_numberOfLeadingZeros_95d88_3 : decode cJ13_numberOfLeadingZeros_95d88 3 = .ok (.lushr, 1) := by decide +kernel
theorem dJ13_numberOfLeadingZeros_95d88_4 : decode cJ13_numberOfLeadingZeros_95d88 4 = .ok (.l2i, 1) := by decide +kernel
theorem dJ13_numberOfLeadingZeros_95d88_5 : decode cJ13_numberOfLeadingZeros_95d88 5 = .ok (.istore_n 2, 1) := by decide +kernel
theorem dJ13_numberOfLeadingZeros_95d88_6 : decode cJ13_numberOfLeadingZeros_95d88 6 = .ok (.iload_n 2, 1) := by decide +kernel
theorem dJ13_numberOfLeadingZeros_95d88_7 : decode cJ13_numberOfLeadingZeros_95d88 7 = .ok (.ifCond .ne 14, 3) := by decide +kernel
theorem dJ13_numberOfLeadingZeros_95d88_10 : decode cJ13_numberOfLeadingZeros_95d88 10 = .ok (.bipush 32, 2) := by decide +kernel
theorem dJ13_numberOfLeadingZeros_95d88_12 : decode cJ13_numberOfLeadingZeros_95d88 12 = .ok (.lload_n 0, 1) := by decide +kernel
theorem dJ13_numberOfLeadingZeros_95d88_13 : decode cJ13_numberOfLeadingZeros_95d88 13 = .ok (.l2i, 1) := by decide +kernel
theorem dJ13_numberOfLeadingZeros_95d88_14 : decode cJ13_numberOfLeadingZeros_95d88 14 = .ok (.invokestatic 308, 3) := by decide +kernel
theorem dJ13_numberOfLeadingZeros_95d88_17 : decode cJ13_numberOfLeadingZeros_95d88 17 = .ok (.iadd, 1) := by decide +kernel
theorem dJ13_numberOfLeadingZeros_95d88_18 : decode cJ13_numberOfLeadingZeros_95d88 18 = .ok (.goto 7, 3) := by decide +kernel
theorem dJ13_numberOfLeadingZeros_95d88_21 : decode cJ13_numberOfLeadingZeros_95d88 21 = .ok (.iload_n 2, 1) := by decide +kernel
theorem dJ13_numberOfLeadingZeros_95d88_22 : decode cJ13_numberOfLeadingZeros_95d88 22 = .ok (.invokestatic 308, 3) := by decide +kernel
theorem dJ13_numberOfLeadingZeros_95d88_25 : decode cJ13_numberOfLeadingZeros_95d88 25 = .ok (.ireturn, 1) := by decide +kernel
theorem dJ13_numberOfTrailingZeros_95d88_0 : decode cJ13_numberOfTrailingZeros_95d88 0 = .ok (.lload_n 0, 1) := by decide +kernel
theorem dJ13_numberOfTrailingZeros_95d88_1 : decode cJ13_numberOfTrailingZeros_95d88 1 = .ok (.l2i, 1) := by decide +kernel
theorem dJ13_numberOfTrailingZeros_95d88_2 : decode cJ13_numberOfTrailingZeros_95d88 2 = .ok (.istore_n 2, 1) := by decide +kernel
theorem dJ13_numberOfTrailingZeros_95d88_3 : decode cJ13_numberOfTrailingZeros_95d88 3 = .ok (.iload_n 2, 1) := by decide +kernel
theorem dJ13_numberOfTrailingZeros_95d88_4 : decode cJ13_numberOfTrailingZeros_95d88 4 = .ok (.ifCond .ne 17, 3) := by decide +kernel
theorem dJ13_numberOfTrailingZeros_95d88_7 : decode cJ13_numberOfTrailingZeros_95d88 7 = .ok (.bipush 32, 2) := by decide +kernel
theorem dJ13_numberOfTrailingZeros_95d88_9 : decode cJ13_numberOfTrailingZeros_95d88 9 = .ok (.lload_n 0, 1) := by decide +kernel
theorem dJ13_numberOfTrailingZeros_95d88_10 : decode cJ13_numberOfTrailingZeros_95d88 10 = .ok (.bipush 32, 2) := by decide +kernel
theorem dJ13_numberOfTrailingZeros_95d88_12 : decode cJ13_numberOfTrailingZeros_95d88 12 = .ok (.lushr, 1) := by decide +kernel
theorem dJ13_numberOfTrailingZeros_95d88_13 : decode cJ13_numberOfTrailingZeros_95d88 13 = .ok (.l2i, 1) := by decide +kernel
theorem dJ13_numberOfTrailingZeros_95d88_14 : decode cJ13_numberOfTrailingZeros_95d88 14 = .ok (.invokestatic 311, 3) := by decide +kernel
theorem dJ13_numberOfTrailingZeros_95d88_17 : decode cJ13_numberOfTrailingZeros_95d88 17 = .ok (.iadd, 1) := by decide +kernel
theorem dJ13_numberOfTrailingZeros_95d88_18 : decode cJ13_numberOfTrailingZeros_95d88 18 = .ok (.goto 7, 3) := by decide +kernel
theorem dJ13_numberOfTrailingZeros_95d88_21 : decode cJ13_numberOfTrailingZeros_95d88 21 = .ok (.iload_n 2, 1) := by decide +kernel
theorem dJ13_numberOfTrailingZeros_95d88_22 : decode cJ13_numberOfTrailingZeros_95d88 22 = .ok (.invokestatic 311, 3) := by decide +kernel
theorem dJ13_numberOfTrailingZeros_95d88_25 : decode cJ13_numberOfTrailingZeros_95d88 25 = .ok (.ireturn, 1) := by decide +kernel
theorem dJ13_bitCount_95d88_0 : decode cJ13_bitCount_95d88 0 = .ok (.lload_n 0, 1) := by decide +kernel
theorem dJ13_bitCount_95d88_1 : decode cJ13_bitCount_95d88 1 = .ok (.lload_n 0, 1) := by decide +kernel
theorem dJ13_bitCount_95d88_2 : decode cJ13_bitCount_95d88 2 = .ok (.iconst 1, 1) := by decide +kernel
theorem dJ13_bitCount_95d88_3 : decode cJ13_bitCount_95d88 3 = .ok (.lushr, 1) := by decide +kernel
theorem dJ13_bitCount_95d88_4 : decode cJ13_bitCount_95d88 4 = .ok (.ldc2_w 314, 3) := by decide +kernel
theorem dJ13_bitCount_95d88_7 : decode cJ13_bitCount_95d88 7 = .ok (.land, 1) := by decide +kernel
theorem dJ13_bitCount_95d88_8 : decode cJ13_bitCount_95d88 8 = .ok (.lsub, 1) := by decide +kernel
theorem dJ13_bitCount_95d88_9 : decode cJ13_bitCount_95d88 9 = .ok (.lstore_n 0, 1) := by decide +kernel
theorem dJ13_bitCount_95d88_10 : decode cJ13_bitCount_95d88 10 = .ok (.lload_n 0, 1) := by decide +kernel
theorem dJ13_bitCount_95d88_11 : decode cJ13_bitCount_95d88 11 = .ok (.ldc2_w 316, 3) := by decide +kernel
theorem dJ13_bitCount_95d88_14 : decode cJ13_bitCount_95d88 14 = .ok (.land, 1) := by decide +kernel
theorem dJ13_bitCount_95d88_15 : decode cJ13_bitCount_95d88 15 = .ok (.lload_n 0, 1) := by decide +kernel
theorem dJ13_bitCount_95d88_16 : decode cJ13_bitCount_95d88 16 = .ok (.iconst 2, 1) := by decide +kernel
theorem dJ13_bitCount_95d88_17 : decode cJ13_bitCount_95d88 17 = .ok (.lushr, 1) := by decide +kernel
theorem dJ13_bitCount_95d88_18 : decode cJ13_bitCount_95d88 18 = .ok (.ldc2_w 316, 3) := by decide +kernel
theorem dJ13_bitCount_95d88_21 : decode cJ13_bitCount_95d88 21 = .ok (.land, 1) := by decide +kernel
theorem dJ13_bitCount_95d88_22 : decode cJ13_bitCount_95d88 22 = .ok (.ladd, 1) := by decide +kernel
theorem dJ13_bitCount_95d88_23 : decode cJ13_bitCount_95d88 23 = .ok (.lstore_n 0, 1) := by decide +kernel
theorem dJ13_bitCount_95d88_24 : decode cJ13_bitCount_95d88 24 = .ok (.lload_n 0, 1) := by decide +kernel
theorem dJ13_bitCount_95d88_25 : decode cJ13_bitCount_95d88 25 = .ok (.lload_n 0, 1) := by decide +kernel
theorem dJ13_bitCount_95d88_26 : decode cJ13_bitCount_95d88 26 = .ok (.iconst 4, 1) := by decide +kernel
theorem dJ13_bitCount_95d88_27 : decode cJ13_bitCount_95d88 27 = .ok (.lushr, 1) := by decide +kernel
theorem dJ13_bitCount_95d88_28 : decode cJ13_bitCount_95d88 28 = .ok (.ladd, 1) := by decide +kernel
theorem dJ13_bitCount_95d88_29 : decode cJ13_bitCount_95d88 29 = .ok (.ldc2_w 318, 3) := by decide +kernel
theorem dJ13_bitCount_95d88_32 : decode cJ13_bitCount_95d88 32 = .ok (.land, 1) := by decide +kernel
theorem dJ13_bitCount_95d88_33 : decode cJ13_bitCount_95d88 33 = .ok (.lstore_n 0, 1) := by decide +kernel
theorem dJ13_bitCount_95d88_34 : decode cJ13_bitCount_95d88 34 = .ok (.lload_n 0, 1) := by decide +kernel
theorem dJ13_bitCount_95d88_35 : decode cJ13_bitCount_95d88 35 = .ok (.lload_n 0, 1) := by decide +kernel
theorem dJ13_bitCount_95d88_36 : decode cJ13_bitCount_95d88 36 = .ok (.bipush 8, 2) := by decide +kernel
theorem dJ13_bitCount_95d88_38 : decode cJ13_bitCount_95d88 38 = .ok (.lushr, 1) := by decide +kernel
theorem dJ13_bitCount_95d88_39 : decode cJ13_bitCount_95d88 39 = .ok (.ladd, 1) := by decide +kernel
theorem dJ13_bitCount_95d88_40 : decode cJ13_bitCount_95d88 40 = .ok (.lstore_n 0, 1) := by decide +kernel
theorem dJ13_bitCount_95d88_41 : decode cJ13_bitCount_95d88 41 = .ok (.lload_n 0, 1) := by decide +kernel
theorem dJ13_bitCount_95d88_42 : decode cJ13_bitCount_95d88 42 = .ok (.lload_n 0, 1) := by decide +kernel
theorem dJ13_bitCount_95d88_43 : decode cJ13_bitCount_95d88 43 = .ok (.bipush 16, 2) := by decide +kernel
theorem dJ13_bitCount_95d88_45 : decode cJ13_bitCount_95d88 45 = .ok (.lushr, 1) := by decide +kernel
theorem dJ13_bitCount_95d88_46 : decode cJ13_bitCount_95d88 46 = .ok (.ladd, 1) := by decide +kernel
theorem dJ13_bitCount_95d88_47 : decode cJ13_bitCount_95d88 47 = .ok (.lstore_n 0, 1) := by decide +kernel
theorem dJ13_bitCount_95d88_48 : decode cJ13_bitCount_95d88 48 = .ok (.lload_n 0, 1) := by decide +kernel
theorem dJ13_bitCount_95d88_49 : decode cJ13_bitCount_95d88 49 = .ok (.lload_n 0, 1) := by decide +kernel
theorem dJ13_bitCount_95d88_50 : decode cJ13_bitCount_95d88 50 = .ok (.bipush 32, 2) := by decide +kernel
theorem dJ13_bitCount_95d88_52 : decode cJ13_bitCount_95d88 52 = .ok (.lushr, 1) := by decide +kernel
theorem dJ13_bitCount_95d88_53 : decode cJ13_bitCount_95d88 53 = .ok (.ladd, 1) := by decide +kernel
theorem dJ13_bitCount_95d88_54 : decode cJ13_bitCount_95d88 54 = .ok (.lstore_n 0, 1) := by decide +kernel
theorem dJ13_bitCount_95d88_55 : decode cJ13_bitCount_95d88 55 = .ok (.lload_n 0, 1) := by decide +kernel
theorem dJ13_bitCount_95d88_56 : decode cJ13_bitCount_95d88 56 = .ok (.l2i, 1) := by decide +kernel
theorem dJ13_bitCount_95d88_57 : decode cJ13_bitCount_95d88 57 = .ok (.bipush 127, 2) := by decide +kernel
theorem dJ13_bitCount_95d88_59 : decode cJ13_bitCount_95d88 59 = .ok (.iand, 1) := by decide +kernel
theorem dJ13_bitCount_95d88_60 : decode cJ13_bitCount_95d88 60 = .ok (.ireturn, 1) := by decide +kernel
theorem dJ9_max_7cf53_0 : decode cJ9_max_7cf53 0 = .ok (.iload_n 0, 1) := by decide +kernel
theorem dJ9_max_7cf53_1 : decode cJ9_max_7cf53 1 = .ok (.iload_n 1, 1) := by decide +kernel
theorem dJ9_max_7cf53_2 : decode cJ9_max_7cf53 2 = .ok (.if_icmp .lt 7, 3) := by decide +kernel
theorem dJ9_max_7cf53_5 : decode cJ9_max_7cf53 5 = .ok (.iload_n 0, 1) := by decide +kernel
theorem dJ9_max_7cf53_6 : decode cJ9_max_7cf53 6 = .ok (.goto 4, 3) := by decide +kernel
theorem dJ9_max_7cf53_9 : decode cJ9_max_7cf53 9 = .ok (.iload_n 1, 1) := by decide +kernel
theorem dJ9_max_7cf53_10 : decode cJ9_max_7cf53 10 = .ok (.ireturn, 1) := by decide +kernel
theorem dJ9_min_7cf53_0 : decode cJ9_min_7cf53 0 = .ok (.iload_n 0, 1) := by decide +kernel
theorem dJ9_min_7cf53_1 : decode cJ9_min_7cf53 1 = .ok (.iload_n 1, 1) := by decide +kernel
theorem dJ9_min_7cf53_2 : decode cJ9_min_7cf53 2 = .ok (.if_icmp .gt 7, 3) := by decide +kernel
theorem dJ9_min_7cf53_5 : decode cJ9_min_7cf53 5 = .ok (.iload_n 0, 1) := by decide +kernel
theorem dJ9_min_7cf53_6 : decode cJ9_min_7cf53 6 = .ok (.goto 4, 3) := by decide +kernel
theorem dJ9_min_7cf53_9 : decode cJ9_min_7cf53 9 = .ok (.iload_n 1, 1) := by decide +kernel
theorem dJ9_min_7cf53_10 : decode cJ9_min_7cf53 10 = .ok (.ireturn, 1) := by decide +kernel
theorem dJ9_min_f86c9_0 : decode cJ9_min_f86c9 0 = .ok (.lload_n 0, 1) := by decide +kernel
theorem dJ9_min_f86c9_1 : decode cJ9_min_f86c9 1 = .ok (.lload_n 2, 1) := by decide +kernel
theorem dJ9_min_f86c9_2 : decode cJ9_min_f86c9 2 = .ok (.lcmp, 1) := by decide +kernel
theorem dJ9_min_f86c9_3 : decode cJ9_min_f86c9 3 = .ok (.ifCond .gt 7, 3) := by decide +kernel
theorem dJ9_min_f86c9_6 : decode cJ9_min_f86c9 6 = .ok (.lload_n 0, 1) := by decide +kernel
theorem dJ9_min_f86c9_7 : decode cJ9_min_f86c9 7 = .ok (.goto 4, 3) := by decide +kernel
theorem dJ9_min_f86c9_10 : decode cJ9_min_f86c9 10 = .ok (.lload_n 2, 1) := by decide +kernel
theorem dJ9_min_f86c9_11 : decode cJ9_min_f86c9 11 = .ok (.lreturn, 1) := by decide +kernel
theorem dJ0_length_8abf5_0 : decode cJ0_length_8abf5 0 = .ok (.aload_n 0, 1) := by decide +kernel
theorem dJ0_length_8abf5_1 : decode cJ0_length_8abf5 1 = .ok (.getfield 9, 3) := by decide +kernel
theorem dJ0_length_8abf5_4 : decode cJ0_length_8abf5 4 = .ok (.arraylength, 1) := by decide +kernel
theorem dJ0_length_8abf5_5 : decode cJ0_length_8abf5 5 = .ok (.aload_n 0, 1) := by decide +kernel
theorem dJ0_length_8abf5_6 : decode cJ0_length_8abf5 6 = .ok (.invokevirtual 335, 3) := by decide +kernel
theorem dJ0_length_8abf5_9 : decode cJ0_length_8abf5 9 = .ok (.ishr, 1) := by decide +kernel
theorem dJ0_length_8abf5_10 : decode cJ0_length_8abf5 10 = .ok (.ireturn, 1) := by decide +kernel
theorem dJ0_charAt_5068e_0 : decode cJ0_charAt_5068e 0 = .ok (.aload_n 0, 1) := by decide +kernel
theorem dJ0_charAt_5068e_1 : decode cJ0_charAt_5068e 1 = .ok (.invokevirtual 492, 3) := by decide +kernel
theorem dJ0_charAt_5068e_4 : decode cJ0_charAt_5068e 4 = .ok (.ifCond .eq 12, 3) := by decide +kernel
theorem dJ0_charAt_5068e_7 : decode cJ0_charAt_5068e 7 = .ok (.aload_n 0, 1) := by decide +kernel
theorem dJ0_charAt_5068e_8 : decode cJ0_charAt_5068e 8 = .ok (.getfield 9, 3) := by decide +kernel
theorem dJ0_charAt_5068e_11 : decode cJ0_charAt_5068e 11 = .ok (.iload_n 1, 1) := by decide +kernel
theorem dJ0_charAt_5068e_12 : decode cJ0_charAt_5068e 12 = .ok (.invokestatic 495, 3) := by decide +kernel
theorem dJ0_charAt_5068e_15 : decode cJ0_charAt_5068e 15 = .ok (.ireturn, 1) := by decide +kernel
theorem dJ0_charAt_5068e_16 : decode cJ0_charAt_5068e 16 = .ok (.aload_n 0, 1) := by decide +kernel
theorem dJ0_charAt_5068e_17 : decode cJ0_charAt_5068e 17 = .ok (.getfield 9, 3) := by decide +kernel
theorem dJ0_charAt_5068e_20 : decode cJ0_charAt_5068e 20 = .ok (.iload_n 1, 1) := by decide +kernel
theorem dJ0_charAt_5068e_21 : decode cJ0_charAt_5068e 21 = .ok (.invokestatic 498, 3) := by decide +kernel
theorem dJ0_charAt_5068e_24 : decode cJ0_charAt_5068e 24 = .ok (.ireturn, 1) := by decide +kernel
theorem dJ0_coder_7d493_0 : decode cJ0_coder_7d493 0 = .ok (.getstatic 38, 3) := by decide +kernel
theorem dJ0_coder_7d493_3 : decode cJ0_coder_7d493 3 = .ok (.ifCond .eq 10, 3) := by decide +kernel
theorem dJ0_coder_7d493_6 : decode cJ0_coder_7d493 6 = .ok (.aload_n 0, 1) := by decide +kernel
theorem dJ0_coder_7d493_7 : decode cJ0_coder_7d493 7 = .ok (.getfield 15, 3) := by decide +kernel
theorem dJ0_coder_7d493_10 : decode cJ0_coder_7d493 10 = .ok (.goto 4, 3) := by decide +kernel
theorem dJ0_coder_7d493_13 : decode cJ0_coder_7d493 13 = .ok (.iconst 1, 1) := by decide +kernel
theorem dJ0_coder_7d493_14 : decode cJ0_coder_7d493 14 = .ok (.ireturn, 1) := by decide +kernel
theorem dJ0_isLatin1_aae02_0 : decode cJ0_isLatin1_aae02 0 = .ok (.getstatic 38, 3) := by decide +kernel
theorem dJ0_isLatin1_aae02_3 : decode cJ0_isLatin1_aae02 3 = .ok (.ifCond .eq 14, 3) := by decide +kernel
theorem dJ0_isLatin1_aae02_6 : decode cJ0_isLatin1_aae02 6 = .ok (.aload_n 0, 1) := by decide +kernel
theorem dJ0_isLatin1_aae02_7 : decode cJ0_isLatin1_aae02 7 = .ok (.getfield 15, 3) := by decide +kernel
theorem dJ0_isLatin1_aae02_10 : decode cJ0_isLatin1_aae02 10 = .ok (.ifCond .ne 7, 3) := by decide +kernel
theorem dJ0_isLatin1_aae02_13 : decode cJ0_isLatin1_aae02 13 = .ok (.iconst 1, 1) := by decide +kernel
theorem dJ0_isLatin1_aae02_14 : decode cJ0_isLatin1_aae02 14 = .ok (.goto 4, 3) := by decide +kernel
theorem dJ0_isLatin1_aae02_17 : decode cJ0_isLatin1_aae02 17 = .ok (.iconst 0, 1) := by decide +kernel
theorem dJ0_isLatin1_aae02_18 : decode cJ0_isLatin1_aae02 18 = .ok (.ireturn, 1) := by decide +kernel
theorem dJ0_checkIndex_df160_0 : decode cJ0_checkIndex_df160 0 = .ok (.iload_n 0, 1) := by decide +kernel
theorem dJ0_checkIndex_df160_1 : decode cJ0_checkIndex_df160 1 = .ok (.iload_n 1, 1) := by decide +kernel
theorem dJ0_checkIndex_df160_2 : decode cJ0_checkIndex_df160 2 = .ok (.getstatic 1053, 3) := by decide +kernel
theorem dJ0_checkIndex_df160_5 : decode cJ0_checkIndex_df160 5 = .ok (.invokestatic 1059, 3) := by decide +kernel
theorem dJ0_checkIndex_df160_8 : decode cJ0_checkIndex_df160 8 = .ok (.pop, 1) := by decide +kernel
theorem dJ0_checkIndex_df160_9 : decode cJ0_checkIndex_df160 9 = .ok (.return_, 1) := by decide +kernel
theorem dJ1_charAt_3b067_0 : decode cJ1_charAt_3b067 0 = .ok (.iload_n 1, 1) := by decide +kernel
theorem dJ1_charAt_3b067_1 : decode cJ1_charAt_3b067 1 = .ok (.aload_n 0, 1) := by decide +kernel
theorem dJ1_charAt_3b067_2 : decode cJ1_charAt_3b067 2 = .ok (.arraylength, 1) := by decide +kernel
theorem dJ1_charAt_3b067_3 : decode cJ1_charAt_3b067 3 = .ok (.invokestatic 9, 3) := by decide +kernel
theorem dJ1_charAt_3b067_6 : decode cJ1_charAt_3b067 6 = .ok (.aload_n 0, 1) := by decide +kernel
theorem dJ1_charAt_3b067_7 : decode cJ1_charAt_3b067 7 = .ok (.iload_n 1, 1) := by decide +kernel
theorem dJ1_charAt_3b067_8 : decode cJ1_charAt_3b067 8 = .ok (.baload, 1) := by decide +kernel
theorem dJ1_charAt_3b067_9 : decode cJ1_charAt_3b067 9 = .ok (.sipush 255, 3) := by decide +kernel
theorem dJ1_charAt_3b067_12 : decode cJ1_charAt_3b067 12 = .ok (.iand, 1) := by decide +kernel
theorem dJ1_charAt_3b067_13 : decode cJ1_charAt_3b067 13 = .ok (.i2c, 1) := by decide +kernel
theorem dJ1_charAt_3b067_14 : decode cJ1_charAt_3b067 14 = .ok (.ireturn, 1) := by decide +kernel
theorem dJ2_getChar_3b067_0 : decode cJ2_getChar_3b067 0 = .ok (.getstatic 44, 3) := by decide +kernel
theorem dJ2_getChar_3b067_3 : decode cJ2_getChar_3b067 3 = .ok (.ifCond .ne 25, 3) := by decide +kernel
theorem dJ2_getChar_3b067_6 : decode cJ2_getChar_3b067 6 = .ok (.iload_n 1, 1) := by decide +kernel
theorem dJ2_getChar_3b067_7 : decode cJ2_getChar_3b067 7 = .ok (.ifCond .lt 11, 3) := by decide +kernel
theorem dJ2_getChar_3b067_10 : decode cJ2_getChar_3b067 10 = .ok (.iload_n 1, 1) := by decide +kernel
theorem dJ2_getChar_3b067_11 : decode cJ2_getChar_3b067 11 = .ok (.aload_n 0, 1) := by decide +kernel
theorem dJ2_getChar_3b067_12 : decode cJ2_getChar_3b067 12 = .ok (.invokestatic 48, 3) := by decide +kernel
theorem dJ2_getChar_3b067_15 : decode cJ2_getChar_3b067 15 = .ok (.if_icmp .lt 13, 3) := by decide +kernel
theorem dJ2_getChar_3b067_18 : decode cJ2_getChar_3b067 18 = .ok (.new 52, 3) := by decide +kernel
theorem dJ2_getChar_3b067_21 : decode cJ2_getChar_3b067 21 = .ok (.dup, 1) := by decide +kernel
theorem dJ2_getChar_3b067_22 : decode cJ2_getChar_3b067 22 = .ok (.ldc 54, 2) := by decide +kernel
theorem dJ2_getChar_3b067_24 : decode cJ2_getChar_3b067 24 = .ok (.invokespecial 56, 3) := by decide +kernel
theorem dJ2_getChar_3b067_27 : decode cJ2_getChar_3b067 27 = .ok (.athrow, 1) := by decide +kernel
theorem dJ2_getChar_3b067_28 : decode cJ2_getChar_3b067 28 = .ok (.iload_n 1, 1) := by decide +kernel
theorem dJ2_getChar_3b067_29 : decode cJ2_getChar_3b067 29 = .ok (.iconst 1, 1) := by decide +kernel
theorem dJ2_getChar_3b067_30 : decode cJ2_getChar_3b067 30 = .ok (.ishl, 1) := by decide +kernel
theorem dJ2_getChar_3b067_31 : decode cJ2_getChar_3b067 31 = .ok (.istore_n 1, 1) := by decide +kernel
theorem dJ2_getChar_3b067_32 : decode cJ2_getChar_3b067 32 = .ok (.aload_n 0, 1) := by decide +kernel
theorem dJ2_getChar_3b067_33 : decode cJ2_getChar_3b067 33 = .ok (.iload_n 1, 1) := by decide +kernel
theorem dJ2_getChar_3b067_34 : decode cJ2_getChar_3b067 34 = .ok (.iinc 1 1, 3) := by decide +kernel
theorem dJ2_getChar_3b067_37 : decode cJ2_getChar_3b067 37 = .ok (.baload, 1) := by decide +kernel
theorem dJ2_getChar_3b067_38 : decode cJ2_getChar_3b067 38 = .ok (.sipush 255, 3) := by decide +kernel
theorem dJ2_getChar_3b067_41 : decode cJ2_getChar_3b067 41 = .ok (.iand, 1) := by decide +kernel
theorem dJ2_getChar_3b067_42 : decode cJ2_getChar_3b067 42 = .ok (.getstatic 59, 3) := by decide +kernel
theorem dJ2_getChar_3b067_45 : decode cJ2_getChar_3b067 45 = .ok (.ishl, 1) := by decide +kernel
theorem dJ2_getChar_3b067_46 : decode cJ2_getChar_3b067 46 = .ok (.aload_n 0, 1) := by decide +kernel
theorem dJ2_getChar_3b067_47 : decode cJ2_getChar_3b067 47 = .ok (.iload_n 1, 1) := by decide +kernel
theorem dJ2_getChar_3b067_48 : decode cJ2_getChar_3b067 48 = .ok (.baload, 1) := by decide +kernel
theorem dJ2_getChar_3b067_49 : decode cJ2_getChar_3b067 49 = .ok (.sipush 255, 3) := by decide +kernel
theorem dJ2_getChar_3b067_52 : decode cJ2_getChar_3b067 52 = .ok (.iand, 1) := by decide +kernel
theorem dJ2_getChar_3b067_53 : decode cJ2_getChar_3b067 53 = .ok (.getstatic 63, 3) := by decide +kernel
theorem dJ2_getChar_3b067_56 : decode cJ2_getChar_3b067 56 = .ok (.ishl, 1) := by decide +kernel
theorem dJ2_getChar_3b067_57 : decode cJ2_getChar_3b067 57 = .ok (.ior, 1) := by decide +kernel
theorem dJ2_getChar_3b067_58 : decode cJ2_getChar_3b067 58 = .ok (.i2c, 1) := by decide +kernel
theorem dJ2_getChar_3b067_59 : decode cJ2_getChar_3b067 59 = .ok (.ireturn, 1) := by decide +kernel
theorem dJ2_length_9d52b_0 : decode cJ2_length_9d52b 0 = .ok (.aload_n 0, 1) := by decide +kernel
theorem dJ2_length_9d52b_1 : decode cJ2_length_9d52b 1 = .ok (.arraylength, 1) := by decide +kernel
theorem dJ2_length_9d52b_2 : decode cJ2_length_9d52b 2 = .ok (.iconst 1, 1) := by decide +kernel
theorem dJ2_length_9d52b_3 : decode cJ2_length_9d52b 3 = .ok (.ishr, 1) := by decide +kernel
theorem dJ2_length_9d52b_4 : decode cJ2_length_9d52b 4 = .ok (.ireturn, 1) := by decide +kernel
theorem dJ2_charAt_3b067_0 : decode cJ2_charAt_3b067 0 = .ok (.iload_n 1, 1) := by decide +kernel
theorem dJ2_charAt_3b067_1 : decode cJ2_charAt_3b067 1 = .ok (.aload_n 0, 1) := by decide +kernel
theorem dJ2_charAt_3b067_2 : decode cJ2_charAt_3b067 2 = .ok (.invokestatic 67, 3) := by decide +kernel
theorem dJ2_charAt_3b067_5 : decode cJ2_charAt_3b067 5 = .ok (.aload_n 0, 1) := by decide +kernel
theorem dJ2_charAt_3b067_6 : decode cJ2_charAt_3b067 6 = .ok (.iload_n 1, 1) := by decide +kernel
theorem dJ2_charAt_3b067_7 : decode cJ2_charAt_3b067 7 = .ok (.invokestatic 71, 3) := by decide +kernel
theorem dJ2_charAt_3b067_10 : decode cJ2_charAt_3b067 10 = .ok (.ireturn, 1) := by decide +kernel
theorem dJ2_checkIndex_2214a_0 : decode cJ2_checkIndex_2214a 0 = .ok (.iload_n 0, 1) := by decide +kernel
theorem dJ2_checkIndex_2214a_1 : decode cJ2_checkIndex_2214a 1 = .ok (.aload_n 1, 1) := by decide +kernel
theorem dJ2_checkIndex_2214a_2 : decode cJ2_checkIndex_2214a 2 = .ok (.invokestatic 48, 3) := by decide +kernel
theorem dJ2_checkIndex_2214a_5 : decode cJ2_checkIndex_2214a 5 = .ok (.invokestatic 414, 3) := by decide +kernel
theorem dJ2_checkIndex_2214a_8 : decode cJ2_checkIndex_2214a 8 = .ok (.return_, 1) := by decide +kernel
theorem dJ3_checkIndex_8e157_0 : decode cJ3_checkIndex_8e157 0 = .ok (.iload_n 0, 1) := by decide +kernel
theorem dJ3_checkIndex_8e157_1 : decode cJ3_checkIndex_8e157 1 = .ok (.ifCond .lt 8, 3) := by decide +kernel
theorem dJ3_checkIndex_8e157_4 : decode cJ3_checkIndex_8e157 4 = .ok (.iload_n 0, 1) := by decide +kernel
theorem dJ3_checkIndex_8e157_5 : decode cJ3_checkIndex_8e157 5 = .ok (.iload_n 1, 1) := by decide +kernel
theorem dJ3_checkIndex_8e157_6 : decode cJ3_checkIndex_8e157 6 = .ok (.if_icmp .lt 10, 3) := by decide +kernel
theorem dJ3_checkIndex_8e157_9 : decode cJ3_checkIndex_8e157 9 = .ok (.aload_n 2, 1) := by decide +kernel
theorem dJ3_checkIndex_8e157_10 : decode cJ3_checkIndex_8e157 10 = .ok (.iload_n 0, 1) := by decide +kernel
theorem dJ3_checkIndex_8e157_11 : decode cJ3_checkIndex_8e157 11 = .ok (.iload_n 1, 1) := by decide +kernel
theorem dJ3_checkIndex_8e157_12 : decode cJ3_checkIndex_8e157 12 = .ok (.invokestatic 95, 3) := by decide +kernel
theorem dJ3_checkIndex_8e157_15 : decode cJ3_checkIndex_8e157 15 = .ok (.athrow, 1) := by decide +kernel
theorem dJ3_checkIndex_8e157_16 : decode cJ3_checkIndex_8e157 16 = .ok (.iload_n 0, 1) := by decide +kernel
theorem dJ3_checkIndex_8e157_17 : decode cJ3_checkIndex_8e157 17 = .ok (.ireturn, 1) := by decide +kernel
theorem dL_law_0 : decode cL_law 0 = .ok (.new 7, 3) := by decide +kernel
theorem dL_law_3 : decode cL_law 3 = .ok (.dup, 1) := by decide +kernel
theorem dL_law_4 : decode cL_law 4 = .ok (.invokespecial 9, 3) := by decide +kernel
theorem dL_law_7 : decode cL_law 7 = .ok (.astore_n 1, 1) := by decide +kernel
theorem dL_law_8 : decode cL_law 8 = .ok (.new 10, 3) := by decide +kernel
theorem dL_law_11 : decode cL_law 11 = .ok (.dup, 1) := by decide +kernel
theorem dL_law_12 : decode cL_law 12 = .ok (.invokespecial 12, 3) := by decide +kernel
theorem dL_law_15 : decode cL_law 15 = .ok (.astore_n 2, 1) := by decide +kernel
theorem dL_law_16 : decode cL_law 16 = .ok (.iconst 0, 1) := by decide +kernel
theorem dL_law_17 : decode cL_law 17 = .ok (.istore_n 3, 1) := by decide +kernel
theorem dL_law_18 : decode cL_law 18 = .ok (.iload_n 3, 1) := by decide +kernel
theorem dL_law_19 : decode cL_law 19 = .ok (.aload_n 0, 1) := by decide +kernel
theorem dL_law_20 : decode cL_law 20 = .ok (.arraylength, 1) := by decide +kernel
theorem dL_law_21 : decode cL_law 21 = .ok (.bipush 6, 2) := by decide +kernel
theorem dL_law_23 : decode cL_law 23 = .ok (.isub, 1) := by decide +kernel
theorem dL_law_24 : decode cL_law 24 = .ok (.if_icmp .gt 1093, 3) := by decide +kernel
theorem dL_law_27 : decode cL_law 27 = .ok (.aload_n 0, 1) := by decide +kernel
theorem dL_law_28 : decode cL_law 28 = .ok (.iload_n 3, 1) := by decide +kernel
theorem dL_law_29 : decode cL_law 29 = .ok (.iaload, 1) := by decide +kernel
theorem dL_law_30 : decode cL_law 30 = .ok (.bipush 31, 2) := by decide +kernel
theorem dL_law_32 : decode cL_law 32 = .ok (.iand, 1) := by decide +kernel
theorem dL_law_33 : decode cL_law 33 = .ok (.tableswitch 1078 0 28 #[131, 174, 217, 280, 303, 366, 379, 392, 425, 478, 511, 544, 577, 590, 623, 676, 719, 752, 795, 838, 861, 884, 907, 930, 953, 986, 1019, 1042, 1065], 131) := by decide +kernel
theorem dL_law_164 : decode cL_law 164 = .ok (.aload_n 1, 1) := by decide +kernel
theorem dL_law_165 : decode cL_law 165 = .ok (.aload_n 0, 1) := by decide +kernel
theorem dL_law_166 : decode cL_law 166 = .ok (.iload_n 3, 1) := by decide +kernel
theorem dL_law_167 : decode cL_law 167 = .ok (.iconst 1, 1) := by decide +kernel
theorem dL_law_168 : decode cL_law 168 = .ok (.iadd, 1) := by decide +kernel
theorem dL_law_169 : decode cL_law 169 = .ok (.iaload, 1) := by decide +kernel
theorem dL_law_170 : decode cL_law 170 = .ok (.aload_n 0, 1) := by decide +kernel
theorem dL_law_171 : decode cL_law 171 = .ok (.iload_n 3, 1) := by decide +kernel
theorem dL_law_172 : decode cL_law 172 = .ok (.iconst 2, 1) := by decide +kernel
theorem dL_law_173 : decode cL_law 173 = .ok (.iadd, 1) := by decide +kernel
theorem dL_law_174 : decode cL_law 174 = .ok (.iaload, 1) := by decide +kernel
theorem dL_law_175 : decode cL_law 175 = .ok (.aload_n 0, 1) := by decide +kernel
theorem dL_law_176 : decode cL_law 176 = .ok (.iload_n 3, 1) := by decide +kernel
theorem dL_law_177 : decode cL_law 177 = .ok (.iconst 3, 1) := by decide +kernel
theorem dL_law_178 : decode cL_law 178 = .ok (.iadd, 1) := by decide +kernel
theorem dL_law_179 : decode cL_law 179 = .ok (.iaload, 1) := by decide +kernel
theorem dL_law_180 : decode cL_law 180 = .ok (.invokevirtual 13, 3) := by decide +kernel
theorem dL_law_183 : decode cL_law 183 = .ok (.aload_n 2, 1) := by decide +kernel
theorem dL_law_184 : decode cL_law 184 = .ok (.aload_n 0, 1) := by decide +kernel
theorem dL_law_185 : decode cL_law 185 = .ok (.iload_n 3, 1) := by decide +kernel
theorem dL_law_186 : decode cL_law 186 = .ok (.iconst 1, 1) := by decide +kernel
theorem dL_law_187 : decode cL_law 187 = .ok (.iadd, 1) := by decide +kernel
theorem dL_law_188 : decode cL_law 188 = .ok (.iaload, 1) := by decide +kernel
theorem dL_law_189 : decode cL_law 189 = .ok (.aload_n 0, 1) := by decide +kernel
theorem dL_law_190 : decode cL_law 190 = .ok (.iload_n 3, 1) := by decide +kernel
theorem dL_law_191 : decode cL_law 191 = .ok (.iconst 2, 1) := by decide +kernel
theorem dL_law_192 : decode cL_law 192 = .ok (.iadd, 1) := by decide +kernel
theorem dL_law_193 : decode cL_law 193 = .ok (.iaload, 1) := by decide +kernel
theorem dL_law_194 : decode cL_law 194 = .ok (.aload_n 0, 1) := by decide +kernel
theorem dL_law_195 : decode cL_law 195 = .ok (.iload_n 3, 1) := by decide +kernel
theorem dL_law_196 : decode cL_law 196 = .ok (.iconst 3, 1) := by decide +kernel
theorem dL_law_197 : decode cL_law 197 = .ok (.iadd, 1) := by decide +kernel
theorem dL_law_198 : decode cL_law 198 = .ok (.iaload, 1) := by decide +kernel
theorem dL_law_199 : decode cL_law 199 = .ok (.invokevirtual 17, 3) := by decide +kernel
theorem dL_law_202 : decode cL_law 202 = .ok (.if_icmp .eq 909, 3) := by decide +kernel
theorem dL_law_205 : decode cL_law 205 = .ok (.iconst 0, 1) := by decide +kernel
theorem dL_law_206 : decode cL_law 206 = .ok (.ireturn, 1) := by decide +kernel
theorem dL_law_207 : decode cL_law 207 = .ok (.aload_n 1, 1) := by decide +kernel
theorem dL_law_208 : decode cL_law 208 = .ok (.aload_n 0, 1) := by decide +kernel
theorem dL_law_209 : decode cL_law 209 = .ok (.iload_n 3, 1) := by decide +kernel
theorem dL_law_210 : decode cL_law 210 = .ok (.iconst 1, 1) := by decide +kernel
theorem dL_law_211 : decode cL_law 211 = .ok (.iadd, 1) := by decide +kernel
theorem dL_law_212 : decode cL_law 212 = .ok (.iaload, 1) := by decide +kernel
theorem dL_law_213 : decode cL_law 213 = .ok (.aload_n 0, 1) := by decide +kernel
theorem dL_law_214 : decode cL_law 214 = .ok (.iload_n 3, 1) := by decide +kernel
theorem dL_law_215 : decode cL_law 215 = .ok (.iconst 2, 1) := by decide +kernel
theorem dL_law_216 : decode cL_law 216 = .ok (.iadd, 1) := by decide +kernel
theorem dL_law_217 : decode cL_law 217 = .ok (.iaload, 1) := by decide +kernel
theorem dL_law_218 : decode cL_law 218 = .ok (.aload_n 0, 1) := by decide +kernel
theorem dL_law_219 : decode cL_law 219 = .ok (.iload_n 3, 1) := by decide +kernel
theorem dL_law_220 : decode cL_law 220 = .ok (.iconst 3, 1) := by decide +kernel
theorem dL_law_221 : decode cL_law 221 = .ok (.iadd, 1) := by decide +kernel
theorem dL_law_222 : decode cL_law 222 = .ok (.iaload, 1) := by decide +kernel
theorem dL_law_223 : decode cL_law 223 = .ok (.invokevirtual 18, 3) := by decide +kernel
theorem dL_law_226 : decode cL_law 226 = .ok (.aload_n 2, 1) := by decide +kernel
theorem dL_law_227 : decode cL_law 227 = .ok (.aload_n 0, 1) := by decide +kernel
theorem dL_law_228 : decode cL_law 228 = .ok (.iload_n 3, 1) := by decide +kernel
theorem dL_law_229 : decode cL_law 229 = .ok (.iconst 1, 1) := by decide +kernel
theorem dL_law_230 : decode cL_law 230 = .ok (.iadd, 1) := by decide +kernel
theorem dL_law_231 : decode cL_law 231 = .ok (.iaload, 1) := by decide +kernel
theorem dL_law_232 : decode cL_law 232 = .ok (.aload_n 0, 1) := by decide +kernel
theorem dL_law_233 : decode cL_law 233 = .ok (.iload_n 3, 1) := by decide +kernel
theorem dL_law_234 : decode cL_law 234 = .ok (.iconst 2, 1) := by decide +kernel
theorem dL_law_235 : decode cL_law 235 = .ok (.iadd, 1) := by decide +kernel
theorem dL_law_236 : decode cL_law 236 = .ok (.iaload, 1) := by decide +kernel
theorem dL_law_237 : decode cL_law 237 = .ok (.aload_n 0, 1) := by decide +kernel
theorem dL_law_238 : decode cL_law 238 = .ok (.iload_n 3, 1) := by decide +kernel
theorem dL_law_239 : decode cL_law 239 = .ok (.iconst 3, 1) := by decide +kernel
theorem dL_law_240 : decode cL_law 240 = .ok (.iadd, 1) := by decide +kernel
theorem dL_law_241 : decode cL_law 241 = .ok (.iaload, 1) := by decide +kernel
theorem dL_law_242 : decode cL_law 242 = .ok (.invokevirtual 21, 3) := by decide +kernel
theorem dL_law_245 : decode cL_law 245 = .ok (.if_icmp .eq 866, 3) := by decide +kernel
theorem dL_law_248 : decode cL_law 248 = .ok (.iconst 0, 1) := by decide +kernel
theorem dL_law_249 : decode cL_law 249 = .ok (.ireturn, 1) := by decide +kernel
theorem dL_law_250 : decode cL_law 250 = .ok (.aload_n 1, 1) := by decide +kernel
theorem dL_law_251 : decode cL_law 251 = .ok (.aload_n 0, 1) := by decide +kernel
theorem dL_law_252 : decode cL_law 252 = .ok (.iload_n 3, 1) := by decide +kernel
theorem dL_law_253 : decode cL_law 253 = .ok (.iconst 1, 1) := by decide +kernel
theorem dL_law_254 : decode cL_law 254 = .ok (.iadd, 1) := by decide +kernel
theorem dL_law_255 : decode cL_law 255 = .ok (.iaload, 1) := by decide +kernel
theorem dL_law_256 : decode cL_law 256 = .ok (.aload_n 0, 1) := by decide +kernel
theorem dL_law_257 : decode cL_law 257 = .ok (.iload_n 3, 1) := by decide +kernel
theorem dL_law_258 : decode cL_law 258 = .ok (.iconst 2, 1) := by decide +kernel
theorem dL_law_259 : decode cL_law 259 = .ok (.iadd, 1) := by decide +kernel
theorem dL_law_260 : decode cL_law 260 = .ok (.iaload, 1) := by decide +kernel
theorem dL_law_261 : decode cL_law 261 = .ok (.aload_n 0, 1) := by decide +kernel
theorem dL_law_262 : decode cL_law 262 = .ok (.iload_n 3, 1) := by decide +kernel
theorem dL_law_263 : decode cL_law 263 = .ok (.iconst 3, 1) := by decide +kernel
theorem dL_law_264 : decode cL_law 264 = .ok (.iadd, 1) := by decide +kernel
theorem dL_law_265 : decode cL_law 265 = .ok (.iaload, 1) := by decide +kernel
theorem dL_law_266 : decode cL_law 266 = .ok (.aload_n 0, 1) := by decide +kernel
theorem dL_law_267 : decode cL_law 267 = .ok (.iload_n 3, 1) := by decide +kernel
theorem dL_law_268 : decode cL_law 268 = .ok (.iconst 4, 1) := by decide +kernel
theorem dL_law_269 : decode cL_law 269 = .ok (.iadd, 1) := by decide +kernel
theorem dL_law_270 : decode cL_law 270 = .ok (.iaload, 1) := by decide +kernel
theorem dL_law_271 : decode cL_law 271 = .ok (.aload_n 0, 1) := by decide +kernel
theorem dL_law_272 : decode cL_law 272 = .ok (.iload_n 3, 1) := by decide +kernel
theorem dL_law_273 : decode cL_law 273 = .ok (.iconst 5, 1) := by decide +kernel
theorem dL_law_274 : decode cL_law 274 = .ok (.iadd, 1) := by decide +kernel
theorem dL_law_275 : decode cL_law 275 = .ok (.iaload, 1) := by decide +kernel
theorem dL_law_276 : decode cL_law 276 = .ok (.invokevirtual 22, 3) := by decide +kernel
theorem dL_law_279 : decode cL_law 279 = .ok (.aload_n 2, 1) := by decide +kernel
theorem dL_law_280 : decode cL_law 280 = .ok (.aload_n 0, 1) := by decide +kernel
theorem dL_law_281 : decode cL_law 281 = .ok (.iload_n 3, 1) := by decide +kernel
theorem dL_law_282 : decode cL_law 282 = .ok (.iconst 1, 1) := by decide +kernel
theorem dL_law_283 : decode cL_law 283 = .ok (.iadd, 1) := by decide +kernel
theorem dL_law_284 : decode cL_law 284 = .ok (.iaload, 1) := by decide +kernel
theorem dL_law_285 : decode cL_law 285 = .ok (.aload_n 0, 1) := by decide +kernel
theorem dL_law_286 : decode cL_law 286 = .ok (.iload_n 3, 1) := by decide +kernel
theorem dL_law_287 : decode cL_law 287 = .ok (.iconst 2, 1) := by decide +kernel
theorem dL_law_288 : decode cL_law 288 = .ok (.iadd, 1) := by decide +kernel
theorem dL_law_289 : decode cL_law 289 = .ok (.iaload, 1) := by decide +kernel
theorem dL_law_290 : decode cL_law 290 = .ok (.aload_n 0, 1) := by decide +kernel
theorem dL_law_291 : decode cL_law 291 = .ok (.iload_n 3, 1) := by decide +kernel
theorem dL_law_292 : decode cL_law 292 = .ok (.iconst 3, 1) := by decide +kernel
theorem dL_law_293 : decode cL_law 293 = .ok (.iadd, 1) := by decide +kernel
theorem dL_law_294 : decode cL_law 294 = .ok (.iaload, 1) := by decide +kernel
theorem dL_law_295 : decode cL_law 295 = .ok (.aload_n 0, 1) := by decide +kernel
theorem dL_law_296 : decode cL_law 296 = .ok (.iload_n 3, 1) := by decide +kernel
theorem dL_law_297 : decode cL_law 297 = .ok (.iconst 4, 1) := by decide +kernel
theorem dL_law_298 : decode cL_law 298 = .ok (.iadd, 1) := by decide +kernel
theorem dL_law_299 : decode cL_law 299 = .ok (.iaload, 1) := by decide +kernel
theorem dL_law_300 : decode cL_law 300 = .ok (.aload_n 0, 1) := by decide +kernel
theorem dL_law_301 : decode cL_law 301 = .ok (.iload_n 3, 1) := by decide +kernel
theorem dL_law_302 : decode cL_law 302 = .ok (.iconst 5, 1) := by decide +kernel
theorem dL_law_303 : decode cL_law 303 = .ok (.iadd, 1) := by decide +kernel
theorem dL_law_304 : decode cL_law 304 = .ok (.iaload, 1) := by decide +kernel
theorem dL_law_305 : decode cL_law 305 = .ok (.invokevirtual 26, 3) := by decide +kernel
theorem dL_law_308 : decode cL_law 308 = .ok (.if_icmp .eq 803, 3) := by decide +kernel
theorem dL_law_311 : decode cL_law 311 = .ok (.iconst 0, 1) := by decide +kernel
theorem dL_law_312 : decode cL_law 312 = .ok (.ireturn, 1) := by decide +kernel
theorem dL_law_313 : decode cL_law 313 = .ok (.aload_n 1, 1) := by decide +kernel
theorem dL_law_314 : decode cL_law 314 = .ok (.aload_n 0, 1) := by decide +kernel
theorem dL_law_315 : decode cL_law 315 = .ok (.iload_n 3, 1) := by decide +kernel
theorem dL_law_316 : decode cL_law 316 = .ok (.iconst 1, 1) := by decide +kernel
theorem dL_law_317 : decode cL_law 317 = .ok (.iadd, 1) := by decide +kernel
theorem dL_law_318 : decode cL_law 318 = .ok (.iaload, 1) := by decide +kernel
theorem dL_law_319 : decode cL_law 319 = .ok (.invokevirtual 27, 3) := by decide +kernel
theorem dL_law_322 : decode cL_law 322 = .ok (.aload_n 2, 1) := by decide +kernel
theorem dL_law_323 : decode cL_law 323 = .ok (.aload_n 0, 1) := by decide +kernel
theorem dL_law_324 : decode cL_law 324 = .ok (.iload_n 3, 1) := by decide +kernel
theorem dL_law_325 : decode cL_law 325 = .ok (.iconst 1, 1) := by decide +kernel
theorem dL_law_326 : decode cL_law 326 = .ok (.iadd, 1) := by decide +kernel
theorem dL_law_327 : decode cL_law 327 = .ok (.iaload, 1) := by decide +kernel
theorem dL_law_328 : decode cL_law 328 = .ok (.invokevirtual 31, 3) := by decide +kernel
theorem dL_law_331 : decode cL_law 331 = .ok (.if_icmp .eq 780, 3) := by decide +kernel
theorem dL_law_334 : decode cL_law 334 = .ok (.iconst 0, 1) := by decide +kernel
theorem dL_law_335 : decode cL_law 335 = .ok (.ireturn, 1) := by decide +kernel
theorem dL_law_336 : decode cL_law 336 = .ok (.aload_n 1, 1) := by decide +kernel
theorem dL_law_337 : decode cL_law 337 = .ok (.aload_n 0, 1) := by decide +kernel
theorem dL_law_338 : decode cL_law 338 = .ok (.iload_n 3, 1) := by decide +kernel
theorem dL_law_339 : decode cL_law 339 = .ok (.iconst 1, 1) := by decide +kernel
theorem dL_law_340 : decode cL_law 340 = .ok (.iadd, 1) := by decide +kernel
theorem dL_law_341 : decode cL_law 341 = .ok (.iaload, 1) := by decide +kernel
theorem dL_law_342 : decode cL_law 342 = .ok (.i2l, 1) := by decide +kernel
theorem dL_law_343 : decode cL_law 343 = .ok (.bipush 32, 2) := by decide +kernel
theorem dL_law_345 : decode cL_law 345 = .ok (.lshl, 1) := by decide +kernel
theorem dL_law_346 : decode cL_law 346 = .ok (.aload_n 0, 1) := by decide +kernel
theorem dL_law_347 : decode cL_law 347 = .ok (.iload_n 3, 1) := by decide +kernel
theorem dL_law_348 : decode cL_law 348 = .ok (.iconst 2, 1) := by decide +kernel
theorem dL_law_349 : decode cL_law 349 = .ok (.iadd, 1) := by decide +kernel
theorem dL_law_350 : decode cL_law 350 = .ok (.iaload, 1) := by decide +kernel
theorem dL_law_351 : decode cL_law 351 = .ok (.i2l, 1) := by decide +kernel
theorem dL_law_352 : decode cL_law 352 = .ok (.ldc2_w 32, 3) := by decide +kernel
theorem dL_law_355 : decode cL_law 355 = .ok (.land, 1) := by decide +kernel
theorem dL_law_356 : decode cL_law 356 = .ok (.lor, 1) := by decide +kernel
theorem dL_law_357 : decode cL_law 357 = .ok (.aload_n 0, 1) := by decide +kernel
theorem dL_law_358 : decode cL_law 358 = .ok (.iload_n 3, 1) := by decide +kernel
theorem dL_law_359 : decode cL_law 359 = .ok (.iconst 3, 1) := by decide +kernel
theorem dL_law_360 : decode cL_law 360 = .ok (.iadd, 1) := by decide +kernel
theorem dL_law_361 : decode cL_law 361 = .ok (.iaload, 1) := by decide +kernel
theorem dL_law_362 : decode cL_law 362 = .ok (.invokevirtual 34, 3) := by decide +kernel
theorem dL_law_365 : decode cL_law 365 = .ok (.aload_n 2, 1) := by decide +kernel
theorem dL_law_366 : decode cL_law 366 = .ok (.aload_n 0, 1) := by decide +kernel
theorem dL_law_367 : decode cL_law 367 = .ok (.iload_n 3, 1) := by decide +kernel
theorem dL_law_368 : decode cL_law 368 = .ok (.iconst 1, 1) := by decide +kernel
theorem dL_law_369 : decode cL_law 369 = .ok (.iadd, 1) := by decide +kernel
theorem dL_law_370 : decode cL_law 370 = .ok (.iaload, 1) := by decide +kernel
theorem dL_law_371 : decode cL_law 371 = .ok (.i2l, 1) := by decide +kernel
theorem dL_law_372 : decode cL_law 372 = .ok (.bipush 32, 2) := by decide +kernel
theorem dL_law_374 : decode cL_law 374 = .ok (.lshl, 1) := by decide +kernel
theorem dL_law_375 : decode cL_law 375 = .ok (.aload_n 0, 1) := by decide +kernel
theorem dL_law_376 : decode cL_law 376 = .ok (.iload_n 3, 1) := by decide +kernel
theorem dL_law_377 : decode cL_law 377 = .ok (.iconst 2, 1) := by decide +kernel
theorem dL_law_378 : decode cL_law 378 = .ok (.iadd, 1) := by decide +kernel
theorem dL_law_379 : decode cL_law 379 = .ok (.iaload, 1) := by decide +kernel
theorem dL_law_380 : decode cL_law 380 = .ok (.i2l, 1) := by decide +kernel
theorem dL_law_381 : decode cL_law 381 = .ok (.ldc2_w 32, 3) := by decide +kernel
theorem dL_law_384 : decode cL_law 384 = .ok (.land, 1) := by decide +kernel
theorem dL_law_385 : decode cL_law 385 = .ok (.lor, 1) := by decide +kernel
theorem dL_law_386 : decode cL_law 386 = .ok (.aload_n 0, 1) := by decide +kernel
theorem dL_law_387 : decode cL_law 387 = .ok (.iload_n 3, 1) := by decide +kernel
theorem dL_law_388 : decode cL_law 388 = .ok (.iconst 3, 1) := by decide +kernel
theorem dL_law_389 : decode cL_law 389 = .ok (.iadd, 1) := by decide +kernel
theorem dL_law_390 : decode cL_law 390 = .ok (.iaload, 1) := by decide +kernel
theorem dL_law_391 : decode cL_law 391 = .ok (.invokevirtual 38, 3) := by decide +kernel
theorem dL_law_394 : decode cL_law 394 = .ok (.if_icmp .eq 717, 3) := by decide +kernel
theorem dL_law_397 : decode cL_law 397 = .ok (.iconst 0, 1) := by decide +kernel
theorem dL_law_398 : decode cL_law 398 = .ok (.ireturn, 1) := by decide +kernel
theorem dL_law_399 : decode cL_law 399 = .ok (.aload_n 1, 1) := by decide +kernel
theorem dL_law_400 : decode cL_law 400 = .ok (.invokevirtual 39, 3) := by decide +kernel
theorem dL_law_403 : decode cL_law 403 = .ok (.aload_n 2, 1) := by decide +kernel
theorem dL_law_404 : decode cL_law 404 = .ok (.invokevirtual 43, 3) := by decide +kernel
theorem dL_law_407 : decode cL_law 407 = .ok (.if_icmp .eq 704, 3) := by decide +kernel
theorem dL_law_410 : decode cL_law 410 = .ok (.iconst 0, 1) := by decide +kernel
theorem dL_law_411 : decode cL_law 411 = .ok (.ireturn, 1) := by decide +kernel
theorem dL_law_412 : decode cL_law 412 = .ok (.aload_n 1, 1) := by decide +kernel
theorem dL_law_413 : decode cL_law 413 = .ok (.invokevirtual 44, 3) := by decide +kernel
theorem dL_law_416 : decode cL_law 416 = .ok (.aload_n 2, 1) := by decide +kernel
theorem dL_law_417 : decode cL_law 417 = .ok (.invokevirtual 47, 3) := by decide +kernel
theorem dL_law_420 : decode cL_law 420 = .ok (.if_icmp .eq 691, 3) := by decide +kernel
theorem dL_law_423 : decode cL_law 423 = .ok (.iconst 0, 1) := by decide +kernel
theorem dL_law_424 : decode cL_law 424 = .ok (.ireturn, 1) := by decide +kernel
theorem dL_law_425 : decode cL_law 425 = .ok (.aload_n 1, 1) := by decide +kernel
theorem dL_law_426 : decode cL_law 426 = .ok (.aload_n 0, 1) := by decide +kernel
theorem dL_law_427 : decode cL_law 427 = .ok (.iload_n 3, 1) := by decide +kernel
theorem dL_law_428 : decode cL_law 428 = .ok (.iconst 1, 1) := by decide +kernel
theorem dL_law_429 : decode cL_law 429 = .ok (.iadd, 1) := by decide +kernel
theorem dL_law_430 : decode cL_law 430 = .ok (.iaload, 1) := by decide +kernel
theorem dL_law_431 : decode cL_law 431 = .ok (.aload_n 0, 1) := by decide +kernel
theorem dL_law_432 : decode cL_law 432 = .ok (.iload_n 3, 1) := by decide +kernel
theorem dL_law_433 : decode cL_law 433 = .ok (.iconst 2, 1) := by decide +kernel
theorem dL_law_434 : decode cL_law 434 = .ok (.iadd, 1) := by decide +kernel
theorem dL_law_435 : decode cL_law 435 = .ok (.iaload, 1) := by decide +kernel
theorem dL_law_436 : decode cL_law 436 = .ok (.invokevirtual 48, 3) := by decide +kernel
theorem dL_law_439 : decode cL_law 439 = .ok (.aload_n 2, 1) := by decide +kernel
theorem dL_law_440 : decode cL_law 440 = .ok (.aload_n 0, 1) := by decide +kernel
theorem dL_law_441 : decode cL_law 441 = .ok (.iload_n 3, 1) := by decide +kernel
theorem dL_law_442 : decode cL_law 442 = .ok (.iconst 1, 1) := by decide +kernel
theorem dL_law_443 : decode cL_law 443 = .ok (.iadd, 1) := by decide +kernel
theorem dL_law_444 : decode cL_law 444 = .ok (.iaload, 1) := by decide +kernel
theorem dL_law_445 : decode cL_law 445 = .ok (.aload_n 0, 1) := by decide +kernel
theorem dL_law_446 : decode cL_law 446 = .ok (.iload_n 3, 1) := by decide +kernel
theorem dL_law_447 : decode cL_law 447 = .ok (.iconst 2, 1) := by decide +kernel
theorem dL_law_448 : decode cL_law 448 = .ok (.iadd, 1) := by decide +kernel
theorem dL_law_449 : decode cL_law 449 = .ok (.iaload, 1) := by decide +kernel
theorem dL_law_450 : decode cL_law 450 = .ok (.invokevirtual 52, 3) := by decide +kernel
theorem dL_law_453 : decode cL_law 453 = .ok (.if_icmp .eq 658, 3) := by decide +kernel
theorem dL_law_456 : decode cL_law 456 = .ok (.iconst 0, 1) := by decide +kernel
theorem dL_law_457 : decode cL_law 457 = .ok (.ireturn, 1) := by decide +kernel
theorem dL_law_458 : decode cL_law 458 = .ok (.aload_n 1, 1) := by decide +kernel
theorem dL_law_459 : decode cL_law 459 = .ok (.aload_n 0, 1) := by decide +kernel
theorem dL_law_460 : decode cL_law 460 = .ok (.iload_n 3, 1) := by decide +kernel
theorem dL_law_461 : decode cL_law 461 = .ok (.iconst 1, 1) := by decide +kernel
theorem dL_law_462 : decode cL_law 462 = .ok (.iadd, 1) := by decide +kernel
theorem dL_law_463 : decode cL_law 463 = .ok (.iaload, 1) := by decide +kernel
theorem dL_law_464 : decode cL_law 464 = .ok (.aload_n 0, 1) := by decide +kernel
theorem dL_law_465 : decode cL_law 465 = .ok (.iload_n 3, 1) := by decide +kernel
theorem dL_law_466 : decode cL_law 466 = .ok (.iconst 2, 1) := by decide +kernel
theorem dL_law_467 : decode cL_law 467 = .ok (.iadd, 1) := by decide +kernel
theorem dL_law_468 : decode cL_law 468 = .ok (.iaload, 1) := by decide +kernel
theorem dL_law_469 : decode cL_law 469 = .ok (.aload_n 0, 1) := by decide +kernel
theorem dL_law_470 : decode cL_law 470 = .ok (.iload_n 3, 1) := by decide +kernel
theorem dL_law_471 : decode cL_law 471 = .ok (.iconst 3, 1) := by decide +kernel
theorem dL_law_472 : decode cL_law 472 = .ok (.iadd, 1) := by decide +kernel
theorem dL_law_473 : decode cL_law 473 = .ok (.iaload, 1) := by decide +kernel
theorem dL_law_474 : decode cL_law 474 = .ok (.aload_n 0, 1) := by decide +kernel
theorem dL_law_475 : decode cL_law 475 = .ok (.iload_n 3, 1) := by decide +kernel
theorem dL_law_476 : decode cL_law 476 = .ok (.iconst 4, 1) := by decide +kernel
theorem dL_law_477 : decode cL_law 477 = .ok (.iadd, 1) := by decide +kernel
theorem dL_law_478 : decode cL_law 478 = .ok (.iaload, 1) := by decide +kernel
theorem dL_law_479 : decode cL_law 479 = .ok (.invokevirtual 53, 3) := by decide +kernel
theorem dL_law_482 : decode cL_law 482 = .ok (.aload_n 2, 1) := by decide +kernel
theorem dL_law_483 : decode cL_law 483 = .ok (.aload_n 0, 1) := by decide +kernel
theorem dL_law_484 : decode cL_law 484 = .ok (.iload_n 3, 1) := by decide +kernel
theorem dL_law_485 : decode cL_law 485 = .ok (.iconst 1, 1) := by decide +kernel
theorem dL_law_486 : decode cL_law 486 = .ok (.iadd, 1) := by decide +kernel
theorem dL_law_487 : decode cL_law 487 = .ok (.iaload, 1) := by decide +kernel
theorem dL_law_488 : decode cL_law 488 = .ok (.aload_n 0, 1) := by decide +kernel
theorem dL_law_489 : decode cL_law 489 = .ok (.iload_n 3, 1) := by decide +kernel
theorem dL_law_490 : decode cL_law 490 = .ok (.iconst 2, 1) := by decide +kernel
theorem dL_law_491 : decode cL_law 491 = .ok (.iadd, 1) := by decide +kernel
theorem dL_law_492 : decode cL_law 492 = .ok (.iaload, 1) := by decide +kernel
theorem dL_law_493 : decode cL_law 493 = .ok (.aload_n 0, 1) := by decide +kernel
theorem dL_law_494 : decode cL_law 494 = .ok (.iload_n 3, 1) := by decide +kernel
theorem dL_law_495 : decode cL_law 495 = .ok (.iconst 3, 1) := by decide +kernel
theorem dL_law_496 : decode cL_law 496 = .ok (.iadd, 1) := by decide +kernel
theorem dL_law_497 : decode cL_law 497 = .ok (.iaload, 1) := by decide +kernel
theorem dL_law_498 : decode cL_law 498 = .ok (.aload_n 0, 1) := by decide +kernel
theorem dL_law_499 : decode cL_law 499 = .ok (.iload_n 3, 1) := by decide +kernel
theorem dL_law_500 : decode cL_law 500 = .ok (.iconst 4, 1) := by decide +kernel
theorem dL_law_501 : decode cL_law 501 = .ok (.iadd, 1) := by decide +kernel
theorem dL_law_502 : decode cL_law 502 = .ok (.iaload, 1) := by decide +kernel
theorem dL_law_503 : decode cL_law 503 = .ok (.invokevirtual 57, 3) := by decide +kernel
theorem dL_law_506 : decode cL_law 506 = .ok (.if_icmp .eq 605, 3) := by decide +kernel
theorem dL_law_509 : decode cL_law 509 = .ok (.iconst 0, 1) := by decide +kernel
theorem dL_law_510 : decode cL_law 510 = .ok (.ireturn, 1) := by decide +kernel
theorem dL_law_511 : decode cL_law 511 = .ok (.aload_n 1, 1) := by decide +kernel
theorem dL_law_512 : decode cL_law 512 = .ok (.aload_n 0, 1) := by decide +kernel
theorem dL_law_513 : decode cL_law 513 = .ok (.iload_n 3, 1) := by decide +kernel
theorem dL_law_514 : decode cL_law 514 = .ok (.iconst 1, 1) := by decide +kernel
theorem dL_law_515 : decode cL_law 515 = .ok (.iadd, 1) := by decide +kernel
theorem dL_law_516 : decode cL_law 516 = .ok (.iaload, 1) := by decide +kernel
theorem dL_law_517 : decode cL_law 517 = .ok (.aload_n 0, 1) := by decide +kernel
theorem dL_law_518 : decode cL_law 518 = .ok (.iload_n 3, 1) := by decide +kernel
theorem dL_law_519 : decode cL_law 519 = .ok (.iconst 2, 1) := by decide +kernel
theorem dL_law_520 : decode cL_law 520 = .ok (.iadd, 1) := by decide +kernel
theorem dL_law_521 : decode cL_law 521 = .ok (.iaload, 1) := by decide +kernel
theorem dL_law_522 : decode cL_law 522 = .ok (.invokevirtual 58, 3) := by decide +kernel
theorem dL_law_525 : decode cL_law 525 = .ok (.aload_n 2, 1) := by decide +kernel
theorem dL_law_526 : decode cL_law 526 = .ok (.aload_n 0, 1) := by decide +kernel
theorem dL_law_527 : decode cL_law 527 = .ok (.iload_n 3, 1) := by decide +kernel
theorem dL_law_528 : decode cL_law 528 = .ok (.iconst 1, 1) := by decide +kernel
theorem dL_law_529 : decode cL_law 529 = .ok (.iadd, 1) := by decide +kernel
theorem dL_law_530 : decode cL_law 530 = .ok (.iaload, 1) := by decide +kernel
theorem dL_law_531 : decode cL_law 531 = .ok (.aload_n 0, 1) := by decide +kernel
theorem dL_law_532 : decode cL_law 532 = .ok (.iload_n 3, 1) := by decide +kernel
theorem dL_law_533 : decode cL_law 533 = .ok (.iconst 2, 1) := by decide +kernel
theorem dL_law_534 : decode cL_law 534 = .ok (.iadd, 1) := by decide +kernel
theorem dL_law_535 : decode cL_law 535 = .ok (.iaload, 1) := by decide +kernel
theorem dL_law_536 : decode cL_law 536 = .ok (.invokevirtual 61, 3) := by decide +kernel
theorem dL_law_539 : decode cL_law 539 = .ok (.if_icmp .eq 572, 3) := by decide +kernel
theorem dL_law_542 : decode cL_law 542 = .ok (.iconst 0, 1) := by decide +kernel
theorem dL_law_543 : decode cL_law 543 = .ok (.ireturn, 1) := by decide +kernel
theorem dL_law_544 : decode cL_law 544 = .ok (.aload_n 1, 1) := by decide +kernel
theorem dL_law_545 : decode cL_law 545 = .ok (.aload_n 0, 1) := by decide +kernel
theorem dL_law_546 : decode cL_law 546 = .ok (.iload_n 3, 1) := by decide +kernel
theorem dL_law_547 : decode cL_law 547 = .ok (.iconst 1, 1) := by decide +kernel
theorem dL_law_548 : decode cL_law 548 = .ok (.iadd, 1) := by decide +kernel
theorem dL_law_549 : decode cL_law 549 = .ok (.iaload, 1) := by decide +kernel
theorem dL_law_550 : decode cL_law 550 = .ok (.aload_n 0, 1) := by decide +kernel
theorem dL_law_551 : decode cL_law 551 = .ok (.iload_n 3, 1) := by decide +kernel
theorem dL_law_552 : decode cL_law 552 = .ok (.iconst 2, 1) := by decide +kernel
theorem dL_law_553 : decode cL_law 553 = .ok (.iadd, 1) := by decide +kernel
theorem dL_law_554 : decode cL_law 554 = .ok (.iaload, 1) := by decide +kernel
theorem dL_law_555 : decode cL_law 555 = .ok (.invokevirtual 62, 3) := by decide +kernel
theorem dL_law_558 : decode cL_law 558 = .ok (.aload_n 2, 1) := by decide +kernel
theorem dL_law_559 : decode cL_law 559 = .ok (.aload_n 0, 1) := by decide +kernel
theorem dL_law_560 : decode cL_law 560 = .ok (.iload_n 3, 1) := by decide +kernel
theorem dL_law_561 : decode cL_law 561 = .ok (.iconst 1, 1) := by decide +kernel
theorem dL_law_562 : decode cL_law 562 = .ok (.iadd, 1) := by decide +kernel
theorem dL_law_563 : decode cL_law 563 = .ok (.iaload, 1) := by decide +kernel
theorem dL_law_564 : decode cL_law 564 = .ok (.aload_n 0, 1) := by decide +kernel
theorem dL_law_565 : decode cL_law 565 = .ok (.iload_n 3, 1) := by decide +kernel
theorem dL_law_566 : decode cL_law 566 = .ok (.iconst 2, 1) := by decide +kernel
theorem dL_law_567 : decode cL_law 567 = .ok (.iadd, 1) := by decide +kernel
theorem dL_law_568 : decode cL_law 568 = .ok (.iaload, 1) := by decide +kernel
theorem dL_law_569 : decode cL_law 569 = .ok (.invokevirtual 65, 3) := by decide +kernel
theorem dL_law_572 : decode cL_law 572 = .ok (.if_icmp .eq 539, 3) := by decide +kernel
theorem dL_law_575 : decode cL_law 575 = .ok (.iconst 0, 1) := by decide +kernel
theorem dL_law_576 : decode cL_law 576 = .ok (.ireturn, 1) := by decide +kernel
theorem dL_law_577 : decode cL_law 577 = .ok (.aload_n 1, 1) := by decide +kernel
theorem dL_law_578 : decode cL_law 578 = .ok (.aload_n 0, 1) := by decide +kernel
theorem dL_law_579 : decode cL_law 579 = .ok (.iload_n 3, 1) := by decide +kernel
theorem dL_law_580 : decode cL_law 580 = .ok (.iconst 1, 1) := by decide +kernel
theorem dL_law_581 : decode cL_law 581 = .ok (.iadd, 1) := by decide +kernel
theorem dL_law_582 : decode cL_law 582 = .ok (.iaload, 1) := by decide +kernel
theorem dL_law_583 : decode cL_law 583 = .ok (.aload_n 0, 1) := by decide +kernel
theorem dL_law_584 : decode cL_law 584 = .ok (.iload_n 3, 1) := by decide +kernel
theorem dL_law_585 : decode cL_law 585 = .ok (.iconst 2, 1) := by decide +kernel
theorem dL_law_586 : decode cL_law 586 = .ok (.iadd, 1) := by decide +kernel
theorem dL_law_587 : decode cL_law 587 = .ok (.iaload, 1) := by decide +kernel
theorem dL_law_588 : decode cL_law 588 = .ok (.invokevirtual 66, 3) := by decide +kernel
theorem dL_law_591 : decode cL_law 591 = .ok (.aload_n 2, 1) := by decide +kernel
theorem dL_law_592 : decode cL_law 592 = .ok (.aload_n 0, 1) := by decide +kernel
theorem dL_law_593 : decode cL_law 593 = .ok (.iload_n 3, 1) := by decide +kernel
theorem dL_law_594 : decode cL_law 594 = .ok (.iconst 1, 1) := by decide +kernel
theorem dL_law_595 : decode cL_law 595 = .ok (.iadd, 1) := by decide +kernel
theorem dL_law_596 : decode cL_law 596 = .ok (.iaload, 1) := by decide +kernel
theorem dL_law_597 : decode cL_law 597 = .ok (.aload_n 0, 1) := by decide +kernel
theorem dL_law_598 : decode cL_law 598 = .ok (.iload_n 3, 1) := by decide +kernel
theorem dL_law_599 : decode cL_law 599 = .ok (.iconst 2, 1) := by decide +kernel
theorem dL_law_600 : decode cL_law 600 = .ok (.iadd, 1) := by decide +kernel
theorem dL_law_601 : decode cL_law 601 = .ok (.iaload, 1) := by decide +kernel
theorem dL_law_602 : decode cL_law 602 = .ok (.invokevirtual 69, 3) := by decide +kernel
theorem dL_law_605 : decode cL_law 605 = .ok (.if_icmp .eq 506, 3) := by decide +kernel
theorem dL_law_608 : decode cL_law 608 = .ok (.iconst 0, 1) := by decide +kernel
theorem dL_law_609 : decode cL_law 609 = .ok (.ireturn, 1) := by decide +kernel
theorem dL_law_610 : decode cL_law 610 = .ok (.aload_n 1, 1) := by decide +kernel
theorem dL_law_611 : decode cL_law 611 = .ok (.invokevirtual 70, 3) := by decide +kernel
theorem dL_law_614 : decode cL_law 614 = .ok (.aload_n 2, 1) := by decide +kernel
theorem dL_law_615 : decode cL_law 615 = .ok (.invokevirtual 73, 3) := by decide +kernel
theorem dL_law_618 : decode cL_law 618 = .ok (.if_icmp .eq 493, 3) := by decide +kernel
theorem dL_law_621 : decode cL_law 621 = .ok (.iconst 0, 1) := by decide +kernel
theorem dL_law_622 : decode cL_law 622 = .ok (.ireturn, 1) := by decide +kernel
theorem dL_law_623 : decode cL_law 623 = .ok (.aload_n 1, 1) := by decide +kernel
theorem dL_law_624 : decode cL_law 624 = .ok (.aload_n 0, 1) := by decide +kernel
theorem dL_law_625 : decode cL_law 625 = .ok (.iload_n 3, 1) := by decide +kernel
theorem dL_law_626 : decode cL_law 626 = .ok (.iconst 1, 1) := by decide +kernel
theorem dL_law_627 : decode cL_law 627 = .ok (.iadd, 1) := by decide +kernel
theorem dL_law_628 : decode cL_law 628 = .ok (.iaload, 1) := by decide +kernel
theorem dL_law_629 : decode cL_law 629 = .ok (.aload_n 0, 1) := by decide +kernel
theorem dL_law_630 : decode cL_law 630 = .ok (.iload_n 3, 1) := by decide +kernel
theorem dL_law_631 : decode cL_law 631 = .ok (.iconst 2, 1) := by decide +kernel
theorem dL_law_632 : decode cL_law 632 = .ok (.iadd, 1) := by decide +kernel
theorem dL_law_633 : decode cL_law 633 = .ok (.iaload, 1) := by decide +kernel
theorem dL_law_634 : decode cL_law 634 = .ok (.invokevirtual 74, 3) := by decide +kernel
theorem dL_law_637 : decode cL_law 637 = .ok (.aload_n 2, 1) := by decide +kernel
theorem dL_law_638 : decode cL_law 638 = .ok (.aload_n 0, 1) := by decide +kernel
theorem dL_law_639 : decode cL_law 639 = .ok (.iload_n 3, 1) := by decide +kernel
theorem dL_law_640 : decode cL_law 640 = .ok (.iconst 1, 1) := by decide +kernel
theorem dL_law_641 : decode cL_law 641 = .ok (.iadd, 1) := by decide +kernel
theorem dL_law_642 : decode cL_law 642 = .ok (.iaload, 1) := by decide +kernel
theorem dL_law_643 : decode cL_law 643 = .ok (.aload_n 0, 1) := by decide +kernel
theorem dL_law_644 : decode cL_law 644 = .ok (.iload_n 3, 1) := by decide +kernel
theorem dL_law_645 : decode cL_law 645 = .ok (.iconst 2, 1) := by decide +kernel
theorem dL_law_646 : decode cL_law 646 = .ok (.iadd, 1) := by decide +kernel
theorem dL_law_647 : decode cL_law 647 = .ok (.iaload, 1) := by decide +kernel
theorem dL_law_648 : decode cL_law 648 = .ok (.invokevirtual 77, 3) := by decide +kernel
theorem dL_law_651 : decode cL_law 651 = .ok (.if_icmp .eq 460, 3) := by decide +kernel
theorem dL_law_654 : decode cL_law 654 = .ok (.iconst 0, 1) := by decide +kernel
theorem dL_law_655 : decode cL_law 655 = .ok (.ireturn, 1) := by decide +kernel
theorem dL_law_656 : decode cL_law 656 = .ok (.aload_n 1, 1) := by decide +kernel
theorem dL_law_657 : decode cL_law 657 = .ok (.aload_n 0, 1) := by decide +kernel
theorem dL_law_658 : decode cL_law 658 = .ok (.iload_n 3, 1) := by decide +kernel
theorem dL_law_659 : decode cL_law 659 = .ok (.iconst 1, 1) := by decide +kernel
theorem dL_law_660 : decode cL_law 660 = .ok (.iadd, 1) := by decide +kernel
theorem dL_law_661 : decode cL_law 661 = .ok (.iaload, 1) := by decide +kernel
theorem dL_law_662 : decode cL_law 662 = .ok (.aload_n 0, 1) := by decide +kernel
theorem dL_law_663 : decode cL_law 663 = .ok (.iload_n 3, 1) := by decide +kernel
theorem dL_law_664 : decode cL_law 664 = .ok (.iconst 2, 1) := by decide +kernel
theorem dL_law_665 : decode cL_law 665 = .ok (.iadd, 1) := by decide +kernel
theorem dL_law_666 : decode cL_law 666 = .ok (.iaload, 1) := by decide +kernel
theorem dL_law_667 : decode cL_law 667 = .ok (.aload_n 0, 1) := by decide +kernel
theorem dL_law_668 : decode cL_law 668 = .ok (.iload_n 3, 1) := by decide +kernel
theorem dL_law_669 : decode cL_law 669 = .ok (.iconst 3, 1) := by decide +kernel
theorem dL_law_670 : decode cL_law 670 = .ok (.iadd, 1) := by decide +kernel
theorem dL_law_671 : decode cL_law 671 = .ok (.iaload, 1) := by decide +kernel
theorem dL_law_672 : decode cL_law 672 = .ok (.aload_n 0, 1) := by decide +kernel
theorem dL_law_673 : decode cL_law 673 = .ok (.iload_n 3, 1) := by decide +kernel
theorem dL_law_674 : decode cL_law 674 = .ok (.iconst 4, 1) := by decide +kernel
theorem dL_law_675 : decode cL_law 675 = .ok (.iadd, 1) := by decide +kernel
theorem dL_law_676 : decode cL_law 676 = .ok (.iaload, 1) := by decide +kernel
theorem dL_law_677 : decode cL_law 677 = .ok (.invokevirtual 78, 3) := by decide +kernel
theorem dL_law_680 : decode cL_law 680 = .ok (.aload_n 2, 1) := by decide +kernel
theorem dL_law_681 : decode cL_law 681 = .ok (.aload_n 0, 1) := by decide +kernel
theorem dL_law_682 : decode cL_law 682 = .ok (.iload_n 3, 1) := by decide +kernel
theorem dL_law_683 : decode cL_law 683 = .ok (.iconst 1, 1) := by decide +kernel
theorem dL_law_684 : decode cL_law 684 = .ok (.iadd, 1) := by decide +kernel
theorem dL_law_685 : decode cL_law 685 = .ok (.iaload, 1) := by decide +kernel
theorem dL_law_686 : decode cL_law 686 = .ok (.aload_n 0, 1) := by decide +kernel
theorem dL_law_687 : decode cL_law 687 = .ok (.iload_n 3, 1) := by decide +kernel
theorem dL_law_688 : decode cL_law 688 = .ok (.iconst 2, 1) := by decide +kernel
theorem dL_law_689 : decode cL_law 689 = .ok (.iadd, 1) := by decide +kernel
theorem dL_law_690 : decode cL_law 690 = .ok (.iaload, 1) := by decide +kernel
theorem dL_law_691 : decode cL_law 691 = .ok (.aload_n 0, 1) := by decide +kernel
theorem dL_law_692 : decode cL_law 692 = .ok (.iload_n 3, 1) := by decide +kernel
theorem dL_law_693 : decode cL_law 693 = .ok (.iconst 3, 1) := by decide +kernel
theorem dL_law_694 : decode cL_law 694 = .ok (.iadd, 1) := by decide +kernel
theorem dL_law_695 : decode cL_law 695 = .ok (.iaload, 1) := by decide +kernel
theorem dL_law_696 : decode cL_law 696 = .ok (.aload_n 0, 1) := by decide +kernel
theorem dL_law_697 : decode cL_law 697 = .ok (.iload_n 3, 1) := by decide +kernel
theorem dL_law_698 : decode cL_law 698 = .ok (.iconst 4, 1) := by decide +kernel
theorem dL_law_699 : decode cL_law 699 = .ok (.iadd, 1) := by decide +kernel
theorem dL_law_700 : decode cL_law 700 = .ok (.iaload, 1) := by decide +kernel
theorem dL_law_701 : decode cL_law 701 = .ok (.invokevirtual 81, 3) := by decide +kernel
theorem dL_law_704 : decode cL_law 704 = .ok (.if_icmp .eq 407, 3) := by decide +kernel
theorem dL_law_707 : decode cL_law 707 = .ok (.iconst 0, 1) := by decide +kernel
theorem dL_law_708 : decode cL_law 708 = .ok (.ireturn, 1) := by decide +kernel
theorem dL_law_709 : decode cL_law 709 = .ok (.aload_n 1, 1) := by decide +kernel
theorem dL_law_710 : decode cL_law 710 = .ok (.aload_n 0, 1) := by decide +kernel
theorem dL_law_711 : decode cL_law 711 = .ok (.iload_n 3, 1) := by decide +kernel
theorem dL_law_712 : decode cL_law 712 = .ok (.iconst 1, 1) := by decide +kernel
theorem dL_law_713 : decode cL_law 713 = .ok (.iadd, 1) := by decide +kernel
theorem dL_law_714 : decode cL_law 714 = .ok (.iaload, 1) := by decide +kernel
theorem dL_law_715 : decode cL_law 715 = .ok (.aload_n 0, 1) := by decide +kernel
theorem dL_law_716 : decode cL_law 716 = .ok (.iload_n 3, 1) := by decide +kernel
theorem dL_law_717 : decode cL_law 717 = .ok (.iconst 2, 1) := by decide +kernel
theorem dL_law_718 : decode cL_law 718 = .ok (.iadd, 1) := by decide +kernel
theorem dL_law_719 : decode cL_law 719 = .ok (.iaload, 1) := by decide +kernel
theorem dL_law_720 : decode cL_law 720 = .ok (.aload_n 0, 1) := by decide +kernel
theorem dL_law_721 : decode cL_law 721 = .ok (.iload_n 3, 1) := by decide +kernel
theorem dL_law_722 : decode cL_law 722 = .ok (.iconst 3, 1) := by decide +kernel
theorem dL_law_723 : decode cL_law 723 = .ok (.iadd, 1) := by decide +kernel
theorem dL_law_724 : decode cL_law 724 = .ok (.iaload, 1) := by decide +kernel
theorem dL_law_725 : decode cL_law 725 = .ok (.invokevirtual 82, 3) := by decide +kernel
theorem dL_law_728 : decode cL_law 728 = .ok (.aload_n 2, 1) := by decide +kernel
theorem dL_law_729 : decode cL_law 729 = .ok (.aload_n 0, 1) := by decide +kernel
theorem dL_law_730 : decode cL_law 730 = .ok (.iload_n 3, 1) := by decide +kernel
theorem dL_law_731 : decode cL_law 731 = .ok (.iconst 1, 1) := by decide +kernel
theorem dL_law_732 : decode cL_law 732 = .ok (.iadd, 1) := by decide +kernel
theorem dL_law_733 : decode cL_law 733 = .ok (.iaload, 1) := by decide +kernel
theorem dL_law_734 : decode cL_law 734 = .ok (.aload_n 0, 1) := by decide +kernel
theorem dL_law_735 : decode cL_law 735 = .ok (.iload_n 3, 1) := by decide +kernel
theorem dL_law_736 : decode cL_law 736 = .ok (.iconst 2, 1) := by decide +kernel
theorem dL_law_737 : decode cL_law 737 = .ok (.iadd, 1) := by decide +kernel
theorem dL_law_738 : decode cL_law 738 = .ok (.iaload, 1) := by decide +kernel
theorem dL_law_739 : decode cL_law 739 = .ok (.aload_n 0, 1) := by decide +kernel
theorem dL_law_740 : decode cL_law 740 = .ok (.iload_n 3, 1) := by decide +kernel
theorem dL_law_741 : decode cL_law 741 = .ok (.iconst 3, 1) := by decide +kernel
theorem dL_law_742 : decode cL_law 742 = .ok (.iadd, 1) := by decide +kernel
theorem dL_law_743 : decode cL_law 743 = .ok (.iaload, 1) := by decide +kernel
theorem dL_law_744 : decode cL_law 744 = .ok (.invokevirtual 85, 3) := by decide +kernel
theorem dL_law_747 : decode cL_law 747 = .ok (.if_icmp .eq 364, 3) := by decide +kernel
theorem dL_law_750 : decode cL_law 750 = .ok (.iconst 0, 1) := by decide +kernel
theorem dL_law_751 : decode cL_law 751 = .ok (.ireturn, 1) := by decide +kernel
theorem dL_law_752 : decode cL_law 752 = .ok (.aload_n 1, 1) := by decide +kernel
theorem dL_law_753 : decode cL_law 753 = .ok (.aload_n 0, 1) := by decide +kernel
theorem dL_law_754 : decode cL_law 754 = .ok (.iload_n 3, 1) := by decide +kernel
theorem dL_law_755 : decode cL_law 755 = .ok (.iconst 1, 1) := by decide +kernel
theorem dL_law_756 : decode cL_law 756 = .ok (.iadd, 1) := by decide +kernel
theorem dL_law_757 : decode cL_law 757 = .ok (.iaload, 1) := by decide +kernel
theorem dL_law_758 : decode cL_law 758 = .ok (.aload_n 0, 1) := by decide +kernel
theorem dL_law_759 : decode cL_law 759 = .ok (.iload_n 3, 1) := by decide +kernel
theorem dL_law_760 : decode cL_law 760 = .ok (.iconst 2, 1) := by decide +kernel
theorem dL_law_761 : decode cL_law 761 = .ok (.iadd, 1) := by decide +kernel
theorem dL_law_762 : decode cL_law 762 = .ok (.iaload, 1) := by decide +kernel
theorem dL_law_763 : decode cL_law 763 = .ok (.invokevirtual 86, 3) := by decide +kernel
theorem dL_law_766 : decode cL_law 766 = .ok (.aload_n 2, 1) := by decide +kernel
theorem dL_law_767 : decode cL_law 767 = .ok (.aload_n 0, 1) := by decide +kernel
theorem dL_law_768 : decode cL_law 768 = .ok (.iload_n 3, 1) := by decide +kernel
theorem dL_law_769 : decode cL_law 769 = .ok (.iconst 1, 1) := by decide +kernel
theorem dL_law_770 : decode cL_law 770 = .ok (.iadd, 1) := by decide +kernel
theorem dL_law_771 : decode cL_law 771 = .ok (.iaload, 1) := by decide +kernel
theorem dL_law_772 : decode cL_law 772 = .ok (.aload_n 0, 1) := by decide +kernel
theorem dL_law_773 : decode cL_law 773 = .ok (.iload_n 3, 1) := by decide +kernel
theorem dL_law_774 : decode cL_law 774 = .ok (.iconst 2, 1) := by decide +kernel
theorem dL_law_775 : decode cL_law 775 = .ok (.iadd, 1) := by decide +kernel
theorem dL_law_776 : decode cL_law 776 = .ok (.iaload, 1) := by decide +kernel
theorem dL_law_777 : decode cL_law 777 = .ok (.invokevirtual 89, 3) := by decide +kernel
theorem dL_law_780 : decode cL_law 780 = .ok (.if_icmp .eq 331, 3) := by decide +kernel
theorem dL_law_783 : decode cL_law 783 = .ok (.iconst 0, 1) := by decide +kernel
theorem dL_law_784 : decode cL_law 784 = .ok (.ireturn, 1) := by decide +kernel
theorem dL_law_785 : decode cL_law 785 = .ok (.aload_n 1, 1) := by decide +kernel
theorem dL_law_786 : decode cL_law 786 = .ok (.aload_n 0, 1) := by decide +kernel
theorem dL_law_787 : decode cL_law 787 = .ok (.iload_n 3, 1) := by decide +kernel
theorem dL_law_788 : decode cL_law 788 = .ok (.iconst 1, 1) := by decide +kernel
theorem dL_law_789 : decode cL_law 789 = .ok (.iadd, 1) := by decide +kernel
theorem dL_law_790 : decode cL_law 790 = .ok (.iaload, 1) := by decide +kernel
theorem dL_law_791 : decode cL_law 791 = .ok (.aload_n 0, 1) := by decide +kernel
theorem dL_law_792 : decode cL_law 792 = .ok (.iload_n 3, 1) := by decide +kernel
theorem dL_law_793 : decode cL_law 793 = .ok (.iconst 2, 1) := by decide +kernel
theorem dL_law_794 : decode cL_law 794 = .ok (.iadd, 1) := by decide +kernel
theorem dL_law_795 : decode cL_law 795 = .ok (.iaload, 1) := by decide +kernel
theorem dL_law_796 : decode cL_law 796 = .ok (.aload_n 0, 1) := by decide +kernel
theorem dL_law_797 : decode cL_law 797 = .ok (.iload_n 3, 1) := by decide +kernel
theorem dL_law_798 : decode cL_law 798 = .ok (.iconst 3, 1) := by decide +kernel
theorem dL_law_799 : decode cL_law 799 = .ok (.iadd, 1) := by decide +kernel
theorem dL_law_800 : decode cL_law 800 = .ok (.iaload, 1) := by decide +kernel
theorem dL_law_801 : decode cL_law 801 = .ok (.invokevirtual 90, 3) := by decide +kernel
theorem dL_law_804 : decode cL_law 804 = .ok (.aload_n 2, 1) := by decide +kernel
theorem dL_law_805 : decode cL_law 805 = .ok (.aload_n 0, 1) := by decide +kernel
theorem dL_law_806 : decode cL_law 806 = .ok (.iload_n 3, 1) := by decide +kernel
theorem dL_law_807 : decode cL_law 807 = .ok (.iconst 1, 1) := by decide +kernel
theorem dL_law_808 : decode cL_law 808 = .ok (.iadd, 1) := by decide +kernel
theorem dL_law_809 : decode cL_law 809 = .ok (.iaload, 1) := by decide +kernel
theorem dL_law_810 : decode cL_law 810 = .ok (.aload_n 0, 1) := by decide +kernel
theorem dL_law_811 : decode cL_law 811 = .ok (.iload_n 3, 1) := by decide +kernel
theorem dL_law_812 : decode cL_law 812 = .ok (.iconst 2, 1) := by decide +kernel
theorem dL_law_813 : decode cL_law 813 = .ok (.iadd, 1) := by decide +kernel
theorem dL_law_814 : decode cL_law 814 = .ok (.iaload, 1) := by decide +kernel
theorem dL_law_815 : decode cL_law 815 = .ok (.aload_n 0, 1) := by decide +kernel
theorem dL_law_816 : decode cL_law 816 = .ok (.iload_n 3, 1) := by decide +kernel
theorem dL_law_817 : decode cL_law 817 = .ok (.iconst 3, 1) := by decide +kernel
theorem dL_law_818 : decode cL_law 818 = .ok (.iadd, 1) := by decide +kernel
theorem dL_law_819 : decode cL_law 819 = .ok (.iaload, 1) := by decide +kernel
theorem dL_law_820 : decode cL_law 820 = .ok (.invokevirtual 93, 3) := by decide +kernel
theorem dL_law_823 : decode cL_law 823 = .ok (.if_icmp .eq 288, 3) := by decide +kernel
theorem dL_law_826 : decode cL_law 826 = .ok (.iconst 0, 1) := by decide +kernel
theorem dL_law_827 : decode cL_law 827 = .ok (.ireturn, 1) := by decide +kernel
theorem dL_law_828 : decode cL_law 828 = .ok (.aload_n 1, 1) := by decide +kernel
theorem dL_law_829 : decode cL_law 829 = .ok (.aload_n 0, 1) := by decide +kernel
theorem dL_law_830 : decode cL_law 830 = .ok (.iload_n 3, 1) := by decide +kernel
theorem dL_law_831 : decode cL_law 831 = .ok (.iconst 1, 1) := by decide +kernel
theorem dL_law_832 : decode cL_law 832 = .ok (.iadd, 1) := by decide +kernel
theorem dL_law_833 : decode cL_law 833 = .ok (.iaload, 1) := by decide +kernel
theorem dL_law_834 : decode cL_law 834 = .ok (.aload_n 0, 1) := by decide +kernel
theorem dL_law_835 : decode cL_law 835 = .ok (.iload_n 3, 1) := by decide +kernel
theorem dL_law_836 : decode cL_law 836 = .ok (.iconst 2, 1) := by decide +kernel
theorem dL_law_837 : decode cL_law 837 = .ok (.iadd, 1) := by decide +kernel
theorem dL_law_838 : decode cL_law 838 = .ok (.iaload, 1) := by decide +kernel
theorem dL_law_839 : decode cL_law 839 = .ok (.aload_n 0, 1) := by decide +kernel
theorem dL_law_840 : decode cL_law 840 = .ok (.iload_n 3, 1) := by decide +kernel
theorem dL_law_841 : decode cL_law 841 = .ok (.iconst 3, 1) := by decide +kernel
theorem dL_law_842 : decode cL_law 842 = .ok (.iadd, 1) := by decide +kernel
theorem dL_law_843 : decode cL_law 843 = .ok (.iaload, 1) := by decide +kernel
theorem dL_law_844 : decode cL_law 844 = .ok (.invokevirtual 94, 3) := by decide +kernel
theorem dL_law_847 : decode cL_law 847 = .ok (.aload_n 2, 1) := by decide +kernel
theorem dL_law_848 : decode cL_law 848 = .ok (.aload_n 0, 1) := by decide +kernel
theorem dL_law_849 : decode cL_law 849 = .ok (.iload_n 3, 1) := by decide +kernel
theorem dL_law_850 : decode cL_law 850 = .ok (.iconst 1, 1) := by decide +kernel
theorem dL_law_851 : decode cL_law 851 = .ok (.iadd, 1) := by decide +kernel
theorem dL_law_852 : decode cL_law 852 = .ok (.iaload, 1) := by decide +kernel
theorem dL_law_853 : decode cL_law 853 = .ok (.aload_n 0, 1) := by decide +kernel
theorem dL_law_854 : decode cL_law 854 = .ok (.iload_n 3, 1) := by decide +kernel
theorem dL_law_855 : decode cL_law 855 = .ok (.iconst 2, 1) := by decide +kernel
theorem dL_law_856 : decode cL_law 856 = .ok (.iadd, 1) := by decide +kernel
theorem dL_law_857 : decode cL_law 857 = .ok (.iaload, 1) := by decide +kernel
theorem dL_law_858 : decode cL_law 858 = .ok (.aload_n 0, 1) := by decide +kernel
theorem dL_law_859 : decode cL_law 859 = .ok (.iload_n 3, 1) := by decide +kernel
theorem dL_law_860 : decode cL_law 860 = .ok (.iconst 3, 1) := by decide +kernel
theorem dL_law_861 : decode cL_law 861 = .ok (.iadd, 1) := by decide +kernel
theorem dL_law_862 : decode cL_law 862 = .ok (.iaload, 1) := by decide +kernel
theorem dL_law_863 : decode cL_law 863 = .ok (.invokevirtual 97, 3) := by decide +kernel
theorem dL_law_866 : decode cL_law 866 = .ok (.if_icmp .eq 245, 3) := by decide +kernel
theorem dL_law_869 : decode cL_law 869 = .ok (.iconst 0, 1) := by decide +kernel
theorem dL_law_870 : decode cL_law 870 = .ok (.ireturn, 1) := by decide +kernel
theorem dL_law_871 : decode cL_law 871 = .ok (.aload_n 1, 1) := by decide +kernel
theorem dL_law_872 : decode cL_law 872 = .ok (.aload_n 0, 1) := by decide +kernel
theorem dL_law_873 : decode cL_law 873 = .ok (.iload_n 3, 1) := by decide +kernel
theorem dL_law_874 : decode cL_law 874 = .ok (.iconst 1, 1) := by decide +kernel
theorem dL_law_875 : decode cL_law 875 = .ok (.iadd, 1) := by decide +kernel
theorem dL_law_876 : decode cL_law 876 = .ok (.iaload, 1) := by decide +kernel
theorem dL_law_877 : decode cL_law 877 = .ok (.invokevirtual 98, 3) := by decide +kernel
theorem dL_law_880 : decode cL_law 880 = .ok (.aload_n 2, 1) := by decide +kernel
theorem dL_law_881 : decode cL_law 881 = .ok (.aload_n 0, 1) := by decide +kernel
theorem dL_law_882 : decode cL_law 882 = .ok (.iload_n 3, 1) := by decide +kernel
theorem dL_law_883 : decode cL_law 883 = .ok (.iconst 1, 1) := by decide +kernel
theorem dL_law_884 : decode cL_law 884 = .ok (.iadd, 1) := by decide +kernel
theorem dL_law_885 : decode cL_law 885 = .ok (.iaload, 1) := by decide +kernel
theorem dL_law_886 : decode cL_law 886 = .ok (.invokevirtual 101, 3) := by decide +kernel
theorem dL_law_889 : decode cL_law 889 = .ok (.if_icmp .eq 222, 3) := by decide +kernel
theorem dL_law_892 : decode cL_law 892 = .ok (.iconst 0, 1) := by decide +kernel
theorem dL_law_893 : decode cL_law 893 = .ok (.ireturn, 1) := by decide +kernel
theorem dL_law_894 : decode cL_law 894 = .ok (.aload_n 1, 1) := by decide +kernel
theorem dL_law_895 : decode cL_law 895 = .ok (.aload_n 0, 1) := by decide +kernel
theorem dL_law_896 : decode cL_law 896 = .ok (.iload_n 3, 1) := by decide +kernel
theorem dL_law_897 : decode cL_law 897 = .ok (.iconst 1, 1) := by decide +kernel
theorem dL_law_898 : decode cL_law 898 = .ok (.iadd, 1) := by decide +kernel
theorem dL_law_899 : decode cL_law 899 = .ok (.iaload, 1) := by decide +kernel
theorem dL_law_900 : decode cL_law 900 = .ok (.invokevirtual 102, 3) := by decide +kernel
theorem dL_law_903 : decode cL_law 903 = .ok (.aload_n 2, 1) := by decide +kernel
theorem dL_law_904 : decode cL_law 904 = .ok (.aload_n 0, 1) := by decide +kernel
theorem dL_law_905 : decode cL_law 905 = .ok (.iload_n 3, 1) := by decide +kernel
theorem dL_law_906 : decode cL_law 906 = .ok (.iconst 1, 1) := by decide +kernel
theorem dL_law_907 : decode cL_law 907 = .ok (.iadd, 1) := by decide +kernel
theorem dL_law_908 : decode cL_law 908 = .ok (.iaload, 1) := by decide +kernel
theorem dL_law_909 : decode cL_law 909 = .ok (.invokevirtual 105, 3) := by decide +kernel
theorem dL_law_912 : decode cL_law 912 = .ok (.if_icmp .eq 199, 3) := by decide +kernel
theorem dL_law_915 : decode cL_law 915 = .ok (.iconst 0, 1) := by decide +kernel
theorem dL_law_916 : decode cL_law 916 = .ok (.ireturn, 1) := by decide +kernel
theorem dL_law_917 : decode cL_law 917 = .ok (.aload_n 1, 1) := by decide +kernel
theorem dL_law_918 : decode cL_law 918 = .ok (.aload_n 0, 1) := by decide +kernel
theorem dL_law_919 : decode cL_law 919 = .ok (.iload_n 3, 1) := by decide +kernel
theorem dL_law_920 : decode cL_law 920 = .ok (.iconst 1, 1) := by decide +kernel
theorem dL_law_921 : decode cL_law 921 = .ok (.iadd, 1) := by decide +kernel
theorem dL_law_922 : decode cL_law 922 = .ok (.iaload, 1) := by decide +kernel
theorem dL_law_923 : decode cL_law 923 = .ok (.invokevirtual 106, 3) := by decide +kernel
theorem dL_law_926 : decode cL_law 926 = .ok (.aload_n 2, 1) := by decide +kernel
theorem dL_law_927 : decode cL_law 927 = .ok (.aload_n 0, 1) := by decide +kernel
theorem dL_law_928 : decode cL_law 928 = .ok (.iload_n 3, 1) := by decide +kernel
theorem dL_law_929 : decode cL_law 929 = .ok (.iconst 1, 1) := by decide +kernel
theorem dL_law_930 : decode cL_law 930 = .ok (.iadd, 1) := by decide +kernel
theorem dL_law_931 : decode cL_law 931 = .ok (.iaload, 1) := by decide +kernel
theorem dL_law_932 : decode cL_law 932 = .ok (.invokevirtual 109, 3) := by decide +kernel
theorem dL_law_935 : decode cL_law 935 = .ok (.if_icmp .eq 176, 3) := by decide +kernel
theorem dL_law_938 : decode cL_law 938 = .ok (.iconst 0, 1) := by decide +kernel
theorem dL_law_939 : decode cL_law 939 = .ok (.ireturn, 1) := by decide +kernel
theorem dL_law_940 : decode cL_law 940 = .ok (.aload_n 1, 1) := by decide +kernel
theorem dL_law_941 : decode cL_law 941 = .ok (.aload_n 0, 1) := by decide +kernel
theorem dL_law_942 : decode cL_law 942 = .ok (.iload_n 3, 1) := by decide +kernel
theorem dL_law_943 : decode cL_law 943 = .ok (.iconst 1, 1) := by decide +kernel
theorem dL_law_944 : decode cL_law 944 = .ok (.iadd, 1) := by decide +kernel
theorem dL_law_945 : decode cL_law 945 = .ok (.iaload, 1) := by decide +kernel
theorem dL_law_946 : decode cL_law 946 = .ok (.invokevirtual 110, 3) := by decide +kernel
theorem dL_law_949 : decode cL_law 949 = .ok (.aload_n 2, 1) := by decide +kernel
theorem dL_law_950 : decode cL_law 950 = .ok (.aload_n 0, 1) := by decide +kernel
theorem dL_law_951 : decode cL_law 951 = .ok (.iload_n 3, 1) := by decide +kernel
theorem dL_law_952 : decode cL_law 952 = .ok (.iconst 1, 1) := by decide +kernel
theorem dL_law_953 : decode cL_law 953 = .ok (.iadd, 1) := by decide +kernel
theorem dL_law_954 : decode cL_law 954 = .ok (.iaload, 1) := by decide +kernel
theorem dL_law_955 : decode cL_law 955 = .ok (.invokevirtual 113, 3) := by decide +kernel
theorem dL_law_958 : decode cL_law 958 = .ok (.if_icmp .eq 153, 3) := by decide +kernel
theorem dL_law_961 : decode cL_law 961 = .ok (.iconst 0, 1) := by decide +kernel
theorem dL_law_962 : decode cL_law 962 = .ok (.ireturn, 1) := by decide +kernel
theorem dL_law_963 : decode cL_law 963 = .ok (.aload_n 1, 1) := by decide +kernel
theorem dL_law_964 : decode cL_law 964 = .ok (.aload_n 0, 1) := by decide +kernel
theorem dL_law_965 : decode cL_law 965 = .ok (.iload_n 3, 1) := by decide +kernel
theorem dL_law_966 : decode cL_law 966 = .ok (.iconst 1, 1) := by decide +kernel
theorem dL_law_967 : decode cL_law 967 = .ok (.iadd, 1) := by decide +kernel
theorem dL_law_968 : decode cL_law 968 = .ok (.iaload, 1) := by decide +kernel
theorem dL_law_969 : decode cL_law 969 = .ok (.invokevirtual 114, 3) := by decide +kernel
theorem dL_law_972 : decode cL_law 972 = .ok (.aload_n 2, 1) := by decide +kernel
theorem dL_law_973 : decode cL_law 973 = .ok (.aload_n 0, 1) := by decide +kernel
theorem dL_law_974 : decode cL_law 974 = .ok (.iload_n 3, 1) := by decide +kernel
theorem dL_law_975 : decode cL_law 975 = .ok (.iconst 1, 1) := by decide +kernel
theorem dL_law_976 : decode cL_law 976 = .ok (.iadd, 1) := by decide +kernel
theorem dL_law_977 : decode cL_law 977 = .ok (.iaload, 1) := by decide +kernel
theorem dL_law_978 : decode cL_law 978 = .ok (.invokevirtual 117, 3) := by decide +kernel
theorem dL_law_981 : decode cL_law 981 = .ok (.if_icmp .eq 130, 3) := by decide +kernel
theorem dL_law_984 : decode cL_law 984 = .ok (.iconst 0, 1) := by decide +kernel
theorem dL_law_985 : decode cL_law 985 = .ok (.ireturn, 1) := by decide +kernel
theorem dL_law_986 : decode cL_law 986 = .ok (.aload_n 1, 1) := by decide +kernel
theorem dL_law_987 : decode cL_law 987 = .ok (.aload_n 0, 1) := by decide +kernel
theorem dL_law_988 : decode cL_law 988 = .ok (.iload_n 3, 1) := by decide +kernel
theorem dL_law_989 : decode cL_law 989 = .ok (.iconst 1, 1) := by decide +kernel
theorem dL_law_990 : decode cL_law 990 = .ok (.iadd, 1) := by decide +kernel
theorem dL_law_991 : decode cL_law 991 = .ok (.iaload, 1) := by decide +kernel
theorem dL_law_992 : decode cL_law 992 = .ok (.aload_n 0, 1) := by decide +kernel
theorem dL_law_993 : decode cL_law 993 = .ok (.iload_n 3, 1) := by decide +kernel
theorem dL_law_994 : decode cL_law 994 = .ok (.iconst 2, 1) := by decide +kernel
theorem dL_law_995 : decode cL_law 995 = .ok (.iadd, 1) := by decide +kernel
theorem dL_law_996 : decode cL_law 996 = .ok (.iaload, 1) := by decide +kernel
theorem dL_law_997 : decode cL_law 997 = .ok (.invokevirtual 118, 3) := by decide +kernel
theorem dL_law_1000 : decode cL_law 1000 = .ok (.aload_n 2, 1) := by decide +kernel
theorem dL_law_1001 : decode cL_law 1001 = .ok (.aload_n 0, 1) := by decide +kernel
theorem dL_law_1002 : decode cL_law 1002 = .ok (.iload_n 3, 1) := by decide +kernel
theorem dL_law_1003 : decode cL_law 1003 = .ok (.iconst 1, 1) := by decide +kernel
theorem dL_law_1004 : decode cL_law 1004 = .ok (.iadd, 1) := by decide +kernel
theorem dL_law_1005 : decode cL_law 1005 = .ok (.iaload, 1) := by decide +kernel
theorem dL_law_1006 : decode cL_law 1006 = .ok (.aload_n 0, 1) := by decide +kernel
theorem dL_law_1007 : decode cL_law 1007 = .ok (.iload_n 3, 1) := by decide +kernel
theorem dL_law_1008 : decode cL_law 1008 = .ok (.iconst 2, 1) := by decide +kernel
theorem dL_law_1009 : decode cL_law 1009 = .ok (.iadd, 1) := by decide +kernel
theorem dL_law_1010 : decode cL_law 1010 = .ok (.iaload, 1) := by decide +kernel
theorem dL_law_1011 : decode cL_law 1011 = .ok (.invokevirtual 121, 3) := by decide +kernel
theorem dL_law_1014 : decode cL_law 1014 = .ok (.if_icmp .eq 97, 3) := by decide +kernel
theorem dL_law_1017 : decode cL_law 1017 = .ok (.iconst 0, 1) := by decide +kernel
theorem dL_law_1018 : decode cL_law 1018 = .ok (.ireturn, 1) := by decide +kernel
theorem dL_law_1019 : decode cL_law 1019 = .ok (.aload_n 1, 1) := by decide +kernel
theorem dL_law_1020 : decode cL_law 1020 = .ok (.aload_n 0, 1) := by decide +kernel
theorem dL_law_1021 : decode cL_law 1021 = .ok (.iload_n 3, 1) := by decide +kernel
theorem dL_law_1022 : decode cL_law 1022 = .ok (.iconst 1, 1) := by decide +kernel
theorem dL_law_1023 : decode cL_law 1023 = .ok (.iadd, 1) := by decide +kernel
theorem dL_law_1024 : decode cL_law 1024 = .ok (.iaload, 1) := by decide +kernel
theorem dL_law_1025 : decode cL_law 1025 = .ok (.aload_n 0, 1) := by decide +kernel
theorem dL_law_1026 : decode cL_law 1026 = .ok (.iload_n 3, 1) := by decide +kernel
theorem dL_law_1027 : decode cL_law 1027 = .ok (.iconst 2, 1) := by decide +kernel
theorem dL_law_1028 : decode cL_law 1028 = .ok (.iadd, 1) := by decide +kernel
theorem dL_law_1029 : decode cL_law 1029 = .ok (.iaload, 1) := by decide +kernel
theorem dL_law_1030 : decode cL_law 1030 = .ok (.invokevirtual 122, 3) := by decide +kernel
theorem dL_law_1033 : decode cL_law 1033 = .ok (.aload_n 2, 1) := by decide +kernel
theorem dL_law_1034 : decode cL_law 1034 = .ok (.aload_n 0, 1) := by decide +kernel
theorem dL_law_1035 : decode cL_law 1035 = .ok (.iload_n 3, 1) := by decide +kernel
theorem dL_law_1036 : decode cL_law 1036 = .ok (.iconst 1, 1) := by decide +kernel
theorem dL_law_1037 : decode cL_law 1037 = .ok (.iadd, 1) := by decide +kernel
theorem dL_law_1038 : decode cL_law 1038 = .ok (.iaload, 1) := by decide +kernel
theorem dL_law_1039 : decode cL_law 1039 = .ok (.aload_n 0, 1) := by decide +kernel
theorem dL_law_1040 : decode cL_law 1040 = .ok (.iload_n 3, 1) := by decide +kernel
theorem dL_law_1041 : decode cL_law 1041 = .ok (.iconst 2, 1) := by decide +kernel
theorem dL_law_1042 : decode cL_law 1042 = .ok (.iadd, 1) := by decide +kernel
theorem dL_law_1043 : decode cL_law 1043 = .ok (.iaload, 1) := by decide +kernel
theorem dL_law_1044 : decode cL_law 1044 = .ok (.invokevirtual 125, 3) := by decide +kernel
theorem dL_law_1047 : decode cL_law 1047 = .ok (.if_icmp .eq 64, 3) := by decide +kernel
theorem dL_law_1050 : decode cL_law 1050 = .ok (.iconst 0, 1) := by decide +kernel
theorem dL_law_1051 : decode cL_law 1051 = .ok (.ireturn, 1) := by decide +kernel
theorem dL_law_1052 : decode cL_law 1052 = .ok (.aload_n 1, 1) := by decide +kernel
theorem dL_law_1053 : decode cL_law 1053 = .ok (.aload_n 0, 1) := by decide +kernel
theorem dL_law_1054 : decode cL_law 1054 = .ok (.iload_n 3, 1) := by decide +kernel
theorem dL_law_1055 : decode cL_law 1055 = .ok (.iconst 1, 1) := by decide +kernel
theorem dL_law_1056 : decode cL_law 1056 = .ok (.iadd, 1) := by decide +kernel
theorem dL_law_1057 : decode cL_law 1057 = .ok (.iaload, 1) := by decide +kernel
theorem dL_law_1058 : decode cL_law 1058 = .ok (.invokevirtual 126, 3) := by decide +kernel
theorem dL_law_1061 : decode cL_law 1061 = .ok (.aload_n 2, 1) := by decide +kernel
theorem dL_law_1062 : decode cL_law 1062 = .ok (.aload_n 0, 1) := by decide +kernel
theorem dL_law_1063 : decode cL_law 1063 = .ok (.iload_n 3, 1) := by decide +kernel
theorem dL_law_1064 : decode cL_law 1064 = .ok (.iconst 1, 1) := by decide +kernel
theorem dL_law_1065 : decode cL_law 1065 = .ok (.iadd, 1) := by decide +kernel
theorem dL_law_1066 : decode cL_law 1066 = .ok (.iaload, 1) := by decide +kernel
theorem dL_law_1067 : decode cL_law 1067 = .ok (.invokevirtual 129, 3) := by decide +kernel
theorem dL_law_1070 : decode cL_law 1070 = .ok (.if_icmp .eq 41, 3) := by decide +kernel
theorem dL_law_1073 : decode cL_law 1073 = .ok (.iconst 0, 1) := by decide +kernel
theorem dL_law_1074 : decode cL_law 1074 = .ok (.ireturn, 1) := by decide +kernel
theorem dL_law_1075 : decode cL_law 1075 = .ok (.aload_n 1, 1) := by decide +kernel
theorem dL_law_1076 : decode cL_law 1076 = .ok (.aload_n 0, 1) := by decide +kernel
theorem dL_law_1077 : decode cL_law 1077 = .ok (.iload_n 3, 1) := by decide +kernel
theorem dL_law_1078 : decode cL_law 1078 = .ok (.iconst 1, 1) := by decide +kernel
theorem dL_law_1079 : decode cL_law 1079 = .ok (.iadd, 1) := by decide +kernel
theorem dL_law_1080 : decode cL_law 1080 = .ok (.iaload, 1) := by decide +kernel
theorem dL_law_1081 : decode cL_law 1081 = .ok (.invokevirtual 130, 3) := by decide +kernel
theorem dL_law_1084 : decode cL_law 1084 = .ok (.aload_n 2, 1) := by decide +kernel
theorem dL_law_1085 : decode cL_law 1085 = .ok (.aload_n 0, 1) := by decide +kernel
theorem dL_law_1086 : decode cL_law 1086 = .ok (.iload_n 3, 1) := by decide +kernel
theorem dL_law_1087 : decode cL_law 1087 = .ok (.iconst 1, 1) := by decide +kernel
theorem dL_law_1088 : decode cL_law 1088 = .ok (.iadd, 1) := by decide +kernel
theorem dL_law_1089 : decode cL_law 1089 = .ok (.iaload, 1) := by decide +kernel
theorem dL_law_1090 : decode cL_law 1090 = .ok (.invokevirtual 133, 3) := by decide +kernel
theorem dL_law_1093 : decode cL_law 1093 = .ok (.if_icmp .eq 18, 3) := by decide +kernel
theorem dL_law_1096 : decode cL_law 1096 = .ok (.iconst 0, 1) := by decide +kernel
theorem dL_law_1097 : decode cL_law 1097 = .ok (.ireturn, 1) := by decide +kernel
theorem dL_law_1098 : decode cL_law 1098 = .ok (.aload_n 1, 1) := by decide +kernel
theorem dL_law_1099 : decode cL_law 1099 = .ok (.invokevirtual 134, 3) := by decide +kernel
theorem dL_law_1102 : decode cL_law 1102 = .ok (.aload_n 2, 1) := by decide +kernel
theorem dL_law_1103 : decode cL_law 1103 = .ok (.invokevirtual 137, 3) := by decide +kernel
theorem dL_law_1106 : decode cL_law 1106 = .ok (.if_icmp .eq 5, 3) := by decide +kernel
theorem dL_law_1109 : decode cL_law 1109 = .ok (.iconst 0, 1) := by decide +kernel
theorem dL_law_1110 : decode cL_law 1110 = .ok (.ireturn, 1) := by decide +kernel
theorem dL_law_1111 : decode cL_law 1111 = .ok (.iinc 3 6, 3) := by decide +kernel
theorem dL_law_1114 : decode cL_law 1114 = .ok (.goto (-1096), 3) := by decide +kernel
theorem dL_law_1117 : decode cL_law 1117 = .ok (.iconst 1, 1) := by decide +kernel
theorem dL_law_1118 : decode cL_law 1118 = .ok (.ireturn, 1) := by decide +kernel
