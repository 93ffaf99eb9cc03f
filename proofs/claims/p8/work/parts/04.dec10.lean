theorem d_Ro_appendRow_26 : decode b_Ro_appendRow 26 = .ok (.return_, 1) := by decide +kernel
theorem d_Ro_become_0 : decode b_Ro_become 0 = .ok (.aload_n 0, 1) := by decide +kernel
theorem d_Ro_become_1 : decode b_Ro_become 1 = .ok (.iconst 0, 1) := by decide +kernel
theorem d_Ro_become_2 : decode b_Ro_become 2 = .ok (.putfield 7, 3) := by decide +kernel
theorem d_Ro_become_5 : decode b_Ro_become 5 = .ok (.aload_n 0, 1) := by decide +kernel
theorem d_Ro_become_6 : decode b_Ro_become 6 = .ok (.aload_n 1, 1) := by decide +kernel
theorem d_Ro_become_7 : decode b_Ro_become 7 = .ok (.iconst 0, 1) := by decide +kernel
theorem d_Ro_become_8 : decode b_Ro_become 8 = .ok (.aload_n 1, 1) := by decide +kernel
theorem d_Ro_become_9 : decode b_Ro_become 9 = .ok (.getfield 7, 3) := by decide +kernel
theorem d_Ro_become_12 : decode b_Ro_become 12 = .ok (.invokevirtual 29, 3) := by decide +kernel
theorem d_Ro_become_15 : decode b_Ro_become 15 = .ok (.aload_n 0, 1) := by decide +kernel
theorem d_Ro_become_16 : decode b_Ro_become 16 = .ok (.aload_n 1, 1) := by decide +kernel
theorem d_Ro_become_17 : decode b_Ro_become 17 = .ok (.getfield 13, 3) := by decide +kernel
theorem d_Ro_become_20 : decode b_Ro_become 20 = .ok (.putfield 13, 3) := by decide +kernel
theorem d_Ro_become_23 : decode b_Ro_become 23 = .ok (.return_, 1) := by decide +kernel
theorem d_Ro_at_0 : decode b_Ro_at 0 = .ok (.lload_n 1, 1) := by decide +kernel
theorem d_Ro_at_1 : decode b_Ro_at 1 = .ok (.lconst 0, 1) := by decide +kernel
theorem d_Ro_at_2 : decode b_Ro_at 2 = .ok (.lcmp, 1) := by decide +kernel
theorem d_Ro_at_3 : decode b_Ro_at 3 = .ok (.ifCond .lt 27, 3) := by decide +kernel
theorem d_Ro_at_6 : decode b_Ro_at 6 = .ok (.lload_n 1, 1) := by decide +kernel
theorem d_Ro_at_7 : decode b_Ro_at 7 = .ok (.aload_n 0, 1) := by decide +kernel
theorem d_Ro_at_8 : decode b_Ro_at 8 = .ok (.getfield 7, 3) := by decide +kernel
theorem d_Ro_at_11 : decode b_Ro_at 11 = .ok (.i2l, 1) := by decide +kernel
theorem d_Ro_at_12 : decode b_Ro_at 12 = .ok (.lcmp, 1) := by decide +kernel
theorem d_Ro_at_13 : decode b_Ro_at 13 = .ok (.ifCond .ge 17, 3) := by decide +kernel
theorem d_Ro_at_16 : decode b_Ro_at 16 = .ok (.aload_n 0, 1) := by decide +kernel
theorem d_Ro_at_17 : decode b_Ro_at 17 = .ok (.getfield 17, 3) := by decide +kernel
theorem d_Ro_at_20 : decode b_Ro_at 20 = .ok (.lload_n 1, 1) := by decide +kernel
theorem d_Ro_at_21 : decode b_Ro_at 21 = .ok (.l2i, 1) := by decide +kernel
theorem d_Ro_at_22 : decode b_Ro_at 22 = .ok (.baload, 1) := by decide +kernel
theorem d_Ro_at_23 : decode b_Ro_at 23 = .ok (.sipush 255, 3) := by decide +kernel
theorem d_Ro_at_26 : decode b_Ro_at 26 = .ok (.iand, 1) := by decide +kernel
theorem d_Ro_at_27 : decode b_Ro_at 27 = .ok (.goto 4, 3) := by decide +kernel
theorem d_Ro_at_30 : decode b_Ro_at 30 = .ok (.iconst 0, 1) := by decide +kernel
theorem d_Ro_at_31 : decode b_Ro_at 31 = .ok (.ireturn, 1) := by decide +kernel
theorem d_Ro_put_0 : decode b_Ro_put 0 = .ok (.iload_n 1, 1) := by decide +kernel
theorem d_Ro_put_1 : decode b_Ro_put 1 = .ok (.ifCond .lt 19, 3) := by decide +kernel
theorem d_Ro_put_4 : decode b_Ro_put 4 = .ok (.iload_n 1, 1) := by decide +kernel
theorem d_Ro_put_5 : decode b_Ro_put 5 = .ok (.aload_n 0, 1) := by decide +kernel
theorem d_Ro_put_6 : decode b_Ro_put 6 = .ok (.getfield 7, 3) := by decide +kernel
theorem d_Ro_put_9 : decode b_Ro_put 9 = .ok (.if_icmp .ge 11, 3) := by decide +kernel
theorem d_Ro_put_12 : decode b_Ro_put 12 = .ok (.aload_n 0, 1) := by decide +kernel
theorem d_Ro_put_13 : decode b_Ro_put 13 = .ok (.getfield 17, 3) := by decide +kernel
theorem d_Ro_put_16 : decode b_Ro_put 16 = .ok (.iload_n 1, 1) := by decide +kernel
theorem d_Ro_put_17 : decode b_Ro_put 17 = .ok (.iload_n 2, 1) := by decide +kernel
theorem d_Ro_put_18 : decode b_Ro_put 18 = .ok (.i2b, 1) := by decide +kernel
theorem d_Ro_put_19 : decode b_Ro_put 19 = .ok (.bastore, 1) := by decide +kernel
theorem d_Ro_put_20 : decode b_Ro_put 20 = .ok (.return_, 1) := by decide +kernel
theorem d_Ro_number_0 : decode b_Ro_number 0 = .ok (.aload_n 0, 1) := by decide +kernel
theorem d_Ro_number_1 : decode b_Ro_number 1 = .ok (.iload_n 1, 1) := by decide +kernel
theorem d_Ro_number_2 : decode b_Ro_number 2 = .ok (.iload_n 2, 1) := by decide +kernel
theorem d_Ro_number_3 : decode b_Ro_number 3 = .ok (.aload_n 0, 1) := by decide +kernel
theorem d_Ro_number_4 : decode b_Ro_number 4 = .ok (.getfield 7, 3) := by decide +kernel
theorem d_Ro_number_7 : decode b_Ro_number 7 = .ok (.invokevirtual 33, 3) := by decide +kernel
theorem d_Ro_number_10 : decode b_Ro_number 10 = .ok (.lreturn, 1) := by decide +kernel
theorem d_Ro_numberUpTo_0 : decode b_Ro_numberUpTo 0 = .ok (.lconst 0, 1) := by decide +kernel
theorem d_Ro_numberUpTo_1 : decode b_Ro_numberUpTo 1 = .ok (.lstore 4, 2) := by decide +kernel
theorem d_Ro_numberUpTo_3 : decode b_Ro_numberUpTo 3 = .ok (.iload_n 1, 1) := by decide +kernel
theorem d_Ro_numberUpTo_4 : decode b_Ro_numberUpTo 4 = .ok (.istore 6, 2) := by decide +kernel
theorem d_Ro_numberUpTo_6 : decode b_Ro_numberUpTo 6 = .ok (.iload 6, 2) := by decide +kernel
theorem d_Ro_numberUpTo_8 : decode b_Ro_numberUpTo 8 = .ok (.iload_n 1, 1) := by decide +kernel
theorem d_Ro_numberUpTo_9 : decode b_Ro_numberUpTo 9 = .ok (.iload_n 2, 1) := by decide +kernel
theorem d_Ro_numberUpTo_10 : decode b_Ro_numberUpTo 10 = .ok (.iadd, 1) := by decide +kernel
theorem d_Ro_numberUpTo_11 : decode b_Ro_numberUpTo 11 = .ok (.if_icmp .ge 35, 3) := by decide +kernel
theorem d_Ro_numberUpTo_14 : decode b_Ro_numberUpTo 14 = .ok (.lload 4, 2) := by decide +kernel
theorem d_Ro_numberUpTo_16 : decode b_Ro_numberUpTo 16 = .ok (.bipush 8, 2) := by decide +kernel
theorem d_Ro_numberUpTo_18 : decode b_Ro_numberUpTo 18 = .ok (.lshl, 1) := by decide +kernel
theorem d_Ro_numberUpTo_19 : decode b_Ro_numberUpTo 19 = .ok (.iload 6, 2) := by decide +kernel
theorem d_Ro_numberUpTo_21 : decode b_Ro_numberUpTo 21 = .ok (.iload_n 3, 1) := by decide +kernel
theorem d_Ro_numberUpTo_22 : decode b_Ro_numberUpTo 22 = .ok (.if_icmp .ge 13, 3) := by decide +kernel
theorem d_Ro_numberUpTo_25 : decode b_Ro_numberUpTo 25 = .ok (.aload_n 0, 1) := by decide +kernel
theorem d_Ro_numberUpTo_26 : decode b_Ro_numberUpTo 26 = .ok (.iload 6, 2) := by decide +kernel
theorem d_Ro_numberUpTo_28 : decode b_Ro_numberUpTo 28 = .ok (.i2l, 1) := by decide +kernel
theorem d_Ro_numberUpTo_29 : decode b_Ro_numberUpTo 29 = .ok (.invokevirtual 25, 3) := by decide +kernel
theorem d_Ro_numberUpTo_32 : decode b_Ro_numberUpTo 32 = .ok (.goto 4, 3) := by decide +kernel
theorem d_Ro_numberUpTo_35 : decode b_Ro_numberUpTo 35 = .ok (.iconst 0, 1) := by decide +kernel
theorem d_Ro_numberUpTo_36 : decode b_Ro_numberUpTo 36 = .ok (.i2l, 1) := by decide +kernel
theorem d_Ro_numberUpTo_37 : decode b_Ro_numberUpTo 37 = .ok (.lor, 1) := by decide +kernel
theorem d_Ro_numberUpTo_38 : decode b_Ro_numberUpTo 38 = .ok (.lstore 4, 2) := by decide +kernel
theorem d_Ro_numberUpTo_40 : decode b_Ro_numberUpTo 40 = .ok (.iinc 6 1, 3) := by decide +kernel
theorem d_Ro_numberUpTo_43 : decode b_Ro_numberUpTo 43 = .ok (.goto (-37), 3) := by decide +kernel
theorem d_Ro_numberUpTo_46 : decode b_Ro_numberUpTo 46 = .ok (.lload 4, 2) := by decide +kernel
theorem d_Ro_numberUpTo_48 : decode b_Ro_numberUpTo 48 = .ok (.lreturn, 1) := by decide +kernel
theorem d_Ro_eightFrom_0 : decode b_Ro_eightFrom 0 = .ok (.lconst 0, 1) := by decide +kernel
theorem d_Ro_eightFrom_1 : decode b_Ro_eightFrom 1 = .ok (.lstore_n 2, 1) := by decide +kernel
theorem d_Ro_eightFrom_2 : decode b_Ro_eightFrom 2 = .ok (.iconst 0, 1) := by decide +kernel
theorem d_Ro_eightFrom_3 : decode b_Ro_eightFrom 3 = .ok (.istore 4, 2) := by decide +kernel
theorem d_Ro_eightFrom_5 : decode b_Ro_eightFrom 5 = .ok (.iload 4, 2) := by decide +kernel
theorem d_Ro_eightFrom_7 : decode b_Ro_eightFrom 7 = .ok (.bipush 8, 2) := by decide +kernel
theorem d_Ro_eightFrom_9 : decode b_Ro_eightFrom 9 = .ok (.if_icmp .ge 29, 3) := by decide +kernel
theorem d_Ro_eightFrom_12 : decode b_Ro_eightFrom 12 = .ok (.lload_n 2, 1) := by decide +kernel
theorem d_Ro_eightFrom_13 : decode b_Ro_eightFrom 13 = .ok (.aload_n 0, 1) := by decide +kernel
theorem d_Ro_eightFrom_14 : decode b_Ro_eightFrom 14 = .ok (.iload_n 1, 1) := by decide +kernel
theorem d_Ro_eightFrom_15 : decode b_Ro_eightFrom 15 = .ok (.i2l, 1) := by decide +kernel
theorem d_Ro_eightFrom_16 : decode b_Ro_eightFrom 16 = .ok (.iload 4, 2) := by decide +kernel
theorem d_Ro_eightFrom_18 : decode b_Ro_eightFrom 18 = .ok (.i2l, 1) := by decide +kernel
theorem d_Ro_eightFrom_19 : decode b_Ro_eightFrom 19 = .ok (.ladd, 1) := by decide +kernel
theorem d_Ro_eightFrom_20 : decode b_Ro_eightFrom 20 = .ok (.invokevirtual 25, 3) := by decide +kernel
theorem d_Ro_eightFrom_23 : decode b_Ro_eightFrom 23 = .ok (.i2l, 1) := by decide +kernel
theorem d_Ro_eightFrom_24 : decode b_Ro_eightFrom 24 = .ok (.bipush 8, 2) := by decide +kernel
theorem d_Ro_eightFrom_26 : decode b_Ro_eightFrom 26 = .ok (.iload 4, 2) := by decide +kernel
theorem d_Ro_eightFrom_28 : decode b_Ro_eightFrom 28 = .ok (.imul, 1) := by decide +kernel
theorem d_Ro_eightFrom_29 : decode b_Ro_eightFrom 29 = .ok (.lshl, 1) := by decide +kernel
theorem d_Ro_eightFrom_30 : decode b_Ro_eightFrom 30 = .ok (.lor, 1) := by decide +kernel
theorem d_Ro_eightFrom_31 : decode b_Ro_eightFrom 31 = .ok (.lstore_n 2, 1) := by decide +kernel
theorem d_Ro_eightFrom_32 : decode b_Ro_eightFrom 32 = .ok (.iinc 4 1, 3) := by decide +kernel
theorem d_Ro_eightFrom_35 : decode b_Ro_eightFrom 35 = .ok (.goto (-30), 3) := by decide +kernel
theorem d_Ro_eightFrom_38 : decode b_Ro_eightFrom 38 = .ok (.lload_n 2, 1) := by decide +kernel
theorem d_Ro_eightFrom_39 : decode b_Ro_eightFrom 39 = .ok (.lreturn, 1) := by decide +kernel
theorem d_Wi_init_0 : decode b_Wi_init 0 = .ok (.aload_n 0, 1) := by decide +kernel
theorem d_Wi_init_1 : decode b_Wi_init 1 = .ok (.invokespecial 3, 3) := by decide +kernel
theorem d_Wi_init_4 : decode b_Wi_init 4 = .ok (.aload_n 0, 1) := by decide +kernel
theorem d_Wi_init_5 : decode b_Wi_init 5 = .ok (.bipush 32, 2) := by decide +kernel
theorem d_Wi_init_7 : decode b_Wi_init 7 = .ok (.newarray .int, 2) := by decide +kernel
theorem d_Wi_init_9 : decode b_Wi_init 9 = .ok (.putfield 9, 3) := by decide +kernel
theorem d_Wi_init_12 : decode b_Wi_init 12 = .ok (.aload_n 0, 1) := by decide +kernel
theorem d_Wi_init_13 : decode b_Wi_init 13 = .ok (.sipush 1024, 3) := by decide +kernel
theorem d_Wi_init_16 : decode b_Wi_init 16 = .ok (.putfield 15, 3) := by decide +kernel
theorem d_Wi_init_19 : decode b_Wi_init 19 = .ok (.aload_n 0, 1) := by decide +kernel
theorem d_Wi_init_20 : decode b_Wi_init 20 = .ok (.lconst 0, 1) := by decide +kernel
theorem d_Wi_init_21 : decode b_Wi_init 21 = .ok (.putfield 19, 3) := by decide +kernel
theorem d_Wi_init_24 : decode b_Wi_init 24 = .ok (.return_, 1) := by decide +kernel
theorem d_Wi_begin_0 : decode b_Wi_begin 0 = .ok (.iconst 0, 1) := by decide +kernel
theorem d_Wi_begin_1 : decode b_Wi_begin 1 = .ok (.istore_n 2, 1) := by decide +kernel
theorem d_Wi_begin_2 : decode b_Wi_begin 2 = .ok (.iload_n 2, 1) := by decide +kernel
theorem d_Wi_begin_3 : decode b_Wi_begin 3 = .ok (.aload_n 0, 1) := by decide +kernel
theorem d_Wi_begin_4 : decode b_Wi_begin 4 = .ok (.getfield 9, 3) := by decide +kernel
theorem d_Wi_begin_7 : decode b_Wi_begin 7 = .ok (.arraylength, 1) := by decide +kernel
theorem d_Wi_begin_8 : decode b_Wi_begin 8 = .ok (.if_icmp .ge 16, 3) := by decide +kernel
theorem d_Wi_begin_11 : decode b_Wi_begin 11 = .ok (.aload_n 0, 1) := by decide +kernel
theorem d_Wi_begin_12 : decode b_Wi_begin 12 = .ok (.getfield 9, 3) := by decide +kernel
theorem d_Wi_begin_15 : decode b_Wi_begin 15 = .ok (.iload_n 2, 1) := by decide +kernel
theorem d_Wi_begin_16 : decode b_Wi_begin 16 = .ok (.iconst 0, 1) := by decide +kernel
theorem d_Wi_begin_17 : decode b_Wi_begin 17 = .ok (.iastore, 1) := by decide +kernel
theorem d_Wi_begin_18 : decode b_Wi_begin 18 = .ok (.iinc 2 1, 3) := by decide +kernel
theorem d_Wi_begin_21 : decode b_Wi_begin 21 = .ok (.goto (-19), 3) := by decide +kernel
theorem d_Wi_begin_24 : decode b_Wi_begin 24 = .ok (.aload_n 0, 1) := by decide +kernel
theorem d_Wi_begin_25 : decode b_Wi_begin 25 = .ok (.iload_n 1, 1) := by decide +kernel
theorem d_Wi_begin_26 : decode b_Wi_begin 26 = .ok (.putfield 15, 3) := by decide +kernel
theorem d_Wi_begin_29 : decode b_Wi_begin 29 = .ok (.aload_n 0, 1) := by decide +kernel
theorem d_Wi_begin_30 : decode b_Wi_begin 30 = .ok (.lconst 0, 1) := by decide +kernel
theorem d_Wi_begin_31 : decode b_Wi_begin 31 = .ok (.putfield 19, 3) := by decide +kernel
theorem d_Wi_begin_34 : decode b_Wi_begin 34 = .ok (.return_, 1) := by decide +kernel
theorem d_Wi_isAbove_0 : decode b_Wi_isAbove 0 = .ok (.lload_n 1, 1) := by decide +kernel
theorem d_Wi_isAbove_1 : decode b_Wi_isAbove 1 = .ok (.aload_n 0, 1) := by decide +kernel
theorem d_Wi_isAbove_2 : decode b_Wi_isAbove 2 = .ok (.getfield 19, 3) := by decide +kernel
theorem d_Wi_isAbove_5 : decode b_Wi_isAbove 5 = .ok (.aload_n 0, 1) := by decide +kernel
theorem d_Wi_isAbove_6 : decode b_Wi_isAbove 6 = .ok (.getfield 15, 3) := by decide +kernel
theorem d_Wi_isAbove_9 : decode b_Wi_isAbove 9 = .ok (.i2l, 1) := by decide +kernel
theorem d_Wi_isAbove_10 : decode b_Wi_isAbove 10 = .ok (.lsub, 1) := by decide +kernel
theorem d_Wi_isAbove_11 : decode b_Wi_isAbove 11 = .ok (.lcmp, 1) := by decide +kernel
theorem d_Wi_isAbove_12 : decode b_Wi_isAbove 12 = .ok (.ifCond .le 7, 3) := by decide +kernel
theorem d_Wi_isAbove_15 : decode b_Wi_isAbove 15 = .ok (.iconst 1, 1) := by decide +kernel
theorem d_Wi_isAbove_16 : decode b_Wi_isAbove 16 = .ok (.goto 4, 3) := by decide +kernel
theorem d_Wi_isAbove_19 : decode b_Wi_isAbove 19 = .ok (.iconst 0, 1) := by decide +kernel
theorem d_Wi_isAbove_20 : decode b_Wi_isAbove 20 = .ok (.ireturn, 1) := by decide +kernel
theorem d_Wi_has_0 : decode b_Wi_has 0 = .ok (.lload_n 1, 1) := by decide +kernel
theorem d_Wi_has_1 : decode b_Wi_has 1 = .ok (.lconst 1, 1) := by decide +kernel
theorem d_Wi_has_2 : decode b_Wi_has 2 = .ok (.lcmp, 1) := by decide +kernel
theorem d_Wi_has_3 : decode b_Wi_has 3 = .ok (.ifCond .lt 20, 3) := by decide +kernel
theorem d_Wi_has_6 : decode b_Wi_has 6 = .ok (.lload_n 1, 1) := by decide +kernel
theorem d_Wi_has_7 : decode b_Wi_has 7 = .ok (.aload_n 0, 1) := by decide +kernel
theorem d_Wi_has_8 : decode b_Wi_has 8 = .ok (.getfield 19, 3) := by decide +kernel
theorem d_Wi_has_11 : decode b_Wi_has 11 = .ok (.lcmp, 1) := by decide +kernel
theorem d_Wi_has_12 : decode b_Wi_has 12 = .ok (.ifCond .gt 11, 3) := by decide +kernel
theorem d_Wi_has_15 : decode b_Wi_has 15 = .ok (.aload_n 0, 1) := by decide +kernel
theorem d_Wi_has_16 : decode b_Wi_has 16 = .ok (.lload_n 1, 1) := by decide +kernel
theorem d_Wi_has_17 : decode b_Wi_has 17 = .ok (.invokevirtual 23, 3) := by decide +kernel
theorem d_Wi_has_20 : decode b_Wi_has 20 = .ok (.ifCond .ne 5, 3) := by decide +kernel
theorem d_Wi_has_23 : decode b_Wi_has 23 = .ok (.iconst 0, 1) := by decide +kernel
theorem d_Wi_has_24 : decode b_Wi_has 24 = .ok (.ireturn, 1) := by decide +kernel
theorem d_Wi_has_25 : decode b_Wi_has 25 = .ok (.lload_n 1, 1) := by decide +kernel
theorem d_Wi_has_26 : decode b_Wi_has 26 = .ok (.aload_n 0, 1) := by decide +kernel
theorem d_Wi_has_27 : decode b_Wi_has 27 = .ok (.getfield 15, 3) := by decide +kernel
theorem d_Wi_has_30 : decode b_Wi_has 30 = .ok (.i2l, 1) := by decide +kernel
theorem d_Wi_has_31 : decode b_Wi_has 31 = .ok (.lrem, 1) := by decide +kernel
theorem d_Wi_has_32 : decode b_Wi_has 32 = .ok (.l2i, 1) := by decide +kernel
theorem d_Wi_has_33 : decode b_Wi_has 33 = .ok (.istore_n 3, 1) := by decide +kernel
theorem d_Wi_has_34 : decode b_Wi_has 34 = .ok (.aload_n 0, 1) := by decide +kernel
theorem d_Wi_has_35 : decode b_Wi_has 35 = .ok (.getfield 9, 3) := by decide +kernel
theorem d_Wi_has_38 : decode b_Wi_has 38 = .ok (.iload_n 3, 1) := by decide +kernel
theorem d_Wi_has_39 : decode b_Wi_has 39 = .ok (.bipush 32, 2) := by decide +kernel
theorem d_Wi_has_41 : decode b_Wi_has 41 = .ok (.idiv, 1) := by decide +kernel
theorem d_Wi_has_42 : decode b_Wi_has 42 = .ok (.iaload, 1) := by decide +kernel
theorem d_Wi_has_43 : decode b_Wi_has 43 = .ok (.iload_n 3, 1) := by decide +kernel
theorem d_Wi_has_44 : decode b_Wi_has 44 = .ok (.bipush 32, 2) := by decide +kernel
theorem d_Wi_has_46 : decode b_Wi_has 46 = .ok (.irem, 1) := by decide +kernel
theorem d_Wi_has_47 : decode b_Wi_has 47 = .ok (.iushr, 1) := by decide +kernel
theorem d_Wi_has_48 : decode b_Wi_has 48 = .ok (.iconst 1, 1) := by decide +kernel
theorem d_Wi_has_49 : decode b_Wi_has 49 = .ok (.iand, 1) := by decide +kernel
theorem d_Wi_has_50 : decode b_Wi_has 50 = .ok (.ifCond .eq 7, 3) := by decide +kernel
theorem d_Wi_has_53 : decode b_Wi_has 53 = .ok (.iconst 1, 1) := by decide +kernel
theorem d_Wi_has_54 : decode b_Wi_has 54 = .ok (.goto 4, 3) := by decide +kernel
theorem d_Wi_has_57 : decode b_Wi_has 57 = .ok (.iconst 0, 1) := by decide +kernel
theorem d_Wi_has_58 : decode b_Wi_has 58 = .ok (.ireturn, 1) := by decide +kernel
theorem d_Wi_take_0 : decode b_Wi_take 0 = .ok (.lload_n 1, 1) := by decide +kernel
theorem d_Wi_take_1 : decode b_Wi_take 1 = .ok (.lconst 1, 1) := by decide +kernel
theorem d_Wi_take_2 : decode b_Wi_take 2 = .ok (.lcmp, 1) := by decide +kernel
theorem d_Wi_take_3 : decode b_Wi_take 3 = .ok (.ifCond .ge 4, 3) := by decide +kernel
theorem d_Wi_take_6 : decode b_Wi_take 6 = .ok (.return_, 1) := by decide +kernel
theorem d_Wi_take_7 : decode b_Wi_take 7 = .ok (.lload_n 1, 1) := by decide +kernel
theorem d_Wi_take_8 : decode b_Wi_take 8 = .ok (.aload_n 0, 1) := by decide +kernel
theorem d_Wi_take_9 : decode b_Wi_take 9 = .ok (.getfield 19, 3) := by decide +kernel
theorem d_Wi_take_12 : decode b_Wi_take 12 = .ok (.lcmp, 1) := by decide +kernel
theorem d_Wi_take_13 : decode b_Wi_take 13 = .ok (.ifCond .le 13, 3) := by decide +kernel
theorem d_Wi_take_16 : decode b_Wi_take 16 = .ok (.aload_n 0, 1) := by decide +kernel
theorem d_Wi_take_17 : decode b_Wi_take 17 = .ok (.lload_n 1, 1) := by decide +kernel
theorem d_Wi_take_18 : decode b_Wi_take 18 = .ok (.invokevirtual 27, 3) := by decide +kernel
theorem d_Wi_take_21 : decode b_Wi_take 21 = .ok (.aload_n 0, 1) := by decide +kernel
theorem d_Wi_take_22 : decode b_Wi_take 22 = .ok (.lload_n 1, 1) := by decide +kernel
theorem d_Wi_take_23 : decode b_Wi_take 23 = .ok (.putfield 19, 3) := by decide +kernel
theorem d_Wi_take_26 : decode b_Wi_take 26 = .ok (.lload_n 1, 1) := by decide +kernel
theorem d_Wi_take_27 : decode b_Wi_take 27 = .ok (.aload_n 0, 1) := by decide +kernel
theorem d_Wi_take_28 : decode b_Wi_take 28 = .ok (.getfield 15, 3) := by decide +kernel
theorem d_Wi_take_31 : decode b_Wi_take 31 = .ok (.i2l, 1) := by decide +kernel
theorem d_Wi_take_32 : decode b_Wi_take 32 = .ok (.lrem, 1) := by decide +kernel
theorem d_Wi_take_33 : decode b_Wi_take 33 = .ok (.l2i, 1) := by decide +kernel
theorem d_Wi_take_34 : decode b_Wi_take 34 = .ok (.istore_n 3, 1) := by decide +kernel
theorem d_Wi_take_35 : decode b_Wi_take 35 = .ok (.aload_n 0, 1) := by decide +kernel
theorem d_Wi_take_36 : decode b_Wi_take 36 = .ok (.getfield 9, 3) := by decide +kernel
theorem d_Wi_take_39 : decode b_Wi_take 39 = .ok (.iload_n 3, 1) := by decide +kernel
theorem d_Wi_take_40 : decode b_Wi_take 40 = .ok (.bipush 32, 2) := by decide +kernel
theorem d_Wi_take_42 : decode b_Wi_take 42 = .ok (.idiv, 1) := by decide +kernel
theorem d_Wi_take_43 : decode b_Wi_take 43 = .ok (.dup2, 1) := by decide +kernel
theorem d_Wi_take_44 : decode b_Wi_take 44 = .ok (.iaload, 1) := by decide +kernel
theorem d_Wi_take_45 : decode b_Wi_take 45 = .ok (.iconst 1, 1) := by decide +kernel
theorem d_Wi_take_46 : decode b_Wi_take 46 = .ok (.iload_n 3, 1) := by decide +kernel
theorem d_Wi_take_47 : decode b_Wi_take 47 = .ok (.bipush 32, 2) := by decide +kernel
theorem d_Wi_take_49 : decode b_Wi_take 49 = .ok (.irem, 1) := by decide +kernel
theorem d_Wi_take_50 : decode b_Wi_take 50 = .ok (.ishl, 1) := by decide +kernel
theorem d_Wi_take_51 : decode b_Wi_take 51 = .ok (.ior, 1) := by decide +kernel
theorem d_Wi_take_52 : decode b_Wi_take 52 = .ok (.iastore, 1) := by decide +kernel
theorem d_Wi_take_53 : decode b_Wi_take 53 = .ok (.return_, 1) := by decide +kernel
theorem d_Wi_forget_0 : decode b_Wi_forget 0 = .ok (.lload_n 1, 1) := by decide +kernel
theorem d_Wi_forget_1 : decode b_Wi_forget 1 = .ok (.aload_n 0, 1) := by decide +kernel
theorem d_Wi_forget_2 : decode b_Wi_forget 2 = .ok (.getfield 19, 3) := by decide +kernel
theorem d_Wi_forget_5 : decode b_Wi_forget 5 = .ok (.lsub, 1) := by decide +kernel
theorem d_Wi_forget_6 : decode b_Wi_forget 6 = .ok (.aload_n 0, 1) := by decide +kernel
theorem d_Wi_forget_7 : decode b_Wi_forget 7 = .ok (.getfield 15, 3) := by decide +kernel
theorem d_Wi_forget_10 : decode b_Wi_forget 10 = .ok (.i2l, 1) := by decide +kernel
theorem d_Wi_forget_11 : decode b_Wi_forget 11 = .ok (.invokestatic 31, 3) := by decide +kernel
theorem d_Wi_forget_14 : decode b_Wi_forget 14 = .ok (.l2i, 1) := by decide +kernel
theorem d_Wi_forget_15 : decode b_Wi_forget 15 = .ok (.istore_n 3, 1) := by decide +kernel
theorem d_Wi_forget_16 : decode b_Wi_forget 16 = .ok (.iconst 0, 1) := by decide +kernel
theorem d_Wi_forget_17 : decode b_Wi_forget 17 = .ok (.istore 4, 2) := by decide +kernel
theorem d_Wi_forget_19 : decode b_Wi_forget 19 = .ok (.iload 4, 2) := by decide +kernel
theorem d_Wi_forget_21 : decode b_Wi_forget 21 = .ok (.iload_n 3, 1) := by decide +kernel
theorem d_Wi_forget_22 : decode b_Wi_forget 22 = .ok (.if_icmp .ge 45, 3) := by decide +kernel
theorem d_Wi_forget_25 : decode b_Wi_forget 25 = .ok (.lload_n 1, 1) := by decide +kernel
theorem d_Wi_forget_26 : decode b_Wi_forget 26 = .ok (.iload 4, 2) := by decide +kernel
theorem d_Wi_forget_28 : decode b_Wi_forget 28 = .ok (.i2l, 1) := by decide +kernel
theorem d_Wi_forget_29 : decode b_Wi_forget 29 = .ok (.lsub, 1) := by decide +kernel
theorem d_Wi_forget_30 : decode b_Wi_forget 30 = .ok (.aload_n 0, 1) := by decide +kernel
theorem d_Wi_forget_31 : decode b_Wi_forget 31 = .ok (.getfield 15, 3) := by decide +kernel
theorem d_Wi_forget_34 : decode b_Wi_forget 34 = .ok (.i2l, 1) := by decide +kernel
theorem d_Wi_forget_35 : decode b_Wi_forget 35 = .ok (.lrem, 1) := by decide +kernel
theorem d_Wi_forget_36 : decode b_Wi_forget 36 = .ok (.l2i, 1) := by decide +kernel
theorem d_Wi_forget_37 : decode b_Wi_forget 37 = .ok (.istore 5, 2) := by decide +kernel
theorem d_Wi_forget_39 : decode b_Wi_forget 39 = .ok (.aload_n 0, 1) := by decide +kernel
theorem d_Wi_forget_40 : decode b_Wi_forget 40 = .ok (.getfield 9, 3) := by decide +kernel
theorem d_Wi_forget_43 : decode b_Wi_forget 43 = .ok (.iload 5, 2) := by decide +kernel
theorem d_Wi_forget_45 : decode b_Wi_forget 45 = .ok (.bipush 32, 2) := by decide +kernel
theorem d_Wi_forget_47 : decode b_Wi_forget 47 = .ok (.idiv, 1) := by decide +kernel
theorem d_Wi_forget_48 : decode b_Wi_forget 48 = .ok (.dup2, 1) := by decide +kernel
theorem d_Wi_forget_49 : decode b_Wi_forget 49 = .ok (.iaload, 1) := by decide +kernel
theorem d_Wi_forget_50 : decode b_Wi_forget 50 = .ok (.iconst 1, 1) := by decide +kernel
theorem d_Wi_forget_51 : decode b_Wi_forget 51 = .ok (.iload 5, 2) := by decide +kernel
theorem d_Wi_forget_53 : decode b_Wi_forget 53 = .ok (.bipush 32, 2) := by decide +kernel
theorem d_Wi_forget_55 : decode b_Wi_forget 55 = .ok (.irem, 1) := by decide +kernel
theorem d_Wi_forget_56 : decode b_Wi_forget 56 = .ok (.ishl, 1) := by decide +kernel
theorem d_Wi_forget_57 : decode b_Wi_forget 57 = .ok (.iconst (-1), 1) := by decide +kernel
theorem d_Wi_forget_58 : decode b_Wi_forget 58 = .ok (.ixor, 1) := by decide +kernel
theorem d_Wi_forget_59 : decode b_Wi_forget 59 = .ok (.iand, 1) := by decide +kernel
theorem d_Wi_forget_60 : decode b_Wi_forget 60 = .ok (.iastore, 1) := by decide +kernel
theorem d_Wi_forget_61 : decode b_Wi_forget 61 = .ok (.iinc 4 1, 3) := by decide +kernel
theorem d_Wi_forget_64 : decode b_Wi_forget 64 = .ok (.goto (-45), 3) := by decide +kernel
theorem d_Wi_forget_67 : decode b_Wi_forget 67 = .ok (.return_, 1) := by decide +kernel
theorem d_Wi_bitsFrom_0 : decode b_Wi_bitsFrom 0 = .ok (.lconst 0, 1) := by decide +kernel
theorem d_Wi_bitsFrom_1 : decode b_Wi_bitsFrom 1 = .ok (.lstore_n 2, 1) := by decide +kernel
theorem d_Wi_bitsFrom_2 : decode b_Wi_bitsFrom 2 = .ok (.iconst 0, 1) := by decide +kernel
theorem d_Wi_bitsFrom_3 : decode b_Wi_bitsFrom 3 = .ok (.istore 4, 2) := by decide +kernel
theorem d_Wi_bitsFrom_5 : decode b_Wi_bitsFrom 5 = .ok (.iload 4, 2) := by decide +kernel
theorem d_Wi_bitsFrom_7 : decode b_Wi_bitsFrom 7 = .ok (.bipush 64, 2) := by decide +kernel
theorem d_Wi_bitsFrom_9 : decode b_Wi_bitsFrom 9 = .ok (.if_icmp .ge 34, 3) := by decide +kernel
theorem d_Wi_bitsFrom_12 : decode b_Wi_bitsFrom 12 = .ok (.aload_n 0, 1) := by decide +kernel
theorem d_Wi_bitsFrom_13 : decode b_Wi_bitsFrom 13 = .ok (.aload_n 0, 1) := by decide +kernel
theorem d_Wi_bitsFrom_14 : decode b_Wi_bitsFrom 14 = .ok (.getfield 19, 3) := by decide +kernel
theorem d_Wi_bitsFrom_17 : decode b_Wi_bitsFrom 17 = .ok (.iload_n 1, 1) := by decide +kernel
theorem d_Wi_bitsFrom_18 : decode b_Wi_bitsFrom 18 = .ok (.i2l, 1) := by decide +kernel
theorem d_Wi_bitsFrom_19 : decode b_Wi_bitsFrom 19 = .ok (.lsub, 1) := by decide +kernel
theorem d_Wi_bitsFrom_20 : decode b_Wi_bitsFrom 20 = .ok (.iload 4, 2) := by decide +kernel
theorem d_Wi_bitsFrom_22 : decode b_Wi_bitsFrom 22 = .ok (.i2l, 1) := by decide +kernel
theorem d_Wi_bitsFrom_23 : decode b_Wi_bitsFrom 23 = .ok (.lsub, 1) := by decide +kernel
theorem d_Wi_bitsFrom_24 : decode b_Wi_bitsFrom 24 = .ok (.invokevirtual 37, 3) := by decide +kernel
theorem d_Wi_bitsFrom_27 : decode b_Wi_bitsFrom 27 = .ok (.ifCond .eq 10, 3) := by decide +kernel
theorem d_Wi_bitsFrom_30 : decode b_Wi_bitsFrom 30 = .ok (.lload_n 2, 1) := by decide +kernel
theorem d_Wi_bitsFrom_31 : decode b_Wi_bitsFrom 31 = .ok (.lconst 1, 1) := by decide +kernel
theorem d_Wi_bitsFrom_32 : decode b_Wi_bitsFrom 32 = .ok (.iload 4, 2) := by decide +kernel
theorem d_Wi_bitsFrom_34 : decode b_Wi_bitsFrom 34 = .ok (.lshl, 1) := by decide +kernel
theorem d_Wi_bitsFrom_35 : decode b_Wi_bitsFrom 35 = .ok (.lor, 1) := by decide +kernel
theorem d_Wi_bitsFrom_36 : decode b_Wi_bitsFrom 36 = .ok (.lstore_n 2, 1) := by decide +kernel
theorem d_Wi_bitsFrom_37 : decode b_Wi_bitsFrom 37 = .ok (.iinc 4 1, 3) := by decide +kernel
theorem d_Wi_bitsFrom_40 : decode b_Wi_bitsFrom 40 = .ok (.goto (-35), 3) := by decide +kernel
theorem d_Wi_bitsFrom_43 : decode b_Wi_bitsFrom 43 = .ok (.lload_n 2, 1) := by decide +kernel
theorem d_Wi_bitsFrom_44 : decode b_Wi_bitsFrom 44 = .ok (.lreturn, 1) := by decide +kernel
theorem d_La_add_0 : decode b_La_add 0 = .ok (.aload 9, 2) := by decide +kernel
theorem d_La_add_2 : decode b_La_add 2 = .ok (.iconst 0, 1) := by decide +kernel
theorem d_La_add_3 : decode b_La_add 3 = .ok (.aload_n 0, 1) := by decide +kernel
theorem d_La_add_4 : decode b_La_add 4 = .ok (.iload_n 1, 1) := by decide +kernel
theorem d_La_add_5 : decode b_La_add 5 = .ok (.lload_n 2, 1) := by decide +kernel
theorem d_La_add_6 : decode b_La_add 6 = .ok (.lload 4, 2) := by decide +kernel
theorem d_La_add_8 : decode b_La_add 8 = .ok (.iload 6, 2) := by decide +kernel
theorem d_La_add_10 : decode b_La_add 10 = .ok (.iload 7, 2) := by decide +kernel
theorem d_La_add_12 : decode b_La_add 12 = .ok (.iload 8, 2) := by decide +kernel
theorem d_La_add_14 : decode b_La_add 14 = .ok (.invokevirtual 7, 3) := by decide +kernel
theorem d_La_add_17 : decode b_La_add 17 = .ok (.ifCond .eq 7, 3) := by decide +kernel
theorem d_La_add_20 : decode b_La_add 20 = .ok (.lconst 1, 1) := by decide +kernel
theorem d_La_add_21 : decode b_La_add 21 = .ok (.goto 4, 3) := by decide +kernel
theorem d_La_add_24 : decode b_La_add 24 = .ok (.lconst 0, 1) := by decide +kernel
theorem d_La_add_25 : decode b_La_add 25 = .ok (.lastore, 1) := by decide +kernel
theorem d_La_add_26 : decode b_La_add 26 = .ok (.goto 7, 3) := by decide +kernel
theorem d_La_add_29 : decode b_La_add 29 = .ok (.astore 10, 2) := by decide +kernel
theorem d_La_add_31 : decode b_La_add 31 = .ok (.iconst 1, 1) := by decide +kernel
theorem d_La_add_32 : decode b_La_add 32 = .ok (.ireturn, 1) := by decide +kernel
theorem d_La_add_33 : decode b_La_add 33 = .ok (.iconst 0, 1) := by decide +kernel
theorem d_La_add_34 : decode b_La_add 34 = .ok (.ireturn, 1) := by decide +kernel
theorem d_La_hurry_0 : decode b_La_hurry 0 = .ok (.aload_n 0, 1) := by decide +kernel
theorem d_La_hurry_1 : decode b_La_hurry 1 = .ok (.iload_n 1, 1) := by decide +kernel
theorem d_La_hurry_2 : decode b_La_hurry 2 = .ok (.lload_n 2, 1) := by decide +kernel
theorem d_La_hurry_3 : decode b_La_hurry 3 = .ok (.invokevirtual 15, 3) := by decide +kernel
theorem d_La_hurry_6 : decode b_La_hurry 6 = .ok (.goto 11, 3) := by decide +kernel
theorem d_La_hurry_9 : decode b_La_hurry 9 = .ok (.astore 4, 2) := by decide +kernel
theorem d_La_hurry_11 : decode b_La_hurry 11 = .ok (.iconst 1, 1) := by decide +kernel
theorem d_La_hurry_12 : decode b_La_hurry 12 = .ok (.ireturn, 1) := by decide +kernel
theorem d_La_hurry_13 : decode b_La_hurry 13 = .ok (.astore 4, 2) := by decide +kernel
theorem d_La_hurry_15 : decode b_La_hurry 15 = .ok (.iconst 2, 1) := by decide +kernel
theorem d_La_hurry_16 : decode b_La_hurry 16 = .ok (.ireturn, 1) := by decide +kernel
theorem d_La_hurry_17 : decode b_La_hurry 17 = .ok (.iconst 0, 1) := by decide +kernel
theorem d_La_hurry_18 : decode b_La_hurry 18 = .ok (.ireturn, 1) := by decide +kernel
theorem d_La_life_0 : decode b_La_life 0 = .ok (.aload_n 3, 1) := by decide +kernel
theorem d_La_life_1 : decode b_La_life 1 = .ok (.iconst 0, 1) := by decide +kernel
theorem d_La_life_2 : decode b_La_life 2 = .ok (.aload_n 0, 1) := by decide +kernel
theorem d_La_life_3 : decode b_La_life 3 = .ok (.iload_n 1, 1) := by decide +kernel
theorem d_La_life_4 : decode b_La_life 4 = .ok (.iload_n 2, 1) := by decide +kernel
theorem d_La_life_5 : decode b_La_life 5 = .ok (.invokevirtual 21, 3) := by decide +kernel
theorem d_La_life_8 : decode b_La_life 8 = .ok (.i2l, 1) := by decide +kernel
theorem d_La_life_9 : decode b_La_life 9 = .ok (.lastore, 1) := by decide +kernel
theorem d_La_life_10 : decode b_La_life 10 = .ok (.goto 11, 3) := by decide +kernel
theorem d_La_life_13 : decode b_La_life 13 = .ok (.astore 4, 2) := by decide +kernel
theorem d_La_life_15 : decode b_La_life 15 = .ok (.iconst 1, 1) := by decide +kernel
theorem d_La_life_16 : decode b_La_life 16 = .ok (.ireturn, 1) := by decide +kernel
theorem d_La_life_17 : decode b_La_life 17 = .ok (.astore 4, 2) := by decide +kernel
theorem d_La_life_19 : decode b_La_life 19 = .ok (.iconst 2, 1) := by decide +kernel
theorem d_La_life_20 : decode b_La_life 20 = .ok (.ireturn, 1) := by decide +kernel
theorem d_La_life_21 : decode b_La_life 21 = .ok (.iconst 0, 1) := by decide +kernel
theorem d_La_life_22 : decode b_La_life 22 = .ok (.ireturn, 1) := by decide +kernel
theorem d_La_feed_0 : decode b_La_feed 0 = .ok (.aload 4, 2) := by decide +kernel
theorem d_La_feed_2 : decode b_La_feed 2 = .ok (.iconst 0, 1) := by decide +kernel
theorem d_La_feed_3 : decode b_La_feed 3 = .ok (.aload_n 0, 1) := by decide +kernel
theorem d_La_feed_4 : decode b_La_feed 4 = .ok (.iload_n 1, 1) := by decide +kernel
theorem d_La_feed_5 : decode b_La_feed 5 = .ok (.lload_n 2, 1) := by decide +kernel
theorem d_La_feed_6 : decode b_La_feed 6 = .ok (.invokevirtual 25, 3) := by decide +kernel
theorem d_La_feed_9 : decode b_La_feed 9 = .ok (.i2l, 1) := by decide +kernel
theorem d_La_feed_10 : decode b_La_feed 10 = .ok (.lastore, 1) := by decide +kernel
theorem d_La_feed_11 : decode b_La_feed 11 = .ok (.goto 7, 3) := by decide +kernel
theorem d_La_feed_14 : decode b_La_feed 14 = .ok (.astore 5, 2) := by decide +kernel
theorem d_La_feed_16 : decode b_La_feed 16 = .ok (.iconst 1, 1) := by decide +kernel
theorem d_La_feed_17 : decode b_La_feed 17 = .ok (.ireturn, 1) := by decide +kernel
theorem d_La_feed_18 : decode b_La_feed 18 = .ok (.iconst 0, 1) := by decide +kernel
theorem d_La_feed_19 : decode b_La_feed 19 = .ok (.ireturn, 1) := by decide +kernel
theorem d_La_seal_0 : decode b_La_seal 0 = .ok (.aload_n 3, 1) := by decide +kernel
theorem d_La_seal_1 : decode b_La_seal 1 = .ok (.iconst 0, 1) := by decide +kernel
theorem d_La_seal_2 : decode b_La_seal 2 = .ok (.aload_n 0, 1) := by decide +kernel
theorem d_La_seal_3 : decode b_La_seal 3 = .ok (.iload_n 1, 1) := by decide +kernel
theorem d_La_seal_4 : decode b_La_seal 4 = .ok (.iload_n 2, 1) := by decide +kernel
theorem d_La_seal_5 : decode b_La_seal 5 = .ok (.invokevirtual 29, 3) := by decide +kernel
theorem d_La_seal_8 : decode b_La_seal 8 = .ok (.i2l, 1) := by decide +kernel
theorem d_La_seal_9 : decode b_La_seal 9 = .ok (.lastore, 1) := by decide +kernel
theorem d_La_seal_10 : decode b_La_seal 10 = .ok (.goto 11, 3) := by decide +kernel
theorem d_La_seal_13 : decode b_La_seal 13 = .ok (.astore 4, 2) := by decide +kernel
theorem d_La_seal_15 : decode b_La_seal 15 = .ok (.iconst 1, 1) := by decide +kernel
theorem d_La_seal_16 : decode b_La_seal 16 = .ok (.ireturn, 1) := by decide +kernel
theorem d_La_seal_17 : decode b_La_seal 17 = .ok (.astore 4, 2) := by decide +kernel
theorem d_La_seal_19 : decode b_La_seal 19 = .ok (.iconst 2, 1) := by decide +kernel
theorem d_La_seal_20 : decode b_La_seal 20 = .ok (.ireturn, 1) := by decide +kernel
theorem d_La_seal_21 : decode b_La_seal 21 = .ok (.iconst 0, 1) := by decide +kernel
theorem d_La_seal_22 : decode b_La_seal 22 = .ok (.ireturn, 1) := by decide +kernel
theorem d_La_spoil_0 : decode b_La_spoil 0 = .ok (.aload_n 3, 1) := by decide +kernel
theorem d_La_spoil_1 : decode b_La_spoil 1 = .ok (.iconst 0, 1) := by decide +kernel
theorem d_La_spoil_2 : decode b_La_spoil 2 = .ok (.aload_n 0, 1) := by decide +kernel
theorem d_La_spoil_3 : decode b_La_spoil 3 = .ok (.iload_n 1, 1) := by decide +kernel
theorem d_La_spoil_4 : decode b_La_spoil 4 = .ok (.iload_n 2, 1) := by decide +kernel
theorem d_La_spoil_5 : decode b_La_spoil 5 = .ok (.invokevirtual 32, 3) := by decide +kernel
theorem d_La_spoil_8 : decode b_La_spoil 8 = .ok (.i2l, 1) := by decide +kernel
theorem d_La_spoil_9 : decode b_La_spoil 9 = .ok (.lastore, 1) := by decide +kernel
theorem d_La_spoil_10 : decode b_La_spoil 10 = .ok (.goto 11, 3) := by decide +kernel
theorem d_La_spoil_13 : decode b_La_spoil 13 = .ok (.astore 4, 2) := by decide +kernel
theorem d_La_spoil_15 : decode b_La_spoil 15 = .ok (.iconst 1, 1) := by decide +kernel
theorem d_La_spoil_16 : decode b_La_spoil 16 = .ok (.ireturn, 1) := by decide +kernel
theorem d_La_spoil_17 : decode b_La_spoil 17 = .ok (.astore 4, 2) := by decide +kernel
theorem d_La_spoil_19 : decode b_La_spoil 19 = .ok (.iconst 2, 1) := by decide +kernel
theorem d_La_spoil_20 : decode b_La_spoil 20 = .ok (.ireturn, 1) := by decide +kernel
theorem d_La_spoil_21 : decode b_La_spoil 21 = .ok (.iconst 0, 1) := by decide +kernel
theorem d_La_spoil_22 : decode b_La_spoil 22 = .ok (.ireturn, 1) := by decide +kernel
theorem d_La_cut_0 : decode b_La_cut 0 = .ok (.aload_n 0, 1) := by decide +kernel
theorem d_La_cut_1 : decode b_La_cut 1 = .ok (.iload_n 1, 1) := by decide +kernel
theorem d_La_cut_2 : decode b_La_cut 2 = .ok (.invokevirtual 37, 3) := by decide +kernel
theorem d_La_cut_5 : decode b_La_cut 5 = .ok (.goto 6, 3) := by decide +kernel
theorem d_La_cut_8 : decode b_La_cut 8 = .ok (.astore_n 2, 1) := by decide +kernel
theorem d_La_cut_9 : decode b_La_cut 9 = .ok (.iconst 1, 1) := by decide +kernel
theorem d_La_cut_10 : decode b_La_cut 10 = .ok (.ireturn, 1) := by decide +kernel
theorem d_La_cut_11 : decode b_La_cut 11 = .ok (.iconst 0, 1) := by decide +kernel
theorem d_La_cut_12 : decode b_La_cut 12 = .ok (.ireturn, 1) := by decide +kernel
theorem d_La_keep_0 : decode b_La_keep 0 = .ok (.aload_n 0, 1) := by decide +kernel
theorem d_La_keep_1 : decode b_La_keep 1 = .ok (.iload_n 1, 1) := by decide +kernel
theorem d_La_keep_2 : decode b_La_keep 2 = .ok (.invokevirtual 41, 3) := by decide +kernel
theorem d_La_keep_5 : decode b_La_keep 5 = .ok (.goto 6, 3) := by decide +kernel
theorem d_La_keep_8 : decode b_La_keep 8 = .ok (.astore_n 2, 1) := by decide +kernel
theorem d_La_keep_9 : decode b_La_keep 9 = .ok (.iconst 1, 1) := by decide +kernel
theorem d_La_keep_10 : decode b_La_keep 10 = .ok (.ireturn, 1) := by decide +kernel
theorem d_La_keep_11 : decode b_La_keep 11 = .ok (.iconst 0, 1) := by decide +kernel
theorem d_La_keep_12 : decode b_La_keep 12 = .ok (.ireturn, 1) := by decide +kernel
theorem d_La_bring_0 : decode b_La_bring 0 = .ok (.aload_n 2, 1) := by decide +kernel
theorem d_La_bring_1 : decode b_La_bring 1 = .ok (.iconst 0, 1) := by decide +kernel
theorem d_La_bring_2 : decode b_La_bring 2 = .ok (.aload_n 0, 1) := by decide +kernel
theorem d_La_bring_3 : decode b_La_bring 3 = .ok (.iload_n 1, 1) := by decide +kernel
theorem d_La_bring_4 : decode b_La_bring 4 = .ok (.invokevirtual 44, 3) := by decide +kernel
theorem d_La_bring_7 : decode b_La_bring 7 = .ok (.i2l, 1) := by decide +kernel
theorem d_La_bring_8 : decode b_La_bring 8 = .ok (.lastore, 1) := by decide +kernel
theorem d_La_bring_9 : decode b_La_bring 9 = .ok (.goto 6, 3) := by decide +kernel
theorem d_La_bring_12 : decode b_La_bring 12 = .ok (.astore_n 3, 1) := by decide +kernel
theorem d_La_bring_13 : decode b_La_bring 13 = .ok (.iconst 1, 1) := by decide +kernel
theorem d_La_bring_14 : decode b_La_bring 14 = .ok (.ireturn, 1) := by decide +kernel
theorem d_La_bring_15 : decode b_La_bring 15 = .ok (.iconst 0, 1) := by decide +kernel
theorem d_La_bring_16 : decode b_La_bring 16 = .ok (.ireturn, 1) := by decide +kernel
theorem d_La_told_0 : decode b_La_told 0 = .ok (.aload_n 3, 1) := by decide +kernel
theorem d_La_told_1 : decode b_La_told 1 = .ok (.iconst 0, 1) := by decide +kernel
theorem d_La_told_2 : decode b_La_told 2 = .ok (.aload_n 0, 1) := by decide +kernel
theorem d_La_told_3 : decode b_La_told 3 = .ok (.iload_n 1, 1) := by decide +kernel
theorem d_La_told_4 : decode b_La_told 4 = .ok (.iload_n 2, 1) := by decide +kernel
theorem d_La_told_5 : decode b_La_told 5 = .ok (.invokevirtual 48, 3) := by decide +kernel
theorem d_La_told_8 : decode b_La_told 8 = .ok (.lastore, 1) := by decide +kernel
theorem d_La_told_9 : decode b_La_told 9 = .ok (.goto 11, 3) := by decide +kernel
theorem d_La_told_12 : decode b_La_told 12 = .ok (.astore 4, 2) := by decide +kernel
theorem d_La_told_14 : decode b_La_told 14 = .ok (.iconst 1, 1) := by decide +kernel
theorem d_La_told_15 : decode b_La_told 15 = .ok (.ireturn, 1) := by decide +kernel
theorem d_La_told_16 : decode b_La_told 16 = .ok (.astore 4, 2) := by decide +kernel
theorem d_La_told_18 : decode b_La_told 18 = .ok (.iconst 2, 1) := by decide +kernel
theorem d_La_told_19 : decode b_La_told 19 = .ok (.ireturn, 1) := by decide +kernel
theorem d_La_told_20 : decode b_La_told 20 = .ok (.iconst 0, 1) := by decide +kernel
