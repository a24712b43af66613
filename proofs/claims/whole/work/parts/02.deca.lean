theorem dX0_init_0 : decode cX0_init 0 = .ok (.aload_n 0, 1) := by decide +kernel
theorem dX0_init_1 : decode cX0_init 1 = .ok (.invokespecial 3, 3) := by decide +kernel
theorem dX0_init_4 : decode cX0_init 4 = .ok (.aload_n 0, 1) := by decide +kernel
theorem dX0_init_5 : decode cX0_init 5 = .ok (.bipush 20, 2) := by decide +kernel
theorem dX0_init_7 : decode cX0_init 7 = .ok (.newarray .int, 2) := by decide +kernel
theorem dX0_init_9 : decode cX0_init 9 = .ok (.putfield 9, 3) := by decide +kernel
theorem dX0_init_12 : decode cX0_init 12 = .ok (.return_, 1) := by decide +kernel
theorem dX0_starts_0 : decode cX0_starts 0 = .ok (.aload_n 0, 1) := by decide +kernel
theorem dX0_starts_1 : decode cX0_starts 1 = .ok (.iconst 0, 1) := by decide +kernel
theorem dX0_starts_2 : decode cX0_starts 2 = .ok (.putfield 15, 3) := by decide +kernel
theorem dX0_starts_5 : decode cX0_starts 5 = .ok (.aload_n 0, 1) := by decide +kernel
theorem dX0_starts_6 : decode cX0_starts 6 = .ok (.iload_n 1, 1) := by decide +kernel
theorem dX0_starts_7 : decode cX0_starts 7 = .ok (.putfield 19, 3) := by decide +kernel
theorem dX0_starts_10 : decode cX0_starts 10 = .ok (.aload_n 0, 1) := by decide +kernel
theorem dX0_starts_11 : decode cX0_starts 11 = .ok (.iload_n 2, 1) := by decide +kernel
theorem dX0_starts_12 : decode cX0_starts 12 = .ok (.putfield 22, 3) := by decide +kernel
theorem dX0_starts_15 : decode cX0_starts 15 = .ok (.return_, 1) := by decide +kernel
theorem dX0_begins_0 : decode cX0_begins 0 = .ok (.aload_n 0, 1) := by decide +kernel
theorem dX0_begins_1 : decode cX0_begins 1 = .ok (.getfield 15, 3) := by decide +kernel
theorem dX0_begins_4 : decode cX0_begins 4 = .ok (.bipush 20, 2) := by decide +kernel
theorem dX0_begins_6 : decode cX0_begins 6 = .ok (.if_icmp .ge 13, 3) := by decide +kernel
theorem dX0_begins_9 : decode cX0_begins 9 = .ok (.aload_n 0, 1) := by decide +kernel
theorem dX0_begins_10 : decode cX0_begins 10 = .ok (.getfield 9, 3) := by decide +kernel
theorem dX0_begins_13 : decode cX0_begins 13 = .ok (.aload_n 0, 1) := by decide +kernel
theorem dX0_begins_14 : decode cX0_begins 14 = .ok (.getfield 15, 3) := by decide +kernel
theorem dX0_begins_17 : decode cX0_begins 17 = .ok (.iload_n 1, 1) := by decide +kernel
theorem dX0_begins_18 : decode cX0_begins 18 = .ok (.iastore, 1) := by decide +kernel
theorem dX0_begins_19 : decode cX0_begins 19 = .ok (.aload_n 0, 1) := by decide +kernel
theorem dX0_begins_20 : decode cX0_begins 20 = .ok (.dup, 1) := by decide +kernel
theorem dX0_begins_21 : decode cX0_begins 21 = .ok (.getfield 15, 3) := by decide +kernel
theorem dX0_begins_24 : decode cX0_begins 24 = .ok (.iconst 1, 1) := by decide +kernel
theorem dX0_begins_25 : decode cX0_begins 25 = .ok (.iadd, 1) := by decide +kernel
theorem dX0_begins_26 : decode cX0_begins 26 = .ok (.putfield 15, 3) := by decide +kernel
theorem dX0_begins_29 : decode cX0_begins 29 = .ok (.return_, 1) := by decide +kernel
theorem dX1_init_0 : decode cX1_init 0 = .ok (.aload_n 0, 1) := by decide +kernel
theorem dX1_init_1 : decode cX1_init 1 = .ok (.invokespecial 1, 3) := by decide +kernel
theorem dX1_init_4 : decode cX1_init 4 = .ok (.return_, 1) := by decide +kernel
theorem dX1_joyFrom_0 : decode cX1_joyFrom 0 = .ok (.iload_n 1, 1) := by decide +kernel
theorem dX1_joyFrom_1 : decode cX1_joyFrom 1 = .ok (.iconst 2, 1) := by decide +kernel
theorem dX1_joyFrom_2 : decode cX1_joyFrom 2 = .ok (.idiv, 1) := by decide +kernel
theorem dX1_joyFrom_3 : decode cX1_joyFrom 3 = .ok (.ireturn, 1) := by decide +kernel
theorem dX1_coos_0 : decode cX1_coos 0 = .ok (.aload_n 1, 1) := by decide +kernel
theorem dX1_coos_1 : decode cX1_coos 1 = .ok (.bipush 30, 2) := by decide +kernel
theorem dX1_coos_3 : decode cX1_coos 3 = .ok (.invokevirtual 7, 3) := by decide +kernel
theorem dX1_coos_6 : decode cX1_coos 6 = .ok (.aload_n 0, 1) := by decide +kernel
theorem dX1_coos_7 : decode cX1_coos 7 = .ok (.aload_n 1, 1) := by decide +kernel
theorem dX1_coos_8 : decode cX1_coos 8 = .ok (.iload_n 2, 1) := by decide +kernel
theorem dX1_coos_9 : decode cX1_coos 9 = .ok (.iconst 3, 1) := by decide +kernel
theorem dX1_coos_10 : decode cX1_coos 10 = .ok (.imul, 1) := by decide +kernel
theorem dX1_coos_11 : decode cX1_coos 11 = .ok (.invokespecial 13, 3) := by decide +kernel
theorem dX1_coos_14 : decode cX1_coos 14 = .ok (.ireturn, 1) := by decide +kernel
theorem dX2_init_0 : decode cX2_init 0 = .ok (.aload_n 0, 1) := by decide +kernel
theorem dX2_init_1 : decode cX2_init 1 = .ok (.invokespecial 1, 3) := by decide +kernel
theorem dX2_init_4 : decode cX2_init 4 = .ok (.return_, 1) := by decide +kernel
theorem dX2_joyFrom_0 : decode cX2_joyFrom 0 = .ok (.iload_n 1, 1) := by decide +kernel
theorem dX2_joyFrom_1 : decode cX2_joyFrom 1 = .ok (.aload_n 2, 1) := by decide +kernel
theorem dX2_joyFrom_2 : decode cX2_joyFrom 2 = .ok (.getfield 7, 3) := by decide +kernel
theorem dX2_joyFrom_5 : decode cX2_joyFrom 5 = .ok (.iload_n 3, 1) := by decide +kernel
theorem dX2_joyFrom_6 : decode cX2_joyFrom 6 = .ok (.iaload, 1) := by decide +kernel
theorem dX2_joyFrom_7 : decode cX2_joyFrom 7 = .ok (.iadd, 1) := by decide +kernel
theorem dX2_joyFrom_8 : decode cX2_joyFrom 8 = .ok (.ireturn, 1) := by decide +kernel
theorem dX2_flies_0 : decode cX2_flies 0 = .ok (.aload_n 1, 1) := by decide +kernel
theorem dX2_flies_1 : decode cX2_flies 1 = .ok (.bipush 20, 2) := by decide +kernel
theorem dX2_flies_3 : decode cX2_flies 3 = .ok (.invokevirtual 13, 3) := by decide +kernel
theorem dX2_flies_6 : decode cX2_flies 6 = .ok (.aload_n 0, 1) := by decide +kernel
theorem dX2_flies_7 : decode cX2_flies 7 = .ok (.aload_n 1, 1) := by decide +kernel
theorem dX2_flies_8 : decode cX2_flies 8 = .ok (.iload_n 2, 1) := by decide +kernel
theorem dX2_flies_9 : decode cX2_flies 9 = .ok (.invokespecial 19, 3) := by decide +kernel
theorem dX2_flies_12 : decode cX2_flies 12 = .ok (.bipush 6, 2) := by decide +kernel
theorem dX2_flies_14 : decode cX2_flies 14 = .ok (.ixor, 1) := by decide +kernel
theorem dX2_flies_15 : decode cX2_flies 15 = .ok (.ireturn, 1) := by decide +kernel
theorem dX3_init_0 : decode cX3_init 0 = .ok (.aload_n 0, 1) := by decide +kernel
theorem dX3_init_1 : decode cX3_init 1 = .ok (.invokespecial 1, 3) := by decide +kernel
theorem dX3_init_4 : decode cX3_init 4 = .ok (.return_, 1) := by decide +kernel
theorem dX3_joyFrom_0 : decode cX3_joyFrom 0 = .ok (.aload_n 0, 1) := by decide +kernel
theorem dX3_joyFrom_1 : decode cX3_joyFrom 1 = .ok (.iload_n 1, 1) := by decide +kernel
theorem dX3_joyFrom_2 : decode cX3_joyFrom 2 = .ok (.aload_n 2, 1) := by decide +kernel
theorem dX3_joyFrom_3 : decode cX3_joyFrom 3 = .ok (.iload_n 3, 1) := by decide +kernel
theorem dX3_joyFrom_4 : decode cX3_joyFrom 4 = .ok (.iload 4, 2) := by decide +kernel
theorem dX3_joyFrom_6 : decode cX3_joyFrom 6 = .ok (.invokespecial 7, 3) := by decide +kernel
theorem dX3_joyFrom_9 : decode cX3_joyFrom 9 = .ok (.iconst 2, 1) := by decide +kernel
theorem dX3_joyFrom_10 : decode cX3_joyFrom 10 = .ok (.aload_n 2, 1) := by decide +kernel
theorem dX3_joyFrom_11 : decode cX3_joyFrom 11 = .ok (.getfield 11, 3) := by decide +kernel
theorem dX3_joyFrom_14 : decode cX3_joyFrom 14 = .ok (.iload_n 3, 1) := by decide +kernel
theorem dX3_joyFrom_15 : decode cX3_joyFrom 15 = .ok (.iaload, 1) := by decide +kernel
theorem dX3_joyFrom_16 : decode cX3_joyFrom 16 = .ok (.imul, 1) := by decide +kernel
theorem dX3_joyFrom_17 : decode cX3_joyFrom 17 = .ok (.isub, 1) := by decide +kernel
theorem dX3_joyFrom_18 : decode cX3_joyFrom 18 = .ok (.ireturn, 1) := by decide +kernel
theorem dX3_coos_0 : decode cX3_coos 0 = .ok (.aload_n 1, 1) := by decide +kernel
theorem dX3_coos_1 : decode cX3_coos 1 = .ok (.bipush 50, 2) := by decide +kernel
theorem dX3_coos_3 : decode cX3_coos 3 = .ok (.invokevirtual 17, 3) := by decide +kernel
theorem dX3_coos_6 : decode cX3_coos 6 = .ok (.aload_n 0, 1) := by decide +kernel
theorem dX3_coos_7 : decode cX3_coos 7 = .ok (.aload_n 1, 1) := by decide +kernel
theorem dX3_coos_8 : decode cX3_coos 8 = .ok (.iload_n 2, 1) := by decide +kernel
theorem dX3_coos_9 : decode cX3_coos 9 = .ok (.invokespecial 23, 3) := by decide +kernel
theorem dX3_coos_12 : decode cX3_coos 12 = .ok (.ineg, 1) := by decide +kernel
theorem dX3_coos_13 : decode cX3_coos 13 = .ok (.ireturn, 1) := by decide +kernel
theorem dX3_flies_0 : decode cX3_flies 0 = .ok (.aload_n 1, 1) := by decide +kernel
theorem dX3_flies_1 : decode cX3_flies 1 = .ok (.bipush 51, 2) := by decide +kernel
theorem dX3_flies_3 : decode cX3_flies 3 = .ok (.invokevirtual 17, 3) := by decide +kernel
theorem dX3_flies_6 : decode cX3_flies 6 = .ok (.aload_n 0, 1) := by decide +kernel
theorem dX3_flies_7 : decode cX3_flies 7 = .ok (.aload_n 1, 1) := by decide +kernel
theorem dX3_flies_8 : decode cX3_flies 8 = .ok (.iload_n 2, 1) := by decide +kernel
theorem dX3_flies_9 : decode cX3_flies 9 = .ok (.iconst 1, 1) := by decide +kernel
theorem dX3_flies_10 : decode cX3_flies 10 = .ok (.iadd, 1) := by decide +kernel
theorem dX3_flies_11 : decode cX3_flies 11 = .ok (.invokespecial 27, 3) := by decide +kernel
theorem dX3_flies_14 : decode cX3_flies 14 = .ok (.ireturn, 1) := by decide +kernel
theorem dX4_init_0 : decode cX4_init 0 = .ok (.aload_n 0, 1) := by decide +kernel
theorem dX4_init_1 : decode cX4_init 1 = .ok (.invokespecial 3, 3) := by decide +kernel
theorem dX4_init_4 : decode cX4_init 4 = .ok (.return_, 1) := by decide +kernel
theorem dX4_joyFrom_0 : decode cX4_joyFrom 0 = .ok (.iload 4, 2) := by decide +kernel
theorem dX4_joyFrom_2 : decode cX4_joyFrom 2 = .ok (.ifCond .ne 7, 3) := by decide +kernel
theorem dX4_joyFrom_5 : decode cX4_joyFrom 5 = .ok (.iconst 0, 1) := by decide +kernel
theorem dX4_joyFrom_6 : decode cX4_joyFrom 6 = .ok (.goto 5, 3) := by decide +kernel
theorem dX4_joyFrom_9 : decode cX4_joyFrom 9 = .ok (.bipush 9, 2) := by decide +kernel
theorem dX4_joyFrom_11 : decode cX4_joyFrom 11 = .ok (.istore 5, 2) := by decide +kernel
theorem dX4_joyFrom_13 : decode cX4_joyFrom 13 = .ok (.iconst 0, 1) := by decide +kernel
theorem dX4_joyFrom_14 : decode cX4_joyFrom 14 = .ok (.istore 6, 2) := by decide +kernel
theorem dX4_joyFrom_16 : decode cX4_joyFrom 16 = .ok (.iload 6, 2) := by decide +kernel
theorem dX4_joyFrom_18 : decode cX4_joyFrom 18 = .ok (.bipush 12, 2) := by decide +kernel
theorem dX4_joyFrom_20 : decode cX4_joyFrom 20 = .ok (.if_icmp .ge 40, 3) := by decide +kernel
theorem dX4_joyFrom_23 : decode cX4_joyFrom 23 = .ok (.iload 4, 2) := by decide +kernel
theorem dX4_joyFrom_25 : decode cX4_joyFrom 25 = .ok (.iload 6, 2) := by decide +kernel
theorem dX4_joyFrom_27 : decode cX4_joyFrom 27 = .ok (.ishr, 1) := by decide +kernel
theorem dX4_joyFrom_28 : decode cX4_joyFrom 28 = .ok (.iconst 1, 1) := by decide +kernel
theorem dX4_joyFrom_29 : decode cX4_joyFrom 29 = .ok (.iand, 1) := by decide +kernel
theorem dX4_joyFrom_30 : decode cX4_joyFrom 30 = .ok (.ifCond .eq 24, 3) := by decide +kernel
theorem dX4_joyFrom_33 : decode cX4_joyFrom 33 = .ok (.aload_n 2, 1) := by decide +kernel
theorem dX4_joyFrom_34 : decode cX4_joyFrom 34 = .ok (.getfield 9, 3) := by decide +kernel
theorem dX4_joyFrom_37 : decode cX4_joyFrom 37 = .ok (.iload 6, 2) := by decide +kernel
theorem dX4_joyFrom_39 : decode cX4_joyFrom 39 = .ok (.iaload, 1) := by decide +kernel
theorem dX4_joyFrom_40 : decode cX4_joyFrom 40 = .ok (.iload 5, 2) := by decide +kernel
theorem dX4_joyFrom_42 : decode cX4_joyFrom 42 = .ok (.if_icmp .ge 12, 3) := by decide +kernel
theorem dX4_joyFrom_45 : decode cX4_joyFrom 45 = .ok (.aload_n 2, 1) := by decide +kernel
theorem dX4_joyFrom_46 : decode cX4_joyFrom 46 = .ok (.getfield 9, 3) := by decide +kernel
theorem dX4_joyFrom_49 : decode cX4_joyFrom 49 = .ok (.iload 6, 2) := by decide +kernel
theorem dX4_joyFrom_51 : decode cX4_joyFrom 51 = .ok (.iaload, 1) := by decide +kernel
theorem dX4_joyFrom_52 : decode cX4_joyFrom 52 = .ok (.istore 5, 2) := by decide +kernel
theorem dX4_joyFrom_54 : decode cX4_joyFrom 54 = .ok (.iinc 6 1, 3) := by decide +kernel
theorem dX4_joyFrom_57 : decode cX4_joyFrom 57 = .ok (.goto (-41), 3) := by decide +kernel
theorem dX4_joyFrom_60 : decode cX4_joyFrom 60 = .ok (.iload_n 1, 1) := by decide +kernel
theorem dX4_joyFrom_61 : decode cX4_joyFrom 61 = .ok (.iload 5, 2) := by decide +kernel
theorem dX4_joyFrom_63 : decode cX4_joyFrom 63 = .ok (.isub, 1) := by decide +kernel
theorem dX4_joyFrom_64 : decode cX4_joyFrom 64 = .ok (.ireturn, 1) := by decide +kernel
theorem dX4_tells_0 : decode cX4_tells 0 = .ok (.aload_n 1, 1) := by decide +kernel
theorem dX4_tells_1 : decode cX4_tells 1 = .ok (.bipush 40, 2) := by decide +kernel
theorem dX4_tells_3 : decode cX4_tells 3 = .ok (.invokevirtual 15, 3) := by decide +kernel
theorem dX4_tells_6 : decode cX4_tells 6 = .ok (.aload_n 0, 1) := by decide +kernel
theorem dX4_tells_7 : decode cX4_tells 7 = .ok (.aload_n 1, 1) := by decide +kernel
theorem dX4_tells_8 : decode cX4_tells 8 = .ok (.iload_n 2, 1) := by decide +kernel
theorem dX4_tells_9 : decode cX4_tells 9 = .ok (.invokespecial 21, 3) := by decide +kernel
theorem dX4_tells_12 : decode cX4_tells 12 = .ok (.aload_n 0, 1) := by decide +kernel
theorem dX4_tells_13 : decode cX4_tells 13 = .ok (.aload_n 1, 1) := by decide +kernel
theorem dX4_tells_14 : decode cX4_tells 14 = .ok (.iconst 1, 1) := by decide +kernel
theorem dX4_tells_15 : decode cX4_tells 15 = .ok (.invokevirtual 25, 3) := by decide +kernel
theorem dX4_tells_18 : decode cX4_tells 18 = .ok (.iadd, 1) := by decide +kernel
theorem dX4_tells_19 : decode cX4_tells 19 = .ok (.ireturn, 1) := by decide +kernel
theorem dX5_init_0 : decode cX5_init 0 = .ok (.aload_n 0, 1) := by decide +kernel
theorem dX5_init_1 : decode cX5_init 1 = .ok (.invokespecial 3, 3) := by decide +kernel
theorem dX5_init_4 : decode cX5_init 4 = .ok (.aload_n 0, 1) := by decide +kernel
theorem dX5_init_5 : decode cX5_init 5 = .ok (.bipush 100, 2) := by decide +kernel
theorem dX5_init_7 : decode cX5_init 7 = .ok (.newarray .byte, 2) := by decide +kernel
theorem dX5_init_9 : decode cX5_init 9 = .ok (.putfield 9, 3) := by decide +kernel
theorem dX5_init_12 : decode cX5_init 12 = .ok (.aload_n 0, 1) := by decide +kernel
theorem dX5_init_13 : decode cX5_init 13 = .ok (.bipush 100, 2) := by decide +kernel
theorem dX5_init_15 : decode cX5_init 15 = .ok (.newarray .int, 2) := by decide +kernel
theorem dX5_init_17 : decode cX5_init 17 = .ok (.putfield 15, 3) := by decide +kernel
theorem dX5_init_20 : decode cX5_init 20 = .ok (.aload_n 0, 1) := by decide +kernel
theorem dX5_init_21 : decode cX5_init 21 = .ok (.bipush 10, 2) := by decide +kernel
theorem dX5_init_23 : decode cX5_init 23 = .ok (.newarray .int, 2) := by decide +kernel
theorem dX5_init_25 : decode cX5_init 25 = .ok (.putfield 19, 3) := by decide +kernel
theorem dX5_init_28 : decode cX5_init 28 = .ok (.aload_n 0, 1) := by decide +kernel
theorem dX5_init_29 : decode cX5_init 29 = .ok (.bipush 11, 2) := by decide +kernel
theorem dX5_init_31 : decode cX5_init 31 = .ok (.newarray .int, 2) := by decide +kernel
theorem dX5_init_33 : decode cX5_init 33 = .ok (.putfield 22, 3) := by decide +kernel
theorem dX5_init_36 : decode cX5_init 36 = .ok (.aload_n 0, 1) := by decide +kernel
theorem dX5_init_37 : decode cX5_init 37 = .ok (.ldc 25, 2) := by decide +kernel
theorem dX5_init_39 : decode cX5_init 39 = .ok (.invokevirtual 27, 3) := by decide +kernel
theorem dX5_init_42 : decode cX5_init 42 = .ok (.newarray .int, 2) := by decide +kernel
theorem dX5_init_44 : decode cX5_init 44 = .ok (.putfield 33, 3) := by decide +kernel
theorem dX5_init_47 : decode cX5_init 47 = .ok (.aload_n 0, 1) := by decide +kernel
theorem dX5_init_48 : decode cX5_init 48 = .ok (.iconst 1, 1) := by decide +kernel
theorem dX5_init_49 : decode cX5_init 49 = .ok (.putfield 36, 3) := by decide +kernel
theorem dX5_init_52 : decode cX5_init 52 = .ok (.return_, 1) := by decide +kernel
theorem dX5_faultOf_0 : decode cX5_faultOf 0 = .ok (.aload_n 0, 1) := by decide +kernel
theorem dX5_faultOf_1 : decode cX5_faultOf 1 = .ok (.iload_n 2, 1) := by decide +kernel
theorem dX5_faultOf_2 : decode cX5_faultOf 2 = .ok (.bipush 100, 2) := by decide +kernel
theorem dX5_faultOf_4 : decode cX5_faultOf 4 = .ok (.invokestatic 40, 3) := by decide +kernel
theorem dX5_faultOf_7 : decode cX5_faultOf 7 = .ok (.putfield 46, 3) := by decide +kernel
theorem dX5_faultOf_10 : decode cX5_faultOf 10 = .ok (.aload_n 1, 1) := by decide +kernel
theorem dX5_faultOf_11 : decode cX5_faultOf 11 = .ok (.iconst 0, 1) := by decide +kernel
theorem dX5_faultOf_12 : decode cX5_faultOf 12 = .ok (.aload_n 0, 1) := by decide +kernel
theorem dX5_faultOf_13 : decode cX5_faultOf 13 = .ok (.getfield 9, 3) := by decide +kernel
theorem dX5_faultOf_16 : decode cX5_faultOf 16 = .ok (.iconst 0, 1) := by decide +kernel
theorem dX5_faultOf_17 : decode cX5_faultOf 17 = .ok (.aload_n 0, 1) := by decide +kernel
theorem dX5_faultOf_18 : decode cX5_faultOf 18 = .ok (.getfield 46, 3) := by decide +kernel
theorem dX5_faultOf_21 : decode cX5_faultOf 21 = .ok (.invokestatic 49, 3) := by decide +kernel
theorem dX5_faultOf_24 : decode cX5_faultOf 24 = .ok (.aload_n 0, 1) := by decide +kernel
theorem dX5_faultOf_25 : decode cX5_faultOf 25 = .ok (.iconst 0, 1) := by decide +kernel
theorem dX5_faultOf_26 : decode cX5_faultOf 26 = .ok (.putfield 55, 3) := by decide +kernel
theorem dX5_faultOf_29 : decode cX5_faultOf 29 = .ok (.aload_n 0, 1) := by decide +kernel
theorem dX5_faultOf_30 : decode cX5_faultOf 30 = .ok (.iconst 0, 1) := by decide +kernel
theorem dX5_faultOf_31 : decode cX5_faultOf 31 = .ok (.putfield 58, 3) := by decide +kernel
theorem dX5_faultOf_34 : decode cX5_faultOf 34 = .ok (.aload_n 0, 1) := by decide +kernel
theorem dX5_faultOf_35 : decode cX5_faultOf 35 = .ok (.iconst 0, 1) := by decide +kernel
theorem dX5_faultOf_36 : decode cX5_faultOf 36 = .ok (.putfield 61, 3) := by decide +kernel
theorem dX5_faultOf_39 : decode cX5_faultOf 39 = .ok (.aload_n 0, 1) := by decide +kernel
theorem dX5_faultOf_40 : decode cX5_faultOf 40 = .ok (.iconst 1, 1) := by decide +kernel
theorem dX5_faultOf_41 : decode cX5_faultOf 41 = .ok (.putfield 36, 3) := by decide +kernel
theorem dX5_faultOf_44 : decode cX5_faultOf 44 = .ok (.iconst 1, 1) := by decide +kernel
theorem dX5_faultOf_45 : decode cX5_faultOf 45 = .ok (.istore_n 3, 1) := by decide +kernel
theorem dX5_faultOf_46 : decode cX5_faultOf 46 = .ok (.iload_n 3, 1) := by decide +kernel
theorem dX5_faultOf_47 : decode cX5_faultOf 47 = .ok (.bipush 10, 2) := by decide +kernel
theorem dX5_faultOf_49 : decode cX5_faultOf 49 = .ok (.if_icmp .gt 54, 3) := by decide +kernel
theorem dX5_faultOf_52 : decode cX5_faultOf 52 = .ok (.aload_n 0, 1) := by decide +kernel
theorem dX5_faultOf_53 : decode cX5_faultOf 53 = .ok (.invokevirtual 64, 3) := by decide +kernel
theorem dX5_faultOf_56 : decode cX5_faultOf 56 = .ok (.ifCond .ne 8, 3) := by decide +kernel
theorem dX5_faultOf_59 : decode cX5_faultOf 59 = .ok (.aload_n 0, 1) := by decide +kernel
theorem dX5_faultOf_60 : decode cX5_faultOf 60 = .ok (.getfield 55, 3) := by decide +kernel
theorem dX5_faultOf_63 : decode cX5_faultOf 63 = .ok (.ireturn, 1) := by decide +kernel
theorem dX5_faultOf_64 : decode cX5_faultOf 64 = .ok (.aload_n 0, 1) := by decide +kernel
theorem dX5_faultOf_65 : decode cX5_faultOf 65 = .ok (.getfield 55, 3) := by decide +kernel
theorem dX5_faultOf_68 : decode cX5_faultOf 68 = .ok (.aload_n 0, 1) := by decide +kernel
theorem dX5_faultOf_69 : decode cX5_faultOf 69 = .ok (.getfield 46, 3) := by decide +kernel
theorem dX5_faultOf_72 : decode cX5_faultOf 72 = .ok (.if_icmp .ne 5, 3) := by decide +kernel
theorem dX5_faultOf_75 : decode cX5_faultOf 75 = .ok (.iconst (-1), 1) := by decide +kernel
theorem dX5_faultOf_76 : decode cX5_faultOf 76 = .ok (.ireturn, 1) := by decide +kernel
theorem dX5_faultOf_77 : decode cX5_faultOf 77 = .ok (.iload_n 3, 1) := by decide +kernel
theorem dX5_faultOf_78 : decode cX5_faultOf 78 = .ok (.bipush 10, 2) := by decide +kernel
theorem dX5_faultOf_80 : decode cX5_faultOf 80 = .ok (.if_icmp .eq 12, 3) := by decide +kernel
theorem dX5_faultOf_83 : decode cX5_faultOf 83 = .ok (.aload_n 0, 1) := by decide +kernel
theorem dX5_faultOf_84 : decode cX5_faultOf 84 = .ok (.bipush 59, 2) := by decide +kernel
theorem dX5_faultOf_86 : decode cX5_faultOf 86 = .ok (.invokevirtual 68, 3) := by decide +kernel
theorem dX5_faultOf_89 : decode cX5_faultOf 89 = .ok (.ifCond .ne 8, 3) := by decide +kernel
theorem dX5_faultOf_92 : decode cX5_faultOf 92 = .ok (.aload_n 0, 1) := by decide +kernel
theorem dX5_faultOf_93 : decode cX5_faultOf 93 = .ok (.getfield 55, 3) := by decide +kernel
theorem dX5_faultOf_96 : decode cX5_faultOf 96 = .ok (.ireturn, 1) := by decide +kernel
theorem dX5_faultOf_97 : decode cX5_faultOf 97 = .ok (.iinc 3 1, 3) := by decide +kernel
theorem dX5_faultOf_100 : decode cX5_faultOf 100 = .ok (.goto (-54), 3) := by decide +kernel
theorem dX5_faultOf_103 : decode cX5_faultOf 103 = .ok (.aload_n 0, 1) := by decide +kernel
theorem dX5_faultOf_104 : decode cX5_faultOf 104 = .ok (.getfield 55, 3) := by decide +kernel
theorem dX5_faultOf_107 : decode cX5_faultOf 107 = .ok (.ireturn, 1) := by decide +kernel
theorem dX5_takesClause_0 : decode cX5_takesClause 0 = .ok (.aload_n 0, 1) := by decide +kernel
theorem dX5_takesClause_1 : decode cX5_takesClause 1 = .ok (.bipush 114, 2) := by decide +kernel
theorem dX5_takesClause_3 : decode cX5_takesClause 3 = .ok (.invokevirtual 68, 3) := by decide +kernel
theorem dX5_takesClause_6 : decode cX5_takesClause 6 = .ok (.ifCond .eq 25, 3) := by decide +kernel
theorem dX5_takesClause_9 : decode cX5_takesClause 9 = .ok (.aload_n 0, 1) := by decide +kernel
theorem dX5_takesClause_10 : decode cX5_takesClause 10 = .ok (.ldc 72, 2) := by decide +kernel
theorem dX5_takesClause_12 : decode cX5_takesClause 12 = .ok (.invokevirtual 74, 3) := by decide +kernel
theorem dX5_takesClause_15 : decode cX5_takesClause 15 = .ok (.ifCond .eq 14, 3) := by decide +kernel
theorem dX5_takesClause_18 : decode cX5_takesClause 18 = .ok (.aload_n 0, 1) := by decide +kernel
theorem dX5_takesClause_19 : decode cX5_takesClause 19 = .ok (.invokevirtual 78, 3) := by decide +kernel
theorem dX5_takesClause_22 : decode cX5_takesClause 22 = .ok (.ifCond .eq 7, 3) := by decide +kernel
theorem dX5_takesClause_25 : decode cX5_takesClause 25 = .ok (.iconst 1, 1) := by decide +kernel
theorem dX5_takesClause_26 : decode cX5_takesClause 26 = .ok (.goto 4, 3) := by decide +kernel
theorem dX5_takesClause_29 : decode cX5_takesClause 29 = .ok (.iconst 0, 1) := by decide +kernel
theorem dX5_takesClause_30 : decode cX5_takesClause 30 = .ok (.ireturn, 1) := by decide +kernel
theorem dX5_takesClause_31 : decode cX5_takesClause 31 = .ok (.aload_n 0, 1) := by decide +kernel
theorem dX5_takesClause_32 : decode cX5_takesClause 32 = .ok (.bipush 103, 2) := by decide +kernel
theorem dX5_takesClause_34 : decode cX5_takesClause 34 = .ok (.invokevirtual 68, 3) := by decide +kernel
theorem dX5_takesClause_37 : decode cX5_takesClause 37 = .ok (.ifCond .ne 5, 3) := by decide +kernel
theorem dX5_takesClause_40 : decode cX5_takesClause 40 = .ok (.iconst 0, 1) := by decide +kernel
theorem dX5_takesClause_41 : decode cX5_takesClause 41 = .ok (.ireturn, 1) := by decide +kernel
theorem dX5_takesClause_42 : decode cX5_takesClause 42 = .ok (.aload_n 0, 1) := by decide +kernel
theorem dX5_takesClause_43 : decode cX5_takesClause 43 = .ok (.bipush 108, 2) := by decide +kernel
theorem dX5_takesClause_45 : decode cX5_takesClause 45 = .ok (.invokevirtual 68, 3) := by decide +kernel
theorem dX5_takesClause_48 : decode cX5_takesClause 48 = .ok (.istore_n 1, 1) := by decide +kernel
theorem dX5_takesClause_49 : decode cX5_takesClause 49 = .ok (.aload_n 0, 1) := by decide +kernel
theorem dX5_takesClause_50 : decode cX5_takesClause 50 = .ok (.iload_n 1, 1) := by decide +kernel
theorem dX5_takesClause_51 : decode cX5_takesClause 51 = .ok (.ifCond .eq 8, 3) := by decide +kernel
theorem dX5_takesClause_54 : decode cX5_takesClause 54 = .ok (.ldc 81, 2) := by decide +kernel
theorem dX5_takesClause_56 : decode cX5_takesClause 56 = .ok (.goto 5, 3) := by decide +kernel
theorem dX5_takesClause_59 : decode cX5_takesClause 59 = .ok (.ldc 83, 2) := by decide +kernel
theorem dX5_takesClause_61 : decode cX5_takesClause 61 = .ok (.invokevirtual 74, 3) := by decide +kernel
theorem dX5_takesClause_64 : decode cX5_takesClause 64 = .ok (.ifCond .ne 5, 3) := by decide +kernel
theorem dX5_takesClause_67 : decode cX5_takesClause 67 = .ok (.iconst 0, 1) := by decide +kernel
theorem dX5_takesClause_68 : decode cX5_takesClause 68 = .ok (.ireturn, 1) := by decide +kernel
theorem dX5_takesClause_69 : decode cX5_takesClause 69 = .ok (.aload_n 0, 1) := by decide +kernel
theorem dX5_takesClause_70 : decode cX5_takesClause 70 = .ok (.invokevirtual 85, 3) := by decide +kernel
theorem dX5_takesClause_73 : decode cX5_takesClause 73 = .ok (.istore_n 2, 1) := by decide +kernel
theorem dX5_takesClause_74 : decode cX5_takesClause 74 = .ok (.iload_n 2, 1) := by decide +kernel
theorem dX5_takesClause_75 : decode cX5_takesClause 75 = .ok (.ifCond .lt 29, 3) := by decide +kernel
theorem dX5_takesClause_78 : decode cX5_takesClause 78 = .ok (.aload_n 0, 1) := by decide +kernel
theorem dX5_takesClause_79 : decode cX5_takesClause 79 = .ok (.bipush 32, 2) := by decide +kernel
theorem dX5_takesClause_81 : decode cX5_takesClause 81 = .ok (.invokevirtual 68, 3) := by decide +kernel
theorem dX5_takesClause_84 : decode cX5_takesClause 84 = .ok (.ifCond .eq 20, 3) := by decide +kernel
theorem dX5_takesClause_87 : decode cX5_takesClause 87 = .ok (.aload_n 0, 1) := by decide +kernel
theorem dX5_takesClause_88 : decode cX5_takesClause 88 = .ok (.iconst 0, 1) := by decide +kernel
theorem dX5_takesClause_89 : decode cX5_takesClause 89 = .ok (.invokevirtual 88, 3) := by decide +kernel
theorem dX5_takesClause_92 : decode cX5_takesClause 92 = .ok (.ifCond .eq 12, 3) := by decide +kernel
theorem dX5_takesClause_95 : decode cX5_takesClause 95 = .ok (.aload_n 0, 1) := by decide +kernel
theorem dX5_takesClause_96 : decode cX5_takesClause 96 = .ok (.getfield 61, 3) := by decide +kernel
theorem dX5_takesClause_99 : decode cX5_takesClause 99 = .ok (.bipush 10, 2) := by decide +kernel
theorem dX5_takesClause_101 : decode cX5_takesClause 101 = .ok (.if_icmp .lt 5, 3) := by decide +kernel
theorem dX5_takesClause_104 : decode cX5_takesClause 104 = .ok (.iconst 0, 1) := by decide +kernel
theorem dX5_takesClause_105 : decode cX5_takesClause 105 = .ok (.ireturn, 1) := by decide +kernel
theorem dX5_takesClause_106 : decode cX5_takesClause 106 = .ok (.aload_n 0, 1) := by decide +kernel
theorem dX5_takesClause_107 : decode cX5_takesClause 107 = .ok (.getfield 19, 3) := by decide +kernel
theorem dX5_takesClause_110 : decode cX5_takesClause 110 = .ok (.aload_n 0, 1) := by decide +kernel
theorem dX5_takesClause_111 : decode cX5_takesClause 111 = .ok (.getfield 61, 3) := by decide +kernel
theorem dX5_takesClause_114 : decode cX5_takesClause 114 = .ok (.iload_n 1, 1) := by decide +kernel
theorem dX5_takesClause_115 : decode cX5_takesClause 115 = .ok (.ifCond .eq 7, 3) := by decide +kernel
theorem dX5_takesClause_118 : decode cX5_takesClause 118 = .ok (.iload_n 2, 1) := by decide +kernel
theorem dX5_takesClause_119 : decode cX5_takesClause 119 = .ok (.goto 5, 3) := by decide +kernel
theorem dX5_takesClause_122 : decode cX5_takesClause 122 = .ok (.iload_n 2, 1) := by decide +kernel
theorem dX5_takesClause_123 : decode cX5_takesClause 123 = .ok (.ineg, 1) := by decide +kernel
theorem dX5_takesClause_124 : decode cX5_takesClause 124 = .ok (.iastore, 1) := by decide +kernel
theorem dX5_takesClause_125 : decode cX5_takesClause 125 = .ok (.aload_n 0, 1) := by decide +kernel
theorem dX5_takesClause_126 : decode cX5_takesClause 126 = .ok (.dup, 1) := by decide +kernel
theorem dX5_takesClause_127 : decode cX5_takesClause 127 = .ok (.getfield 61, 3) := by decide +kernel
theorem dX5_takesClause_130 : decode cX5_takesClause 130 = .ok (.iconst 1, 1) := by decide +kernel
theorem dX5_takesClause_131 : decode cX5_takesClause 131 = .ok (.iadd, 1) := by decide +kernel
theorem dX5_takesClause_132 : decode cX5_takesClause 132 = .ok (.putfield 61, 3) := by decide +kernel
theorem dX5_takesClause_135 : decode cX5_takesClause 135 = .ok (.aload_n 0, 1) := by decide +kernel
theorem dX5_takesClause_136 : decode cX5_takesClause 136 = .ok (.getfield 22, 3) := by decide +kernel
theorem dX5_takesClause_139 : decode cX5_takesClause 139 = .ok (.aload_n 0, 1) := by decide +kernel
theorem dX5_takesClause_140 : decode cX5_takesClause 140 = .ok (.getfield 61, 3) := by decide +kernel
theorem dX5_takesClause_143 : decode cX5_takesClause 143 = .ok (.aload_n 0, 1) := by decide +kernel
theorem dX5_takesClause_144 : decode cX5_takesClause 144 = .ok (.getfield 58, 3) := by decide +kernel
theorem dX5_takesClause_147 : decode cX5_takesClause 147 = .ok (.iastore, 1) := by decide +kernel
theorem dX5_takesClause_148 : decode cX5_takesClause 148 = .ok (.iconst 1, 1) := by decide +kernel
theorem dX5_takesClause_149 : decode cX5_takesClause 149 = .ok (.ireturn, 1) := by decide +kernel
theorem dX5_takesRest_0 : decode cX5_takesRest 0 = .ok (.aload_n 0, 1) := by decide +kernel
theorem dX5_takesRest_1 : decode cX5_takesRest 1 = .ok (.invokevirtual 85, 3) := by decide +kernel
theorem dX5_takesRest_4 : decode cX5_takesRest 4 = .ok (.istore_n 1, 1) := by decide +kernel
theorem dX5_takesRest_5 : decode cX5_takesRest 5 = .ok (.iload_n 1, 1) := by decide +kernel
theorem dX5_takesRest_6 : decode cX5_takesRest 6 = .ok (.ifCond .ge 5, 3) := by decide +kernel
theorem dX5_takesRest_9 : decode cX5_takesRest 9 = .ok (.iconst 0, 1) := by decide +kernel
theorem dX5_takesRest_10 : decode cX5_takesRest 10 = .ok (.ireturn, 1) := by decide +kernel
theorem dX5_takesRest_11 : decode cX5_takesRest 11 = .ok (.aload_n 0, 1) := by decide +kernel
theorem dX5_takesRest_12 : decode cX5_takesRest 12 = .ok (.iload_n 1, 1) := by decide +kernel
theorem dX5_takesRest_13 : decode cX5_takesRest 13 = .ok (.putfield 36, 3) := by decide +kernel
theorem dX5_takesRest_16 : decode cX5_takesRest 16 = .ok (.iconst 1, 1) := by decide +kernel
theorem dX5_takesRest_17 : decode cX5_takesRest 17 = .ok (.ireturn, 1) := by decide +kernel
theorem dX5_takesEither_0 : decode cX5_takesEither 0 = .ok (.iconst 0, 1) := by decide +kernel
theorem dX5_takesEither_1 : decode cX5_takesEither 1 = .ok (.istore_n 2, 1) := by decide +kernel
theorem dX5_takesEither_2 : decode cX5_takesEither 2 = .ok (.iload_n 2, 1) := by decide +kernel
theorem dX5_takesEither_3 : decode cX5_takesEither 3 = .ok (.bipush 100, 2) := by decide +kernel
theorem dX5_takesEither_5 : decode cX5_takesEither 5 = .ok (.if_icmp .ge 79, 3) := by decide +kernel
theorem dX5_takesEither_8 : decode cX5_takesEither 8 = .ok (.aload_n 0, 1) := by decide +kernel
theorem dX5_takesEither_9 : decode cX5_takesEither 9 = .ok (.iload_n 1, 1) := by decide +kernel
theorem dX5_takesEither_10 : decode cX5_takesEither 10 = .ok (.invokevirtual 92, 3) := by decide +kernel
theorem dX5_takesEither_13 : decode cX5_takesEither 13 = .ok (.ifCond .ne 5, 3) := by decide +kernel
theorem dX5_takesEither_16 : decode cX5_takesEither 16 = .ok (.iconst 0, 1) := by decide +kernel
theorem dX5_takesEither_17 : decode cX5_takesEither 17 = .ok (.ireturn, 1) := by decide +kernel
theorem dX5_takesEither_18 : decode cX5_takesEither 18 = .ok (.iconst 0, 1) := by decide +kernel
theorem dX5_takesEither_19 : decode cX5_takesEither 19 = .ok (.istore_n 3, 1) := by decide +kernel
theorem dX5_takesEither_20 : decode cX5_takesEither 20 = .ok (.iload_n 3, 1) := by decide +kernel
theorem dX5_takesEither_21 : decode cX5_takesEither 21 = .ok (.bipush 100, 2) := by decide +kernel
theorem dX5_takesEither_23 : decode cX5_takesEither 23 = .ok (.if_icmp .ge 34, 3) := by decide +kernel
theorem dX5_takesEither_26 : decode cX5_takesEither 26 = .ok (.aload_n 0, 1) := by decide +kernel
theorem dX5_takesEither_27 : decode cX5_takesEither 27 = .ok (.bipush 38, 2) := by decide +kernel
theorem dX5_takesEither_29 : decode cX5_takesEither 29 = .ok (.invokevirtual 68, 3) := by decide +kernel
theorem dX5_takesEither_32 : decode cX5_takesEither 32 = .ok (.ifCond .eq 25, 3) := by decide +kernel
theorem dX5_takesEither_35 : decode cX5_takesEither 35 = .ok (.aload_n 0, 1) := by decide +kernel
theorem dX5_takesEither_36 : decode cX5_takesEither 36 = .ok (.iload_n 1, 1) := by decide +kernel
theorem dX5_takesEither_37 : decode cX5_takesEither 37 = .ok (.invokevirtual 92, 3) := by decide +kernel
theorem dX5_takesEither_40 : decode cX5_takesEither 40 = .ok (.ifCond .ne 5, 3) := by decide +kernel
theorem dX5_takesEither_43 : decode cX5_takesEither 43 = .ok (.iconst 0, 1) := by decide +kernel
theorem dX5_takesEither_44 : decode cX5_takesEither 44 = .ok (.ireturn, 1) := by decide +kernel
theorem dX5_takesEither_45 : decode cX5_takesEither 45 = .ok (.aload_n 0, 1) := by decide +kernel
theorem dX5_takesEither_46 : decode cX5_takesEither 46 = .ok (.bipush (-2), 2) := by decide +kernel
theorem dX5_takesEither_48 : decode cX5_takesEither 48 = .ok (.invokevirtual 95, 3) := by decide +kernel
theorem dX5_takesEither_51 : decode cX5_takesEither 51 = .ok (.iinc 3 1, 3) := by decide +kernel
theorem dX5_takesEither_54 : decode cX5_takesEither 54 = .ok (.goto (-34), 3) := by decide +kernel
theorem dX5_takesEither_57 : decode cX5_takesEither 57 = .ok (.iload_n 2, 1) := by decide +kernel
theorem dX5_takesEither_58 : decode cX5_takesEither 58 = .ok (.ifCond .le 9, 3) := by decide +kernel
theorem dX5_takesEither_61 : decode cX5_takesEither 61 = .ok (.aload_n 0, 1) := by decide +kernel
theorem dX5_takesEither_62 : decode cX5_takesEither 62 = .ok (.bipush (-3), 2) := by decide +kernel
theorem dX5_takesEither_64 : decode cX5_takesEither 64 = .ok (.invokevirtual 95, 3) := by decide +kernel
theorem dX5_takesEither_67 : decode cX5_takesEither 67 = .ok (.aload_n 0, 1) := by decide +kernel
theorem dX5_takesEither_68 : decode cX5_takesEither 68 = .ok (.bipush 124, 2) := by decide +kernel
theorem dX5_takesEither_70 : decode cX5_takesEither 70 = .ok (.invokevirtual 68, 3) := by decide +kernel
theorem dX5_takesEither_73 : decode cX5_takesEither 73 = .ok (.ifCond .ne 5, 3) := by decide +kernel
theorem dX5_takesEither_76 : decode cX5_takesEither 76 = .ok (.iconst 1, 1) := by decide +kernel
theorem dX5_takesEither_77 : decode cX5_takesEither 77 = .ok (.ireturn, 1) := by decide +kernel
theorem dX5_takesEither_78 : decode cX5_takesEither 78 = .ok (.iinc 2 1, 3) := by decide +kernel
theorem dX5_takesEither_81 : decode cX5_takesEither 81 = .ok (.goto (-79), 3) := by decide +kernel
theorem dX5_takesEither_84 : decode cX5_takesEither 84 = .ok (.iconst 0, 1) := by decide +kernel
theorem dX5_takesEither_85 : decode cX5_takesEither 85 = .ok (.ireturn, 1) := by decide +kernel
theorem dX5_takesOne_0 : decode cX5_takesOne 0 = .ok (.iload_n 1, 1) := by decide +kernel
theorem dX5_takesOne_1 : decode cX5_takesOne 1 = .ok (.iconst 4, 1) := by decide +kernel
theorem dX5_takesOne_2 : decode cX5_takesOne 2 = .ok (.if_icmp .ge 31, 3) := by decide +kernel
theorem dX5_takesOne_5 : decode cX5_takesOne 5 = .ok (.aload_n 0, 1) := by decide +kernel
theorem dX5_takesOne_6 : decode cX5_takesOne 6 = .ok (.bipush 33, 2) := by decide +kernel
theorem dX5_takesOne_8 : decode cX5_takesOne 8 = .ok (.invokevirtual 68, 3) := by decide +kernel
theorem dX5_takesOne_11 : decode cX5_takesOne 11 = .ok (.ifCond .eq 22, 3) := by decide +kernel
theorem dX5_takesOne_14 : decode cX5_takesOne 14 = .ok (.aload_n 0, 1) := by decide +kernel
theorem dX5_takesOne_15 : decode cX5_takesOne 15 = .ok (.iload_n 1, 1) := by decide +kernel
theorem dX5_takesOne_16 : decode cX5_takesOne 16 = .ok (.iconst 1, 1) := by decide +kernel
theorem dX5_takesOne_17 : decode cX5_takesOne 17 = .ok (.iadd, 1) := by decide +kernel
theorem dX5_takesOne_18 : decode cX5_takesOne 18 = .ok (.invokevirtual 92, 3) := by decide +kernel
theorem dX5_takesOne_21 : decode cX5_takesOne 21 = .ok (.ifCond .ne 5, 3) := by decide +kernel
theorem dX5_takesOne_24 : decode cX5_takesOne 24 = .ok (.iconst 0, 1) := by decide +kernel
theorem dX5_takesOne_25 : decode cX5_takesOne 25 = .ok (.ireturn, 1) := by decide +kernel
theorem dX5_takesOne_26 : decode cX5_takesOne 26 = .ok (.aload_n 0, 1) := by decide +kernel
theorem dX5_takesOne_27 : decode cX5_takesOne 27 = .ok (.iconst (-1), 1) := by decide +kernel
theorem dX5_takesOne_28 : decode cX5_takesOne 28 = .ok (.invokevirtual 95, 3) := by decide +kernel
theorem dX5_takesOne_31 : decode cX5_takesOne 31 = .ok (.iconst 1, 1) := by decide +kernel
theorem dX5_takesOne_32 : decode cX5_takesOne 32 = .ok (.ireturn, 1) := by decide +kernel
theorem dX5_takesOne_33 : decode cX5_takesOne 33 = .ok (.iload_n 1, 1) := by decide +kernel
theorem dX5_takesOne_34 : decode cX5_takesOne 34 = .ok (.iconst 4, 1) := by decide +kernel
theorem dX5_takesOne_35 : decode cX5_takesOne 35 = .ok (.if_icmp .ge 37, 3) := by decide +kernel
theorem dX5_takesOne_38 : decode cX5_takesOne 38 = .ok (.aload_n 0, 1) := by decide +kernel
theorem dX5_takesOne_39 : decode cX5_takesOne 39 = .ok (.bipush 40, 2) := by decide +kernel
theorem dX5_takesOne_41 : decode cX5_takesOne 41 = .ok (.invokevirtual 68, 3) := by decide +kernel
theorem dX5_takesOne_44 : decode cX5_takesOne 44 = .ok (.ifCond .eq 28, 3) := by decide +kernel
theorem dX5_takesOne_47 : decode cX5_takesOne 47 = .ok (.aload_n 0, 1) := by decide +kernel
theorem dX5_takesOne_48 : decode cX5_takesOne 48 = .ok (.iload_n 1, 1) := by decide +kernel
theorem dX5_takesOne_49 : decode cX5_takesOne 49 = .ok (.iconst 1, 1) := by decide +kernel
theorem dX5_takesOne_50 : decode cX5_takesOne 50 = .ok (.iadd, 1) := by decide +kernel
theorem dX5_takesOne_51 : decode cX5_takesOne 51 = .ok (.invokevirtual 88, 3) := by decide +kernel
theorem dX5_takesOne_54 : decode cX5_takesOne 54 = .ok (.ifCond .eq 16, 3) := by decide +kernel
theorem dX5_takesOne_57 : decode cX5_takesOne 57 = .ok (.aload_n 0, 1) := by decide +kernel
theorem dX5_takesOne_58 : decode cX5_takesOne 58 = .ok (.bipush 41, 2) := by decide +kernel
theorem dX5_takesOne_60 : decode cX5_takesOne 60 = .ok (.invokevirtual 68, 3) := by decide +kernel
theorem dX5_takesOne_63 : decode cX5_takesOne 63 = .ok (.ifCond .eq 7, 3) := by decide +kernel
theorem dX5_takesOne_66 : decode cX5_takesOne 66 = .ok (.iconst 1, 1) := by decide +kernel
theorem dX5_takesOne_67 : decode cX5_takesOne 67 = .ok (.goto 4, 3) := by decide +kernel
theorem dX5_takesOne_70 : decode cX5_takesOne 70 = .ok (.iconst 0, 1) := by decide +kernel
theorem dX5_takesOne_71 : decode cX5_takesOne 71 = .ok (.ireturn, 1) := by decide +kernel
theorem dX5_takesOne_72 : decode cX5_takesOne 72 = .ok (.aload_n 0, 1) := by decide +kernel
theorem dX5_takesOne_73 : decode cX5_takesOne 73 = .ok (.invokevirtual 99, 3) := by decide +kernel
theorem dX5_takesOne_76 : decode cX5_takesOne 76 = .ok (.ireturn, 1) := by decide +kernel
theorem dX5_takesTest_0 : decode cX5_takesTest 0 = .ok (.aload_n 0, 1) := by decide +kernel
theorem dX5_takesTest_1 : decode cX5_takesTest 1 = .ok (.ldc 25, 2) := by decide +kernel
theorem dX5_takesTest_3 : decode cX5_takesTest 3 = .ok (.invokevirtual 102, 3) := by decide +kernel
theorem dX5_takesTest_6 : decode cX5_takesTest 6 = .ok (.istore_n 1, 1) := by decide +kernel
theorem dX5_takesTest_7 : decode cX5_takesTest 7 = .ok (.iload_n 1, 1) := by decide +kernel
theorem dX5_takesTest_8 : decode cX5_takesTest 8 = .ok (.ifCond .ge 5, 3) := by decide +kernel
theorem dX5_takesTest_11 : decode cX5_takesTest 11 = .ok (.iconst 0, 1) := by decide +kernel
theorem dX5_takesTest_12 : decode cX5_takesTest 12 = .ok (.ireturn, 1) := by decide +kernel
theorem dX5_takesTest_13 : decode cX5_takesTest 13 = .ok (.aload_n 0, 1) := by decide +kernel
theorem dX5_takesTest_14 : decode cX5_takesTest 14 = .ok (.ldc 106, 2) := by decide +kernel
theorem dX5_takesTest_16 : decode cX5_takesTest 16 = .ok (.invokevirtual 102, 3) := by decide +kernel
theorem dX5_takesTest_19 : decode cX5_takesTest 19 = .ok (.istore_n 2, 1) := by decide +kernel
theorem dX5_takesTest_20 : decode cX5_takesTest 20 = .ok (.iload_n 2, 1) := by decide +kernel
theorem dX5_takesTest_21 : decode cX5_takesTest 21 = .ok (.ifCond .ge 5, 3) := by decide +kernel
theorem dX5_takesTest_24 : decode cX5_takesTest 24 = .ok (.iconst 0, 1) := by decide +kernel
theorem dX5_takesTest_25 : decode cX5_takesTest 25 = .ok (.ireturn, 1) := by decide +kernel
theorem dX5_takesTest_26 : decode cX5_takesTest 26 = .ok (.aload_n 0, 1) := by decide +kernel
theorem dX5_takesTest_27 : decode cX5_takesTest 27 = .ok (.invokevirtual 85, 3) := by decide +kernel
theorem dX5_takesTest_30 : decode cX5_takesTest 30 = .ok (.istore_n 3, 1) := by decide +kernel
theorem dX5_takesTest_31 : decode cX5_takesTest 31 = .ok (.iload_n 3, 1) := by decide +kernel
theorem dX5_takesTest_32 : decode cX5_takesTest 32 = .ok (.ifCond .ge 5, 3) := by decide +kernel
theorem dX5_takesTest_35 : decode cX5_takesTest 35 = .ok (.iconst 0, 1) := by decide +kernel
theorem dX5_takesTest_36 : decode cX5_takesTest 36 = .ok (.ireturn, 1) := by decide +kernel
theorem dX5_takesTest_37 : decode cX5_takesTest 37 = .ok (.aload_n 0, 1) := by decide +kernel
theorem dX5_takesTest_38 : decode cX5_takesTest 38 = .ok (.iload_n 1, 1) := by decide +kernel
theorem dX5_takesTest_39 : decode cX5_takesTest 39 = .ok (.iconst 3, 1) := by decide +kernel
theorem dX5_takesTest_40 : decode cX5_takesTest 40 = .ok (.imul, 1) := by decide +kernel
theorem dX5_takesTest_41 : decode cX5_takesTest 41 = .ok (.iload_n 2, 1) := by decide +kernel
theorem dX5_takesTest_42 : decode cX5_takesTest 42 = .ok (.iadd, 1) := by decide +kernel
theorem dX5_takesTest_43 : decode cX5_takesTest 43 = .ok (.bipush 100, 2) := by decide +kernel
theorem dX5_takesTest_45 : decode cX5_takesTest 45 = .ok (.imul, 1) := by decide +kernel
theorem dX5_takesTest_46 : decode cX5_takesTest 46 = .ok (.iload_n 3, 1) := by decide +kernel
theorem dX5_takesTest_47 : decode cX5_takesTest 47 = .ok (.iadd, 1) := by decide +kernel
theorem dX5_takesTest_48 : decode cX5_takesTest 48 = .ok (.invokevirtual 95, 3) := by decide +kernel
theorem dX5_takesTest_51 : decode cX5_takesTest 51 = .ok (.iconst 1, 1) := by decide +kernel
theorem dX5_takesTest_52 : decode cX5_takesTest 52 = .ok (.ireturn, 1) := by decide +kernel
theorem dX5_takesSign_0 : decode cX5_takesSign 0 = .ok (.aload_n 0, 1) := by decide +kernel
theorem dX5_takesSign_1 : decode cX5_takesSign 1 = .ok (.getfield 55, 3) := by decide +kernel
theorem dX5_takesSign_4 : decode cX5_takesSign 4 = .ok (.aload_n 0, 1) := by decide +kernel
theorem dX5_takesSign_5 : decode cX5_takesSign 5 = .ok (.getfield 46, 3) := by decide +kernel
theorem dX5_takesSign_8 : decode cX5_takesSign 8 = .ok (.if_icmp .ge 16, 3) := by decide +kernel
theorem dX5_takesSign_11 : decode cX5_takesSign 11 = .ok (.aload_n 0, 1) := by decide +kernel
theorem dX5_takesSign_12 : decode cX5_takesSign 12 = .ok (.getfield 9, 3) := by decide +kernel
theorem dX5_takesSign_15 : decode cX5_takesSign 15 = .ok (.aload_n 0, 1) := by decide +kernel
theorem dX5_takesSign_16 : decode cX5_takesSign 16 = .ok (.getfield 55, 3) := by decide +kernel
theorem dX5_takesSign_19 : decode cX5_takesSign 19 = .ok (.baload, 1) := by decide +kernel
theorem dX5_takesSign_20 : decode cX5_takesSign 20 = .ok (.iload_n 1, 1) := by decide +kernel
theorem dX5_takesSign_21 : decode cX5_takesSign 21 = .ok (.if_icmp .eq 5, 3) := by decide +kernel
theorem dX5_takesSign_24 : decode cX5_takesSign 24 = .ok (.iconst 0, 1) := by decide +kernel
theorem dX5_takesSign_25 : decode cX5_takesSign 25 = .ok (.ireturn, 1) := by decide +kernel
theorem dX5_takesSign_26 : decode cX5_takesSign 26 = .ok (.aload_n 0, 1) := by decide +kernel
theorem dX5_takesSign_27 : decode cX5_takesSign 27 = .ok (.dup, 1) := by decide +kernel
theorem dX5_takesSign_28 : decode cX5_takesSign 28 = .ok (.getfield 55, 3) := by decide +kernel
theorem dX5_takesSign_31 : decode cX5_takesSign 31 = .ok (.iconst 1, 1) := by decide +kernel
theorem dX5_takesSign_32 : decode cX5_takesSign 32 = .ok (.iadd, 1) := by decide +kernel
theorem dX5_takesSign_33 : decode cX5_takesSign 33 = .ok (.putfield 55, 3) := by decide +kernel
theorem dX5_takesSign_36 : decode cX5_takesSign 36 = .ok (.iconst 1, 1) := by decide +kernel
theorem dX5_takesSign_37 : decode cX5_takesSign 37 = .ok (.ireturn, 1) := by decide +kernel
theorem dX5_takesSigns_0 : decode cX5_takesSigns 0 = .ok (.iconst 0, 1) := by decide +kernel
theorem dX5_takesSigns_1 : decode cX5_takesSigns 1 = .ok (.istore_n 2, 1) := by decide +kernel
theorem dX5_takesSigns_2 : decode cX5_takesSigns 2 = .ok (.iload_n 2, 1) := by decide +kernel
theorem dX5_takesSigns_3 : decode cX5_takesSigns 3 = .ok (.aload_n 1, 1) := by decide +kernel
theorem dX5_takesSigns_4 : decode cX5_takesSigns 4 = .ok (.invokevirtual 27, 3) := by decide +kernel
theorem dX5_takesSigns_7 : decode cX5_takesSigns 7 = .ok (.if_icmp .ge 23, 3) := by decide +kernel
theorem dX5_takesSigns_10 : decode cX5_takesSigns 10 = .ok (.aload_n 0, 1) := by decide +kernel
theorem dX5_takesSigns_11 : decode cX5_takesSigns 11 = .ok (.aload_n 1, 1) := by decide +kernel
theorem dX5_takesSigns_12 : decode cX5_takesSigns 12 = .ok (.iload_n 2, 1) := by decide +kernel
theorem dX5_takesSigns_13 : decode cX5_takesSigns 13 = .ok (.invokevirtual 108, 3) := by decide +kernel
theorem dX5_takesSigns_16 : decode cX5_takesSigns 16 = .ok (.invokevirtual 68, 3) := by decide +kernel
theorem dX5_takesSigns_19 : decode cX5_takesSigns 19 = .ok (.ifCond .ne 5, 3) := by decide +kernel
theorem dX5_takesSigns_22 : decode cX5_takesSigns 22 = .ok (.iconst 0, 1) := by decide +kernel
theorem dX5_takesSigns_23 : decode cX5_takesSigns 23 = .ok (.ireturn, 1) := by decide +kernel
theorem dX5_takesSigns_24 : decode cX5_takesSigns 24 = .ok (.iinc 2 1, 3) := by decide +kernel
theorem dX5_takesSigns_27 : decode cX5_takesSigns 27 = .ok (.goto (-25), 3) := by decide +kernel
theorem dX5_takesSigns_30 : decode cX5_takesSigns 30 = .ok (.iconst 1, 1) := by decide +kernel
theorem dX5_takesSigns_31 : decode cX5_takesSigns 31 = .ok (.ireturn, 1) := by decide +kernel
theorem dX5_takesOneOf_0 : decode cX5_takesOneOf 0 = .ok (.iconst 0, 1) := by decide +kernel
theorem dX5_takesOneOf_1 : decode cX5_takesOneOf 1 = .ok (.istore_n 2, 1) := by decide +kernel
theorem dX5_takesOneOf_2 : decode cX5_takesOneOf 2 = .ok (.iload_n 2, 1) := by decide +kernel
theorem dX5_takesOneOf_3 : decode cX5_takesOneOf 3 = .ok (.aload_n 1, 1) := by decide +kernel
theorem dX5_takesOneOf_4 : decode cX5_takesOneOf 4 = .ok (.invokevirtual 27, 3) := by decide +kernel
theorem dX5_takesOneOf_7 : decode cX5_takesOneOf 7 = .ok (.if_icmp .ge 23, 3) := by decide +kernel
theorem dX5_takesOneOf_10 : decode cX5_takesOneOf 10 = .ok (.aload_n 0, 1) := by decide +kernel
theorem dX5_takesOneOf_11 : decode cX5_takesOneOf 11 = .ok (.aload_n 1, 1) := by decide +kernel
theorem dX5_takesOneOf_12 : decode cX5_takesOneOf 12 = .ok (.iload_n 2, 1) := by decide +kernel
theorem dX5_takesOneOf_13 : decode cX5_takesOneOf 13 = .ok (.invokevirtual 108, 3) := by decide +kernel
theorem dX5_takesOneOf_16 : decode cX5_takesOneOf 16 = .ok (.invokevirtual 68, 3) := by decide +kernel
theorem dX5_takesOneOf_19 : decode cX5_takesOneOf 19 = .ok (.ifCond .eq 5, 3) := by decide +kernel
theorem dX5_takesOneOf_22 : decode cX5_takesOneOf 22 = .ok (.iload_n 2, 1) := by decide +kernel
theorem dX5_takesOneOf_23 : decode cX5_takesOneOf 23 = .ok (.ireturn, 1) := by decide +kernel
theorem dX5_takesOneOf_24 : decode cX5_takesOneOf 24 = .ok (.iinc 2 1, 3) := by decide +kernel
theorem dX5_takesOneOf_27 : decode cX5_takesOneOf 27 = .ok (.goto (-25), 3) := by decide +kernel
theorem dX5_takesOneOf_30 : decode cX5_takesOneOf 30 = .ok (.iconst (-1), 1) := by decide +kernel
theorem dX5_takesOneOf_31 : decode cX5_takesOneOf 31 = .ok (.ireturn, 1) := by decide +kernel
theorem dX5_takesNumber_0 : decode cX5_takesNumber 0 = .ok (.iconst (-1), 1) := by decide +kernel
theorem dX5_takesNumber_1 : decode cX5_takesNumber 1 = .ok (.istore_n 1, 1) := by decide +kernel
theorem dX5_takesNumber_2 : decode cX5_takesNumber 2 = .ok (.iconst 0, 1) := by decide +kernel
theorem dX5_takesNumber_3 : decode cX5_takesNumber 3 = .ok (.istore_n 2, 1) := by decide +kernel
theorem dX5_takesNumber_4 : decode cX5_takesNumber 4 = .ok (.iload_n 2, 1) := by decide +kernel
theorem dX5_takesNumber_5 : decode cX5_takesNumber 5 = .ok (.iconst 2, 1) := by decide +kernel
theorem dX5_takesNumber_6 : decode cX5_takesNumber 6 = .ok (.if_icmp .ge 80, 3) := by decide +kernel
theorem dX5_takesNumber_9 : decode cX5_takesNumber 9 = .ok (.aload_n 0, 1) := by decide +kernel
theorem dX5_takesNumber_10 : decode cX5_takesNumber 10 = .ok (.getfield 55, 3) := by decide +kernel
theorem dX5_takesNumber_13 : decode cX5_takesNumber 13 = .ok (.aload_n 0, 1) := by decide +kernel
theorem dX5_takesNumber_14 : decode cX5_takesNumber 14 = .ok (.getfield 46, 3) := by decide +kernel
theorem dX5_takesNumber_17 : decode cX5_takesNumber 17 = .ok (.if_icmp .ge 69, 3) := by decide +kernel
theorem dX5_takesNumber_20 : decode cX5_takesNumber 20 = .ok (.aload_n 0, 1) := by decide +kernel
theorem dX5_takesNumber_21 : decode cX5_takesNumber 21 = .ok (.getfield 9, 3) := by decide +kernel
theorem dX5_takesNumber_24 : decode cX5_takesNumber 24 = .ok (.aload_n 0, 1) := by decide +kernel
theorem dX5_takesNumber_25 : decode cX5_takesNumber 25 = .ok (.getfield 55, 3) := by decide +kernel
theorem dX5_takesNumber_28 : decode cX5_takesNumber 28 = .ok (.baload, 1) := by decide +kernel
theorem dX5_takesNumber_29 : decode cX5_takesNumber 29 = .ok (.bipush 48, 2) := by decide +kernel
theorem dX5_takesNumber_31 : decode cX5_takesNumber 31 = .ok (.if_icmp .lt 55, 3) := by decide +kernel
theorem dX5_takesNumber_34 : decode cX5_takesNumber 34 = .ok (.aload_n 0, 1) := by decide +kernel
theorem dX5_takesNumber_35 : decode cX5_takesNumber 35 = .ok (.getfield 9, 3) := by decide +kernel
theorem dX5_takesNumber_38 : decode cX5_takesNumber 38 = .ok (.aload_n 0, 1) := by decide +kernel
theorem dX5_takesNumber_39 : decode cX5_takesNumber 39 = .ok (.getfield 55, 3) := by decide +kernel
theorem dX5_takesNumber_42 : decode cX5_takesNumber 42 = .ok (.baload, 1) := by decide +kernel
theorem dX5_takesNumber_43 : decode cX5_takesNumber 43 = .ok (.bipush 57, 2) := by decide +kernel
theorem dX5_takesNumber_45 : decode cX5_takesNumber 45 = .ok (.if_icmp .gt 41, 3) := by decide +kernel
theorem dX5_takesNumber_48 : decode cX5_takesNumber 48 = .ok (.iload_n 1, 1) := by decide +kernel
theorem dX5_takesNumber_49 : decode cX5_takesNumber 49 = .ok (.iconst 0, 1) := by decide +kernel
theorem dX5_takesNumber_50 : decode cX5_takesNumber 50 = .ok (.invokestatic 112, 3) := by decide +kernel
theorem dX5_takesNumber_53 : decode cX5_takesNumber 53 = .ok (.bipush 10, 2) := by decide +kernel
theorem dX5_takesNumber_55 : decode cX5_takesNumber 55 = .ok (.imul, 1) := by decide +kernel
theorem dX5_takesNumber_56 : decode cX5_takesNumber 56 = .ok (.aload_n 0, 1) := by decide +kernel
theorem dX5_takesNumber_57 : decode cX5_takesNumber 57 = .ok (.getfield 9, 3) := by decide +kernel
theorem dX5_takesNumber_60 : decode cX5_takesNumber 60 = .ok (.aload_n 0, 1) := by decide +kernel
theorem dX5_takesNumber_61 : decode cX5_takesNumber 61 = .ok (.getfield 55, 3) := by decide +kernel
theorem dX5_takesNumber_64 : decode cX5_takesNumber 64 = .ok (.baload, 1) := by decide +kernel
theorem dX5_takesNumber_65 : decode cX5_takesNumber 65 = .ok (.iadd, 1) := by decide +kernel
theorem dX5_takesNumber_66 : decode cX5_takesNumber 66 = .ok (.bipush 48, 2) := by decide +kernel
theorem dX5_takesNumber_68 : decode cX5_takesNumber 68 = .ok (.isub, 1) := by decide +kernel
theorem dX5_takesNumber_69 : decode cX5_takesNumber 69 = .ok (.istore_n 1, 1) := by decide +kernel
theorem dX5_takesNumber_70 : decode cX5_takesNumber 70 = .ok (.aload_n 0, 1) := by decide +kernel
theorem dX5_takesNumber_71 : decode cX5_takesNumber 71 = .ok (.dup, 1) := by decide +kernel
theorem dX5_takesNumber_72 : decode cX5_takesNumber 72 = .ok (.getfield 55, 3) := by decide +kernel
theorem dX5_takesNumber_75 : decode cX5_takesNumber 75 = .ok (.iconst 1, 1) := by decide +kernel
theorem dX5_takesNumber_76 : decode cX5_takesNumber 76 = .ok (.iadd, 1) := by decide +kernel
theorem dX5_takesNumber_77 : decode cX5_takesNumber 77 = .ok (.putfield 55, 3) := by decide +kernel
theorem dX5_takesNumber_80 : decode cX5_takesNumber 80 = .ok (.iinc 2 1, 3) := by decide +kernel
theorem dX5_takesNumber_83 : decode cX5_takesNumber 83 = .ok (.goto (-79), 3) := by decide +kernel
theorem dX5_takesNumber_86 : decode cX5_takesNumber 86 = .ok (.iload_n 1, 1) := by decide +kernel
theorem dX5_takesNumber_87 : decode cX5_takesNumber 87 = .ok (.ireturn, 1) := by decide +kernel
theorem dX5_adds_0 : decode cX5_adds 0 = .ok (.aload_n 0, 1) := by decide +kernel
theorem dX5_adds_1 : decode cX5_adds 1 = .ok (.getfield 58, 3) := by decide +kernel
theorem dX5_adds_4 : decode cX5_adds 4 = .ok (.aload_n 0, 1) := by decide +kernel
theorem dX5_adds_5 : decode cX5_adds 5 = .ok (.getfield 15, 3) := by decide +kernel
theorem dX5_adds_8 : decode cX5_adds 8 = .ok (.arraylength, 1) := by decide +kernel
theorem dX5_adds_9 : decode cX5_adds 9 = .ok (.if_icmp .ge 23, 3) := by decide +kernel
theorem dX5_adds_12 : decode cX5_adds 12 = .ok (.aload_n 0, 1) := by decide +kernel
theorem dX5_adds_13 : decode cX5_adds 13 = .ok (.getfield 15, 3) := by decide +kernel
theorem dX5_adds_16 : decode cX5_adds 16 = .ok (.aload_n 0, 1) := by decide +kernel
theorem dX5_adds_17 : decode cX5_adds 17 = .ok (.getfield 58, 3) := by decide +kernel
theorem dX5_adds_20 : decode cX5_adds 20 = .ok (.iload_n 1, 1) := by decide +kernel
theorem dX5_adds_21 : decode cX5_adds 21 = .ok (.iastore, 1) := by decide +kernel
theorem dX5_adds_22 : decode cX5_adds 22 = .ok (.aload_n 0, 1) := by decide +kernel
theorem dX5_adds_23 : decode cX5_adds 23 = .ok (.dup, 1) := by decide +kernel
theorem dX5_adds_24 : decode cX5_adds 24 = .ok (.getfield 58, 3) := by decide +kernel
theorem dX5_adds_27 : decode cX5_adds 27 = .ok (.iconst 1, 1) := by decide +kernel
theorem dX5_adds_28 : decode cX5_adds 28 = .ok (.iadd, 1) := by decide +kernel
theorem dX5_adds_29 : decode cX5_adds 29 = .ok (.putfield 58, 3) := by decide +kernel
theorem dX5_adds_32 : decode cX5_adds 32 = .ok (.return_, 1) := by decide +kernel
theorem dX5_gainBy_0 : decode cX5_gainBy 0 = .ok (.aload_n 0, 1) := by decide +kernel
theorem dX5_gainBy_1 : decode cX5_gainBy 1 = .ok (.getfield 33, 3) := by decide +kernel
theorem dX5_gainBy_4 : decode cX5_gainBy 4 = .ok (.iconst 0, 1) := by decide +kernel
theorem dX5_gainBy_5 : decode cX5_gainBy 5 = .ok (.iload_n 2, 1) := by decide +kernel
theorem dX5_gainBy_6 : decode cX5_gainBy 6 = .ok (.iastore, 1) := by decide +kernel
theorem dX5_gainBy_7 : decode cX5_gainBy 7 = .ok (.aload_n 0, 1) := by decide +kernel
theorem dX5_gainBy_8 : decode cX5_gainBy 8 = .ok (.getfield 33, 3) := by decide +kernel
theorem dX5_gainBy_11 : decode cX5_gainBy 11 = .ok (.iconst 1, 1) := by decide +kernel
theorem dX5_gainBy_12 : decode cX5_gainBy 12 = .ok (.aload_n 1, 1) := by decide +kernel
theorem dX5_gainBy_13 : decode cX5_gainBy 13 = .ok (.getfield 115, 3) := by decide +kernel
theorem dX5_gainBy_16 : decode cX5_gainBy 16 = .ok (.iload_n 2, 1) := by decide +kernel
theorem dX5_gainBy_17 : decode cX5_gainBy 17 = .ok (.iaload, 1) := by decide +kernel
theorem dX5_gainBy_18 : decode cX5_gainBy 18 = .ok (.iastore, 1) := by decide +kernel
theorem dX5_gainBy_19 : decode cX5_gainBy 19 = .ok (.aload_n 0, 1) := by decide +kernel
theorem dX5_gainBy_20 : decode cX5_gainBy 20 = .ok (.getfield 33, 3) := by decide +kernel
theorem dX5_gainBy_23 : decode cX5_gainBy 23 = .ok (.iconst 2, 1) := by decide +kernel
theorem dX5_gainBy_24 : decode cX5_gainBy 24 = .ok (.aload_n 1, 1) := by decide +kernel
theorem dX5_gainBy_25 : decode cX5_gainBy 25 = .ok (.getfield 120, 3) := by decide +kernel
theorem dX5_gainBy_28 : decode cX5_gainBy 28 = .ok (.iload_n 2, 1) := by decide +kernel
theorem dX5_gainBy_29 : decode cX5_gainBy 29 = .ok (.iaload, 1) := by decide +kernel
theorem dX5_gainBy_30 : decode cX5_gainBy 30 = .ok (.iastore, 1) := by decide +kernel
theorem dX5_gainBy_31 : decode cX5_gainBy 31 = .ok (.aload_n 0, 1) := by decide +kernel
theorem dX5_gainBy_32 : decode cX5_gainBy 32 = .ok (.getfield 33, 3) := by decide +kernel
theorem dX5_gainBy_35 : decode cX5_gainBy 35 = .ok (.iconst 3, 1) := by decide +kernel
theorem dX5_gainBy_36 : decode cX5_gainBy 36 = .ok (.aload_n 1, 1) := by decide +kernel
theorem dX5_gainBy_37 : decode cX5_gainBy 37 = .ok (.getfield 123, 3) := by decide +kernel
theorem dX5_gainBy_40 : decode cX5_gainBy 40 = .ok (.iload_n 2, 1) := by decide +kernel
theorem dX5_gainBy_41 : decode cX5_gainBy 41 = .ok (.iaload, 1) := by decide +kernel
theorem dX5_gainBy_42 : decode cX5_gainBy 42 = .ok (.iastore, 1) := by decide +kernel
theorem dX5_gainBy_43 : decode cX5_gainBy 43 = .ok (.aload_n 0, 1) := by decide +kernel
theorem dX5_gainBy_44 : decode cX5_gainBy 44 = .ok (.getfield 33, 3) := by decide +kernel
theorem dX5_gainBy_47 : decode cX5_gainBy 47 = .ok (.iconst 4, 1) := by decide +kernel
theorem dX5_gainBy_48 : decode cX5_gainBy 48 = .ok (.iload_n 3, 1) := by decide +kernel
theorem dX5_gainBy_49 : decode cX5_gainBy 49 = .ok (.iastore, 1) := by decide +kernel
theorem dX5_gainBy_50 : decode cX5_gainBy 50 = .ok (.aload_n 0, 1) := by decide +kernel
theorem dX5_gainBy_51 : decode cX5_gainBy 51 = .ok (.getfield 33, 3) := by decide +kernel
theorem dX5_gainBy_54 : decode cX5_gainBy 54 = .ok (.iconst 5, 1) := by decide +kernel
theorem dX5_gainBy_55 : decode cX5_gainBy 55 = .ok (.aload_n 1, 1) := by decide +kernel
theorem dX5_gainBy_56 : decode cX5_gainBy 56 = .ok (.getfield 126, 3) := by decide +kernel
theorem dX5_gainBy_59 : decode cX5_gainBy 59 = .ok (.bipush 10, 2) := by decide +kernel
theorem dX5_gainBy_61 : decode cX5_gainBy 61 = .ok (.irem, 1) := by decide +kernel
theorem dX5_gainBy_62 : decode cX5_gainBy 62 = .ok (.iastore, 1) := by decide +kernel
theorem dX5_gainBy_63 : decode cX5_gainBy 63 = .ok (.iconst 0, 1) := by decide +kernel
theorem dX5_gainBy_64 : decode cX5_gainBy 64 = .ok (.istore 4, 2) := by decide +kernel
theorem dX5_gainBy_66 : decode cX5_gainBy 66 = .ok (.iconst 0, 1) := by decide +kernel
theorem dX5_gainBy_67 : decode cX5_gainBy 67 = .ok (.istore 5, 2) := by decide +kernel
theorem dX5_gainBy_69 : decode cX5_gainBy 69 = .ok (.iload 5, 2) := by decide +kernel
theorem dX5_gainBy_71 : decode cX5_gainBy 71 = .ok (.aload_n 0, 1) := by decide +kernel
theorem dX5_gainBy_72 : decode cX5_gainBy 72 = .ok (.getfield 61, 3) := by decide +kernel
theorem dX5_gainBy_75 : decode cX5_gainBy 75 = .ok (.if_icmp .ge 44, 3) := by decide +kernel
theorem dX5_gainBy_78 : decode cX5_gainBy 78 = .ok (.aload_n 0, 1) := by decide +kernel
theorem dX5_gainBy_79 : decode cX5_gainBy 79 = .ok (.aload_n 0, 1) := by decide +kernel
theorem dX5_gainBy_80 : decode cX5_gainBy 80 = .ok (.getfield 22, 3) := by decide +kernel
theorem dX5_gainBy_83 : decode cX5_gainBy 83 = .ok (.iload 5, 2) := by decide +kernel
theorem dX5_gainBy_85 : decode cX5_gainBy 85 = .ok (.iaload, 1) := by decide +kernel
theorem dX5_gainBy_86 : decode cX5_gainBy 86 = .ok (.aload_n 0, 1) := by decide +kernel
theorem dX5_gainBy_87 : decode cX5_gainBy 87 = .ok (.getfield 22, 3) := by decide +kernel
theorem dX5_gainBy_90 : decode cX5_gainBy 90 = .ok (.iload 5, 2) := by decide +kernel
theorem dX5_gainBy_92 : decode cX5_gainBy 92 = .ok (.iconst 1, 1) := by decide +kernel
theorem dX5_gainBy_93 : decode cX5_gainBy 93 = .ok (.iadd, 1) := by decide +kernel
theorem dX5_gainBy_94 : decode cX5_gainBy 94 = .ok (.iaload, 1) := by decide +kernel
theorem dX5_gainBy_95 : decode cX5_gainBy 95 = .ok (.invokevirtual 129, 3) := by decide +kernel
theorem dX5_gainBy_98 : decode cX5_gainBy 98 = .ok (.ifCond .eq 15, 3) := by decide +kernel
theorem dX5_gainBy_101 : decode cX5_gainBy 101 = .ok (.iload 4, 2) := by decide +kernel
theorem dX5_gainBy_103 : decode cX5_gainBy 103 = .ok (.aload_n 0, 1) := by decide +kernel
theorem dX5_gainBy_104 : decode cX5_gainBy 104 = .ok (.getfield 19, 3) := by decide +kernel
theorem dX5_gainBy_107 : decode cX5_gainBy 107 = .ok (.iload 5, 2) := by decide +kernel
theorem dX5_gainBy_109 : decode cX5_gainBy 109 = .ok (.iaload, 1) := by decide +kernel
theorem dX5_gainBy_110 : decode cX5_gainBy 110 = .ok (.iadd, 1) := by decide +kernel
theorem dX5_gainBy_111 : decode cX5_gainBy 111 = .ok (.istore 4, 2) := by decide +kernel
theorem dX5_gainBy_113 : decode cX5_gainBy 113 = .ok (.iinc 5 1, 3) := by decide +kernel
theorem dX5_gainBy_116 : decode cX5_gainBy 116 = .ok (.goto (-47), 3) := by decide +kernel
theorem dX5_gainBy_119 : decode cX5_gainBy 119 = .ok (.iload 4, 2) := by decide +kernel
theorem dX5_gainBy_121 : decode cX5_gainBy 121 = .ok (.ireturn, 1) := by decide +kernel
theorem dX5_isSo_0 : decode cX5_isSo 0 = .ok (.iconst 0, 1) := by decide +kernel
theorem dX5_isSo_1 : decode cX5_isSo 1 = .ok (.istore_n 3, 1) := by decide +kernel
theorem dX5_isSo_2 : decode cX5_isSo 2 = .ok (.iload_n 1, 1) := by decide +kernel
theorem dX5_isSo_3 : decode cX5_isSo 3 = .ok (.istore 4, 2) := by decide +kernel
theorem dX5_isSo_5 : decode cX5_isSo 5 = .ok (.iload 4, 2) := by decide +kernel
theorem dX5_isSo_7 : decode cX5_isSo 7 = .ok (.iload_n 2, 1) := by decide +kernel
theorem dX5_isSo_8 : decode cX5_isSo 8 = .ok (.if_icmp .ge 85, 3) := by decide +kernel
theorem dX5_isSo_11 : decode cX5_isSo 11 = .ok (.aload_n 0, 1) := by decide +kernel
theorem dX5_isSo_12 : decode cX5_isSo 12 = .ok (.getfield 15, 3) := by decide +kernel
theorem dX5_isSo_15 : decode cX5_isSo 15 = .ok (.iload 4, 2) := by decide +kernel
theorem dX5_isSo_17 : decode cX5_isSo 17 = .ok (.iaload, 1) := by decide +kernel
theorem dX5_isSo_18 : decode cX5_isSo 18 = .ok (.istore 5, 2) := by decide +kernel
theorem dX5_isSo_20 : decode cX5_isSo 20 = .ok (.iload 5, 2) := by decide +kernel
theorem dX5_isSo_22 : decode cX5_isSo 22 = .ok (.ifCond .lt 25, 3) := by decide +kernel
theorem dX5_isSo_25 : decode cX5_isSo 25 = .ok (.iload_n 3, 1) := by decide +kernel
theorem dX5_isSo_26 : decode cX5_isSo 26 = .ok (.iconst 1, 1) := by decide +kernel
theorem dX5_isSo_27 : decode cX5_isSo 27 = .ok (.ishl, 1) := by decide +kernel
theorem dX5_isSo_28 : decode cX5_isSo 28 = .ok (.aload_n 0, 1) := by decide +kernel
theorem dX5_isSo_29 : decode cX5_isSo 29 = .ok (.iload 5, 2) := by decide +kernel
theorem dX5_isSo_31 : decode cX5_isSo 31 = .ok (.invokevirtual 133, 3) := by decide +kernel
theorem dX5_isSo_34 : decode cX5_isSo 34 = .ok (.ifCond .eq 7, 3) := by decide +kernel
theorem dX5_isSo_37 : decode cX5_isSo 37 = .ok (.iconst 1, 1) := by decide +kernel
theorem dX5_isSo_38 : decode cX5_isSo 38 = .ok (.goto 4, 3) := by decide +kernel
theorem dX5_isSo_41 : decode cX5_isSo 41 = .ok (.iconst 0, 1) := by decide +kernel
theorem dX5_isSo_42 : decode cX5_isSo 42 = .ok (.ior, 1) := by decide +kernel
theorem dX5_isSo_43 : decode cX5_isSo 43 = .ok (.istore_n 3, 1) := by decide +kernel
theorem dX5_isSo_44 : decode cX5_isSo 44 = .ok (.goto 43, 3) := by decide +kernel
theorem dX5_isSo_47 : decode cX5_isSo 47 = .ok (.iload 5, 2) := by decide +kernel
theorem dX5_isSo_49 : decode cX5_isSo 49 = .ok (.iconst (-1), 1) := by decide +kernel
theorem dX5_isSo_50 : decode cX5_isSo 50 = .ok (.if_icmp .ne 10, 3) := by decide +kernel
theorem dX5_isSo_53 : decode cX5_isSo 53 = .ok (.iload_n 3, 1) := by decide +kernel
theorem dX5_isSo_54 : decode cX5_isSo 54 = .ok (.iconst 1, 1) := by decide +kernel
theorem dX5_isSo_55 : decode cX5_isSo 55 = .ok (.ixor, 1) := by decide +kernel
theorem dX5_isSo_56 : decode cX5_isSo 56 = .ok (.istore_n 3, 1) := by decide +kernel
theorem dX5_isSo_57 : decode cX5_isSo 57 = .ok (.goto 30, 3) := by decide +kernel
theorem dX5_isSo_60 : decode cX5_isSo 60 = .ok (.iload 5, 2) := by decide +kernel
theorem dX5_isSo_62 : decode cX5_isSo 62 = .ok (.bipush (-2), 2) := by decide +kernel
theorem dX5_isSo_64 : decode cX5_isSo 64 = .ok (.if_icmp .ne 15, 3) := by decide +kernel
theorem dX5_isSo_67 : decode cX5_isSo 67 = .ok (.iload_n 3, 1) := by decide +kernel
theorem dX5_isSo_68 : decode cX5_isSo 68 = .ok (.iconst 1, 1) := by decide +kernel
theorem dX5_isSo_69 : decode cX5_isSo 69 = .ok (.ishr, 1) := by decide +kernel
theorem dX5_isSo_70 : decode cX5_isSo 70 = .ok (.iload_n 3, 1) := by decide +kernel
theorem dX5_isSo_71 : decode cX5_isSo 71 = .ok (.bipush (-2), 2) := by decide +kernel
theorem dX5_isSo_73 : decode cX5_isSo 73 = .ok (.ior, 1) := by decide +kernel
theorem dX5_isSo_74 : decode cX5_isSo 74 = .ok (.iand, 1) := by decide +kernel
theorem dX5_isSo_75 : decode cX5_isSo 75 = .ok (.istore_n 3, 1) := by decide +kernel
theorem dX5_isSo_76 : decode cX5_isSo 76 = .ok (.goto 11, 3) := by decide +kernel
theorem dX5_isSo_79 : decode cX5_isSo 79 = .ok (.iload_n 3, 1) := by decide +kernel
theorem dX5_isSo_80 : decode cX5_isSo 80 = .ok (.iconst 1, 1) := by decide +kernel
theorem dX5_isSo_81 : decode cX5_isSo 81 = .ok (.ishr, 1) := by decide +kernel
theorem dX5_isSo_82 : decode cX5_isSo 82 = .ok (.iload_n 3, 1) := by decide +kernel
theorem dX5_isSo_83 : decode cX5_isSo 83 = .ok (.iconst 1, 1) := by decide +kernel
theorem dX5_isSo_84 : decode cX5_isSo 84 = .ok (.iand, 1) := by decide +kernel
theorem dX5_isSo_85 : decode cX5_isSo 85 = .ok (.ior, 1) := by decide +kernel
theorem dX5_isSo_86 : decode cX5_isSo 86 = .ok (.istore_n 3, 1) := by decide +kernel
theorem dX5_isSo_87 : decode cX5_isSo 87 = .ok (.iinc 4 1, 3) := by decide +kernel
theorem dX5_isSo_90 : decode cX5_isSo 90 = .ok (.goto (-85), 3) := by decide +kernel
theorem dX5_isSo_93 : decode cX5_isSo 93 = .ok (.iload_n 3, 1) := by decide +kernel
theorem dX5_isSo_94 : decode cX5_isSo 94 = .ok (.iconst 1, 1) := by decide +kernel
theorem dX5_isSo_95 : decode cX5_isSo 95 = .ok (.iand, 1) := by decide +kernel
theorem dX5_isSo_96 : decode cX5_isSo 96 = .ok (.ifCond .eq 7, 3) := by decide +kernel
theorem dX5_isSo_99 : decode cX5_isSo 99 = .ok (.iconst 1, 1) := by decide +kernel
theorem dX5_isSo_100 : decode cX5_isSo 100 = .ok (.goto 4, 3) := by decide +kernel
theorem dX5_isSo_103 : decode cX5_isSo 103 = .ok (.iconst 0, 1) := by decide +kernel
theorem dX5_isSo_104 : decode cX5_isSo 104 = .ok (.ireturn, 1) := by decide +kernel
theorem dX5_isTrue_0 : decode cX5_isTrue 0 = .ok (.aload_n 0, 1) := by decide +kernel
theorem dX5_isTrue_1 : decode cX5_isTrue 1 = .ok (.getfield 33, 3) := by decide +kernel
theorem dX5_isTrue_4 : decode cX5_isTrue 4 = .ok (.iload_n 1, 1) := by decide +kernel
theorem dX5_isTrue_5 : decode cX5_isTrue 5 = .ok (.sipush 300, 3) := by decide +kernel
theorem dX5_isTrue_8 : decode cX5_isTrue 8 = .ok (.idiv, 1) := by decide +kernel
theorem dX5_isTrue_9 : decode cX5_isTrue 9 = .ok (.iaload, 1) := by decide +kernel
theorem dX5_isTrue_10 : decode cX5_isTrue 10 = .ok (.istore_n 2, 1) := by decide +kernel
theorem dX5_isTrue_11 : decode cX5_isTrue 11 = .ok (.iload_n 1, 1) := by decide +kernel
theorem dX5_isTrue_12 : decode cX5_isTrue 12 = .ok (.bipush 100, 2) := by decide +kernel
theorem dX5_isTrue_14 : decode cX5_isTrue 14 = .ok (.irem, 1) := by decide +kernel
theorem dX5_isTrue_15 : decode cX5_isTrue 15 = .ok (.istore_n 3, 1) := by decide +kernel
theorem dX5_isTrue_16 : decode cX5_isTrue 16 = .ok (.iload_n 1, 1) := by decide +kernel
theorem dX5_isTrue_17 : decode cX5_isTrue 17 = .ok (.bipush 100, 2) := by decide +kernel
theorem dX5_isTrue_19 : decode cX5_isTrue 19 = .ok (.idiv, 1) := by decide +kernel
theorem dX5_isTrue_20 : decode cX5_isTrue 20 = .ok (.iconst 3, 1) := by decide +kernel
theorem dX5_isTrue_21 : decode cX5_isTrue 21 = .ok (.irem, 1) := by decide +kernel
theorem dX5_isTrue_22 : decode cX5_isTrue 22 = .ok (.lookupswitch 48 #[(0, 26), (1, 37)], 26) := by decide +kernel
theorem dX5_isTrue_48 : decode cX5_isTrue 48 = .ok (.iload_n 2, 1) := by decide +kernel
theorem dX5_isTrue_49 : decode cX5_isTrue 49 = .ok (.iload_n 3, 1) := by decide +kernel
theorem dX5_isTrue_50 : decode cX5_isTrue 50 = .ok (.if_icmp .ge 7, 3) := by decide +kernel
theorem dX5_isTrue_53 : decode cX5_isTrue 53 = .ok (.iconst 1, 1) := by decide +kernel
theorem dX5_isTrue_54 : decode cX5_isTrue 54 = .ok (.goto 4, 3) := by decide +kernel
theorem dX5_isTrue_57 : decode cX5_isTrue 57 = .ok (.iconst 0, 1) := by decide +kernel
theorem dX5_isTrue_58 : decode cX5_isTrue 58 = .ok (.ireturn, 1) := by decide +kernel
theorem dX5_isTrue_59 : decode cX5_isTrue 59 = .ok (.iload_n 2, 1) := by decide +kernel
theorem dX5_isTrue_60 : decode cX5_isTrue 60 = .ok (.iload_n 3, 1) := by decide +kernel
theorem dX5_isTrue_61 : decode cX5_isTrue 61 = .ok (.if_icmp .ne 7, 3) := by decide +kernel
theorem dX5_isTrue_64 : decode cX5_isTrue 64 = .ok (.iconst 1, 1) := by decide +kernel
theorem dX5_isTrue_65 : decode cX5_isTrue 65 = .ok (.goto 4, 3) := by decide +kernel
theorem dX5_isTrue_68 : decode cX5_isTrue 68 = .ok (.iconst 0, 1) := by decide +kernel
theorem dX5_isTrue_69 : decode cX5_isTrue 69 = .ok (.ireturn, 1) := by decide +kernel
theorem dX5_isTrue_70 : decode cX5_isTrue 70 = .ok (.iload_n 2, 1) := by decide +kernel
theorem dX5_isTrue_71 : decode cX5_isTrue 71 = .ok (.iload_n 3, 1) := by decide +kernel
theorem dX5_isTrue_72 : decode cX5_isTrue 72 = .ok (.if_icmp .le 7, 3) := by decide +kernel
theorem dX5_isTrue_75 : decode cX5_isTrue 75 = .ok (.iconst 1, 1) := by decide +kernel
theorem dX5_isTrue_76 : decode cX5_isTrue 76 = .ok (.goto 4, 3) := by decide +kernel
theorem dX5_isTrue_79 : decode cX5_isTrue 79 = .ok (.iconst 0, 1) := by decide +kernel
theorem dX5_isTrue_80 : decode cX5_isTrue 80 = .ok (.ireturn, 1) := by decide +kernel
theorem dX6_init_0 : decode cX6_init 0 = .ok (.aload_n 0, 1) := by decide +kernel
theorem dX6_init_1 : decode cX6_init 1 = .ok (.invokespecial 1, 3) := by decide +kernel
theorem dX6_init_4 : decode cX6_init 4 = .ok (.return_, 1) := by decide +kernel
theorem dX6_joyFrom_0 : decode cX6_joyFrom 0 = .ok (.aload_n 0, 1) := by decide +kernel
theorem dX6_joyFrom_1 : decode cX6_joyFrom 1 = .ok (.iload_n 1, 1) := by decide +kernel
theorem dX6_joyFrom_2 : decode cX6_joyFrom 2 = .ok (.aload_n 2, 1) := by decide +kernel
theorem dX6_joyFrom_3 : decode cX6_joyFrom 3 = .ok (.iload_n 3, 1) := by decide +kernel
theorem dX6_joyFrom_4 : decode cX6_joyFrom 4 = .ok (.iload 4, 2) := by decide +kernel
theorem dX6_joyFrom_6 : decode cX6_joyFrom 6 = .ok (.invokespecial 7, 3) := by decide +kernel
theorem dX6_joyFrom_9 : decode cX6_joyFrom 9 = .ok (.aload_n 2, 1) := by decide +kernel
theorem dX6_joyFrom_10 : decode cX6_joyFrom 10 = .ok (.getfield 11, 3) := by decide +kernel
theorem dX6_joyFrom_13 : decode cX6_joyFrom 13 = .ok (.invokestatic 17, 3) := by decide +kernel
theorem dX6_joyFrom_16 : decode cX6_joyFrom 16 = .ok (.iadd, 1) := by decide +kernel
theorem dX6_joyFrom_17 : decode cX6_joyFrom 17 = .ok (.ireturn, 1) := by decide +kernel
theorem dX6_tells_0 : decode cX6_tells 0 = .ok (.aload_n 1, 1) := by decide +kernel
theorem dX6_tells_1 : decode cX6_tells 1 = .ok (.bipush 60, 2) := by decide +kernel
theorem dX6_tells_3 : decode cX6_tells 3 = .ok (.invokevirtual 23, 3) := by decide +kernel
theorem dX6_tells_6 : decode cX6_tells 6 = .ok (.aload_n 0, 1) := by decide +kernel
theorem dX6_tells_7 : decode cX6_tells 7 = .ok (.aload_n 1, 1) := by decide +kernel
theorem dX6_tells_8 : decode cX6_tells 8 = .ok (.iload_n 2, 1) := by decide +kernel
theorem dX6_tells_9 : decode cX6_tells 9 = .ok (.aload_n 1, 1) := by decide +kernel
theorem dX6_tells_10 : decode cX6_tells 10 = .ok (.getfield 29, 3) := by decide +kernel
theorem dX6_tells_13 : decode cX6_tells 13 = .ok (.isub, 1) := by decide +kernel
theorem dX6_tells_14 : decode cX6_tells 14 = .ok (.invokespecial 32, 3) := by decide +kernel
theorem dX6_tells_17 : decode cX6_tells 17 = .ok (.ireturn, 1) := by decide +kernel
theorem dX7_init_0 : decode cX7_init 0 = .ok (.aload_n 0, 1) := by decide +kernel
theorem dX7_init_1 : decode cX7_init 1 = .ok (.invokespecial 1, 3) := by decide +kernel
theorem dX7_init_4 : decode cX7_init 4 = .ok (.return_, 1) := by decide +kernel
theorem dX7_joyFrom_0 : decode cX7_joyFrom 0 = .ok (.iload_n 1, 1) := by decide +kernel
theorem dX7_joyFrom_1 : decode cX7_joyFrom 1 = .ok (.ireturn, 1) := by decide +kernel
theorem dX7_coos_0 : decode cX7_coos 0 = .ok (.aload_n 1, 1) := by decide +kernel
theorem dX7_coos_1 : decode cX7_coos 1 = .ok (.bipush 10, 2) := by decide +kernel
theorem dX7_coos_3 : decode cX7_coos 3 = .ok (.invokevirtual 7, 3) := by decide +kernel
theorem dX7_coos_6 : decode cX7_coos 6 = .ok (.iload_n 2, 1) := by decide +kernel
theorem dX7_coos_7 : decode cX7_coos 7 = .ok (.aload_n 1, 1) := by decide +kernel
theorem dX7_coos_8 : decode cX7_coos 8 = .ok (.getfield 13, 3) := by decide +kernel
theorem dX7_coos_11 : decode cX7_coos 11 = .ok (.iadd, 1) := by decide +kernel
theorem dX7_coos_12 : decode cX7_coos 12 = .ok (.ireturn, 1) := by decide +kernel
theorem dX7_flies_0 : decode cX7_flies 0 = .ok (.aload_n 1, 1) := by decide +kernel
theorem dX7_flies_1 : decode cX7_flies 1 = .ok (.bipush 11, 2) := by decide +kernel
theorem dX7_flies_3 : decode cX7_flies 3 = .ok (.invokevirtual 7, 3) := by decide +kernel
theorem dX7_flies_6 : decode cX7_flies 6 = .ok (.aload_n 0, 1) := by decide +kernel
theorem dX7_flies_7 : decode cX7_flies 7 = .ok (.aload_n 1, 1) := by decide +kernel
theorem dX7_flies_8 : decode cX7_flies 8 = .ok (.iload_n 2, 1) := by decide +kernel
theorem dX7_flies_9 : decode cX7_flies 9 = .ok (.invokevirtual 17, 3) := by decide +kernel
theorem dX7_flies_12 : decode cX7_flies 12 = .ok (.aload_n 1, 1) := by decide +kernel
theorem dX7_flies_13 : decode cX7_flies 13 = .ok (.getfield 23, 3) := by decide +kernel
theorem dX7_flies_16 : decode cX7_flies 16 = .ok (.isub, 1) := by decide +kernel
theorem dX7_flies_17 : decode cX7_flies 17 = .ok (.ireturn, 1) := by decide +kernel
theorem dX7_tells_0 : decode cX7_tells 0 = .ok (.aload_n 1, 1) := by decide +kernel
theorem dX7_tells_1 : decode cX7_tells 1 = .ok (.bipush 12, 2) := by decide +kernel
theorem dX7_tells_3 : decode cX7_tells 3 = .ok (.invokevirtual 7, 3) := by decide +kernel
theorem dX7_tells_6 : decode cX7_tells 6 = .ok (.aload_n 0, 1) := by decide +kernel
theorem dX7_tells_7 : decode cX7_tells 7 = .ok (.aload_n 1, 1) := by decide +kernel
theorem dX7_tells_8 : decode cX7_tells 8 = .ok (.iload_n 2, 1) := by decide +kernel
theorem dX7_tells_9 : decode cX7_tells 9 = .ok (.invokevirtual 26, 3) := by decide +kernel
theorem dX7_tells_12 : decode cX7_tells 12 = .ok (.iconst 2, 1) := by decide +kernel
theorem dX7_tells_13 : decode cX7_tells 13 = .ok (.imul, 1) := by decide +kernel
theorem dX7_tells_14 : decode cX7_tells 14 = .ok (.ireturn, 1) := by decide +kernel
theorem dX8_init_0 : decode cX8_init 0 = .ok (.aload_n 0, 1) := by decide +kernel
theorem dX8_init_1 : decode cX8_init 1 = .ok (.invokespecial 3, 3) := by decide +kernel
theorem dX8_init_4 : decode cX8_init 4 = .ok (.aload_n 0, 1) := by decide +kernel
theorem dX8_init_5 : decode cX8_init 5 = .ok (.iload_n 1, 1) := by decide +kernel
theorem dX8_init_6 : decode cX8_init 6 = .ok (.newarray .int, 2) := by decide +kernel
theorem dX8_init_8 : decode cX8_init 8 = .ok (.putfield 9, 3) := by decide +kernel
theorem dX8_init_11 : decode cX8_init 11 = .ok (.aload_n 0, 1) := by decide +kernel
theorem dX8_init_12 : decode cX8_init 12 = .ok (.iload_n 1, 1) := by decide +kernel
theorem dX8_init_13 : decode cX8_init 13 = .ok (.newarray .int, 2) := by decide +kernel
theorem dX8_init_15 : decode cX8_init 15 = .ok (.putfield 15, 3) := by decide +kernel
theorem dX8_init_18 : decode cX8_init 18 = .ok (.aload_n 0, 1) := by decide +kernel
theorem dX8_init_19 : decode cX8_init 19 = .ok (.iload_n 1, 1) := by decide +kernel
theorem dX8_init_20 : decode cX8_init 20 = .ok (.newarray .int, 2) := by decide +kernel
theorem dX8_init_22 : decode cX8_init 22 = .ok (.putfield 18, 3) := by decide +kernel
theorem dX8_init_25 : decode cX8_init 25 = .ok (.return_, 1) := by decide +kernel
theorem dX8_takes_0 : decode cX8_takes 0 = .ok (.aload_n 0, 1) := by decide +kernel
theorem dX8_takes_1 : decode cX8_takes 1 = .ok (.getfield 21, 3) := by decide +kernel
theorem dX8_takes_4 : decode cX8_takes 4 = .ok (.aload_n 0, 1) := by decide +kernel
theorem dX8_takes_5 : decode cX8_takes 5 = .ok (.getfield 9, 3) := by decide +kernel
theorem dX8_takes_8 : decode cX8_takes 8 = .ok (.arraylength, 1) := by decide +kernel
theorem dX8_takes_9 : decode cX8_takes 9 = .ok (.if_icmp .lt 6, 3) := by decide +kernel
theorem dX8_takes_12 : decode cX8_takes 12 = .ok (.bipush (-4), 2) := by decide +kernel
theorem dX8_takes_14 : decode cX8_takes 14 = .ok (.ireturn, 1) := by decide +kernel
theorem dX8_takes_15 : decode cX8_takes 15 = .ok (.aload_n 0, 1) := by decide +kernel
theorem dX8_takes_16 : decode cX8_takes 16 = .ok (.getfield 9, 3) := by decide +kernel
theorem dX8_takes_19 : decode cX8_takes 19 = .ok (.aload_n 0, 1) := by decide +kernel
theorem dX8_takes_20 : decode cX8_takes 20 = .ok (.getfield 21, 3) := by decide +kernel
theorem dX8_takes_23 : decode cX8_takes 23 = .ok (.iload_n 1, 1) := by decide +kernel
theorem dX8_takes_24 : decode cX8_takes 24 = .ok (.iastore, 1) := by decide +kernel
theorem dX8_takes_25 : decode cX8_takes 25 = .ok (.aload_n 0, 1) := by decide +kernel
theorem dX8_takes_26 : decode cX8_takes 26 = .ok (.getfield 15, 3) := by decide +kernel
theorem dX8_takes_29 : decode cX8_takes 29 = .ok (.aload_n 0, 1) := by decide +kernel
theorem dX8_takes_30 : decode cX8_takes 30 = .ok (.getfield 21, 3) := by decide +kernel
theorem dX8_takes_33 : decode cX8_takes 33 = .ok (.iload_n 2, 1) := by decide +kernel
theorem dX8_takes_34 : decode cX8_takes 34 = .ok (.iastore, 1) := by decide +kernel
theorem dX8_takes_35 : decode cX8_takes 35 = .ok (.aload_n 0, 1) := by decide +kernel
theorem dX8_takes_36 : decode cX8_takes 36 = .ok (.getfield 18, 3) := by decide +kernel
theorem dX8_takes_39 : decode cX8_takes 39 = .ok (.aload_n 0, 1) := by decide +kernel
theorem dX8_takes_40 : decode cX8_takes 40 = .ok (.getfield 21, 3) := by decide +kernel
theorem dX8_takes_43 : decode cX8_takes 43 = .ok (.iload_n 3, 1) := by decide +kernel
theorem dX8_takes_44 : decode cX8_takes 44 = .ok (.iastore, 1) := by decide +kernel
theorem dX8_takes_45 : decode cX8_takes 45 = .ok (.aload_n 0, 1) := by decide +kernel
theorem dX8_takes_46 : decode cX8_takes 46 = .ok (.dup, 1) := by decide +kernel
theorem dX8_takes_47 : decode cX8_takes 47 = .ok (.getfield 21, 3) := by decide +kernel
theorem dX8_takes_50 : decode cX8_takes 50 = .ok (.iconst 1, 1) := by decide +kernel
theorem dX8_takes_51 : decode cX8_takes 51 = .ok (.iadd, 1) := by decide +kernel
theorem dX8_takes_52 : decode cX8_takes 52 = .ok (.putfield 21, 3) := by decide +kernel
theorem dX8_takes_55 : decode cX8_takes 55 = .ok (.aload_n 0, 1) := by decide +kernel
theorem dX8_takes_56 : decode cX8_takes 56 = .ok (.getfield 21, 3) := by decide +kernel
theorem dX8_takes_59 : decode cX8_takes 59 = .ok (.ireturn, 1) := by decide +kernel
theorem dX8_empties_0 : decode cX8_empties 0 = .ok (.aload_n 0, 1) := by decide +kernel
theorem dX8_empties_1 : decode cX8_empties 1 = .ok (.iconst 0, 1) := by decide +kernel
theorem dX8_empties_2 : decode cX8_empties 2 = .ok (.putfield 21, 3) := by decide +kernel
theorem dX8_empties_5 : decode cX8_empties 5 = .ok (.aload_n 0, 1) := by decide +kernel
theorem dX8_empties_6 : decode cX8_empties 6 = .ok (.getfield 21, 3) := by decide +kernel
theorem dX8_empties_9 : decode cX8_empties 9 = .ok (.ireturn, 1) := by decide +kernel
theorem dX8_becomeAs_0 : decode cX8_becomeAs 0 = .ok (.aload_n 0, 1) := by decide +kernel
theorem dX8_becomeAs_1 : decode cX8_becomeAs 1 = .ok (.aload_n 1, 1) := by decide +kernel
theorem dX8_becomeAs_2 : decode cX8_becomeAs 2 = .ok (.getfield 21, 3) := by decide +kernel
theorem dX8_becomeAs_5 : decode cX8_becomeAs 5 = .ok (.putfield 21, 3) := by decide +kernel
theorem dX8_becomeAs_8 : decode cX8_becomeAs 8 = .ok (.iconst 0, 1) := by decide +kernel
theorem dX8_becomeAs_9 : decode cX8_becomeAs 9 = .ok (.istore_n 2, 1) := by decide +kernel
theorem dX8_becomeAs_10 : decode cX8_becomeAs 10 = .ok (.iload_n 2, 1) := by decide +kernel
theorem dX8_becomeAs_11 : decode cX8_becomeAs 11 = .ok (.aload_n 0, 1) := by decide +kernel
theorem dX8_becomeAs_12 : decode cX8_becomeAs 12 = .ok (.getfield 21, 3) := by decide +kernel
theorem dX8_becomeAs_15 : decode cX8_becomeAs 15 = .ok (.if_icmp .ge 45, 3) := by decide +kernel
theorem dX8_becomeAs_18 : decode cX8_becomeAs 18 = .ok (.aload_n 0, 1) := by decide +kernel
theorem dX8_becomeAs_19 : decode cX8_becomeAs 19 = .ok (.getfield 9, 3) := by decide +kernel
theorem dX8_becomeAs_22 : decode cX8_becomeAs 22 = .ok (.iload_n 2, 1) := by decide +kernel
theorem dX8_becomeAs_23 : decode cX8_becomeAs 23 = .ok (.aload_n 1, 1) := by decide +kernel
theorem dX8_becomeAs_24 : decode cX8_becomeAs 24 = .ok (.getfield 9, 3) := by decide +kernel
theorem dX8_becomeAs_27 : decode cX8_becomeAs 27 = .ok (.iload_n 2, 1) := by decide +kernel
theorem dX8_becomeAs_28 : decode cX8_becomeAs 28 = .ok (.iaload, 1) := by decide +kernel
theorem dX8_becomeAs_29 : decode cX8_becomeAs 29 = .ok (.iastore, 1) := by decide +kernel
theorem dX8_becomeAs_30 : decode cX8_becomeAs 30 = .ok (.aload_n 0, 1) := by decide +kernel
theorem dX8_becomeAs_31 : decode cX8_becomeAs 31 = .ok (.getfield 15, 3) := by decide +kernel
theorem dX8_becomeAs_34 : decode cX8_becomeAs 34 = .ok (.iload_n 2, 1) := by decide +kernel
theorem dX8_becomeAs_35 : decode cX8_becomeAs 35 = .ok (.aload_n 1, 1) := by decide +kernel
theorem dX8_becomeAs_36 : decode cX8_becomeAs 36 = .ok (.getfield 15, 3) := by decide +kernel
theorem dX8_becomeAs_39 : decode cX8_becomeAs 39 = .ok (.iload_n 2, 1) := by decide +kernel
theorem dX8_becomeAs_40 : decode cX8_becomeAs 40 = .ok (.iaload, 1) := by decide +kernel
theorem dX8_becomeAs_41 : decode cX8_becomeAs 41 = .ok (.iastore, 1) := by decide +kernel
theorem dX8_becomeAs_42 : decode cX8_becomeAs 42 = .ok (.aload_n 0, 1) := by decide +kernel
theorem dX8_becomeAs_43 : decode cX8_becomeAs 43 = .ok (.getfield 18, 3) := by decide +kernel
theorem dX8_becomeAs_46 : decode cX8_becomeAs 46 = .ok (.iload_n 2, 1) := by decide +kernel
theorem dX8_becomeAs_47 : decode cX8_becomeAs 47 = .ok (.aload_n 1, 1) := by decide +kernel
theorem dX8_becomeAs_48 : decode cX8_becomeAs 48 = .ok (.getfield 18, 3) := by decide +kernel
theorem dX8_becomeAs_51 : decode cX8_becomeAs 51 = .ok (.iload_n 2, 1) := by decide +kernel
theorem dX8_becomeAs_52 : decode cX8_becomeAs 52 = .ok (.iaload, 1) := by decide +kernel
theorem dX8_becomeAs_53 : decode cX8_becomeAs 53 = .ok (.iastore, 1) := by decide +kernel
theorem dX8_becomeAs_54 : decode cX8_becomeAs 54 = .ok (.iinc 2 1, 3) := by decide +kernel
theorem dX8_becomeAs_57 : decode cX8_becomeAs 57 = .ok (.goto (-47), 3) := by decide +kernel
theorem dX8_becomeAs_60 : decode cX8_becomeAs 60 = .ok (.return_, 1) := by decide +kernel
theorem dX9_init_0 : decode cX9_init 0 = .ok (.aload_n 0, 1) := by decide +kernel
theorem dX9_init_1 : decode cX9_init 1 = .ok (.invokespecial 3, 3) := by decide +kernel
theorem dX9_init_4 : decode cX9_init 4 = .ok (.aload_n 0, 1) := by decide +kernel
theorem dX9_init_5 : decode cX9_init 5 = .ok (.bipush 7, 2) := by decide +kernel
theorem dX9_init_7 : decode cX9_init 7 = .ok (.anewarray 9, 3) := by decide +kernel
theorem dX9_init_10 : decode cX9_init 10 = .ok (.putfield 11, 3) := by decide +kernel
theorem dX9_init_13 : decode cX9_init 13 = .ok (.aload_n 0, 1) := by decide +kernel
theorem dX9_init_14 : decode cX9_init 14 = .ok (.bipush 12, 2) := by decide +kernel
theorem dX9_init_16 : decode cX9_init 16 = .ok (.newarray .int, 2) := by decide +kernel
theorem dX9_init_18 : decode cX9_init 18 = .ok (.putfield 17, 3) := by decide +kernel
theorem dX9_init_21 : decode cX9_init 21 = .ok (.aload_n 0, 1) := by decide +kernel
theorem dX9_init_22 : decode cX9_init 22 = .ok (.bipush 12, 2) := by decide +kernel
theorem dX9_init_24 : decode cX9_init 24 = .ok (.newarray .int, 2) := by decide +kernel
theorem dX9_init_26 : decode cX9_init 26 = .ok (.putfield 21, 3) := by decide +kernel
theorem dX9_init_29 : decode cX9_init 29 = .ok (.aload_n 0, 1) := by decide +kernel
theorem dX9_init_30 : decode cX9_init 30 = .ok (.bipush 6, 2) := by decide +kernel
theorem dX9_init_32 : decode cX9_init 32 = .ok (.newarray .int, 2) := by decide +kernel
theorem dX9_init_34 : decode cX9_init 34 = .ok (.putfield 24, 3) := by decide +kernel
theorem dX9_init_37 : decode cX9_init 37 = .ok (.aload_n 0, 1) := by decide +kernel
theorem dX9_init_38 : decode cX9_init 38 = .ok (.bipush 6, 2) := by decide +kernel
theorem dX9_init_40 : decode cX9_init 40 = .ok (.newarray .int, 2) := by decide +kernel
theorem dX9_init_42 : decode cX9_init 42 = .ok (.putfield 27, 3) := by decide +kernel
theorem dX9_init_45 : decode cX9_init 45 = .ok (.aload_n 0, 1) := by decide +kernel
theorem dX9_init_46 : decode cX9_init 46 = .ok (.bipush 6, 2) := by decide +kernel
theorem dX9_init_48 : decode cX9_init 48 = .ok (.newarray .int, 2) := by decide +kernel
theorem dX9_init_50 : decode cX9_init 50 = .ok (.putfield 30, 3) := by decide +kernel
theorem dX9_init_53 : decode cX9_init 53 = .ok (.aload_n 0, 1) := by decide +kernel
theorem dX9_init_54 : decode cX9_init 54 = .ok (.bipush 6, 2) := by decide +kernel
theorem dX9_init_56 : decode cX9_init 56 = .ok (.newarray .int, 2) := by decide +kernel
theorem dX9_init_58 : decode cX9_init 58 = .ok (.putfield 33, 3) := by decide +kernel
theorem dX9_init_61 : decode cX9_init 61 = .ok (.aload_n 0, 1) := by decide +kernel
theorem dX9_init_62 : decode cX9_init 62 = .ok (.bipush 6, 2) := by decide +kernel
theorem dX9_init_64 : decode cX9_init 64 = .ok (.newarray .int, 2) := by decide +kernel
theorem dX9_init_66 : decode cX9_init 66 = .ok (.putfield 36, 3) := by decide +kernel
theorem dX9_init_69 : decode cX9_init 69 = .ok (.aload_n 0, 1) := by decide +kernel
theorem dX9_init_70 : decode cX9_init 70 = .ok (.bipush 24, 2) := by decide +kernel
theorem dX9_init_72 : decode cX9_init 72 = .ok (.newarray .int, 2) := by decide +kernel
theorem dX9_init_74 : decode cX9_init 74 = .ok (.putfield 39, 3) := by decide +kernel
theorem dX9_init_77 : decode cX9_init 77 = .ok (.aload_n 0, 1) := by decide +kernel
theorem dX9_init_78 : decode cX9_init 78 = .ok (.new 42, 3) := by decide +kernel
theorem dX9_init_81 : decode cX9_init 81 = .ok (.dup, 1) := by decide +kernel
theorem dX9_init_82 : decode cX9_init 82 = .ok (.iconst 5, 1) := by decide +kernel
theorem dX9_init_83 : decode cX9_init 83 = .ok (.invokespecial 44, 3) := by decide +kernel
theorem dX9_init_86 : decode cX9_init 86 = .ok (.putfield 47, 3) := by decide +kernel
theorem dX9_init_89 : decode cX9_init 89 = .ok (.aload_n 0, 1) := by decide +kernel
theorem dX9_init_90 : decode cX9_init 90 = .ok (.new 42, 3) := by decide +kernel
theorem dX9_init_93 : decode cX9_init 93 = .ok (.dup, 1) := by decide +kernel
theorem dX9_init_94 : decode cX9_init 94 = .ok (.bipush 10, 2) := by decide +kernel
theorem dX9_init_96 : decode cX9_init 96 = .ok (.invokespecial 44, 3) := by decide +kernel
theorem dX9_init_99 : decode cX9_init 99 = .ok (.putfield 51, 3) := by decide +kernel
theorem dX9_init_102 : decode cX9_init 102 = .ok (.aload_n 0, 1) := by decide +kernel
theorem dX9_init_103 : decode cX9_init 103 = .ok (.new 42, 3) := by decide +kernel
theorem dX9_init_106 : decode cX9_init 106 = .ok (.dup, 1) := by decide +kernel
theorem dX9_init_107 : decode cX9_init 107 = .ok (.bipush 8, 2) := by decide +kernel
theorem dX9_init_109 : decode cX9_init 109 = .ok (.invokespecial 44, 3) := by decide +kernel
theorem dX9_init_112 : decode cX9_init 112 = .ok (.putfield 54, 3) := by decide +kernel
theorem dX9_init_115 : decode cX9_init 115 = .ok (.aload_n 0, 1) := by decide +kernel
theorem dX9_init_116 : decode cX9_init 116 = .ok (.new 57, 3) := by decide +kernel
theorem dX9_init_119 : decode cX9_init 119 = .ok (.dup, 1) := by decide +kernel
theorem dX9_init_120 : decode cX9_init 120 = .ok (.invokespecial 59, 3) := by decide +kernel
theorem dX9_init_123 : decode cX9_init 123 = .ok (.putfield 60, 3) := by decide +kernel
theorem dX9_init_126 : decode cX9_init 126 = .ok (.aload_n 0, 1) := by decide +kernel
theorem dX9_init_127 : decode cX9_init 127 = .ok (.getfield 11, 3) := by decide +kernel
theorem dX9_init_130 : decode cX9_init 130 = .ok (.iconst 0, 1) := by decide +kernel
theorem dX9_init_131 : decode cX9_init 131 = .ok (.new 9, 3) := by decide +kernel
theorem dX9_init_134 : decode cX9_init 134 = .ok (.dup, 1) := by decide +kernel
theorem dX9_init_135 : decode cX9_init 135 = .ok (.invokespecial 64, 3) := by decide +kernel
theorem dX9_init_138 : decode cX9_init 138 = .ok (.aastore, 1) := by decide +kernel
theorem dX9_init_139 : decode cX9_init 139 = .ok (.aload_n 0, 1) := by decide +kernel
theorem dX9_init_140 : decode cX9_init 140 = .ok (.getfield 11, 3) := by decide +kernel
theorem dX9_init_143 : decode cX9_init 143 = .ok (.iconst 1, 1) := by decide +kernel
theorem dX9_init_144 : decode cX9_init 144 = .ok (.new 65, 3) := by decide +kernel
theorem dX9_init_147 : decode cX9_init 147 = .ok (.dup, 1) := by decide +kernel
theorem dX9_init_148 : decode cX9_init 148 = .ok (.invokespecial 67, 3) := by decide +kernel
theorem dX9_init_151 : decode cX9_init 151 = .ok (.aastore, 1) := by decide +kernel
theorem dX9_init_152 : decode cX9_init 152 = .ok (.aload_n 0, 1) := by decide +kernel
theorem dX9_init_153 : decode cX9_init 153 = .ok (.getfield 11, 3) := by decide +kernel
theorem dX9_init_156 : decode cX9_init 156 = .ok (.iconst 2, 1) := by decide +kernel
theorem dX9_init_157 : decode cX9_init 157 = .ok (.new 68, 3) := by decide +kernel
theorem dX9_init_160 : decode cX9_init 160 = .ok (.dup, 1) := by decide +kernel
theorem dX9_init_161 : decode cX9_init 161 = .ok (.invokespecial 70, 3) := by decide +kernel
theorem dX9_init_164 : decode cX9_init 164 = .ok (.aastore, 1) := by decide +kernel
theorem dX9_init_165 : decode cX9_init 165 = .ok (.aload_n 0, 1) := by decide +kernel
theorem dX9_init_166 : decode cX9_init 166 = .ok (.getfield 11, 3) := by decide +kernel
theorem dX9_init_169 : decode cX9_init 169 = .ok (.iconst 3, 1) := by decide +kernel
theorem dX9_init_170 : decode cX9_init 170 = .ok (.new 71, 3) := by decide +kernel
theorem dX9_init_173 : decode cX9_init 173 = .ok (.dup, 1) := by decide +kernel
theorem dX9_init_174 : decode cX9_init 174 = .ok (.invokespecial 73, 3) := by decide +kernel
theorem dX9_init_177 : decode cX9_init 177 = .ok (.aastore, 1) := by decide +kernel
theorem dX9_init_178 : decode cX9_init 178 = .ok (.aload_n 0, 1) := by decide +kernel
theorem dX9_init_179 : decode cX9_init 179 = .ok (.getfield 11, 3) := by decide +kernel
theorem dX9_init_182 : decode cX9_init 182 = .ok (.iconst 4, 1) := by decide +kernel
theorem dX9_init_183 : decode cX9_init 183 = .ok (.new 74, 3) := by decide +kernel
theorem dX9_init_186 : decode cX9_init 186 = .ok (.dup, 1) := by decide +kernel
theorem dX9_init_187 : decode cX9_init 187 = .ok (.invokespecial 76, 3) := by decide +kernel
theorem dX9_init_190 : decode cX9_init 190 = .ok (.aastore, 1) := by decide +kernel
theorem dX9_init_191 : decode cX9_init 191 = .ok (.aload_n 0, 1) := by decide +kernel
theorem dX9_init_192 : decode cX9_init 192 = .ok (.getfield 11, 3) := by decide +kernel
theorem dX9_init_195 : decode cX9_init 195 = .ok (.iconst 5, 1) := by decide +kernel
theorem dX9_init_196 : decode cX9_init 196 = .ok (.new 77, 3) := by decide +kernel
theorem dX9_init_199 : decode cX9_init 199 = .ok (.dup, 1) := by decide +kernel
theorem dX9_init_200 : decode cX9_init 200 = .ok (.invokespecial 79, 3) := by decide +kernel
theorem dX9_init_203 : decode cX9_init 203 = .ok (.aastore, 1) := by decide +kernel
theorem dX9_init_204 : decode cX9_init 204 = .ok (.aload_n 0, 1) := by decide +kernel
theorem dX9_init_205 : decode cX9_init 205 = .ok (.getfield 11, 3) := by decide +kernel
theorem dX9_init_208 : decode cX9_init 208 = .ok (.bipush 6, 2) := by decide +kernel
theorem dX9_init_210 : decode cX9_init 210 = .ok (.new 80, 3) := by decide +kernel
theorem dX9_init_213 : decode cX9_init 213 = .ok (.dup, 1) := by decide +kernel
theorem dX9_init_214 : decode cX9_init 214 = .ok (.invokespecial 82, 3) := by decide +kernel
theorem dX9_init_217 : decode cX9_init 217 = .ok (.aastore, 1) := by decide +kernel
theorem dX9_init_218 : decode cX9_init 218 = .ok (.iconst 0, 1) := by decide +kernel
theorem dX9_init_219 : decode cX9_init 219 = .ok (.istore_n 1, 1) := by decide +kernel
theorem dX9_init_220 : decode cX9_init 220 = .ok (.iload_n 1, 1) := by decide +kernel
theorem dX9_init_221 : decode cX9_init 221 = .ok (.bipush 12, 2) := by decide +kernel
theorem dX9_init_223 : decode cX9_init 223 = .ok (.if_icmp .ge 28, 3) := by decide +kernel
theorem dX9_init_226 : decode cX9_init 226 = .ok (.aload_n 0, 1) := by decide +kernel
theorem dX9_init_227 : decode cX9_init 227 = .ok (.getfield 17, 3) := by decide +kernel
theorem dX9_init_230 : decode cX9_init 230 = .ok (.iload_n 1, 1) := by decide +kernel
theorem dX9_init_231 : decode cX9_init 231 = .ok (.iconst 5, 1) := by decide +kernel
theorem dX9_init_232 : decode cX9_init 232 = .ok (.iastore, 1) := by decide +kernel
theorem dX9_init_233 : decode cX9_init 233 = .ok (.aload_n 0, 1) := by decide +kernel
theorem dX9_init_234 : decode cX9_init 234 = .ok (.getfield 21, 3) := by decide +kernel
theorem dX9_init_237 : decode cX9_init 237 = .ok (.iload_n 1, 1) := by decide +kernel
theorem dX9_init_238 : decode cX9_init 238 = .ok (.iconst 1, 1) := by decide +kernel
theorem dX9_init_239 : decode cX9_init 239 = .ok (.iload_n 1, 1) := by decide +kernel
theorem dX9_init_240 : decode cX9_init 240 = .ok (.bipush 8, 2) := by decide +kernel
theorem dX9_init_242 : decode cX9_init 242 = .ok (.irem, 1) := by decide +kernel
theorem dX9_init_243 : decode cX9_init 243 = .ok (.ishl, 1) := by decide +kernel
theorem dX9_init_244 : decode cX9_init 244 = .ok (.iastore, 1) := by decide +kernel
theorem dX9_init_245 : decode cX9_init 245 = .ok (.iinc 1 1, 3) := by decide +kernel
theorem dX9_init_248 : decode cX9_init 248 = .ok (.goto (-28), 3) := by decide +kernel
theorem dX9_init_251 : decode cX9_init 251 = .ok (.return_, 1) := by decide +kernel
theorem dX9_becomes_0 : decode cX9_becomes 0 = .ok (.aload_n 1, 1) := by decide +kernel
theorem dX9_becomes_1 : decode cX9_becomes 1 = .ok (.getfield 17, 3) := by decide +kernel
theorem dX9_becomes_4 : decode cX9_becomes 4 = .ok (.iconst 0, 1) := by decide +kernel
theorem dX9_becomes_5 : decode cX9_becomes 5 = .ok (.aload_n 0, 1) := by decide +kernel
theorem dX9_becomes_6 : decode cX9_becomes 6 = .ok (.getfield 17, 3) := by decide +kernel
theorem dX9_becomes_9 : decode cX9_becomes 9 = .ok (.iconst 0, 1) := by decide +kernel
theorem dX9_becomes_10 : decode cX9_becomes 10 = .ok (.bipush 12, 2) := by decide +kernel
theorem dX9_becomes_12 : decode cX9_becomes 12 = .ok (.invokestatic 83, 3) := by decide +kernel
theorem dX9_becomes_15 : decode cX9_becomes 15 = .ok (.aload_n 1, 1) := by decide +kernel
theorem dX9_becomes_16 : decode cX9_becomes 16 = .ok (.getfield 21, 3) := by decide +kernel
theorem dX9_becomes_19 : decode cX9_becomes 19 = .ok (.iconst 0, 1) := by decide +kernel
theorem dX9_becomes_20 : decode cX9_becomes 20 = .ok (.aload_n 0, 1) := by decide +kernel
theorem dX9_becomes_21 : decode cX9_becomes 21 = .ok (.getfield 21, 3) := by decide +kernel
theorem dX9_becomes_24 : decode cX9_becomes 24 = .ok (.iconst 0, 1) := by decide +kernel
theorem dX9_becomes_25 : decode cX9_becomes 25 = .ok (.bipush 12, 2) := by decide +kernel
theorem dX9_becomes_27 : decode cX9_becomes 27 = .ok (.invokestatic 83, 3) := by decide +kernel
theorem dX9_becomes_30 : decode cX9_becomes 30 = .ok (.aload_n 1, 1) := by decide +kernel
theorem dX9_becomes_31 : decode cX9_becomes 31 = .ok (.getfield 24, 3) := by decide +kernel
theorem dX9_becomes_34 : decode cX9_becomes 34 = .ok (.iconst 0, 1) := by decide +kernel
theorem dX9_becomes_35 : decode cX9_becomes 35 = .ok (.aload_n 0, 1) := by decide +kernel
theorem dX9_becomes_36 : decode cX9_becomes 36 = .ok (.getfield 24, 3) := by decide +kernel
theorem dX9_becomes_39 : decode cX9_becomes 39 = .ok (.iconst 0, 1) := by decide +kernel
theorem dX9_becomes_40 : decode cX9_becomes 40 = .ok (.bipush 6, 2) := by decide +kernel
theorem dX9_becomes_42 : decode cX9_becomes 42 = .ok (.invokestatic 83, 3) := by decide +kernel
theorem dX9_becomes_45 : decode cX9_becomes 45 = .ok (.aload_n 1, 1) := by decide +kernel
theorem dX9_becomes_46 : decode cX9_becomes 46 = .ok (.getfield 27, 3) := by decide +kernel
theorem dX9_becomes_49 : decode cX9_becomes 49 = .ok (.iconst 0, 1) := by decide +kernel
theorem dX9_becomes_50 : decode cX9_becomes 50 = .ok (.aload_n 0, 1) := by decide +kernel
theorem dX9_becomes_51 : decode cX9_becomes 51 = .ok (.getfield 27, 3) := by decide +kernel
theorem dX9_becomes_54 : decode cX9_becomes 54 = .ok (.iconst 0, 1) := by decide +kernel
theorem dX9_becomes_55 : decode cX9_becomes 55 = .ok (.bipush 6, 2) := by decide +kernel
theorem dX9_becomes_57 : decode cX9_becomes 57 = .ok (.invokestatic 83, 3) := by decide +kernel
theorem dX9_becomes_60 : decode cX9_becomes 60 = .ok (.aload_n 1, 1) := by decide +kernel
theorem dX9_becomes_61 : decode cX9_becomes 61 = .ok (.getfield 30, 3) := by decide +kernel
theorem dX9_becomes_64 : decode cX9_becomes 64 = .ok (.iconst 0, 1) := by decide +kernel
theorem dX9_becomes_65 : decode cX9_becomes 65 = .ok (.aload_n 0, 1) := by decide +kernel
theorem dX9_becomes_66 : decode cX9_becomes 66 = .ok (.getfield 30, 3) := by decide +kernel
theorem dX9_becomes_69 : decode cX9_becomes 69 = .ok (.iconst 0, 1) := by decide +kernel
theorem dX9_becomes_70 : decode cX9_becomes 70 = .ok (.bipush 6, 2) := by decide +kernel
theorem dX9_becomes_72 : decode cX9_becomes 72 = .ok (.invokestatic 83, 3) := by decide +kernel
theorem dX9_becomes_75 : decode cX9_becomes 75 = .ok (.aload_n 1, 1) := by decide +kernel
theorem dX9_becomes_76 : decode cX9_becomes 76 = .ok (.getfield 33, 3) := by decide +kernel
theorem dX9_becomes_79 : decode cX9_becomes 79 = .ok (.iconst 0, 1) := by decide +kernel
theorem dX9_becomes_80 : decode cX9_becomes 80 = .ok (.aload_n 0, 1) := by decide +kernel
theorem dX9_becomes_81 : decode cX9_becomes 81 = .ok (.getfield 33, 3) := by decide +kernel
theorem dX9_becomes_84 : decode cX9_becomes 84 = .ok (.iconst 0, 1) := by decide +kernel
theorem dX9_becomes_85 : decode cX9_becomes 85 = .ok (.bipush 6, 2) := by decide +kernel
theorem dX9_becomes_87 : decode cX9_becomes 87 = .ok (.invokestatic 83, 3) := by decide +kernel
theorem dX9_becomes_90 : decode cX9_becomes 90 = .ok (.aload_n 1, 1) := by decide +kernel
theorem dX9_becomes_91 : decode cX9_becomes 91 = .ok (.getfield 36, 3) := by decide +kernel
theorem dX9_becomes_94 : decode cX9_becomes 94 = .ok (.iconst 0, 1) := by decide +kernel
theorem dX9_becomes_95 : decode cX9_becomes 95 = .ok (.aload_n 0, 1) := by decide +kernel
theorem dX9_becomes_96 : decode cX9_becomes 96 = .ok (.getfield 36, 3) := by decide +kernel
theorem dX9_becomes_99 : decode cX9_becomes 99 = .ok (.iconst 0, 1) := by decide +kernel
theorem dX9_becomes_100 : decode cX9_becomes 100 = .ok (.bipush 6, 2) := by decide +kernel
theorem dX9_becomes_102 : decode cX9_becomes 102 = .ok (.invokestatic 83, 3) := by decide +kernel
theorem dX9_becomes_105 : decode cX9_becomes 105 = .ok (.aload_n 1, 1) := by decide +kernel
theorem dX9_becomes_106 : decode cX9_becomes 106 = .ok (.getfield 39, 3) := by decide +kernel
theorem dX9_becomes_109 : decode cX9_becomes 109 = .ok (.iconst 0, 1) := by decide +kernel
theorem dX9_becomes_110 : decode cX9_becomes 110 = .ok (.aload_n 0, 1) := by decide +kernel
theorem dX9_becomes_111 : decode cX9_becomes 111 = .ok (.getfield 39, 3) := by decide +kernel
theorem dX9_becomes_114 : decode cX9_becomes 114 = .ok (.iconst 0, 1) := by decide +kernel
theorem dX9_becomes_115 : decode cX9_becomes 115 = .ok (.bipush 24, 2) := by decide +kernel
theorem dX9_becomes_117 : decode cX9_becomes 117 = .ok (.invokestatic 83, 3) := by decide +kernel
theorem dX9_becomes_120 : decode cX9_becomes 120 = .ok (.aload_n 0, 1) := by decide +kernel
theorem dX9_becomes_121 : decode cX9_becomes 121 = .ok (.getfield 47, 3) := by decide +kernel
theorem dX9_becomes_124 : decode cX9_becomes 124 = .ok (.aload_n 1, 1) := by decide +kernel
theorem dX9_becomes_125 : decode cX9_becomes 125 = .ok (.getfield 47, 3) := by decide +kernel
theorem dX9_becomes_128 : decode cX9_becomes 128 = .ok (.invokevirtual 89, 3) := by decide +kernel
theorem dX9_becomes_131 : decode cX9_becomes 131 = .ok (.aload_n 0, 1) := by decide +kernel
theorem dX9_becomes_132 : decode cX9_becomes 132 = .ok (.getfield 51, 3) := by decide +kernel
theorem dX9_becomes_135 : decode cX9_becomes 135 = .ok (.aload_n 1, 1) := by decide +kernel
theorem dX9_becomes_136 : decode cX9_becomes 136 = .ok (.getfield 51, 3) := by decide +kernel
theorem dX9_becomes_139 : decode cX9_becomes 139 = .ok (.invokevirtual 89, 3) := by decide +kernel
theorem dX9_becomes_142 : decode cX9_becomes 142 = .ok (.aload_n 0, 1) := by decide +kernel
theorem dX9_becomes_143 : decode cX9_becomes 143 = .ok (.getfield 54, 3) := by decide +kernel
theorem dX9_becomes_146 : decode cX9_becomes 146 = .ok (.aload_n 1, 1) := by decide +kernel
theorem dX9_becomes_147 : decode cX9_becomes 147 = .ok (.getfield 54, 3) := by decide +kernel
theorem dX9_becomes_150 : decode cX9_becomes 150 = .ok (.invokevirtual 89, 3) := by decide +kernel
theorem dX9_becomes_153 : decode cX9_becomes 153 = .ok (.aload_n 0, 1) := by decide +kernel
theorem dX9_becomes_154 : decode cX9_becomes 154 = .ok (.aload_n 1, 1) := by decide +kernel
theorem dX9_becomes_155 : decode cX9_becomes 155 = .ok (.getfield 93, 3) := by decide +kernel
theorem dX9_becomes_158 : decode cX9_becomes 158 = .ok (.putfield 93, 3) := by decide +kernel
theorem dX9_becomes_161 : decode cX9_becomes 161 = .ok (.aload_n 0, 1) := by decide +kernel
theorem dX9_becomes_162 : decode cX9_becomes 162 = .ok (.aload_n 1, 1) := by decide +kernel
theorem dX9_becomes_163 : decode cX9_becomes 163 = .ok (.getfield 97, 3) := by decide +kernel
theorem dX9_becomes_166 : decode cX9_becomes 166 = .ok (.putfield 97, 3) := by decide +kernel
theorem dX9_becomes_169 : decode cX9_becomes 169 = .ok (.aload_n 0, 1) := by decide +kernel
theorem dX9_becomes_170 : decode cX9_becomes 170 = .ok (.aload_n 1, 1) := by decide +kernel
theorem dX9_becomes_171 : decode cX9_becomes 171 = .ok (.getfield 100, 3) := by decide +kernel
theorem dX9_becomes_174 : decode cX9_becomes 174 = .ok (.putfield 100, 3) := by decide +kernel
theorem dX9_becomes_177 : decode cX9_becomes 177 = .ok (.aload_n 0, 1) := by decide +kernel
theorem dX9_becomes_178 : decode cX9_becomes 178 = .ok (.aload_n 1, 1) := by decide +kernel
theorem dX9_becomes_179 : decode cX9_becomes 179 = .ok (.getfield 60, 3) := by decide +kernel
theorem dX9_becomes_182 : decode cX9_becomes 182 = .ok (.putfield 60, 3) := by decide +kernel
theorem dX9_becomes_185 : decode cX9_becomes 185 = .ok (.return_, 1) := by decide +kernel
theorem dX9_comes_0 : decode cX9_comes 0 = .ok (.aload_n 0, 1) := by decide +kernel
theorem dX9_comes_1 : decode cX9_comes 1 = .ok (.getfield 24, 3) := by decide +kernel
theorem dX9_comes_4 : decode cX9_comes 4 = .ok (.aload_n 0, 1) := by decide +kernel
theorem dX9_comes_5 : decode cX9_comes 5 = .ok (.getfield 93, 3) := by decide +kernel
theorem dX9_comes_8 : decode cX9_comes 8 = .ok (.iload_n 1, 1) := by decide +kernel
theorem dX9_comes_9 : decode cX9_comes 9 = .ok (.iastore, 1) := by decide +kernel
theorem dX9_comes_10 : decode cX9_comes 10 = .ok (.aload_n 0, 1) := by decide +kernel
theorem dX9_comes_11 : decode cX9_comes 11 = .ok (.getfield 27, 3) := by decide +kernel
theorem dX9_comes_14 : decode cX9_comes 14 = .ok (.aload_n 0, 1) := by decide +kernel
theorem dX9_comes_15 : decode cX9_comes 15 = .ok (.getfield 93, 3) := by decide +kernel
theorem dX9_comes_18 : decode cX9_comes 18 = .ok (.iload_n 2, 1) := by decide +kernel
theorem dX9_comes_19 : decode cX9_comes 19 = .ok (.iastore, 1) := by decide +kernel
theorem dX9_comes_20 : decode cX9_comes 20 = .ok (.aload_n 0, 1) := by decide +kernel
theorem dX9_comes_21 : decode cX9_comes 21 = .ok (.dup, 1) := by decide +kernel
theorem dX9_comes_22 : decode cX9_comes 22 = .ok (.getfield 93, 3) := by decide +kernel
theorem dX9_comes_25 : decode cX9_comes 25 = .ok (.iconst 1, 1) := by decide +kernel
theorem dX9_comes_26 : decode cX9_comes 26 = .ok (.iadd, 1) := by decide +kernel
theorem dX9_comes_27 : decode cX9_comes 27 = .ok (.putfield 93, 3) := by decide +kernel
theorem dX9_comes_30 : decode cX9_comes 30 = .ok (.aload_n 0, 1) := by decide +kernel
theorem dX9_comes_31 : decode cX9_comes 31 = .ok (.getfield 93, 3) := by decide +kernel
theorem dX9_comes_34 : decode cX9_comes 34 = .ok (.iconst 1, 1) := by decide +kernel
theorem dX9_comes_35 : decode cX9_comes 35 = .ok (.isub, 1) := by decide +kernel
theorem dX9_comes_36 : decode cX9_comes 36 = .ok (.ireturn, 1) := by decide +kernel
theorem dX9_gladness_0 : decode cX9_gladness 0 = .ok (.aload_n 0, 1) := by decide +kernel
theorem dX9_gladness_1 : decode cX9_gladness 1 = .ok (.iload_n 1, 1) := by decide +kernel
theorem dX9_gladness_2 : decode cX9_gladness 2 = .ok (.iload_n 2, 1) := by decide +kernel
theorem dX9_gladness_3 : decode cX9_gladness 3 = .ok (.aload_n 0, 1) := by decide +kernel
theorem dX9_gladness_4 : decode cX9_gladness 4 = .ok (.getfield 60, 3) := by decide +kernel
theorem dX9_gladness_7 : decode cX9_gladness 7 = .ok (.aload_n 0, 1) := by decide +kernel
theorem dX9_gladness_8 : decode cX9_gladness 8 = .ok (.iload_n 1, 1) := by decide +kernel
theorem dX9_gladness_9 : decode cX9_gladness 9 = .ok (.iload_n 2, 1) := by decide +kernel
theorem dX9_gladness_10 : decode cX9_gladness 10 = .ok (.invokestatic 103, 3) := by decide +kernel
theorem dX9_gladness_13 : decode cX9_gladness 13 = .ok (.invokevirtual 109, 3) := by decide +kernel
theorem dX9_gladness_16 : decode cX9_gladness 16 = .ok (.invokevirtual 113, 3) := by decide +kernel
theorem dX9_gladness_19 : decode cX9_gladness 19 = .ok (.ireturn, 1) := by decide +kernel
theorem dX9_gladnessBy_0 : decode cX9_gladnessBy 0 = .ok (.iload_n 3, 1) := by decide +kernel
theorem dX9_gladnessBy_1 : decode cX9_gladnessBy 1 = .ok (.aload_n 0, 1) := by decide +kernel
theorem dX9_gladnessBy_2 : decode cX9_gladnessBy 2 = .ok (.getfield 33, 3) := by decide +kernel
theorem dX9_gladnessBy_5 : decode cX9_gladnessBy 5 = .ok (.iload_n 1, 1) := by decide +kernel
theorem dX9_gladnessBy_6 : decode cX9_gladnessBy 6 = .ok (.iaload, 1) := by decide +kernel
theorem dX9_gladnessBy_7 : decode cX9_gladnessBy 7 = .ok (.isub, 1) := by decide +kernel
theorem dX9_gladnessBy_8 : decode cX9_gladnessBy 8 = .ok (.istore 4, 2) := by decide +kernel
theorem dX9_gladnessBy_10 : decode cX9_gladnessBy 10 = .ok (.iconst 0, 1) := by decide +kernel
theorem dX9_gladnessBy_11 : decode cX9_gladnessBy 11 = .ok (.istore 5, 2) := by decide +kernel
theorem dX9_gladnessBy_13 : decode cX9_gladnessBy 13 = .ok (.iload 5, 2) := by decide +kernel
theorem dX9_gladnessBy_15 : decode cX9_gladnessBy 15 = .ok (.bipush 12, 2) := by decide +kernel
theorem dX9_gladnessBy_17 : decode cX9_gladnessBy 17 = .ok (.if_icmp .ge 32, 3) := by decide +kernel
theorem dX9_gladnessBy_20 : decode cX9_gladnessBy 20 = .ok (.iload_n 2, 1) := by decide +kernel
theorem dX9_gladnessBy_21 : decode cX9_gladnessBy 21 = .ok (.iload 5, 2) := by decide +kernel
theorem dX9_gladnessBy_23 : decode cX9_gladnessBy 23 = .ok (.ishr, 1) := by decide +kernel
theorem dX9_gladnessBy_24 : decode cX9_gladnessBy 24 = .ok (.iconst 1, 1) := by decide +kernel
theorem dX9_gladnessBy_25 : decode cX9_gladnessBy 25 = .ok (.iand, 1) := by decide +kernel
theorem dX9_gladnessBy_26 : decode cX9_gladnessBy 26 = .ok (.ifCond .eq 17, 3) := by decide +kernel
theorem dX9_gladnessBy_29 : decode cX9_gladnessBy 29 = .ok (.iload 4, 2) := by decide +kernel
theorem dX9_gladnessBy_31 : decode cX9_gladnessBy 31 = .ok (.aload_n 0, 1) := by decide +kernel
theorem dX9_gladnessBy_32 : decode cX9_gladnessBy 32 = .ok (.getfield 17, 3) := by decide +kernel
theorem dX9_gladnessBy_35 : decode cX9_gladnessBy 35 = .ok (.iload 5, 2) := by decide +kernel
theorem dX9_gladnessBy_37 : decode cX9_gladnessBy 37 = .ok (.iaload, 1) := by decide +kernel
theorem dX9_gladnessBy_38 : decode cX9_gladnessBy 38 = .ok (.iconst 4, 1) := by decide +kernel
theorem dX9_gladnessBy_39 : decode cX9_gladnessBy 39 = .ok (.isub, 1) := by decide +kernel
theorem dX9_gladnessBy_40 : decode cX9_gladnessBy 40 = .ok (.iadd, 1) := by decide +kernel
theorem dX9_gladnessBy_41 : decode cX9_gladnessBy 41 = .ok (.istore 4, 2) := by decide +kernel
theorem dX9_gladnessBy_43 : decode cX9_gladnessBy 43 = .ok (.iinc 5 1, 3) := by decide +kernel
theorem dX9_gladnessBy_46 : decode cX9_gladnessBy 46 = .ok (.goto (-33), 3) := by decide +kernel
theorem dX9_gladnessBy_49 : decode cX9_gladnessBy 49 = .ok (.aload_n 0, 1) := by decide +kernel
theorem dX9_gladnessBy_50 : decode cX9_gladnessBy 50 = .ok (.getfield 11, 3) := by decide +kernel
theorem dX9_gladnessBy_53 : decode cX9_gladnessBy 53 = .ok (.aload_n 0, 1) := by decide +kernel
theorem dX9_gladnessBy_54 : decode cX9_gladnessBy 54 = .ok (.getfield 24, 3) := by decide +kernel
theorem dX9_gladnessBy_57 : decode cX9_gladnessBy 57 = .ok (.iload_n 1, 1) := by decide +kernel
theorem dX9_gladnessBy_58 : decode cX9_gladnessBy 58 = .ok (.iaload, 1) := by decide +kernel
theorem dX9_gladnessBy_59 : decode cX9_gladnessBy 59 = .ok (.aaload, 1) := by decide +kernel
theorem dX9_gladnessBy_60 : decode cX9_gladnessBy 60 = .ok (.iload 4, 2) := by decide +kernel
theorem dX9_gladnessBy_62 : decode cX9_gladnessBy 62 = .ok (.aload_n 0, 1) := by decide +kernel
theorem dX9_gladnessBy_63 : decode cX9_gladnessBy 63 = .ok (.iload_n 1, 1) := by decide +kernel
theorem dX9_gladnessBy_64 : decode cX9_gladnessBy 64 = .ok (.iload_n 2, 1) := by decide +kernel
theorem dX9_gladnessBy_65 : decode cX9_gladnessBy 65 = .ok (.invokevirtual 117, 3) := by decide +kernel
theorem dX9_gladnessBy_68 : decode cX9_gladnessBy 68 = .ok (.ireturn, 1) := by decide +kernel
theorem dX9_willFlyOff_0 : decode cX9_willFlyOff 0 = .ok (.aload_n 0, 1) := by decide +kernel
theorem dX9_willFlyOff_1 : decode cX9_willFlyOff 1 = .ok (.getfield 30, 3) := by decide +kernel
theorem dX9_willFlyOff_4 : decode cX9_willFlyOff 4 = .ok (.iload_n 1, 1) := by decide +kernel
theorem dX9_willFlyOff_5 : decode cX9_willFlyOff 5 = .ok (.iaload, 1) := by decide +kernel
theorem dX9_willFlyOff_6 : decode cX9_willFlyOff 6 = .ok (.ifCond .eq 21, 3) := by decide +kernel
theorem dX9_willFlyOff_9 : decode cX9_willFlyOff 9 = .ok (.aload_n 0, 1) := by decide +kernel
theorem dX9_willFlyOff_10 : decode cX9_willFlyOff 10 = .ok (.iload_n 1, 1) := by decide +kernel
theorem dX9_willFlyOff_11 : decode cX9_willFlyOff 11 = .ok (.aload_n 0, 1) := by decide +kernel
theorem dX9_willFlyOff_12 : decode cX9_willFlyOff 12 = .ok (.getfield 30, 3) := by decide +kernel
theorem dX9_willFlyOff_15 : decode cX9_willFlyOff 15 = .ok (.iload_n 1, 1) := by decide +kernel
theorem dX9_willFlyOff_16 : decode cX9_willFlyOff 16 = .ok (.iaload, 1) := by decide +kernel
theorem dX9_willFlyOff_17 : decode cX9_willFlyOff 17 = .ok (.invokevirtual 121, 3) := by decide +kernel
theorem dX9_willFlyOff_20 : decode cX9_willFlyOff 20 = .ok (.ifCond .le 7, 3) := by decide +kernel
theorem dX9_willFlyOff_23 : decode cX9_willFlyOff 23 = .ok (.iconst 1, 1) := by decide +kernel
theorem dX9_willFlyOff_24 : decode cX9_willFlyOff 24 = .ok (.goto 4, 3) := by decide +kernel
theorem dX9_willFlyOff_27 : decode cX9_willFlyOff 27 = .ok (.iconst 0, 1) := by decide +kernel
theorem dX9_willFlyOff_28 : decode cX9_willFlyOff 28 = .ok (.ireturn, 1) := by decide +kernel
theorem dX9_meaningOf_0 : decode cX9_meaningOf 0 = .ok (.iconst 0, 1) := by decide +kernel
theorem dX9_meaningOf_1 : decode cX9_meaningOf 1 = .ok (.istore_n 2, 1) := by decide +kernel
theorem dX9_meaningOf_2 : decode cX9_meaningOf 2 = .ok (.iconst 0, 1) := by decide +kernel
theorem dX9_meaningOf_3 : decode cX9_meaningOf 3 = .ok (.istore_n 3, 1) := by decide +kernel
theorem dX9_meaningOf_4 : decode cX9_meaningOf 4 = .ok (.iload_n 3, 1) := by decide +kernel
theorem dX9_meaningOf_5 : decode cX9_meaningOf 5 = .ok (.bipush 12, 2) := by decide +kernel
theorem dX9_meaningOf_7 : decode cX9_meaningOf 7 = .ok (.if_icmp .ge 26, 3) := by decide +kernel
theorem dX9_meaningOf_10 : decode cX9_meaningOf 10 = .ok (.iload_n 1, 1) := by decide +kernel
theorem dX9_meaningOf_11 : decode cX9_meaningOf 11 = .ok (.iload_n 3, 1) := by decide +kernel
theorem dX9_meaningOf_12 : decode cX9_meaningOf 12 = .ok (.ishr, 1) := by decide +kernel
theorem dX9_meaningOf_13 : decode cX9_meaningOf 13 = .ok (.iconst 1, 1) := by decide +kernel
theorem dX9_meaningOf_14 : decode cX9_meaningOf 14 = .ok (.iand, 1) := by decide +kernel
theorem dX9_meaningOf_15 : decode cX9_meaningOf 15 = .ok (.ifCond .eq 12, 3) := by decide +kernel
theorem dX9_meaningOf_18 : decode cX9_meaningOf 18 = .ok (.iload_n 2, 1) := by decide +kernel
theorem dX9_meaningOf_19 : decode cX9_meaningOf 19 = .ok (.aload_n 0, 1) := by decide +kernel
theorem dX9_meaningOf_20 : decode cX9_meaningOf 20 = .ok (.getfield 21, 3) := by decide +kernel
theorem dX9_meaningOf_23 : decode cX9_meaningOf 23 = .ok (.iload_n 3, 1) := by decide +kernel
theorem dX9_meaningOf_24 : decode cX9_meaningOf 24 = .ok (.iaload, 1) := by decide +kernel
theorem dX9_meaningOf_25 : decode cX9_meaningOf 25 = .ok (.ior, 1) := by decide +kernel
theorem dX9_meaningOf_26 : decode cX9_meaningOf 26 = .ok (.istore_n 2, 1) := by decide +kernel
theorem dX9_meaningOf_27 : decode cX9_meaningOf 27 = .ok (.iinc 3 1, 3) := by decide +kernel
theorem dX9_meaningOf_30 : decode cX9_meaningOf 30 = .ok (.goto (-26), 3) := by decide +kernel
theorem dX9_meaningOf_33 : decode cX9_meaningOf 33 = .ok (.iload_n 2, 1) := by decide +kernel
theorem dX9_meaningOf_34 : decode cX9_meaningOf 34 = .ok (.ireturn, 1) := by decide +kernel
theorem dX9_daysGo_0 : decode cX9_daysGo 0 = .ok (.aload_n 0, 1) := by decide +kernel
theorem dX9_daysGo_1 : decode cX9_daysGo 1 = .ok (.getfield 60, 3) := by decide +kernel
theorem dX9_daysGo_4 : decode cX9_daysGo 4 = .ok (.getfield 125, 3) := by decide +kernel
theorem dX9_daysGo_7 : decode cX9_daysGo 7 = .ok (.istore_n 2, 1) := by decide +kernel
theorem dX9_daysGo_8 : decode cX9_daysGo 8 = .ok (.iconst 0, 1) := by decide +kernel
theorem dX9_daysGo_9 : decode cX9_daysGo 9 = .ok (.istore_n 3, 1) := by decide +kernel
theorem dX9_daysGo_10 : decode cX9_daysGo 10 = .ok (.iload_n 3, 1) := by decide +kernel
theorem dX9_daysGo_11 : decode cX9_daysGo 11 = .ok (.iload_n 1, 1) := by decide +kernel
theorem dX9_daysGo_12 : decode cX9_daysGo 12 = .ok (.if_icmp .ge 129, 3) := by decide +kernel
theorem dX9_daysGo_15 : decode cX9_daysGo 15 = .ok (.iconst 0, 1) := by decide +kernel
theorem dX9_daysGo_16 : decode cX9_daysGo 16 = .ok (.istore 4, 2) := by decide +kernel
theorem dX9_daysGo_18 : decode cX9_daysGo 18 = .ok (.iload 4, 2) := by decide +kernel
theorem dX9_daysGo_20 : decode cX9_daysGo 20 = .ok (.aload_n 0, 1) := by decide +kernel
theorem dX9_daysGo_21 : decode cX9_daysGo 21 = .ok (.getfield 93, 3) := by decide +kernel
theorem dX9_daysGo_24 : decode cX9_daysGo 24 = .ok (.if_icmp .ge 101, 3) := by decide +kernel
theorem dX9_daysGo_27 : decode cX9_daysGo 27 = .ok (.aload_n 0, 1) := by decide +kernel
theorem dX9_daysGo_28 : decode cX9_daysGo 28 = .ok (.iload 4, 2) := by decide +kernel
theorem dX9_daysGo_30 : decode cX9_daysGo 30 = .ok (.invokevirtual 128, 3) := by decide +kernel
theorem dX9_daysGo_33 : decode cX9_daysGo 33 = .ok (.ifCond .eq 66, 3) := by decide +kernel
theorem dX9_daysGo_36 : decode cX9_daysGo 36 = .ok (.aload_n 0, 1) := by decide +kernel
theorem dX9_daysGo_37 : decode cX9_daysGo 37 = .ok (.dup, 1) := by decide +kernel
theorem dX9_daysGo_38 : decode cX9_daysGo 38 = .ok (.getfield 97, 3) := by decide +kernel
theorem dX9_daysGo_41 : decode cX9_daysGo 41 = .ok (.aload_n 0, 1) := by decide +kernel
theorem dX9_daysGo_42 : decode cX9_daysGo 42 = .ok (.aload_n 0, 1) := by decide +kernel
theorem dX9_daysGo_43 : decode cX9_daysGo 43 = .ok (.getfield 30, 3) := by decide +kernel
theorem dX9_daysGo_46 : decode cX9_daysGo 46 = .ok (.iload 4, 2) := by decide +kernel
theorem dX9_daysGo_48 : decode cX9_daysGo 48 = .ok (.iaload, 1) := by decide +kernel
theorem dX9_daysGo_49 : decode cX9_daysGo 49 = .ok (.invokevirtual 132, 3) := by decide +kernel
theorem dX9_daysGo_52 : decode cX9_daysGo 52 = .ok (.ior, 1) := by decide +kernel
theorem dX9_daysGo_53 : decode cX9_daysGo 53 = .ok (.putfield 97, 3) := by decide +kernel
theorem dX9_daysGo_56 : decode cX9_daysGo 56 = .ok (.aload_n 0, 1) := by decide +kernel
theorem dX9_daysGo_57 : decode cX9_daysGo 57 = .ok (.getfield 30, 3) := by decide +kernel
theorem dX9_daysGo_60 : decode cX9_daysGo 60 = .ok (.iload 4, 2) := by decide +kernel
theorem dX9_daysGo_62 : decode cX9_daysGo 62 = .ok (.iconst 0, 1) := by decide +kernel
theorem dX9_daysGo_63 : decode cX9_daysGo 63 = .ok (.iastore, 1) := by decide +kernel
theorem dX9_daysGo_64 : decode cX9_daysGo 64 = .ok (.aload_n 0, 1) := by decide +kernel
theorem dX9_daysGo_65 : decode cX9_daysGo 65 = .ok (.getfield 33, 3) := by decide +kernel
theorem dX9_daysGo_68 : decode cX9_daysGo 68 = .ok (.iload 4, 2) := by decide +kernel
theorem dX9_daysGo_70 : decode cX9_daysGo 70 = .ok (.bipush 9, 2) := by decide +kernel
theorem dX9_daysGo_72 : decode cX9_daysGo 72 = .ok (.aload_n 0, 1) := by decide +kernel
theorem dX9_daysGo_73 : decode cX9_daysGo 73 = .ok (.getfield 33, 3) := by decide +kernel
theorem dX9_daysGo_76 : decode cX9_daysGo 76 = .ok (.iload 4, 2) := by decide +kernel
theorem dX9_daysGo_78 : decode cX9_daysGo 78 = .ok (.iaload, 1) := by decide +kernel
theorem dX9_daysGo_79 : decode cX9_daysGo 79 = .ok (.iconst 2, 1) := by decide +kernel
theorem dX9_daysGo_80 : decode cX9_daysGo 80 = .ok (.iadd, 1) := by decide +kernel
theorem dX9_daysGo_81 : decode cX9_daysGo 81 = .ok (.invokestatic 135, 3) := by decide +kernel
theorem dX9_daysGo_84 : decode cX9_daysGo 84 = .ok (.iastore, 1) := by decide +kernel
theorem dX9_daysGo_85 : decode cX9_daysGo 85 = .ok (.aload_n 0, 1) := by decide +kernel
theorem dX9_daysGo_86 : decode cX9_daysGo 86 = .ok (.getfield 36, 3) := by decide +kernel
theorem dX9_daysGo_89 : decode cX9_daysGo 89 = .ok (.iload 4, 2) := by decide +kernel
theorem dX9_daysGo_91 : decode cX9_daysGo 91 = .ok (.dup2, 1) := by decide +kernel
theorem dX9_daysGo_92 : decode cX9_daysGo 92 = .ok (.iaload, 1) := by decide +kernel
theorem dX9_daysGo_93 : decode cX9_daysGo 93 = .ok (.iconst 1, 1) := by decide +kernel
theorem dX9_daysGo_94 : decode cX9_daysGo 94 = .ok (.iadd, 1) := by decide +kernel
theorem dX9_daysGo_95 : decode cX9_daysGo 95 = .ok (.iastore, 1) := by decide +kernel
theorem dX9_daysGo_96 : decode cX9_daysGo 96 = .ok (.goto 23, 3) := by decide +kernel
theorem dX9_daysGo_99 : decode cX9_daysGo 99 = .ok (.aload_n 0, 1) := by decide +kernel
theorem dX9_daysGo_100 : decode cX9_daysGo 100 = .ok (.getfield 33, 3) := by decide +kernel
theorem dX9_daysGo_103 : decode cX9_daysGo 103 = .ok (.iload 4, 2) := by decide +kernel
theorem dX9_daysGo_105 : decode cX9_daysGo 105 = .ok (.iconst 0, 1) := by decide +kernel
theorem dX9_daysGo_106 : decode cX9_daysGo 106 = .ok (.aload_n 0, 1) := by decide +kernel
theorem dX9_daysGo_107 : decode cX9_daysGo 107 = .ok (.getfield 33, 3) := by decide +kernel
theorem dX9_daysGo_110 : decode cX9_daysGo 110 = .ok (.iload 4, 2) := by decide +kernel
theorem dX9_daysGo_112 : decode cX9_daysGo 112 = .ok (.iaload, 1) := by decide +kernel
theorem dX9_daysGo_113 : decode cX9_daysGo 113 = .ok (.iload_n 2, 1) := by decide +kernel
theorem dX9_daysGo_114 : decode cX9_daysGo 114 = .ok (.isub, 1) := by decide +kernel
theorem dX9_daysGo_115 : decode cX9_daysGo 115 = .ok (.invokestatic 140, 3) := by decide +kernel
theorem dX9_daysGo_118 : decode cX9_daysGo 118 = .ok (.iastore, 1) := by decide +kernel
theorem dX9_daysGo_119 : decode cX9_daysGo 119 = .ok (.iinc 4 1, 3) := by decide +kernel
theorem dX9_daysGo_122 : decode cX9_daysGo 122 = .ok (.goto (-104), 3) := by decide +kernel
theorem dX9_daysGo_125 : decode cX9_daysGo 125 = .ok (.aload_n 0, 1) := by decide +kernel
theorem dX9_daysGo_126 : decode cX9_daysGo 126 = .ok (.dup, 1) := by decide +kernel
theorem dX9_daysGo_127 : decode cX9_daysGo 127 = .ok (.getfield 100, 3) := by decide +kernel
theorem dX9_daysGo_130 : decode cX9_daysGo 130 = .ok (.iconst 1, 1) := by decide +kernel
theorem dX9_daysGo_131 : decode cX9_daysGo 131 = .ok (.iadd, 1) := by decide +kernel
theorem dX9_daysGo_132 : decode cX9_daysGo 132 = .ok (.putfield 100, 3) := by decide +kernel
theorem dX9_daysGo_135 : decode cX9_daysGo 135 = .ok (.iinc 3 1, 3) := by decide +kernel
theorem dX9_daysGo_138 : decode cX9_daysGo 138 = .ok (.goto (-128), 3) := by decide +kernel
theorem dX9_daysGo_141 : decode cX9_daysGo 141 = .ok (.return_, 1) := by decide +kernel
theorem dX9_planned_0 : decode cX9_planned 0 = .ok (.iload_n 1, 1) := by decide +kernel
theorem dX9_planned_1 : decode cX9_planned 1 = .ok (.tableswitch 55 0 2 #[27, 35, 45], 27) := by decide +kernel
theorem dX9_planned_28 : decode cX9_planned 28 = .ok (.aload_n 0, 1) := by decide +kernel
theorem dX9_planned_29 : decode cX9_planned 29 = .ok (.iconst 1, 1) := by decide +kernel
theorem dX9_planned_30 : decode cX9_planned 30 = .ok (.invokevirtual 143, 3) := by decide +kernel
theorem dX9_planned_33 : decode cX9_planned 33 = .ok (.goto 31, 3) := by decide +kernel
theorem dX9_planned_36 : decode cX9_planned 36 = .ok (.aload_n 0, 1) := by decide +kernel
theorem dX9_planned_37 : decode cX9_planned 37 = .ok (.getfield 30, 3) := by decide +kernel
theorem dX9_planned_40 : decode cX9_planned 40 = .ok (.iload_n 2, 1) := by decide +kernel
theorem dX9_planned_41 : decode cX9_planned 41 = .ok (.iconst 0, 1) := by decide +kernel
theorem dX9_planned_42 : decode cX9_planned 42 = .ok (.iastore, 1) := by decide +kernel
theorem dX9_planned_43 : decode cX9_planned 43 = .ok (.goto 21, 3) := by decide +kernel
theorem dX9_planned_46 : decode cX9_planned 46 = .ok (.aload_n 0, 1) := by decide +kernel
theorem dX9_planned_47 : decode cX9_planned 47 = .ok (.getfield 33, 3) := by decide +kernel
theorem dX9_planned_50 : decode cX9_planned 50 = .ok (.iload_n 2, 1) := by decide +kernel
theorem dX9_planned_51 : decode cX9_planned 51 = .ok (.iconst 0, 1) := by decide +kernel
theorem dX9_planned_52 : decode cX9_planned 52 = .ok (.iastore, 1) := by decide +kernel
theorem dX9_planned_53 : decode cX9_planned 53 = .ok (.goto 11, 3) := by decide +kernel
theorem dX9_planned_56 : decode cX9_planned 56 = .ok (.aload_n 0, 1) := by decide +kernel
theorem dX9_planned_57 : decode cX9_planned 57 = .ok (.getfield 17, 3) := by decide +kernel
theorem dX9_planned_60 : decode cX9_planned 60 = .ok (.iload_n 2, 1) := by decide +kernel
theorem dX9_planned_61 : decode cX9_planned 61 = .ok (.bipush 9, 2) := by decide +kernel
theorem dX9_planned_63 : decode cX9_planned 63 = .ok (.iastore, 1) := by decide +kernel
theorem dX9_planned_64 : decode cX9_planned 64 = .ok (.return_, 1) := by decide +kernel
theorem dX9_flownByAll_0 : decode cX9_flownByAll 0 = .ok (.iconst 0, 1) := by decide +kernel
theorem dX9_flownByAll_1 : decode cX9_flownByAll 1 = .ok (.istore_n 1, 1) := by decide +kernel
theorem dX9_flownByAll_2 : decode cX9_flownByAll 2 = .ok (.iconst 0, 1) := by decide +kernel
theorem dX9_flownByAll_3 : decode cX9_flownByAll 3 = .ok (.istore_n 2, 1) := by decide +kernel
theorem dX9_flownByAll_4 : decode cX9_flownByAll 4 = .ok (.iload_n 2, 1) := by decide +kernel
theorem dX9_flownByAll_5 : decode cX9_flownByAll 5 = .ok (.aload_n 0, 1) := by decide +kernel
theorem dX9_flownByAll_6 : decode cX9_flownByAll 6 = .ok (.getfield 93, 3) := by decide +kernel
theorem dX9_flownByAll_9 : decode cX9_flownByAll 9 = .ok (.if_icmp .ge 18, 3) := by decide +kernel
theorem dX9_flownByAll_12 : decode cX9_flownByAll 12 = .ok (.iload_n 1, 1) := by decide +kernel
theorem dX9_flownByAll_13 : decode cX9_flownByAll 13 = .ok (.aload_n 0, 1) := by decide +kernel
theorem dX9_flownByAll_14 : decode cX9_flownByAll 14 = .ok (.getfield 36, 3) := by decide +kernel
theorem dX9_flownByAll_17 : decode cX9_flownByAll 17 = .ok (.iload_n 2, 1) := by decide +kernel
theorem dX9_flownByAll_18 : decode cX9_flownByAll 18 = .ok (.iaload, 1) := by decide +kernel
theorem dX9_flownByAll_19 : decode cX9_flownByAll 19 = .ok (.iadd, 1) := by decide +kernel
theorem dX9_flownByAll_20 : decode cX9_flownByAll 20 = .ok (.istore_n 1, 1) := by decide +kernel
theorem dX9_flownByAll_21 : decode cX9_flownByAll 21 = .ok (.iinc 2 1, 3) := by decide +kernel
theorem dX9_flownByAll_24 : decode cX9_flownByAll 24 = .ok (.goto (-20), 3) := by decide +kernel
theorem dX9_flownByAll_27 : decode cX9_flownByAll 27 = .ok (.iload_n 1, 1) := by decide +kernel
theorem dX9_flownByAll_28 : decode cX9_flownByAll 28 = .ok (.ireturn, 1) := by decide +kernel
theorem dX9_isSeenSo_0 : decode cX9_isSeenSo 0 = .ok (.iconst 0, 1) := by decide +kernel
theorem dX9_isSeenSo_1 : decode cX9_isSeenSo 1 = .ok (.istore_n 1, 1) := by decide +kernel
theorem dX9_isSeenSo_2 : decode cX9_isSeenSo 2 = .ok (.iload_n 1, 1) := by decide +kernel
theorem dX9_isSeenSo_3 : decode cX9_isSeenSo 3 = .ok (.aload_n 0, 1) := by decide +kernel
theorem dX9_isSeenSo_4 : decode cX9_isSeenSo 4 = .ok (.getfield 47, 3) := by decide +kernel
theorem dX9_isSeenSo_7 : decode cX9_isSeenSo 7 = .ok (.getfield 146, 3) := by decide +kernel
theorem dX9_isSeenSo_10 : decode cX9_isSeenSo 10 = .ok (.if_icmp .ge 63, 3) := by decide +kernel
theorem dX9_isSeenSo_13 : decode cX9_isSeenSo 13 = .ok (.aload_n 0, 1) := by decide +kernel
theorem dX9_isSeenSo_14 : decode cX9_isSeenSo 14 = .ok (.aload_n 0, 1) := by decide +kernel
theorem dX9_isSeenSo_15 : decode cX9_isSeenSo 15 = .ok (.getfield 47, 3) := by decide +kernel
theorem dX9_isSeenSo_18 : decode cX9_isSeenSo 18 = .ok (.getfield 147, 3) := by decide +kernel
theorem dX9_isSeenSo_21 : decode cX9_isSeenSo 21 = .ok (.iload_n 1, 1) := by decide +kernel
theorem dX9_isSeenSo_22 : decode cX9_isSeenSo 22 = .ok (.iaload, 1) := by decide +kernel
theorem dX9_isSeenSo_23 : decode cX9_isSeenSo 23 = .ok (.aload_n 0, 1) := by decide +kernel
theorem dX9_isSeenSo_24 : decode cX9_isSeenSo 24 = .ok (.getfield 47, 3) := by decide +kernel
theorem dX9_isSeenSo_27 : decode cX9_isSeenSo 27 = .ok (.getfield 150, 3) := by decide +kernel
theorem dX9_isSeenSo_30 : decode cX9_isSeenSo 30 = .ok (.iload_n 1, 1) := by decide +kernel
theorem dX9_isSeenSo_31 : decode cX9_isSeenSo 31 = .ok (.iaload, 1) := by decide +kernel
theorem dX9_isSeenSo_32 : decode cX9_isSeenSo 32 = .ok (.invokevirtual 121, 3) := by decide +kernel
theorem dX9_isSeenSo_35 : decode cX9_isSeenSo 35 = .ok (.ifCond .le 7, 3) := by decide +kernel
theorem dX9_isSeenSo_38 : decode cX9_isSeenSo 38 = .ok (.iconst 1, 1) := by decide +kernel
theorem dX9_isSeenSo_39 : decode cX9_isSeenSo 39 = .ok (.goto 4, 3) := by decide +kernel
theorem dX9_isSeenSo_42 : decode cX9_isSeenSo 42 = .ok (.iconst 0, 1) := by decide +kernel
theorem dX9_isSeenSo_43 : decode cX9_isSeenSo 43 = .ok (.istore_n 2, 1) := by decide +kernel
theorem dX9_isSeenSo_44 : decode cX9_isSeenSo 44 = .ok (.iload_n 2, 1) := by decide +kernel
theorem dX9_isSeenSo_45 : decode cX9_isSeenSo 45 = .ok (.aload_n 0, 1) := by decide +kernel
theorem dX9_isSeenSo_46 : decode cX9_isSeenSo 46 = .ok (.getfield 47, 3) := by decide +kernel
theorem dX9_isSeenSo_49 : decode cX9_isSeenSo 49 = .ok (.getfield 153, 3) := by decide +kernel
theorem dX9_isSeenSo_52 : decode cX9_isSeenSo 52 = .ok (.iload_n 1, 1) := by decide +kernel
theorem dX9_isSeenSo_53 : decode cX9_isSeenSo 53 = .ok (.iaload, 1) := by decide +kernel
theorem dX9_isSeenSo_54 : decode cX9_isSeenSo 54 = .ok (.ifCond .eq 7, 3) := by decide +kernel
theorem dX9_isSeenSo_57 : decode cX9_isSeenSo 57 = .ok (.iconst 1, 1) := by decide +kernel
theorem dX9_isSeenSo_58 : decode cX9_isSeenSo 58 = .ok (.goto 4, 3) := by decide +kernel
theorem dX9_isSeenSo_61 : decode cX9_isSeenSo 61 = .ok (.iconst 0, 1) := by decide +kernel
theorem dX9_isSeenSo_62 : decode cX9_isSeenSo 62 = .ok (.if_icmp .eq 5, 3) := by decide +kernel
theorem dX9_isSeenSo_65 : decode cX9_isSeenSo 65 = .ok (.iconst 0, 1) := by decide +kernel
theorem dX9_isSeenSo_66 : decode cX9_isSeenSo 66 = .ok (.ireturn, 1) := by decide +kernel
theorem dX9_isSeenSo_67 : decode cX9_isSeenSo 67 = .ok (.iinc 1 1, 3) := by decide +kernel
theorem dX9_isSeenSo_70 : decode cX9_isSeenSo 70 = .ok (.goto (-68), 3) := by decide +kernel
theorem dX9_isSeenSo_73 : decode cX9_isSeenSo 73 = .ok (.iconst 1, 1) := by decide +kernel
theorem dX9_isSeenSo_74 : decode cX9_isSeenSo 74 = .ok (.ireturn, 1) := by decide +kernel
theorem dX10_init_0 : decode cX10_init 0 = .ok (.aload_n 0, 1) := by decide +kernel
theorem dX10_init_1 : decode cX10_init 1 = .ok (.invokespecial 3, 3) := by decide +kernel
theorem dX10_init_4 : decode cX10_init 4 = .ok (.return_, 1) := by decide +kernel
theorem dX10_joyFrom_0 : decode cX10_joyFrom 0 = .ok (.iload 4, 2) := by decide +kernel
theorem dX10_joyFrom_2 : decode cX10_joyFrom 2 = .ok (.invokestatic 9, 3) := by decide +kernel
theorem dX10_joyFrom_5 : decode cX10_joyFrom 5 = .ok (.iconst 4, 1) := by decide +kernel
theorem dX10_joyFrom_6 : decode cX10_joyFrom 6 = .ok (.irem, 1) := by decide +kernel
theorem dX10_joyFrom_7 : decode cX10_joyFrom 7 = .ok (.istore 5, 2) := by decide +kernel
theorem dX10_joyFrom_9 : decode cX10_joyFrom 9 = .ok (.aload_n 0, 1) := by decide +kernel
theorem dX10_joyFrom_10 : decode cX10_joyFrom 10 = .ok (.iload_n 1, 1) := by decide +kernel
theorem dX10_joyFrom_11 : decode cX10_joyFrom 11 = .ok (.aload_n 2, 1) := by decide +kernel
theorem dX10_joyFrom_12 : decode cX10_joyFrom 12 = .ok (.iload_n 3, 1) := by decide +kernel
theorem dX10_joyFrom_13 : decode cX10_joyFrom 13 = .ok (.iload 4, 2) := by decide +kernel
theorem dX10_joyFrom_15 : decode cX10_joyFrom 15 = .ok (.invokespecial 15, 3) := by decide +kernel
theorem dX10_joyFrom_18 : decode cX10_joyFrom 18 = .ok (.aload_n 2, 1) := by decide +kernel
theorem dX10_joyFrom_19 : decode cX10_joyFrom 19 = .ok (.getfield 19, 3) := by decide +kernel
theorem dX10_joyFrom_22 : decode cX10_joyFrom 22 = .ok (.iload_n 3, 1) := by decide +kernel
theorem dX10_joyFrom_23 : decode cX10_joyFrom 23 = .ok (.iconst 4, 1) := by decide +kernel
theorem dX10_joyFrom_24 : decode cX10_joyFrom 24 = .ok (.imul, 1) := by decide +kernel
theorem dX10_joyFrom_25 : decode cX10_joyFrom 25 = .ok (.iload 5, 2) := by decide +kernel
theorem dX10_joyFrom_27 : decode cX10_joyFrom 27 = .ok (.iadd, 1) := by decide +kernel
theorem dX10_joyFrom_28 : decode cX10_joyFrom 28 = .ok (.iaload, 1) := by decide +kernel
theorem dX10_joyFrom_29 : decode cX10_joyFrom 29 = .ok (.iadd, 1) := by decide +kernel
theorem dX10_joyFrom_30 : decode cX10_joyFrom 30 = .ok (.ireturn, 1) := by decide +kernel
theorem dX10_flies_0 : decode cX10_flies 0 = .ok (.aload_n 1, 1) := by decide +kernel
theorem dX10_flies_1 : decode cX10_flies 1 = .ok (.bipush 70, 2) := by decide +kernel
theorem dX10_flies_3 : decode cX10_flies 3 = .ok (.invokevirtual 25, 3) := by decide +kernel
theorem dX10_flies_6 : decode cX10_flies 6 = .ok (.aload_n 0, 1) := by decide +kernel
theorem dX10_flies_7 : decode cX10_flies 7 = .ok (.aload_n 1, 1) := by decide +kernel
theorem dX10_flies_8 : decode cX10_flies 8 = .ok (.iload_n 2, 1) := by decide +kernel
theorem dX10_flies_9 : decode cX10_flies 9 = .ok (.invokespecial 31, 3) := by decide +kernel
theorem dX10_flies_12 : decode cX10_flies 12 = .ok (.aload_n 0, 1) := by decide +kernel
theorem dX10_flies_13 : decode cX10_flies 13 = .ok (.aload_n 1, 1) := by decide +kernel
theorem dX10_flies_14 : decode cX10_flies 14 = .ok (.iconst 2, 1) := by decide +kernel
theorem dX10_flies_15 : decode cX10_flies 15 = .ok (.invokespecial 35, 3) := by decide +kernel
theorem dX10_flies_18 : decode cX10_flies 18 = .ok (.iadd, 1) := by decide +kernel
theorem dX10_flies_19 : decode cX10_flies 19 = .ok (.ireturn, 1) := by decide +kernel
theorem dX10_coos_0 : decode cX10_coos 0 = .ok (.aload_n 1, 1) := by decide +kernel
theorem dX10_coos_1 : decode cX10_coos 1 = .ok (.bipush 71, 2) := by decide +kernel
theorem dX10_coos_3 : decode cX10_coos 3 = .ok (.invokevirtual 25, 3) := by decide +kernel
theorem dX10_coos_6 : decode cX10_coos 6 = .ok (.aload_n 0, 1) := by decide +kernel
theorem dX10_coos_7 : decode cX10_coos 7 = .ok (.aload_n 1, 1) := by decide +kernel
theorem dX10_coos_8 : decode cX10_coos 8 = .ok (.iload_n 2, 1) := by decide +kernel
theorem dX10_coos_9 : decode cX10_coos 9 = .ok (.invokespecial 35, 3) := by decide +kernel
theorem dX10_coos_12 : decode cX10_coos 12 = .ok (.aload_n 1, 1) := by decide +kernel
theorem dX10_coos_13 : decode cX10_coos 13 = .ok (.getfield 38, 3) := by decide +kernel
theorem dX10_coos_16 : decode cX10_coos 16 = .ok (.ixor, 1) := by decide +kernel
theorem dX10_coos_17 : decode cX10_coos 17 = .ok (.ireturn, 1) := by decide +kernel
theorem dX11_init_0 : decode cX11_init 0 = .ok (.aload_n 0, 1) := by decide +kernel
theorem dX11_init_1 : decode cX11_init 1 = .ok (.invokespecial 3, 3) := by decide +kernel
theorem dX11_init_4 : decode cX11_init 4 = .ok (.aload_n 0, 1) := by decide +kernel
theorem dX11_init_5 : decode cX11_init 5 = .ok (.new 9, 3) := by decide +kernel
theorem dX11_init_8 : decode cX11_init 8 = .ok (.dup, 1) := by decide +kernel
theorem dX11_init_9 : decode cX11_init 9 = .ok (.invokespecial 11, 3) := by decide +kernel
theorem dX11_init_12 : decode cX11_init 12 = .ok (.putfield 12, 3) := by decide +kernel
theorem dX11_init_15 : decode cX11_init 15 = .ok (.aload_n 0, 1) := by decide +kernel
theorem dX11_init_16 : decode cX11_init 16 = .ok (.new 9, 3) := by decide +kernel
theorem dX11_init_19 : decode cX11_init 19 = .ok (.dup, 1) := by decide +kernel
theorem dX11_init_20 : decode cX11_init 20 = .ok (.invokespecial 11, 3) := by decide +kernel
theorem dX11_init_23 : decode cX11_init 23 = .ok (.putfield 18, 3) := by decide +kernel
theorem dX11_init_26 : decode cX11_init 26 = .ok (.aload_n 0, 1) := by decide +kernel
theorem dX11_init_27 : decode cX11_init 27 = .ok (.new 9, 3) := by decide +kernel
theorem dX11_init_30 : decode cX11_init 30 = .ok (.dup, 1) := by decide +kernel
theorem dX11_init_31 : decode cX11_init 31 = .ok (.invokespecial 11, 3) := by decide +kernel
theorem dX11_init_34 : decode cX11_init 34 = .ok (.putfield 21, 3) := by decide +kernel
theorem dX11_init_37 : decode cX11_init 37 = .ok (.aload_n 0, 1) := by decide +kernel
theorem dX11_init_38 : decode cX11_init 38 = .ok (.bipush 100, 2) := by decide +kernel
theorem dX11_init_40 : decode cX11_init 40 = .ok (.newarray .byte, 2) := by decide +kernel
theorem dX11_init_42 : decode cX11_init 42 = .ok (.putfield 24, 3) := by decide +kernel
theorem dX11_init_45 : decode cX11_init 45 = .ok (.aload_n 0, 1) := by decide +kernel
theorem dX11_init_46 : decode cX11_init 46 = .ok (.bipush 6, 2) := by decide +kernel
theorem dX11_init_48 : decode cX11_init 48 = .ok (.anewarray 28, 3) := by decide +kernel
theorem dX11_init_51 : decode cX11_init 51 = .ok (.putfield 30, 3) := by decide +kernel
theorem dX11_init_54 : decode cX11_init 54 = .ok (.aload_n 0, 1) := by decide +kernel
theorem dX11_init_55 : decode cX11_init 55 = .ok (.bipush 13, 2) := by decide +kernel
theorem dX11_init_57 : decode cX11_init 57 = .ok (.newarray .int, 2) := by decide +kernel
theorem dX11_init_59 : decode cX11_init 59 = .ok (.putfield 34, 3) := by decide +kernel
theorem dX11_init_62 : decode cX11_init 62 = .ok (.aload_n 0, 1) := by decide +kernel
theorem dX11_init_63 : decode cX11_init 63 = .ok (.new 38, 3) := by decide +kernel
theorem dX11_init_66 : decode cX11_init 66 = .ok (.dup, 1) := by decide +kernel
theorem dX11_init_67 : decode cX11_init 67 = .ok (.invokespecial 40, 3) := by decide +kernel
theorem dX11_init_70 : decode cX11_init 70 = .ok (.putfield 41, 3) := by decide +kernel
theorem dX11_init_73 : decode cX11_init 73 = .ok (.aload_n 0, 1) := by decide +kernel
theorem dX11_init_74 : decode cX11_init 74 = .ok (.bipush 6, 2) := by decide +kernel
theorem dX11_init_76 : decode cX11_init 76 = .ok (.newarray .int, 2) := by decide +kernel
theorem dX11_init_78 : decode cX11_init 78 = .ok (.putfield 45, 3) := by decide +kernel
theorem dX11_init_81 : decode cX11_init 81 = .ok (.aload_n 0, 1) := by decide +kernel
theorem dX11_init_82 : decode cX11_init 82 = .ok (.bipush 6, 2) := by decide +kernel
theorem dX11_init_84 : decode cX11_init 84 = .ok (.newarray .int, 2) := by decide +kernel
theorem dX11_init_86 : decode cX11_init 86 = .ok (.putfield 48, 3) := by decide +kernel
theorem dX11_init_89 : decode cX11_init 89 = .ok (.aload_n 0, 1) := by decide +kernel
theorem dX11_init_90 : decode cX11_init 90 = .ok (.bipush 6, 2) := by decide +kernel
theorem dX11_init_92 : decode cX11_init 92 = .ok (.bipush 60, 2) := by decide +kernel
theorem dX11_init_94 : decode cX11_init 94 = .ok (.multianewarray 51 2, 4) := by decide +kernel
theorem dX11_init_98 : decode cX11_init 98 = .ok (.putfield 53, 3) := by decide +kernel
theorem dX11_init_101 : decode cX11_init 101 = .ok (.iconst 0, 1) := by decide +kernel
theorem dX11_init_102 : decode cX11_init 102 = .ok (.istore_n 1, 1) := by decide +kernel
theorem dX11_init_103 : decode cX11_init 103 = .ok (.iload_n 1, 1) := by decide +kernel
theorem dX11_init_104 : decode cX11_init 104 = .ok (.bipush 6, 2) := by decide +kernel
theorem dX11_init_106 : decode cX11_init 106 = .ok (.if_icmp .ge 22, 3) := by decide +kernel
theorem dX11_init_109 : decode cX11_init 109 = .ok (.aload_n 0, 1) := by decide +kernel
theorem dX11_init_110 : decode cX11_init 110 = .ok (.getfield 30, 3) := by decide +kernel
theorem dX11_init_113 : decode cX11_init 113 = .ok (.iload_n 1, 1) := by decide +kernel
theorem dX11_init_114 : decode cX11_init 114 = .ok (.new 28, 3) := by decide +kernel
theorem dX11_init_117 : decode cX11_init 117 = .ok (.dup, 1) := by decide +kernel
theorem dX11_init_118 : decode cX11_init 118 = .ok (.invokespecial 56, 3) := by decide +kernel
theorem dX11_init_121 : decode cX11_init 121 = .ok (.aastore, 1) := by decide +kernel
theorem dX11_init_122 : decode cX11_init 122 = .ok (.iinc 1 1, 3) := by decide +kernel
theorem dX11_init_125 : decode cX11_init 125 = .ok (.goto (-22), 3) := by decide +kernel
theorem dX11_init_128 : decode cX11_init 128 = .ok (.iconst 0, 1) := by decide +kernel
theorem dX11_init_129 : decode cX11_init 129 = .ok (.istore_n 1, 1) := by decide +kernel
theorem dX11_init_130 : decode cX11_init 130 = .ok (.iload_n 1, 1) := by decide +kernel
theorem dX11_init_131 : decode cX11_init 131 = .ok (.bipush 6, 2) := by decide +kernel
theorem dX11_init_133 : decode cX11_init 133 = .ok (.if_icmp .ge 16, 3) := by decide +kernel
theorem dX11_init_136 : decode cX11_init 136 = .ok (.aload_n 0, 1) := by decide +kernel
theorem dX11_init_137 : decode cX11_init 137 = .ok (.getfield 45, 3) := by decide +kernel
theorem dX11_init_140 : decode cX11_init 140 = .ok (.iload_n 1, 1) := by decide +kernel
theorem dX11_init_141 : decode cX11_init 141 = .ok (.iconst (-1), 1) := by decide +kernel
theorem dX11_init_142 : decode cX11_init 142 = .ok (.iastore, 1) := by decide +kernel
theorem dX11_init_143 : decode cX11_init 143 = .ok (.iinc 1 1, 3) := by decide +kernel
theorem dX11_init_146 : decode cX11_init 146 = .ok (.goto (-16), 3) := by decide +kernel
theorem dX11_init_149 : decode cX11_init 149 = .ok (.return_, 1) := by decide +kernel
theorem dX11_pigeon_0 : decode cX11_pigeon 0 = .ok (.iload_n 1, 1) := by decide +kernel
theorem dX11_pigeon_1 : decode cX11_pigeon 1 = .ok (.bipush 6, 2) := by decide +kernel
theorem dX11_pigeon_3 : decode cX11_pigeon 3 = .ok (.invokestatic 57, 3) := by decide +kernel
theorem dX11_pigeon_6 : decode cX11_pigeon 6 = .ok (.ifCond .ne 5, 3) := by decide +kernel
theorem dX11_pigeon_9 : decode cX11_pigeon 9 = .ok (.iconst (-1), 1) := by decide +kernel
theorem dX11_pigeon_10 : decode cX11_pigeon 10 = .ok (.ireturn, 1) := by decide +kernel
theorem dX11_pigeon_11 : decode cX11_pigeon 11 = .ok (.iload_n 2, 1) := by decide +kernel
theorem dX11_pigeon_12 : decode cX11_pigeon 12 = .ok (.bipush 9, 2) := by decide +kernel
theorem dX11_pigeon_14 : decode cX11_pigeon 14 = .ok (.invokestatic 57, 3) := by decide +kernel
theorem dX11_pigeon_17 : decode cX11_pigeon 17 = .ok (.ifCond .ne 6, 3) := by decide +kernel
theorem dX11_pigeon_20 : decode cX11_pigeon 20 = .ok (.bipush (-2), 2) := by decide +kernel
theorem dX11_pigeon_22 : decode cX11_pigeon 22 = .ok (.ireturn, 1) := by decide +kernel
theorem dX11_pigeon_23 : decode cX11_pigeon 23 = .ok (.aload_n 0, 1) := by decide +kernel
theorem dX11_pigeon_24 : decode cX11_pigeon 24 = .ok (.getfield 12, 3) := by decide +kernel
theorem dX11_pigeon_27 : decode cX11_pigeon 27 = .ok (.getfield 61, 3) := by decide +kernel
theorem dX11_pigeon_30 : decode cX11_pigeon 30 = .ok (.bipush 6, 2) := by decide +kernel
theorem dX11_pigeon_32 : decode cX11_pigeon 32 = .ok (.if_icmp .lt 6, 3) := by decide +kernel
theorem dX11_pigeon_35 : decode cX11_pigeon 35 = .ok (.bipush (-4), 2) := by decide +kernel
theorem dX11_pigeon_37 : decode cX11_pigeon 37 = .ok (.ireturn, 1) := by decide +kernel
theorem dX11_pigeon_38 : decode cX11_pigeon 38 = .ok (.aload_n 0, 1) := by decide +kernel
theorem dX11_pigeon_39 : decode cX11_pigeon 39 = .ok (.getfield 12, 3) := by decide +kernel
theorem dX11_pigeon_42 : decode cX11_pigeon 42 = .ok (.iload_n 1, 1) := by decide +kernel
theorem dX11_pigeon_43 : decode cX11_pigeon 43 = .ok (.iload_n 2, 1) := by decide +kernel
theorem dX11_pigeon_44 : decode cX11_pigeon 44 = .ok (.invokevirtual 65, 3) := by decide +kernel
theorem dX11_pigeon_47 : decode cX11_pigeon 47 = .ok (.ireturn, 1) := by decide +kernel
theorem dX11_of_0 : decode cX11_of 0 = .ok (.aload_n 0, 1) := by decide +kernel
theorem dX11_of_1 : decode cX11_of 1 = .ok (.iload_n 1, 1) := by decide +kernel
theorem dX11_of_2 : decode cX11_of 2 = .ok (.invokevirtual 69, 3) := by decide +kernel
theorem dX11_of_5 : decode cX11_of 5 = .ok (.ifCond .ne 5, 3) := by decide +kernel
theorem dX11_of_8 : decode cX11_of 8 = .ok (.iconst (-1), 1) := by decide +kernel
theorem dX11_of_9 : decode cX11_of 9 = .ok (.ireturn, 1) := by decide +kernel
theorem dX11_of_10 : decode cX11_of 10 = .ok (.iload_n 2, 1) := by decide +kernel
theorem dX11_of_11 : decode cX11_of 11 = .ok (.tableswitch 114 0 6 #[41, 51, 61, 71, 81, 91, 108], 41) := by decide +kernel
theorem dX11_of_52 : decode cX11_of 52 = .ok (.aload_n 0, 1) := by decide +kernel
theorem dX11_of_53 : decode cX11_of 53 = .ok (.getfield 12, 3) := by decide +kernel
theorem dX11_of_56 : decode cX11_of 56 = .ok (.getfield 73, 3) := by decide +kernel
theorem dX11_of_59 : decode cX11_of 59 = .ok (.iload_n 1, 1) := by decide +kernel
theorem dX11_of_60 : decode cX11_of 60 = .ok (.iaload, 1) := by decide +kernel
theorem dX11_of_61 : decode cX11_of 61 = .ok (.ireturn, 1) := by decide +kernel
theorem dX11_of_62 : decode cX11_of 62 = .ok (.aload_n 0, 1) := by decide +kernel
theorem dX11_of_63 : decode cX11_of 63 = .ok (.getfield 12, 3) := by decide +kernel
theorem dX11_of_66 : decode cX11_of 66 = .ok (.getfield 76, 3) := by decide +kernel
theorem dX11_of_69 : decode cX11_of 69 = .ok (.iload_n 1, 1) := by decide +kernel
theorem dX11_of_70 : decode cX11_of 70 = .ok (.iaload, 1) := by decide +kernel
theorem dX11_of_71 : decode cX11_of 71 = .ok (.ireturn, 1) := by decide +kernel
theorem dX11_of_72 : decode cX11_of 72 = .ok (.aload_n 0, 1) := by decide +kernel
theorem dX11_of_73 : decode cX11_of 73 = .ok (.getfield 12, 3) := by decide +kernel
theorem dX11_of_76 : decode cX11_of 76 = .ok (.getfield 79, 3) := by decide +kernel
theorem dX11_of_79 : decode cX11_of 79 = .ok (.iload_n 1, 1) := by decide +kernel
theorem dX11_of_80 : decode cX11_of 80 = .ok (.iaload, 1) := by decide +kernel
theorem dX11_of_81 : decode cX11_of 81 = .ok (.ireturn, 1) := by decide +kernel
theorem dX11_of_82 : decode cX11_of 82 = .ok (.aload_n 0, 1) := by decide +kernel
theorem dX11_of_83 : decode cX11_of 83 = .ok (.getfield 12, 3) := by decide +kernel
theorem dX11_of_86 : decode cX11_of 86 = .ok (.getfield 82, 3) := by decide +kernel
theorem dX11_of_89 : decode cX11_of 89 = .ok (.iload_n 1, 1) := by decide +kernel
theorem dX11_of_90 : decode cX11_of 90 = .ok (.iaload, 1) := by decide +kernel
theorem dX11_of_91 : decode cX11_of 91 = .ok (.ireturn, 1) := by decide +kernel
theorem dX11_of_92 : decode cX11_of 92 = .ok (.aload_n 0, 1) := by decide +kernel
theorem dX11_of_93 : decode cX11_of 93 = .ok (.getfield 12, 3) := by decide +kernel
theorem dX11_of_96 : decode cX11_of 96 = .ok (.getfield 85, 3) := by decide +kernel
theorem dX11_of_99 : decode cX11_of 99 = .ok (.iload_n 1, 1) := by decide +kernel
theorem dX11_of_100 : decode cX11_of 100 = .ok (.iaload, 1) := by decide +kernel
theorem dX11_of_101 : decode cX11_of 101 = .ok (.ireturn, 1) := by decide +kernel
theorem dX11_of_102 : decode cX11_of 102 = .ok (.aload_n 0, 1) := by decide +kernel
theorem dX11_of_103 : decode cX11_of 103 = .ok (.getfield 12, 3) := by decide +kernel
theorem dX11_of_106 : decode cX11_of 106 = .ok (.iload_n 1, 1) := by decide +kernel
theorem dX11_of_107 : decode cX11_of 107 = .ok (.invokevirtual 88, 3) := by decide +kernel
theorem dX11_of_110 : decode cX11_of 110 = .ok (.ifCond .eq 7, 3) := by decide +kernel
theorem dX11_of_113 : decode cX11_of 113 = .ok (.iconst 1, 1) := by decide +kernel
theorem dX11_of_114 : decode cX11_of 114 = .ok (.goto 4, 3) := by decide +kernel
theorem dX11_of_117 : decode cX11_of 117 = .ok (.iconst 0, 1) := by decide +kernel
theorem dX11_of_118 : decode cX11_of 118 = .ok (.ireturn, 1) := by decide +kernel
theorem dX11_of_119 : decode cX11_of 119 = .ok (.aload_n 0, 1) := by decide +kernel
theorem dX11_of_120 : decode cX11_of 120 = .ok (.iload_n 1, 1) := by decide +kernel
theorem dX11_of_121 : decode cX11_of 121 = .ok (.invokevirtual 91, 3) := by decide +kernel
theorem dX11_of_124 : decode cX11_of 124 = .ok (.ireturn, 1) := by decide +kernel
theorem dX11_of_125 : decode cX11_of 125 = .ok (.iconst (-1), 1) := by decide +kernel
theorem dX11_of_126 : decode cX11_of 126 = .ok (.ireturn, 1) := by decide +kernel
theorem dX11_joy_0 : decode cX11_joy 0 = .ok (.aload_n 0, 1) := by decide +kernel
theorem dX11_joy_1 : decode cX11_joy 1 = .ok (.iload_n 1, 1) := by decide +kernel
theorem dX11_joy_2 : decode cX11_joy 2 = .ok (.invokevirtual 69, 3) := by decide +kernel
theorem dX11_joy_5 : decode cX11_joy 5 = .ok (.ifCond .ne 7, 3) := by decide +kernel
theorem dX11_joy_8 : decode cX11_joy 8 = .ok (.sipush (-10001), 3) := by decide +kernel
theorem dX11_joy_11 : decode cX11_joy 11 = .ok (.ireturn, 1) := by decide +kernel
theorem dX11_joy_12 : decode cX11_joy 12 = .ok (.iload_n 2, 1) := by decide +kernel
theorem dX11_joy_13 : decode cX11_joy 13 = .ok (.sipush 4095, 3) := by decide +kernel
theorem dX11_joy_16 : decode cX11_joy 16 = .ok (.invokestatic 57, 3) := by decide +kernel
theorem dX11_joy_19 : decode cX11_joy 19 = .ok (.ifCond .ne 7, 3) := by decide +kernel
theorem dX11_joy_22 : decode cX11_joy 22 = .ok (.sipush (-10002), 3) := by decide +kernel
theorem dX11_joy_25 : decode cX11_joy 25 = .ok (.ireturn, 1) := by decide +kernel
theorem dX11_joy_26 : decode cX11_joy 26 = .ok (.aload_n 0, 1) := by decide +kernel
theorem dX11_joy_27 : decode cX11_joy 27 = .ok (.getfield 12, 3) := by decide +kernel
theorem dX11_joy_30 : decode cX11_joy 30 = .ok (.iload_n 1, 1) := by decide +kernel
theorem dX11_joy_31 : decode cX11_joy 31 = .ok (.iload_n 2, 1) := by decide +kernel
theorem dX11_joy_32 : decode cX11_joy 32 = .ok (.invokevirtual 95, 3) := by decide +kernel
theorem dX11_joy_35 : decode cX11_joy 35 = .ok (.ireturn, 1) := by decide +kernel
theorem dX11_letter_0 : decode cX11_letter 0 = .ok (.aload_n 0, 1) := by decide +kernel
theorem dX11_letter_1 : decode cX11_letter 1 = .ok (.iload_n 1, 1) := by decide +kernel
theorem dX11_letter_2 : decode cX11_letter 2 = .ok (.invokevirtual 69, 3) := by decide +kernel
theorem dX11_letter_5 : decode cX11_letter 5 = .ok (.ifCond .ne 5, 3) := by decide +kernel
theorem dX11_letter_8 : decode cX11_letter 8 = .ok (.iconst (-1), 1) := by decide +kernel
theorem dX11_letter_9 : decode cX11_letter 9 = .ok (.ireturn, 1) := by decide +kernel
theorem dX11_letter_10 : decode cX11_letter 10 = .ok (.iload_n 2, 1) := by decide +kernel
theorem dX11_letter_11 : decode cX11_letter 11 = .ok (.sipush 4095, 3) := by decide +kernel
theorem dX11_letter_14 : decode cX11_letter 14 = .ok (.invokestatic 57, 3) := by decide +kernel
theorem dX11_letter_17 : decode cX11_letter 17 = .ok (.ifCond .ne 6, 3) := by decide +kernel
theorem dX11_letter_20 : decode cX11_letter 20 = .ok (.bipush (-2), 2) := by decide +kernel
theorem dX11_letter_22 : decode cX11_letter 22 = .ok (.ireturn, 1) := by decide +kernel
theorem dX11_letter_23 : decode cX11_letter 23 = .ok (.aload_n 0, 1) := by decide +kernel
theorem dX11_letter_24 : decode cX11_letter 24 = .ok (.getfield 12, 3) := by decide +kernel
theorem dX11_letter_27 : decode cX11_letter 27 = .ok (.getfield 79, 3) := by decide +kernel
theorem dX11_letter_30 : decode cX11_letter 30 = .ok (.iload_n 1, 1) := by decide +kernel
theorem dX11_letter_31 : decode cX11_letter 31 = .ok (.iaload, 1) := by decide +kernel
theorem dX11_letter_32 : decode cX11_letter 32 = .ok (.istore_n 3, 1) := by decide +kernel
theorem dX11_letter_33 : decode cX11_letter 33 = .ok (.aload_n 0, 1) := by decide +kernel
theorem dX11_letter_34 : decode cX11_letter 34 = .ok (.getfield 12, 3) := by decide +kernel
theorem dX11_letter_37 : decode cX11_letter 37 = .ok (.getfield 79, 3) := by decide +kernel
theorem dX11_letter_40 : decode cX11_letter 40 = .ok (.iload_n 1, 1) := by decide +kernel
theorem dX11_letter_41 : decode cX11_letter 41 = .ok (.iload_n 2, 1) := by decide +kernel
theorem dX11_letter_42 : decode cX11_letter 42 = .ok (.iastore, 1) := by decide +kernel
theorem dX11_letter_43 : decode cX11_letter 43 = .ok (.iload_n 3, 1) := by decide +kernel
theorem dX11_letter_44 : decode cX11_letter 44 = .ok (.ireturn, 1) := by decide +kernel
theorem dX11_tire_0 : decode cX11_tire 0 = .ok (.aload_n 0, 1) := by decide +kernel
theorem dX11_tire_1 : decode cX11_tire 1 = .ok (.iload_n 1, 1) := by decide +kernel
theorem dX11_tire_2 : decode cX11_tire 2 = .ok (.invokevirtual 69, 3) := by decide +kernel
theorem dX11_tire_5 : decode cX11_tire 5 = .ok (.ifCond .ne 5, 3) := by decide +kernel
theorem dX11_tire_8 : decode cX11_tire 8 = .ok (.iconst (-1), 1) := by decide +kernel
theorem dX11_tire_9 : decode cX11_tire 9 = .ok (.ireturn, 1) := by decide +kernel
theorem dX11_tire_10 : decode cX11_tire 10 = .ok (.iload_n 2, 1) := by decide +kernel
theorem dX11_tire_11 : decode cX11_tire 11 = .ok (.bipush 9, 2) := by decide +kernel
theorem dX11_tire_13 : decode cX11_tire 13 = .ok (.invokestatic 57, 3) := by decide +kernel
theorem dX11_tire_16 : decode cX11_tire 16 = .ok (.ifCond .ne 6, 3) := by decide +kernel
theorem dX11_tire_19 : decode cX11_tire 19 = .ok (.bipush (-2), 2) := by decide +kernel
theorem dX11_tire_21 : decode cX11_tire 21 = .ok (.ireturn, 1) := by decide +kernel
theorem dX11_tire_22 : decode cX11_tire 22 = .ok (.aload_n 0, 1) := by decide +kernel
theorem dX11_tire_23 : decode cX11_tire 23 = .ok (.getfield 12, 3) := by decide +kernel
theorem dX11_tire_26 : decode cX11_tire 26 = .ok (.getfield 82, 3) := by decide +kernel
theorem dX11_tire_29 : decode cX11_tire 29 = .ok (.iload_n 1, 1) := by decide +kernel
theorem dX11_tire_30 : decode cX11_tire 30 = .ok (.iaload, 1) := by decide +kernel
theorem dX11_tire_31 : decode cX11_tire 31 = .ok (.istore_n 3, 1) := by decide +kernel
theorem dX11_tire_32 : decode cX11_tire 32 = .ok (.aload_n 0, 1) := by decide +kernel
theorem dX11_tire_33 : decode cX11_tire 33 = .ok (.getfield 12, 3) := by decide +kernel
theorem dX11_tire_36 : decode cX11_tire 36 = .ok (.getfield 82, 3) := by decide +kernel
theorem dX11_tire_39 : decode cX11_tire 39 = .ok (.iload_n 1, 1) := by decide +kernel
theorem dX11_tire_40 : decode cX11_tire 40 = .ok (.iload_n 2, 1) := by decide +kernel
theorem dX11_tire_41 : decode cX11_tire 41 = .ok (.iastore, 1) := by decide +kernel
theorem dX11_tire_42 : decode cX11_tire 42 = .ok (.iload_n 3, 1) := by decide +kernel
theorem dX11_tire_43 : decode cX11_tire 43 = .ok (.ireturn, 1) := by decide +kernel
theorem dX11_phrase_0 : decode cX11_phrase 0 = .ok (.iload_n 1, 1) := by decide +kernel
theorem dX11_phrase_1 : decode cX11_phrase 1 = .ok (.invokestatic 98, 3) := by decide +kernel
theorem dX11_phrase_4 : decode cX11_phrase 4 = .ok (.ifCond .eq 11, 3) := by decide +kernel
theorem dX11_phrase_7 : decode cX11_phrase 7 = .ok (.iload_n 2, 1) := by decide +kernel
theorem dX11_phrase_8 : decode cX11_phrase 8 = .ok (.iconst 1, 1) := by decide +kernel
theorem dX11_phrase_9 : decode cX11_phrase 9 = .ok (.invokestatic 57, 3) := by decide +kernel
theorem dX11_phrase_12 : decode cX11_phrase 12 = .ok (.ifCond .ne 5, 3) := by decide +kernel
theorem dX11_phrase_15 : decode cX11_phrase 15 = .ok (.iconst (-1), 1) := by decide +kernel
theorem dX11_phrase_16 : decode cX11_phrase 16 = .ok (.ireturn, 1) := by decide +kernel
theorem dX11_phrase_17 : decode cX11_phrase 17 = .ok (.iload_n 3, 1) := by decide +kernel
theorem dX11_phrase_18 : decode cX11_phrase 18 = .ok (.iload_n 2, 1) := by decide +kernel
theorem dX11_phrase_19 : decode cX11_phrase 19 = .ok (.ifCond .ne 8, 3) := by decide +kernel
theorem dX11_phrase_22 : decode cX11_phrase 22 = .ok (.bipush 9, 2) := by decide +kernel
theorem dX11_phrase_24 : decode cX11_phrase 24 = .ok (.goto 6, 3) := by decide +kernel
theorem dX11_phrase_27 : decode cX11_phrase 27 = .ok (.sipush 255, 3) := by decide +kernel
theorem dX11_phrase_30 : decode cX11_phrase 30 = .ok (.invokestatic 57, 3) := by decide +kernel
theorem dX11_phrase_33 : decode cX11_phrase 33 = .ok (.ifCond .ne 6, 3) := by decide +kernel
theorem dX11_phrase_36 : decode cX11_phrase 36 = .ok (.bipush (-2), 2) := by decide +kernel
theorem dX11_phrase_38 : decode cX11_phrase 38 = .ok (.ireturn, 1) := by decide +kernel
theorem dX11_phrase_39 : decode cX11_phrase 39 = .ok (.iload_n 2, 1) := by decide +kernel
theorem dX11_phrase_40 : decode cX11_phrase 40 = .ok (.ifCond .ne 13, 3) := by decide +kernel
theorem dX11_phrase_43 : decode cX11_phrase 43 = .ok (.aload_n 0, 1) := by decide +kernel
theorem dX11_phrase_44 : decode cX11_phrase 44 = .ok (.getfield 12, 3) := by decide +kernel
theorem dX11_phrase_47 : decode cX11_phrase 47 = .ok (.getfield 101, 3) := by decide +kernel
theorem dX11_phrase_50 : decode cX11_phrase 50 = .ok (.goto 10, 3) := by decide +kernel
theorem dX11_phrase_53 : decode cX11_phrase 53 = .ok (.aload_n 0, 1) := by decide +kernel
theorem dX11_phrase_54 : decode cX11_phrase 54 = .ok (.getfield 12, 3) := by decide +kernel
theorem dX11_phrase_57 : decode cX11_phrase 57 = .ok (.getfield 104, 3) := by decide +kernel
theorem dX11_phrase_60 : decode cX11_phrase 60 = .ok (.astore 4, 2) := by decide +kernel
theorem dX11_phrase_62 : decode cX11_phrase 62 = .ok (.aload 4, 2) := by decide +kernel
theorem dX11_phrase_64 : decode cX11_phrase 64 = .ok (.iload_n 1, 1) := by decide +kernel
theorem dX11_phrase_65 : decode cX11_phrase 65 = .ok (.iaload, 1) := by decide +kernel
theorem dX11_phrase_66 : decode cX11_phrase 66 = .ok (.istore 5, 2) := by decide +kernel
theorem dX11_phrase_68 : decode cX11_phrase 68 = .ok (.aload 4, 2) := by decide +kernel
theorem dX11_phrase_70 : decode cX11_phrase 70 = .ok (.iload_n 1, 1) := by decide +kernel
theorem dX11_phrase_71 : decode cX11_phrase 71 = .ok (.iload_n 3, 1) := by decide +kernel
theorem dX11_phrase_72 : decode cX11_phrase 72 = .ok (.iastore, 1) := by decide +kernel
theorem dX11_phrase_73 : decode cX11_phrase 73 = .ok (.iload 5, 2) := by decide +kernel
theorem dX11_phrase_75 : decode cX11_phrase 75 = .ok (.ireturn, 1) := by decide +kernel
theorem dX11_row_0 : decode cX11_row 0 = .ok (.aload_n 0, 1) := by decide +kernel
theorem dX11_row_1 : decode cX11_row 1 = .ok (.iload_n 1, 1) := by decide +kernel
theorem dX11_row_2 : decode cX11_row 2 = .ok (.invokevirtual 69, 3) := by decide +kernel
theorem dX11_row_5 : decode cX11_row 5 = .ok (.ifCond .eq 11, 3) := by decide +kernel
theorem dX11_row_8 : decode cX11_row 8 = .ok (.iload_n 2, 1) := by decide +kernel
theorem dX11_row_9 : decode cX11_row 9 = .ok (.iconst 3, 1) := by decide +kernel
theorem dX11_row_10 : decode cX11_row 10 = .ok (.invokestatic 57, 3) := by decide +kernel
theorem dX11_row_13 : decode cX11_row 13 = .ok (.ifCond .ne 5, 3) := by decide +kernel
theorem dX11_row_16 : decode cX11_row 16 = .ok (.iconst (-1), 1) := by decide +kernel
theorem dX11_row_17 : decode cX11_row 17 = .ok (.ireturn, 1) := by decide +kernel
theorem dX11_row_18 : decode cX11_row 18 = .ok (.iload_n 3, 1) := by decide +kernel
theorem dX11_row_19 : decode cX11_row 19 = .ok (.bipush 9, 2) := by decide +kernel
theorem dX11_row_21 : decode cX11_row 21 = .ok (.invokestatic 57, 3) := by decide +kernel
theorem dX11_row_24 : decode cX11_row 24 = .ok (.ifCond .ne 6, 3) := by decide +kernel
theorem dX11_row_27 : decode cX11_row 27 = .ok (.bipush (-2), 2) := by decide +kernel
theorem dX11_row_29 : decode cX11_row 29 = .ok (.ireturn, 1) := by decide +kernel
theorem dX11_row_30 : decode cX11_row 30 = .ok (.aload_n 0, 1) := by decide +kernel
theorem dX11_row_31 : decode cX11_row 31 = .ok (.getfield 12, 3) := by decide +kernel
theorem dX11_row_34 : decode cX11_row 34 = .ok (.getfield 73, 3) := by decide +kernel
theorem dX11_row_37 : decode cX11_row 37 = .ok (.iload_n 1, 1) := by decide +kernel
theorem dX11_row_38 : decode cX11_row 38 = .ok (.iaload, 1) := by decide +kernel
theorem dX11_row_39 : decode cX11_row 39 = .ok (.bipush 6, 2) := by decide +kernel
theorem dX11_row_41 : decode cX11_row 41 = .ok (.if_icmp .eq 6, 3) := by decide +kernel
theorem dX11_row_44 : decode cX11_row 44 = .ok (.bipush (-3), 2) := by decide +kernel
theorem dX11_row_46 : decode cX11_row 46 = .ok (.ireturn, 1) := by decide +kernel
theorem dX11_row_47 : decode cX11_row 47 = .ok (.iload_n 1, 1) := by decide +kernel
theorem dX11_row_48 : decode cX11_row 48 = .ok (.iconst 4, 1) := by decide +kernel
theorem dX11_row_49 : decode cX11_row 49 = .ok (.imul, 1) := by decide +kernel
theorem dX11_row_50 : decode cX11_row 50 = .ok (.iload_n 2, 1) := by decide +kernel
theorem dX11_row_51 : decode cX11_row 51 = .ok (.iadd, 1) := by decide +kernel
theorem dX11_row_52 : decode cX11_row 52 = .ok (.istore 4, 2) := by decide +kernel
theorem dX11_row_54 : decode cX11_row 54 = .ok (.aload_n 0, 1) := by decide +kernel
theorem dX11_row_55 : decode cX11_row 55 = .ok (.getfield 12, 3) := by decide +kernel
theorem dX11_row_58 : decode cX11_row 58 = .ok (.getfield 107, 3) := by decide +kernel
theorem dX11_row_61 : decode cX11_row 61 = .ok (.iload 4, 2) := by decide +kernel
theorem dX11_row_63 : decode cX11_row 63 = .ok (.iaload, 1) := by decide +kernel
theorem dX11_row_64 : decode cX11_row 64 = .ok (.istore 5, 2) := by decide +kernel
theorem dX11_row_66 : decode cX11_row 66 = .ok (.aload_n 0, 1) := by decide +kernel
theorem dX11_row_67 : decode cX11_row 67 = .ok (.getfield 12, 3) := by decide +kernel
theorem dX11_row_70 : decode cX11_row 70 = .ok (.getfield 107, 3) := by decide +kernel
theorem dX11_row_73 : decode cX11_row 73 = .ok (.iload 4, 2) := by decide +kernel
theorem dX11_row_75 : decode cX11_row 75 = .ok (.iload_n 3, 1) := by decide +kernel
theorem dX11_row_76 : decode cX11_row 76 = .ok (.iastore, 1) := by decide +kernel
theorem dX11_row_77 : decode cX11_row 77 = .ok (.iload 5, 2) := by decide +kernel
theorem dX11_row_79 : decode cX11_row 79 = .ok (.ireturn, 1) := by decide +kernel
theorem dX11_feed_0 : decode cX11_feed 0 = .ok (.iload_n 1, 1) := by decide +kernel
theorem dX11_feed_1 : decode cX11_feed 1 = .ok (.bipush 127, 2) := by decide +kernel
theorem dX11_feed_3 : decode cX11_feed 3 = .ok (.invokestatic 57, 3) := by decide +kernel
theorem dX11_feed_6 : decode cX11_feed 6 = .ok (.ifCond .ne 6, 3) := by decide +kernel
theorem dX11_feed_9 : decode cX11_feed 9 = .ok (.bipush (-2), 2) := by decide +kernel
theorem dX11_feed_11 : decode cX11_feed 11 = .ok (.ireturn, 1) := by decide +kernel
theorem dX11_feed_12 : decode cX11_feed 12 = .ok (.aload_n 0, 1) := by decide +kernel
theorem dX11_feed_13 : decode cX11_feed 13 = .ok (.getfield 110, 3) := by decide +kernel
theorem dX11_feed_16 : decode cX11_feed 16 = .ok (.bipush 100, 2) := by decide +kernel
theorem dX11_feed_18 : decode cX11_feed 18 = .ok (.if_icmp .lt 6, 3) := by decide +kernel
theorem dX11_feed_21 : decode cX11_feed 21 = .ok (.bipush (-4), 2) := by decide +kernel
theorem dX11_feed_23 : decode cX11_feed 23 = .ok (.ireturn, 1) := by decide +kernel
theorem dX11_feed_24 : decode cX11_feed 24 = .ok (.aload_n 0, 1) := by decide +kernel
theorem dX11_feed_25 : decode cX11_feed 25 = .ok (.getfield 24, 3) := by decide +kernel
theorem dX11_feed_28 : decode cX11_feed 28 = .ok (.aload_n 0, 1) := by decide +kernel
theorem dX11_feed_29 : decode cX11_feed 29 = .ok (.getfield 110, 3) := by decide +kernel
theorem dX11_feed_32 : decode cX11_feed 32 = .ok (.iload_n 1, 1) := by decide +kernel
theorem dX11_feed_33 : decode cX11_feed 33 = .ok (.i2b, 1) := by decide +kernel
theorem dX11_feed_34 : decode cX11_feed 34 = .ok (.bastore, 1) := by decide +kernel
theorem dX11_feed_35 : decode cX11_feed 35 = .ok (.aload_n 0, 1) := by decide +kernel
theorem dX11_feed_36 : decode cX11_feed 36 = .ok (.dup, 1) := by decide +kernel
theorem dX11_feed_37 : decode cX11_feed 37 = .ok (.getfield 110, 3) := by decide +kernel
theorem dX11_feed_40 : decode cX11_feed 40 = .ok (.iconst 1, 1) := by decide +kernel
theorem dX11_feed_41 : decode cX11_feed 41 = .ok (.iadd, 1) := by decide +kernel
theorem dX11_feed_42 : decode cX11_feed 42 = .ok (.putfield 110, 3) := by decide +kernel
theorem dX11_feed_45 : decode cX11_feed 45 = .ok (.aload_n 0, 1) := by decide +kernel
theorem dX11_feed_46 : decode cX11_feed 46 = .ok (.getfield 110, 3) := by decide +kernel
theorem dX11_feed_49 : decode cX11_feed 49 = .ok (.ireturn, 1) := by decide +kernel
theorem dX11_loft_0 : decode cX11_loft 0 = .ok (.aload_n 0, 1) := by decide +kernel
theorem dX11_loft_1 : decode cX11_loft 1 = .ok (.getfield 113, 3) := by decide +kernel
theorem dX11_loft_4 : decode cX11_loft 4 = .ok (.bipush 6, 2) := by decide +kernel
theorem dX11_loft_6 : decode cX11_loft 6 = .ok (.if_icmp .lt 6, 3) := by decide +kernel
theorem dX11_loft_9 : decode cX11_loft 9 = .ok (.bipush (-4), 2) := by decide +kernel
theorem dX11_loft_11 : decode cX11_loft 11 = .ok (.ireturn, 1) := by decide +kernel
theorem dX11_loft_12 : decode cX11_loft 12 = .ok (.aload_n 0, 1) := by decide +kernel
theorem dX11_loft_13 : decode cX11_loft 13 = .ok (.getfield 30, 3) := by decide +kernel
theorem dX11_loft_16 : decode cX11_loft 16 = .ok (.aload_n 0, 1) := by decide +kernel
theorem dX11_loft_17 : decode cX11_loft 17 = .ok (.getfield 113, 3) := by decide +kernel
theorem dX11_loft_20 : decode cX11_loft 20 = .ok (.aaload, 1) := by decide +kernel
theorem dX11_loft_21 : decode cX11_loft 21 = .ok (.astore_n 1, 1) := by decide +kernel
theorem dX11_loft_22 : decode cX11_loft 22 = .ok (.aload_n 1, 1) := by decide +kernel
theorem dX11_loft_23 : decode cX11_loft 23 = .ok (.aload_n 0, 1) := by decide +kernel
theorem dX11_loft_24 : decode cX11_loft 24 = .ok (.getfield 24, 3) := by decide +kernel
theorem dX11_loft_27 : decode cX11_loft 27 = .ok (.aload_n 0, 1) := by decide +kernel
theorem dX11_loft_28 : decode cX11_loft 28 = .ok (.getfield 110, 3) := by decide +kernel
theorem dX11_loft_31 : decode cX11_loft 31 = .ok (.invokevirtual 116, 3) := by decide +kernel
theorem dX11_loft_34 : decode cX11_loft 34 = .ok (.istore_n 2, 1) := by decide +kernel
theorem dX11_loft_35 : decode cX11_loft 35 = .ok (.aload_n 0, 1) := by decide +kernel
theorem dX11_loft_36 : decode cX11_loft 36 = .ok (.iconst 0, 1) := by decide +kernel
theorem dX11_loft_37 : decode cX11_loft 37 = .ok (.putfield 110, 3) := by decide +kernel
theorem dX11_loft_40 : decode cX11_loft 40 = .ok (.iload_n 2, 1) := by decide +kernel
theorem dX11_loft_41 : decode cX11_loft 41 = .ok (.ifCond .lt 8, 3) := by decide +kernel
theorem dX11_loft_44 : decode cX11_loft 44 = .ok (.bipush (-10), 2) := by decide +kernel
theorem dX11_loft_46 : decode cX11_loft 46 = .ok (.iload_n 2, 1) := by decide +kernel
theorem dX11_loft_47 : decode cX11_loft 47 = .ok (.isub, 1) := by decide +kernel
theorem dX11_loft_48 : decode cX11_loft 48 = .ok (.ireturn, 1) := by decide +kernel
theorem dX11_loft_49 : decode cX11_loft 49 = .ok (.aload_n 0, 1) := by decide +kernel
theorem dX11_loft_50 : decode cX11_loft 50 = .ok (.getfield 12, 3) := by decide +kernel
theorem dX11_loft_53 : decode cX11_loft 53 = .ok (.aload_n 1, 1) := by decide +kernel
theorem dX11_loft_54 : decode cX11_loft 54 = .ok (.putfield 120, 3) := by decide +kernel
theorem dX11_loft_57 : decode cX11_loft 57 = .ok (.aload_n 0, 1) := by decide +kernel
theorem dX11_loft_58 : decode cX11_loft 58 = .ok (.dup, 1) := by decide +kernel
theorem dX11_loft_59 : decode cX11_loft 59 = .ok (.getfield 113, 3) := by decide +kernel
theorem dX11_loft_62 : decode cX11_loft 62 = .ok (.iconst 1, 1) := by decide +kernel
theorem dX11_loft_63 : decode cX11_loft 63 = .ok (.iadd, 1) := by decide +kernel
theorem dX11_loft_64 : decode cX11_loft 64 = .ok (.putfield 113, 3) := by decide +kernel
theorem dX11_loft_67 : decode cX11_loft 67 = .ok (.aload_n 0, 1) := by decide +kernel
theorem dX11_loft_68 : decode cX11_loft 68 = .ok (.getfield 113, 3) := by decide +kernel
theorem dX11_loft_71 : decode cX11_loft 71 = .ok (.iconst 1, 1) := by decide +kernel
theorem dX11_loft_72 : decode cX11_loft 72 = .ok (.isub, 1) := by decide +kernel
theorem dX11_loft_73 : decode cX11_loft 73 = .ok (.ireturn, 1) := by decide +kernel
theorem dX11_told_0 : decode cX11_told 0 = .ok (.iload_n 1, 1) := by decide +kernel
theorem dX11_told_1 : decode cX11_told 1 = .ok (.bipush 60, 2) := by decide +kernel
theorem dX11_told_3 : decode cX11_told 3 = .ok (.if_icmp .lt 26, 3) := by decide +kernel
theorem dX11_told_6 : decode cX11_told 6 = .ok (.iload_n 1, 1) := by decide +kernel
theorem dX11_told_7 : decode cX11_told 7 = .ok (.bipush 60, 2) := by decide +kernel
theorem dX11_told_9 : decode cX11_told 9 = .ok (.isub, 1) := by decide +kernel
theorem dX11_told_10 : decode cX11_told 10 = .ok (.invokestatic 98, 3) := by decide +kernel
theorem dX11_told_13 : decode cX11_told 13 = .ok (.ifCond .eq 14, 3) := by decide +kernel
theorem dX11_told_16 : decode cX11_told 16 = .ok (.aload_n 0, 1) := by decide +kernel
theorem dX11_told_17 : decode cX11_told 17 = .ok (.iload_n 1, 1) := by decide +kernel
theorem dX11_told_18 : decode cX11_told 18 = .ok (.bipush 60, 2) := by decide +kernel
theorem dX11_told_20 : decode cX11_told 20 = .ok (.isub, 1) := by decide +kernel
theorem dX11_told_21 : decode cX11_told 21 = .ok (.invokevirtual 124, 3) := by decide +kernel
theorem dX11_told_24 : decode cX11_told 24 = .ok (.goto 4, 3) := by decide +kernel
theorem dX11_told_27 : decode cX11_told 27 = .ok (.iconst (-1), 1) := by decide +kernel
theorem dX11_told_28 : decode cX11_told 28 = .ok (.ireturn, 1) := by decide +kernel
theorem dX11_told_29 : decode cX11_told 29 = .ok (.iload_n 1, 1) := by decide +kernel
theorem dX11_told_30 : decode cX11_told 30 = .ok (.bipush 50, 2) := by decide +kernel
theorem dX11_told_32 : decode cX11_told 32 = .ok (.if_icmp .lt 25, 3) := by decide +kernel
theorem dX11_told_35 : decode cX11_told 35 = .ok (.iload_n 1, 1) := by decide +kernel
theorem dX11_told_36 : decode cX11_told 36 = .ok (.bipush 50, 2) := by decide +kernel
theorem dX11_told_38 : decode cX11_told 38 = .ok (.isub, 1) := by decide +kernel
theorem dX11_told_39 : decode cX11_told 39 = .ok (.bipush 8, 2) := by decide +kernel
theorem dX11_told_41 : decode cX11_told 41 = .ok (.if_icmp .ge 14, 3) := by decide +kernel
theorem dX11_told_44 : decode cX11_told 44 = .ok (.aload_n 0, 1) := by decide +kernel
theorem dX11_told_45 : decode cX11_told 45 = .ok (.iload_n 1, 1) := by decide +kernel
theorem dX11_told_46 : decode cX11_told 46 = .ok (.bipush 50, 2) := by decide +kernel
theorem dX11_told_48 : decode cX11_told 48 = .ok (.isub, 1) := by decide +kernel
theorem dX11_told_49 : decode cX11_told 49 = .ok (.invokevirtual 127, 3) := by decide +kernel
theorem dX11_told_52 : decode cX11_told 52 = .ok (.goto 4, 3) := by decide +kernel
theorem dX11_told_55 : decode cX11_told 55 = .ok (.iconst (-1), 1) := by decide +kernel
theorem dX11_told_56 : decode cX11_told 56 = .ok (.ireturn, 1) := by decide +kernel
theorem dX11_told_57 : decode cX11_told 57 = .ok (.iload_n 1, 1) := by decide +kernel
theorem dX11_told_58 : decode cX11_told 58 = .ok (.bipush 30, 2) := by decide +kernel
theorem dX11_told_60 : decode cX11_told 60 = .ok (.if_icmp .lt 30, 3) := by decide +kernel
theorem dX11_told_63 : decode cX11_told 63 = .ok (.iload_n 1, 1) := by decide +kernel
theorem dX11_told_64 : decode cX11_told 64 = .ok (.bipush 30, 2) := by decide +kernel
theorem dX11_told_66 : decode cX11_told 66 = .ok (.isub, 1) := by decide +kernel
theorem dX11_told_67 : decode cX11_told 67 = .ok (.invokestatic 98, 3) := by decide +kernel
theorem dX11_told_70 : decode cX11_told 70 = .ok (.ifCond .eq 18, 3) := by decide +kernel
theorem dX11_told_73 : decode cX11_told 73 = .ok (.aload_n 0, 1) := by decide +kernel
theorem dX11_told_74 : decode cX11_told 74 = .ok (.getfield 12, 3) := by decide +kernel
theorem dX11_told_77 : decode cX11_told 77 = .ok (.getfield 104, 3) := by decide +kernel
theorem dX11_told_80 : decode cX11_told 80 = .ok (.iload_n 1, 1) := by decide +kernel
theorem dX11_told_81 : decode cX11_told 81 = .ok (.bipush 30, 2) := by decide +kernel
theorem dX11_told_83 : decode cX11_told 83 = .ok (.isub, 1) := by decide +kernel
theorem dX11_told_84 : decode cX11_told 84 = .ok (.iaload, 1) := by decide +kernel
theorem dX11_told_85 : decode cX11_told 85 = .ok (.goto 4, 3) := by decide +kernel
theorem dX11_told_88 : decode cX11_told 88 = .ok (.iconst (-1), 1) := by decide +kernel
theorem dX11_told_89 : decode cX11_told 89 = .ok (.ireturn, 1) := by decide +kernel
theorem dX11_told_90 : decode cX11_told 90 = .ok (.iload_n 1, 1) := by decide +kernel
theorem dX11_told_91 : decode cX11_told 91 = .ok (.bipush 10, 2) := by decide +kernel
theorem dX11_told_93 : decode cX11_told 93 = .ok (.if_icmp .lt 30, 3) := by decide +kernel
theorem dX11_told_96 : decode cX11_told 96 = .ok (.iload_n 1, 1) := by decide +kernel
theorem dX11_told_97 : decode cX11_told 97 = .ok (.bipush 10, 2) := by decide +kernel
theorem dX11_told_99 : decode cX11_told 99 = .ok (.isub, 1) := by decide +kernel
theorem dX11_told_100 : decode cX11_told 100 = .ok (.invokestatic 98, 3) := by decide +kernel
theorem dX11_told_103 : decode cX11_told 103 = .ok (.ifCond .eq 18, 3) := by decide +kernel
theorem dX11_told_106 : decode cX11_told 106 = .ok (.aload_n 0, 1) := by decide +kernel
theorem dX11_told_107 : decode cX11_told 107 = .ok (.getfield 12, 3) := by decide +kernel
theorem dX11_told_110 : decode cX11_told 110 = .ok (.getfield 101, 3) := by decide +kernel
theorem dX11_told_113 : decode cX11_told 113 = .ok (.iload_n 1, 1) := by decide +kernel
theorem dX11_told_114 : decode cX11_told 114 = .ok (.bipush 10, 2) := by decide +kernel
theorem dX11_told_116 : decode cX11_told 116 = .ok (.isub, 1) := by decide +kernel
theorem dX11_told_117 : decode cX11_told 117 = .ok (.iaload, 1) := by decide +kernel
theorem dX11_told_118 : decode cX11_told 118 = .ok (.goto 4, 3) := by decide +kernel
theorem dX11_told_121 : decode cX11_told 121 = .ok (.iconst (-1), 1) := by decide +kernel
theorem dX11_told_122 : decode cX11_told 122 = .ok (.ireturn, 1) := by decide +kernel
theorem dX11_told_123 : decode cX11_told 123 = .ok (.iload_n 1, 1) := by decide +kernel
theorem dX11_told_124 : decode cX11_told 124 = .ok (.tableswitch 64 0 3 #[32, 40, 51, 59], 32) := by decide +kernel
theorem dX11_told_156 : decode cX11_told 156 = .ok (.aload_n 0, 1) := by decide +kernel
theorem dX11_told_157 : decode cX11_told 157 = .ok (.getfield 12, 3) := by decide +kernel
theorem dX11_told_160 : decode cX11_told 160 = .ok (.getfield 130, 3) := by decide +kernel
theorem dX11_told_163 : decode cX11_told 163 = .ok (.ireturn, 1) := by decide +kernel
theorem dX11_told_164 : decode cX11_told 164 = .ok (.aload_n 0, 1) := by decide +kernel
theorem dX11_told_165 : decode cX11_told 165 = .ok (.getfield 12, 3) := by decide +kernel
theorem dX11_told_168 : decode cX11_told 168 = .ok (.getfield 120, 3) := by decide +kernel
theorem dX11_told_171 : decode cX11_told 171 = .ok (.getfield 133, 3) := by decide +kernel
theorem dX11_told_174 : decode cX11_told 174 = .ok (.ireturn, 1) := by decide +kernel
theorem dX11_told_175 : decode cX11_told 175 = .ok (.aload_n 0, 1) := by decide +kernel
theorem dX11_told_176 : decode cX11_told 176 = .ok (.getfield 12, 3) := by decide +kernel
theorem dX11_told_179 : decode cX11_told 179 = .ok (.getfield 136, 3) := by decide +kernel
theorem dX11_told_182 : decode cX11_told 182 = .ok (.ireturn, 1) := by decide +kernel
theorem dX11_told_183 : decode cX11_told 183 = .ok (.aload_n 0, 1) := by decide +kernel
theorem dX11_told_184 : decode cX11_told 184 = .ok (.invokevirtual 139, 3) := by decide +kernel
theorem dX11_told_187 : decode cX11_told 187 = .ok (.ireturn, 1) := by decide +kernel
theorem dX11_told_188 : decode cX11_told 188 = .ok (.iconst (-1), 1) := by decide +kernel
theorem dX11_told_189 : decode cX11_told 189 = .ok (.ireturn, 1) := by decide +kernel
theorem dX11_pass_0 : decode cX11_pass 0 = .ok (.iload_n 1, 1) := by decide +kernel
theorem dX11_pass_1 : decode cX11_pass 1 = .ok (.bipush 60, 2) := by decide +kernel
theorem dX11_pass_3 : decode cX11_pass 3 = .ok (.invokestatic 57, 3) := by decide +kernel
theorem dX11_pass_6 : decode cX11_pass 6 = .ok (.ifCond .ne 6, 3) := by decide +kernel
theorem dX11_pass_9 : decode cX11_pass 9 = .ok (.bipush (-2), 2) := by decide +kernel
theorem dX11_pass_11 : decode cX11_pass 11 = .ok (.ireturn, 1) := by decide +kernel
theorem dX11_pass_12 : decode cX11_pass 12 = .ok (.aload_n 0, 1) := by decide +kernel
theorem dX11_pass_13 : decode cX11_pass 13 = .ok (.getfield 12, 3) := by decide +kernel
theorem dX11_pass_16 : decode cX11_pass 16 = .ok (.getfield 130, 3) := by decide +kernel
theorem dX11_pass_19 : decode cX11_pass 19 = .ok (.iload_n 1, 1) := by decide +kernel
theorem dX11_pass_20 : decode cX11_pass 20 = .ok (.iadd, 1) := by decide +kernel
theorem dX11_pass_21 : decode cX11_pass 21 = .ok (.sipush 9999, 3) := by decide +kernel
theorem dX11_pass_24 : decode cX11_pass 24 = .ok (.if_icmp .le 6, 3) := by decide +kernel
theorem dX11_pass_27 : decode cX11_pass 27 = .ok (.bipush (-3), 2) := by decide +kernel
theorem dX11_pass_29 : decode cX11_pass 29 = .ok (.ireturn, 1) := by decide +kernel
theorem dX11_pass_30 : decode cX11_pass 30 = .ok (.aload_n 0, 1) := by decide +kernel
theorem dX11_pass_31 : decode cX11_pass 31 = .ok (.getfield 12, 3) := by decide +kernel
theorem dX11_pass_34 : decode cX11_pass 34 = .ok (.iload_n 1, 1) := by decide +kernel
theorem dX11_pass_35 : decode cX11_pass 35 = .ok (.invokevirtual 143, 3) := by decide +kernel
theorem dX11_pass_38 : decode cX11_pass 38 = .ok (.iconst 0, 1) := by decide +kernel
theorem dX11_pass_39 : decode cX11_pass 39 = .ok (.istore_n 2, 1) := by decide +kernel
theorem dX11_pass_40 : decode cX11_pass 40 = .ok (.iload_n 2, 1) := by decide +kernel
theorem dX11_pass_41 : decode cX11_pass 41 = .ok (.aload_n 0, 1) := by decide +kernel
theorem dX11_pass_42 : decode cX11_pass 42 = .ok (.getfield 12, 3) := by decide +kernel
theorem dX11_pass_45 : decode cX11_pass 45 = .ok (.getfield 61, 3) := by decide +kernel
theorem dX11_pass_48 : decode cX11_pass 48 = .ok (.if_icmp .ge 33, 3) := by decide +kernel
theorem dX11_pass_51 : decode cX11_pass 51 = .ok (.aload_n 0, 1) := by decide +kernel
theorem dX11_pass_52 : decode cX11_pass 52 = .ok (.getfield 12, 3) := by decide +kernel
theorem dX11_pass_55 : decode cX11_pass 55 = .ok (.getfield 85, 3) := by decide +kernel
theorem dX11_pass_58 : decode cX11_pass 58 = .ok (.iload_n 2, 1) := by decide +kernel
theorem dX11_pass_59 : decode cX11_pass 59 = .ok (.sipush 9999, 3) := by decide +kernel
theorem dX11_pass_62 : decode cX11_pass 62 = .ok (.aload_n 0, 1) := by decide +kernel
theorem dX11_pass_63 : decode cX11_pass 63 = .ok (.getfield 12, 3) := by decide +kernel
theorem dX11_pass_66 : decode cX11_pass 66 = .ok (.getfield 85, 3) := by decide +kernel
theorem dX11_pass_69 : decode cX11_pass 69 = .ok (.iload_n 2, 1) := by decide +kernel
theorem dX11_pass_70 : decode cX11_pass 70 = .ok (.iaload, 1) := by decide +kernel
theorem dX11_pass_71 : decode cX11_pass 71 = .ok (.invokestatic 147, 3) := by decide +kernel
theorem dX11_pass_74 : decode cX11_pass 74 = .ok (.iastore, 1) := by decide +kernel
theorem dX11_pass_75 : decode cX11_pass 75 = .ok (.iinc 2 1, 3) := by decide +kernel
theorem dX11_pass_78 : decode cX11_pass 78 = .ok (.goto (-38), 3) := by decide +kernel
theorem dX11_pass_81 : decode cX11_pass 81 = .ok (.aload_n 0, 1) := by decide +kernel
theorem dX11_pass_82 : decode cX11_pass 82 = .ok (.getfield 12, 3) := by decide +kernel
theorem dX11_pass_85 : decode cX11_pass 85 = .ok (.getfield 130, 3) := by decide +kernel
theorem dX11_pass_88 : decode cX11_pass 88 = .ok (.ireturn, 1) := by decide +kernel
theorem dX11_on_0 : decode cX11_on 0 = .ok (.aload_n 0, 1) := by decide +kernel
theorem dX11_on_1 : decode cX11_on 1 = .ok (.iload_n 2, 1) := by decide +kernel
theorem dX11_on_2 : decode cX11_on 2 = .ok (.bipush 10, 2) := by decide +kernel
theorem dX11_on_4 : decode cX11_on 4 = .ok (.isub, 1) := by decide +kernel
theorem dX11_on_5 : decode cX11_on 5 = .ok (.invokevirtual 69, 3) := by decide +kernel
theorem dX11_on_8 : decode cX11_on 8 = .ok (.istore_n 3, 1) := by decide +kernel
theorem dX11_on_9 : decode cX11_on 9 = .ok (.aload_n 0, 1) := by decide +kernel
theorem dX11_on_10 : decode cX11_on 10 = .ok (.iload_n 2, 1) := by decide +kernel
theorem dX11_on_11 : decode cX11_on 11 = .ok (.bipush 20, 2) := by decide +kernel
theorem dX11_on_13 : decode cX11_on 13 = .ok (.isub, 1) := by decide +kernel
theorem dX11_on_14 : decode cX11_on 14 = .ok (.invokevirtual 69, 3) := by decide +kernel
theorem dX11_on_17 : decode cX11_on 17 = .ok (.istore 4, 2) := by decide +kernel
theorem dX11_on_19 : decode cX11_on 19 = .ok (.iload_n 2, 1) := by decide +kernel
theorem dX11_on_20 : decode cX11_on 20 = .ok (.ifCond .eq 14, 3) := by decide +kernel
theorem dX11_on_23 : decode cX11_on 23 = .ok (.iload_n 3, 1) := by decide +kernel
theorem dX11_on_24 : decode cX11_on 24 = .ok (.ifCond .ne 10, 3) := by decide +kernel
theorem dX11_on_27 : decode cX11_on 27 = .ok (.iload 4, 2) := by decide +kernel
theorem dX11_on_29 : decode cX11_on 29 = .ok (.ifCond .ne 5, 3) := by decide +kernel
theorem dX11_on_32 : decode cX11_on 32 = .ok (.iconst (-1), 1) := by decide +kernel
theorem dX11_on_33 : decode cX11_on 33 = .ok (.ireturn, 1) := by decide +kernel
theorem dX11_on_34 : decode cX11_on 34 = .ok (.iload_n 1, 1) := by decide +kernel
theorem dX11_on_35 : decode cX11_on 35 = .ok (.bipush 60, 2) := by decide +kernel
theorem dX11_on_37 : decode cX11_on 37 = .ok (.invokestatic 57, 3) := by decide +kernel
theorem dX11_on_40 : decode cX11_on 40 = .ok (.ifCond .ne 6, 3) := by decide +kernel
theorem dX11_on_43 : decode cX11_on 43 = .ok (.bipush (-2), 2) := by decide +kernel
theorem dX11_on_45 : decode cX11_on 45 = .ok (.ireturn, 1) := by decide +kernel
theorem dX11_on_46 : decode cX11_on 46 = .ok (.aload_n 0, 1) := by decide +kernel
theorem dX11_on_47 : decode cX11_on 47 = .ok (.getfield 18, 3) := by decide +kernel
theorem dX11_on_50 : decode cX11_on 50 = .ok (.aload_n 0, 1) := by decide +kernel
theorem dX11_on_51 : decode cX11_on 51 = .ok (.getfield 12, 3) := by decide +kernel
theorem dX11_on_54 : decode cX11_on 54 = .ok (.invokevirtual 152, 3) := by decide +kernel
theorem dX11_on_57 : decode cX11_on 57 = .ok (.aload_n 0, 1) := by decide +kernel
theorem dX11_on_58 : decode cX11_on 58 = .ok (.getfield 18, 3) := by decide +kernel
theorem dX11_on_61 : decode cX11_on 61 = .ok (.iload_n 1, 1) := by decide +kernel
theorem dX11_on_62 : decode cX11_on 62 = .ok (.invokevirtual 143, 3) := by decide +kernel
theorem dX11_on_65 : decode cX11_on 65 = .ok (.iload_n 3, 1) := by decide +kernel
theorem dX11_on_66 : decode cX11_on 66 = .ok (.ifCond .eq 16, 3) := by decide +kernel
theorem dX11_on_69 : decode cX11_on 69 = .ok (.aload_n 0, 1) := by decide +kernel
theorem dX11_on_70 : decode cX11_on 70 = .ok (.getfield 18, 3) := by decide +kernel
theorem dX11_on_73 : decode cX11_on 73 = .ok (.getfield 82, 3) := by decide +kernel
theorem dX11_on_76 : decode cX11_on 76 = .ok (.iload_n 2, 1) := by decide +kernel
theorem dX11_on_77 : decode cX11_on 77 = .ok (.bipush 10, 2) := by decide +kernel
theorem dX11_on_79 : decode cX11_on 79 = .ok (.isub, 1) := by decide +kernel
theorem dX11_on_80 : decode cX11_on 80 = .ok (.iaload, 1) := by decide +kernel
theorem dX11_on_81 : decode cX11_on 81 = .ok (.ireturn, 1) := by decide +kernel
theorem dX11_on_82 : decode cX11_on 82 = .ok (.iload 4, 2) := by decide +kernel
theorem dX11_on_84 : decode cX11_on 84 = .ok (.ifCond .eq 18, 3) := by decide +kernel
theorem dX11_on_87 : decode cX11_on 87 = .ok (.aload_n 0, 1) := by decide +kernel
theorem dX11_on_88 : decode cX11_on 88 = .ok (.getfield 18, 3) := by decide +kernel
theorem dX11_on_91 : decode cX11_on 91 = .ok (.getfield 79, 3) := by decide +kernel
theorem dX11_on_94 : decode cX11_on 94 = .ok (.iload_n 2, 1) := by decide +kernel
theorem dX11_on_95 : decode cX11_on 95 = .ok (.bipush 20, 2) := by decide +kernel
theorem dX11_on_97 : decode cX11_on 97 = .ok (.isub, 1) := by decide +kernel
theorem dX11_on_98 : decode cX11_on 98 = .ok (.iaload, 1) := by decide +kernel
theorem dX11_on_99 : decode cX11_on 99 = .ok (.goto 10, 3) := by decide +kernel
theorem dX11_on_102 : decode cX11_on 102 = .ok (.aload_n 0, 1) := by decide +kernel
theorem dX11_on_103 : decode cX11_on 103 = .ok (.getfield 18, 3) := by decide +kernel
theorem dX11_on_106 : decode cX11_on 106 = .ok (.getfield 136, 3) := by decide +kernel
theorem dX11_on_109 : decode cX11_on 109 = .ok (.ireturn, 1) := by decide +kernel
theorem dX11_wording_0 : decode cX11_wording 0 = .ok (.aload_n 0, 1) := by decide +kernel
theorem dX11_wording_1 : decode cX11_wording 1 = .ok (.iload_n 1, 1) := by decide +kernel
theorem dX11_wording_2 : decode cX11_wording 2 = .ok (.invokevirtual 69, 3) := by decide +kernel
theorem dX11_wording_5 : decode cX11_wording 5 = .ok (.ifCond .ne 5, 3) := by decide +kernel
theorem dX11_wording_8 : decode cX11_wording 8 = .ok (.iconst (-1), 1) := by decide +kernel
theorem dX11_wording_9 : decode cX11_wording 9 = .ok (.ireturn, 1) := by decide +kernel
theorem dX11_wording_10 : decode cX11_wording 10 = .ok (.iload_n 2, 1) := by decide +kernel
theorem dX11_wording_11 : decode cX11_wording 11 = .ok (.sipush 255, 3) := by decide +kernel
theorem dX11_wording_14 : decode cX11_wording 14 = .ok (.invokestatic 57, 3) := by decide +kernel
theorem dX11_wording_17 : decode cX11_wording 17 = .ok (.ifCond .ne 6, 3) := by decide +kernel
theorem dX11_wording_20 : decode cX11_wording 20 = .ok (.bipush (-2), 2) := by decide +kernel
theorem dX11_wording_22 : decode cX11_wording 22 = .ok (.ireturn, 1) := by decide +kernel
theorem dX11_wording_23 : decode cX11_wording 23 = .ok (.iconst 0, 1) := by decide +kernel
theorem dX11_wording_24 : decode cX11_wording 24 = .ok (.istore_n 3, 1) := by decide +kernel
theorem dX11_wording_25 : decode cX11_wording 25 = .ok (.iload_n 3, 1) := by decide +kernel
theorem dX11_wording_26 : decode cX11_wording 26 = .ok (.bipush 12, 2) := by decide +kernel
theorem dX11_wording_28 : decode cX11_wording 28 = .ok (.if_icmp .gt 31, 3) := by decide +kernel
theorem dX11_wording_31 : decode cX11_wording 31 = .ok (.aload_n 0, 1) := by decide +kernel
theorem dX11_wording_32 : decode cX11_wording 32 = .ok (.getfield 34, 3) := by decide +kernel
theorem dX11_wording_35 : decode cX11_wording 35 = .ok (.iload_n 3, 1) := by decide +kernel
theorem dX11_wording_36 : decode cX11_wording 36 = .ok (.aload_n 0, 1) := by decide +kernel
theorem dX11_wording_37 : decode cX11_wording 37 = .ok (.getfield 12, 3) := by decide +kernel
theorem dX11_wording_40 : decode cX11_wording 40 = .ok (.getfield 120, 3) := by decide +kernel
theorem dX11_wording_43 : decode cX11_wording 43 = .ok (.aload_n 0, 1) := by decide +kernel
theorem dX11_wording_44 : decode cX11_wording 44 = .ok (.getfield 12, 3) := by decide +kernel
theorem dX11_wording_47 : decode cX11_wording 47 = .ok (.iload_n 1, 1) := by decide +kernel
theorem dX11_wording_48 : decode cX11_wording 48 = .ok (.iload_n 3, 1) := by decide +kernel
theorem dX11_wording_49 : decode cX11_wording 49 = .ok (.invokevirtual 156, 3) := by decide +kernel
theorem dX11_wording_52 : decode cX11_wording 52 = .ok (.iastore, 1) := by decide +kernel
theorem dX11_wording_53 : decode cX11_wording 53 = .ok (.iinc 3 1, 3) := by decide +kernel
theorem dX11_wording_56 : decode cX11_wording 56 = .ok (.goto (-31), 3) := by decide +kernel
theorem dX11_wording_59 : decode cX11_wording 59 = .ok (.bipush (-5), 2) := by decide +kernel
theorem dX11_wording_61 : decode cX11_wording 61 = .ok (.istore_n 3, 1) := by decide +kernel
theorem dX11_wording_62 : decode cX11_wording 62 = .ok (.bipush 13, 2) := by decide +kernel
theorem dX11_wording_64 : decode cX11_wording 64 = .ok (.istore 4, 2) := by decide +kernel
theorem dX11_wording_66 : decode cX11_wording 66 = .ok (.iconst 0, 1) := by decide +kernel
theorem dX11_wording_67 : decode cX11_wording 67 = .ok (.istore 5, 2) := by decide +kernel
theorem dX11_wording_69 : decode cX11_wording 69 = .ok (.iload 5, 2) := by decide +kernel
theorem dX11_wording_71 : decode cX11_wording 71 = .ok (.sipush 4095, 3) := by decide +kernel
theorem dX11_wording_74 : decode cX11_wording 74 = .ok (.if_icmp .gt 66, 3) := by decide +kernel
theorem dX11_wording_77 : decode cX11_wording 77 = .ok (.iload 5, 2) := by decide +kernel
theorem dX11_wording_79 : decode cX11_wording 79 = .ok (.invokestatic 160, 3) := by decide +kernel
theorem dX11_wording_82 : decode cX11_wording 82 = .ok (.istore 6, 2) := by decide +kernel
theorem dX11_wording_84 : decode cX11_wording 84 = .ok (.iload 6, 2) := by decide +kernel
theorem dX11_wording_86 : decode cX11_wording 86 = .ok (.iload 4, 2) := by decide +kernel
theorem dX11_wording_88 : decode cX11_wording 88 = .ok (.if_icmp .ge 46, 3) := by decide +kernel
theorem dX11_wording_91 : decode cX11_wording 91 = .ok (.iload_n 2, 1) := by decide +kernel
theorem dX11_wording_92 : decode cX11_wording 92 = .ok (.aload_n 0, 1) := by decide +kernel
theorem dX11_wording_93 : decode cX11_wording 93 = .ok (.getfield 12, 3) := by decide +kernel
theorem dX11_wording_96 : decode cX11_wording 96 = .ok (.iload 5, 2) := by decide +kernel
theorem dX11_wording_98 : decode cX11_wording 98 = .ok (.invokevirtual 165, 3) := by decide +kernel
theorem dX11_wording_101 : decode cX11_wording 101 = .ok (.iconst (-1), 1) := by decide +kernel
theorem dX11_wording_102 : decode cX11_wording 102 = .ok (.ixor, 1) := by decide +kernel
theorem dX11_wording_103 : decode cX11_wording 103 = .ok (.iand, 1) := by decide +kernel
theorem dX11_wording_104 : decode cX11_wording 104 = .ok (.ifCond .ne 30, 3) := by decide +kernel
theorem dX11_wording_107 : decode cX11_wording 107 = .ok (.aload_n 0, 1) := by decide +kernel
theorem dX11_wording_108 : decode cX11_wording 108 = .ok (.getfield 12, 3) := by decide +kernel
theorem dX11_wording_111 : decode cX11_wording 111 = .ok (.iload_n 1, 1) := by decide +kernel
theorem dX11_wording_112 : decode cX11_wording 112 = .ok (.iload 5, 2) := by decide +kernel
theorem dX11_wording_114 : decode cX11_wording 114 = .ok (.aload_n 0, 1) := by decide +kernel
theorem dX11_wording_115 : decode cX11_wording 115 = .ok (.getfield 34, 3) := by decide +kernel
theorem dX11_wording_118 : decode cX11_wording 118 = .ok (.iload 6, 2) := by decide +kernel
theorem dX11_wording_120 : decode cX11_wording 120 = .ok (.iaload, 1) := by decide +kernel
theorem dX11_wording_121 : decode cX11_wording 121 = .ok (.invokevirtual 168, 3) := by decide +kernel
theorem dX11_wording_124 : decode cX11_wording 124 = .ok (.ifCond .le 10, 3) := by decide +kernel
theorem dX11_wording_127 : decode cX11_wording 127 = .ok (.iload 5, 2) := by decide +kernel
theorem dX11_wording_129 : decode cX11_wording 129 = .ok (.istore_n 3, 1) := by decide +kernel
theorem dX11_wording_130 : decode cX11_wording 130 = .ok (.iload 6, 2) := by decide +kernel
theorem dX11_wording_132 : decode cX11_wording 132 = .ok (.istore 4, 2) := by decide +kernel
theorem dX11_wording_134 : decode cX11_wording 134 = .ok (.iinc 5 1, 3) := by decide +kernel
theorem dX11_wording_137 : decode cX11_wording 137 = .ok (.goto (-68), 3) := by decide +kernel
theorem dX11_wording_140 : decode cX11_wording 140 = .ok (.iload_n 3, 1) := by decide +kernel
theorem dX11_wording_141 : decode cX11_wording 141 = .ok (.ireturn, 1) := by decide +kernel
theorem dX11_birds_0 : decode cX11_birds 0 = .ok (.iload_n 1, 1) := by decide +kernel
theorem dX11_birds_1 : decode cX11_birds 1 = .ok (.sipush 255, 3) := by decide +kernel
theorem dX11_birds_4 : decode cX11_birds 4 = .ok (.invokestatic 57, 3) := by decide +kernel
theorem dX11_birds_7 : decode cX11_birds 7 = .ok (.ifCond .ne 6, 3) := by decide +kernel
theorem dX11_birds_10 : decode cX11_birds 10 = .ok (.bipush (-2), 2) := by decide +kernel
theorem dX11_birds_12 : decode cX11_birds 12 = .ok (.ireturn, 1) := by decide +kernel
theorem dX11_birds_13 : decode cX11_birds 13 = .ok (.aload_n 0, 1) := by decide +kernel
theorem dX11_birds_14 : decode cX11_birds 14 = .ok (.invokevirtual 139, 3) := by decide +kernel
theorem dX11_birds_17 : decode cX11_birds 17 = .ok (.istore_n 2, 1) := by decide +kernel
theorem dX11_birds_18 : decode cX11_birds 18 = .ok (.bipush (-5), 2) := by decide +kernel
theorem dX11_birds_20 : decode cX11_birds 20 = .ok (.istore_n 3, 1) := by decide +kernel
theorem dX11_birds_21 : decode cX11_birds 21 = .ok (.bipush 7, 2) := by decide +kernel
theorem dX11_birds_23 : decode cX11_birds 23 = .ok (.istore 4, 2) := by decide +kernel
theorem dX11_birds_25 : decode cX11_birds 25 = .ok (.iconst 0, 1) := by decide +kernel
theorem dX11_birds_26 : decode cX11_birds 26 = .ok (.istore 5, 2) := by decide +kernel
theorem dX11_birds_28 : decode cX11_birds 28 = .ok (.iload 5, 2) := by decide +kernel
theorem dX11_birds_30 : decode cX11_birds 30 = .ok (.bipush 64, 2) := by decide +kernel
theorem dX11_birds_32 : decode cX11_birds 32 = .ok (.if_icmp .ge 52, 3) := by decide +kernel
theorem dX11_birds_35 : decode cX11_birds 35 = .ok (.iload 5, 2) := by decide +kernel
theorem dX11_birds_37 : decode cX11_birds 37 = .ok (.invokestatic 160, 3) := by decide +kernel
theorem dX11_birds_40 : decode cX11_birds 40 = .ok (.istore 6, 2) := by decide +kernel
theorem dX11_birds_42 : decode cX11_birds 42 = .ok (.iload 6, 2) := by decide +kernel
theorem dX11_birds_44 : decode cX11_birds 44 = .ok (.iload 4, 2) := by decide +kernel
theorem dX11_birds_46 : decode cX11_birds 46 = .ok (.if_icmp .ge 32, 3) := by decide +kernel
theorem dX11_birds_49 : decode cX11_birds 49 = .ok (.iload 5, 2) := by decide +kernel
theorem dX11_birds_51 : decode cX11_birds 51 = .ok (.iload_n 2, 1) := by decide +kernel
theorem dX11_birds_52 : decode cX11_birds 52 = .ok (.iconst (-1), 1) := by decide +kernel
theorem dX11_birds_53 : decode cX11_birds 53 = .ok (.ixor, 1) := by decide +kernel
theorem dX11_birds_54 : decode cX11_birds 54 = .ok (.iand, 1) := by decide +kernel
theorem dX11_birds_55 : decode cX11_birds 55 = .ok (.ifCond .ne 23, 3) := by decide +kernel
theorem dX11_birds_58 : decode cX11_birds 58 = .ok (.iload_n 1, 1) := by decide +kernel
theorem dX11_birds_59 : decode cX11_birds 59 = .ok (.aload_n 0, 1) := by decide +kernel
theorem dX11_birds_60 : decode cX11_birds 60 = .ok (.iload 5, 2) := by decide +kernel
theorem dX11_birds_62 : decode cX11_birds 62 = .ok (.invokevirtual 172, 3) := by decide +kernel
theorem dX11_birds_65 : decode cX11_birds 65 = .ok (.iconst (-1), 1) := by decide +kernel
theorem dX11_birds_66 : decode cX11_birds 66 = .ok (.ixor, 1) := by decide +kernel
theorem dX11_birds_67 : decode cX11_birds 67 = .ok (.iand, 1) := by decide +kernel
theorem dX11_birds_68 : decode cX11_birds 68 = .ok (.ifCond .ne 10, 3) := by decide +kernel
theorem dX11_birds_71 : decode cX11_birds 71 = .ok (.iload 5, 2) := by decide +kernel
theorem dX11_birds_73 : decode cX11_birds 73 = .ok (.istore_n 3, 1) := by decide +kernel
theorem dX11_birds_74 : decode cX11_birds 74 = .ok (.iload 6, 2) := by decide +kernel
theorem dX11_birds_76 : decode cX11_birds 76 = .ok (.istore 4, 2) := by decide +kernel
theorem dX11_birds_78 : decode cX11_birds 78 = .ok (.iinc 5 1, 3) := by decide +kernel
theorem dX11_birds_81 : decode cX11_birds 81 = .ok (.goto (-53), 3) := by decide +kernel
theorem dX11_birds_84 : decode cX11_birds 84 = .ok (.iload_n 3, 1) := by decide +kernel
theorem dX11_birds_85 : decode cX11_birds 85 = .ok (.ireturn, 1) := by decide +kernel
theorem dX11_see_0 : decode cX11_see 0 = .ok (.iload_n 1, 1) := by decide +kernel
theorem dX11_see_1 : decode cX11_see 1 = .ok (.iconst (-1), 1) := by decide +kernel
theorem dX11_see_2 : decode cX11_see 2 = .ok (.if_icmp .ne 14, 3) := by decide +kernel
theorem dX11_see_5 : decode cX11_see 5 = .ok (.aload_n 0, 1) := by decide +kernel
theorem dX11_see_6 : decode cX11_see 6 = .ok (.getfield 12, 3) := by decide +kernel
theorem dX11_see_9 : decode cX11_see 9 = .ok (.getfield 175, 3) := by decide +kernel
theorem dX11_see_12 : decode cX11_see 12 = .ok (.invokevirtual 179, 3) := by decide +kernel
theorem dX11_see_15 : decode cX11_see 15 = .ok (.ireturn, 1) := by decide +kernel
theorem dX11_see_16 : decode cX11_see 16 = .ok (.aload_n 0, 1) := by decide +kernel
theorem dX11_see_17 : decode cX11_see 17 = .ok (.iload_n 1, 1) := by decide +kernel
theorem dX11_see_18 : decode cX11_see 18 = .ok (.invokevirtual 69, 3) := by decide +kernel
theorem dX11_see_21 : decode cX11_see 21 = .ok (.ifCond .ne 5, 3) := by decide +kernel
theorem dX11_see_24 : decode cX11_see 24 = .ok (.iconst (-1), 1) := by decide +kernel
theorem dX11_see_25 : decode cX11_see 25 = .ok (.ireturn, 1) := by decide +kernel
theorem dX11_see_26 : decode cX11_see 26 = .ok (.iload_n 2, 1) := by decide +kernel
theorem dX11_see_27 : decode cX11_see 27 = .ok (.sipush 4095, 3) := by decide +kernel
theorem dX11_see_30 : decode cX11_see 30 = .ok (.invokestatic 57, 3) := by decide +kernel
theorem dX11_see_33 : decode cX11_see 33 = .ok (.ifCond .ne 6, 3) := by decide +kernel
theorem dX11_see_36 : decode cX11_see 36 = .ok (.bipush (-2), 2) := by decide +kernel
theorem dX11_see_38 : decode cX11_see 38 = .ok (.ireturn, 1) := by decide +kernel
theorem dX11_see_39 : decode cX11_see 39 = .ok (.aload_n 0, 1) := by decide +kernel
theorem dX11_see_40 : decode cX11_see 40 = .ok (.getfield 12, 3) := by decide +kernel
theorem dX11_see_43 : decode cX11_see 43 = .ok (.getfield 175, 3) := by decide +kernel
theorem dX11_see_46 : decode cX11_see 46 = .ok (.iload_n 1, 1) := by decide +kernel
theorem dX11_see_47 : decode cX11_see 47 = .ok (.iload_n 2, 1) := by decide +kernel
theorem dX11_see_48 : decode cX11_see 48 = .ok (.iload_n 3, 1) := by decide +kernel
theorem dX11_see_49 : decode cX11_see 49 = .ok (.ifCond .eq 7, 3) := by decide +kernel
theorem dX11_see_52 : decode cX11_see 52 = .ok (.iconst 1, 1) := by decide +kernel
theorem dX11_see_53 : decode cX11_see 53 = .ok (.goto 4, 3) := by decide +kernel
theorem dX11_see_56 : decode cX11_see 56 = .ok (.iconst 0, 1) := by decide +kernel
theorem dX11_see_57 : decode cX11_see 57 = .ok (.invokevirtual 184, 3) := by decide +kernel
theorem dX11_see_60 : decode cX11_see 60 = .ok (.ireturn, 1) := by decide +kernel
theorem dX11_can_0 : decode cX11_can 0 = .ok (.aload_n 0, 1) := by decide +kernel
theorem dX11_can_1 : decode cX11_can 1 = .ok (.iload_n 1, 1) := by decide +kernel
theorem dX11_can_2 : decode cX11_can 2 = .ok (.invokevirtual 69, 3) := by decide +kernel
theorem dX11_can_5 : decode cX11_can 5 = .ok (.ifCond .eq 11, 3) := by decide +kernel
theorem dX11_can_8 : decode cX11_can 8 = .ok (.iload_n 2, 1) := by decide +kernel
theorem dX11_can_9 : decode cX11_can 9 = .ok (.iconst 1, 1) := by decide +kernel
theorem dX11_can_10 : decode cX11_can 10 = .ok (.invokestatic 57, 3) := by decide +kernel
theorem dX11_can_13 : decode cX11_can 13 = .ok (.ifCond .ne 5, 3) := by decide +kernel
theorem dX11_can_16 : decode cX11_can 16 = .ok (.iconst (-1), 1) := by decide +kernel
theorem dX11_can_17 : decode cX11_can 17 = .ok (.ireturn, 1) := by decide +kernel
theorem dX11_can_18 : decode cX11_can 18 = .ok (.aload_n 0, 1) := by decide +kernel
theorem dX11_can_19 : decode cX11_can 19 = .ok (.getfield 18, 3) := by decide +kernel
theorem dX11_can_22 : decode cX11_can 22 = .ok (.aload_n 0, 1) := by decide +kernel
theorem dX11_can_23 : decode cX11_can 23 = .ok (.getfield 12, 3) := by decide +kernel
theorem dX11_can_26 : decode cX11_can 26 = .ok (.invokevirtual 152, 3) := by decide +kernel
theorem dX11_can_29 : decode cX11_can 29 = .ok (.iconst 0, 1) := by decide +kernel
theorem dX11_can_30 : decode cX11_can 30 = .ok (.istore_n 3, 1) := by decide +kernel
theorem dX11_can_31 : decode cX11_can 31 = .ok (.bipush (-5), 2) := by decide +kernel
theorem dX11_can_33 : decode cX11_can 33 = .ok (.istore 4, 2) := by decide +kernel
theorem dX11_can_35 : decode cX11_can 35 = .ok (.bipush 9, 2) := by decide +kernel
theorem dX11_can_37 : decode cX11_can 37 = .ok (.istore 5, 2) := by decide +kernel
theorem dX11_can_39 : decode cX11_can 39 = .ok (.iload 5, 2) := by decide +kernel
theorem dX11_can_41 : decode cX11_can 41 = .ok (.ifCond .lt 37, 3) := by decide +kernel
theorem dX11_can_44 : decode cX11_can 44 = .ok (.aload_n 0, 1) := by decide +kernel
theorem dX11_can_45 : decode cX11_can 45 = .ok (.getfield 18, 3) := by decide +kernel
theorem dX11_can_48 : decode cX11_can 48 = .ok (.getfield 76, 3) := by decide +kernel
theorem dX11_can_51 : decode cX11_can 51 = .ok (.iload_n 1, 1) := by decide +kernel
theorem dX11_can_52 : decode cX11_can 52 = .ok (.iload 5, 2) := by decide +kernel
theorem dX11_can_54 : decode cX11_can 54 = .ok (.iastore, 1) := by decide +kernel
theorem dX11_can_55 : decode cX11_can 55 = .ok (.aload_n 0, 1) := by decide +kernel
theorem dX11_can_56 : decode cX11_can 56 = .ok (.getfield 18, 3) := by decide +kernel
theorem dX11_can_59 : decode cX11_can 59 = .ok (.invokevirtual 187, 3) := by decide +kernel
theorem dX11_can_62 : decode cX11_can 62 = .ok (.ifCond .eq 10, 3) := by decide +kernel
theorem dX11_can_65 : decode cX11_can 65 = .ok (.iinc 3 1, 3) := by decide +kernel
theorem dX11_can_68 : decode cX11_can 68 = .ok (.iload 5, 2) := by decide +kernel
theorem dX11_can_70 : decode cX11_can 70 = .ok (.istore 4, 2) := by decide +kernel
theorem dX11_can_72 : decode cX11_can 72 = .ok (.iinc 5 (-1), 3) := by decide +kernel
theorem dX11_can_75 : decode cX11_can 75 = .ok (.goto (-36), 3) := by decide +kernel
theorem dX11_can_78 : decode cX11_can 78 = .ok (.iload_n 2, 1) := by decide +kernel
theorem dX11_can_79 : decode cX11_can 79 = .ok (.ifCond .ne 7, 3) := by decide +kernel
theorem dX11_can_82 : decode cX11_can 82 = .ok (.iload_n 3, 1) := by decide +kernel
theorem dX11_can_83 : decode cX11_can 83 = .ok (.goto 5, 3) := by decide +kernel
theorem dX11_can_86 : decode cX11_can 86 = .ok (.iload 4, 2) := by decide +kernel
theorem dX11_can_88 : decode cX11_can 88 = .ok (.ireturn, 1) := by decide +kernel
theorem dX11_odds_0 : decode cX11_odds 0 = .ok (.aload_n 0, 1) := by decide +kernel
theorem dX11_odds_1 : decode cX11_odds 1 = .ok (.iload_n 1, 1) := by decide +kernel
theorem dX11_odds_2 : decode cX11_odds 2 = .ok (.invokevirtual 69, 3) := by decide +kernel
theorem dX11_odds_5 : decode cX11_odds 5 = .ok (.ifCond .eq 11, 3) := by decide +kernel
theorem dX11_odds_8 : decode cX11_odds 8 = .ok (.iload_n 2, 1) := by decide +kernel
theorem dX11_odds_9 : decode cX11_odds 9 = .ok (.iconst 1, 1) := by decide +kernel
theorem dX11_odds_10 : decode cX11_odds 10 = .ok (.invokestatic 57, 3) := by decide +kernel
theorem dX11_odds_13 : decode cX11_odds 13 = .ok (.ifCond .ne 7, 3) := by decide +kernel
theorem dX11_odds_16 : decode cX11_odds 16 = .ok (.ldc2_w 191, 3) := by decide +kernel
theorem dX11_odds_19 : decode cX11_odds 19 = .ok (.lreturn, 1) := by decide +kernel
theorem dX11_odds_20 : decode cX11_odds 20 = .ok (.iconst 0, 1) := by decide +kernel
theorem dX11_odds_21 : decode cX11_odds 21 = .ok (.istore_n 3, 1) := by decide +kernel
theorem dX11_odds_22 : decode cX11_odds 22 = .ok (.iconst 0, 1) := by decide +kernel
theorem dX11_odds_23 : decode cX11_odds 23 = .ok (.istore 4, 2) := by decide +kernel
theorem dX11_odds_25 : decode cX11_odds 25 = .ok (.iload 4, 2) := by decide +kernel
theorem dX11_odds_27 : decode cX11_odds 27 = .ok (.bipush 12, 2) := by decide +kernel
theorem dX11_odds_29 : decode cX11_odds 29 = .ok (.if_icmp .ge 37, 3) := by decide +kernel
theorem dX11_odds_32 : decode cX11_odds 32 = .ok (.aload_n 0, 1) := by decide +kernel
theorem dX11_odds_33 : decode cX11_odds 33 = .ok (.getfield 12, 3) := by decide +kernel
theorem dX11_odds_36 : decode cX11_odds 36 = .ok (.iload_n 1, 1) := by decide +kernel
theorem dX11_odds_37 : decode cX11_odds 37 = .ok (.aload_n 0, 1) := by decide +kernel
theorem dX11_odds_38 : decode cX11_odds 38 = .ok (.getfield 12, 3) := by decide +kernel
theorem dX11_odds_41 : decode cX11_odds 41 = .ok (.getfield 79, 3) := by decide +kernel
theorem dX11_odds_44 : decode cX11_odds 44 = .ok (.iload_n 1, 1) := by decide +kernel
theorem dX11_odds_45 : decode cX11_odds 45 = .ok (.iaload, 1) := by decide +kernel
theorem dX11_odds_46 : decode cX11_odds 46 = .ok (.iconst 1, 1) := by decide +kernel
theorem dX11_odds_47 : decode cX11_odds 47 = .ok (.iload 4, 2) := by decide +kernel
theorem dX11_odds_49 : decode cX11_odds 49 = .ok (.ishl, 1) := by decide +kernel
theorem dX11_odds_50 : decode cX11_odds 50 = .ok (.ior, 1) := by decide +kernel
theorem dX11_odds_51 : decode cX11_odds 51 = .ok (.invokevirtual 95, 3) := by decide +kernel
theorem dX11_odds_54 : decode cX11_odds 54 = .ok (.ifCond .le 6, 3) := by decide +kernel
theorem dX11_odds_57 : decode cX11_odds 57 = .ok (.iinc 3 1, 3) := by decide +kernel
theorem dX11_odds_60 : decode cX11_odds 60 = .ok (.iinc 4 1, 3) := by decide +kernel
theorem dX11_odds_63 : decode cX11_odds 63 = .ok (.goto (-38), 3) := by decide +kernel
theorem dX11_odds_66 : decode cX11_odds 66 = .ok (.iload_n 3, 1) := by decide +kernel
theorem dX11_odds_67 : decode cX11_odds 67 = .ok (.bipush 12, 2) := by decide +kernel
theorem dX11_odds_69 : decode cX11_odds 69 = .ok (.iload_n 2, 1) := by decide +kernel
theorem dX11_odds_70 : decode cX11_odds 70 = .ok (.invokestatic 193, 3) := by decide +kernel
theorem dX11_odds_73 : decode cX11_odds 73 = .ok (.lreturn, 1) := by decide +kernel
theorem dX11_mean_0 : decode cX11_mean 0 = .ok (.iload_n 1, 1) := by decide +kernel
theorem dX11_mean_1 : decode cX11_mean 1 = .ok (.iconst 1, 1) := by decide +kernel
theorem dX11_mean_2 : decode cX11_mean 2 = .ok (.invokestatic 57, 3) := by decide +kernel
theorem dX11_mean_5 : decode cX11_mean 5 = .ok (.ifCond .ne 7, 3) := by decide +kernel
theorem dX11_mean_8 : decode cX11_mean 8 = .ok (.ldc2_w 191, 3) := by decide +kernel
theorem dX11_mean_11 : decode cX11_mean 11 = .ok (.lreturn, 1) := by decide +kernel
theorem dX11_mean_12 : decode cX11_mean 12 = .ok (.iconst 0, 1) := by decide +kernel
theorem dX11_mean_13 : decode cX11_mean 13 = .ok (.istore_n 2, 1) := by decide +kernel
theorem dX11_mean_14 : decode cX11_mean 14 = .ok (.iconst 0, 1) := by decide +kernel
theorem dX11_mean_15 : decode cX11_mean 15 = .ok (.istore_n 3, 1) := by decide +kernel
theorem dX11_mean_16 : decode cX11_mean 16 = .ok (.iconst 0, 1) := by decide +kernel
theorem dX11_mean_17 : decode cX11_mean 17 = .ok (.istore 4, 2) := by decide +kernel
theorem dX11_mean_19 : decode cX11_mean 19 = .ok (.iload 4, 2) := by decide +kernel
theorem dX11_mean_21 : decode cX11_mean 21 = .ok (.aload_n 0, 1) := by decide +kernel
theorem dX11_mean_22 : decode cX11_mean 22 = .ok (.getfield 12, 3) := by decide +kernel
theorem dX11_mean_25 : decode cX11_mean 25 = .ok (.getfield 61, 3) := by decide +kernel
theorem dX11_mean_28 : decode cX11_mean 28 = .ok (.if_icmp .ge 47, 3) := by decide +kernel
theorem dX11_mean_31 : decode cX11_mean 31 = .ok (.aload_n 0, 1) := by decide +kernel
theorem dX11_mean_32 : decode cX11_mean 32 = .ok (.getfield 12, 3) := by decide +kernel
theorem dX11_mean_35 : decode cX11_mean 35 = .ok (.getfield 79, 3) := by decide +kernel
theorem dX11_mean_38 : decode cX11_mean 38 = .ok (.iload 4, 2) := by decide +kernel
theorem dX11_mean_40 : decode cX11_mean 40 = .ok (.iaload, 1) := by decide +kernel
theorem dX11_mean_41 : decode cX11_mean 41 = .ok (.ifCond .eq 28, 3) := by decide +kernel
theorem dX11_mean_44 : decode cX11_mean 44 = .ok (.iload_n 2, 1) := by decide +kernel
theorem dX11_mean_45 : decode cX11_mean 45 = .ok (.aload_n 0, 1) := by decide +kernel
theorem dX11_mean_46 : decode cX11_mean 46 = .ok (.getfield 12, 3) := by decide +kernel
theorem dX11_mean_49 : decode cX11_mean 49 = .ok (.iload 4, 2) := by decide +kernel
theorem dX11_mean_51 : decode cX11_mean 51 = .ok (.aload_n 0, 1) := by decide +kernel
theorem dX11_mean_52 : decode cX11_mean 52 = .ok (.getfield 12, 3) := by decide +kernel
theorem dX11_mean_55 : decode cX11_mean 55 = .ok (.getfield 79, 3) := by decide +kernel
theorem dX11_mean_58 : decode cX11_mean 58 = .ok (.iload 4, 2) := by decide +kernel
theorem dX11_mean_60 : decode cX11_mean 60 = .ok (.iaload, 1) := by decide +kernel
theorem dX11_mean_61 : decode cX11_mean 61 = .ok (.invokevirtual 95, 3) := by decide +kernel
theorem dX11_mean_64 : decode cX11_mean 64 = .ok (.iadd, 1) := by decide +kernel
theorem dX11_mean_65 : decode cX11_mean 65 = .ok (.istore_n 2, 1) := by decide +kernel
theorem dX11_mean_66 : decode cX11_mean 66 = .ok (.iinc 3 1, 3) := by decide +kernel
theorem dX11_mean_69 : decode cX11_mean 69 = .ok (.iinc 4 1, 3) := by decide +kernel
theorem dX11_mean_72 : decode cX11_mean 72 = .ok (.goto (-53), 3) := by decide +kernel
theorem dX11_mean_75 : decode cX11_mean 75 = .ok (.iload_n 3, 1) := by decide +kernel
theorem dX11_mean_76 : decode cX11_mean 76 = .ok (.ifCond .ne 9, 3) := by decide +kernel
theorem dX11_mean_79 : decode cX11_mean 79 = .ok (.ldc2_w 191, 3) := by decide +kernel
theorem dX11_mean_82 : decode cX11_mean 82 = .ok (.goto 9, 3) := by decide +kernel
theorem dX11_mean_85 : decode cX11_mean 85 = .ok (.iload_n 2, 1) := by decide +kernel
theorem dX11_mean_86 : decode cX11_mean 86 = .ok (.iload_n 3, 1) := by decide +kernel
theorem dX11_mean_87 : decode cX11_mean 87 = .ok (.iload_n 1, 1) := by decide +kernel
theorem dX11_mean_88 : decode cX11_mean 88 = .ok (.invokestatic 193, 3) := by decide +kernel
theorem dX11_mean_91 : decode cX11_mean 91 = .ok (.lreturn, 1) := by decide +kernel
theorem dX11_plan_0 : decode cX11_plan 0 = .ok (.iload_n 1, 1) := by decide +kernel
theorem dX11_plan_1 : decode cX11_plan 1 = .ok (.iconst (-1), 1) := by decide +kernel
theorem dX11_plan_2 : decode cX11_plan 2 = .ok (.if_icmp .ne 14, 3) := by decide +kernel
theorem dX11_plan_5 : decode cX11_plan 5 = .ok (.aload_n 0, 1) := by decide +kernel
theorem dX11_plan_6 : decode cX11_plan 6 = .ok (.getfield 12, 3) := by decide +kernel
theorem dX11_plan_9 : decode cX11_plan 9 = .ok (.getfield 197, 3) := by decide +kernel
theorem dX11_plan_12 : decode cX11_plan 12 = .ok (.invokevirtual 179, 3) := by decide +kernel
theorem dX11_plan_15 : decode cX11_plan 15 = .ok (.ireturn, 1) := by decide +kernel
theorem dX11_plan_16 : decode cX11_plan 16 = .ok (.iload_n 1, 1) := by decide +kernel
theorem dX11_plan_17 : decode cX11_plan 17 = .ok (.iconst 3, 1) := by decide +kernel
theorem dX11_plan_18 : decode cX11_plan 18 = .ok (.invokestatic 57, 3) := by decide +kernel
theorem dX11_plan_21 : decode cX11_plan 21 = .ok (.ifCond .ne 5, 3) := by decide +kernel
theorem dX11_plan_24 : decode cX11_plan 24 = .ok (.iconst (-1), 1) := by decide +kernel
theorem dX11_plan_25 : decode cX11_plan 25 = .ok (.ireturn, 1) := by decide +kernel
theorem dX11_plan_26 : decode cX11_plan 26 = .ok (.iload_n 1, 1) := by decide +kernel
theorem dX11_plan_27 : decode cX11_plan 27 = .ok (.iconst 1, 1) := by decide +kernel
theorem dX11_plan_28 : decode cX11_plan 28 = .ok (.if_icmp .eq 8, 3) := by decide +kernel
theorem dX11_plan_31 : decode cX11_plan 31 = .ok (.iload_n 1, 1) := by decide +kernel
theorem dX11_plan_32 : decode cX11_plan 32 = .ok (.iconst 2, 1) := by decide +kernel
theorem dX11_plan_33 : decode cX11_plan 33 = .ok (.if_icmp .ne 11, 3) := by decide +kernel
theorem dX11_plan_36 : decode cX11_plan 36 = .ok (.aload_n 0, 1) := by decide +kernel
theorem dX11_plan_37 : decode cX11_plan 37 = .ok (.iload_n 2, 1) := by decide +kernel
theorem dX11_plan_38 : decode cX11_plan 38 = .ok (.invokevirtual 69, 3) := by decide +kernel
theorem dX11_plan_41 : decode cX11_plan 41 = .ok (.ifCond .eq 15, 3) := by decide +kernel
theorem dX11_plan_44 : decode cX11_plan 44 = .ok (.iload_n 1, 1) := by decide +kernel
theorem dX11_plan_45 : decode cX11_plan 45 = .ok (.iconst 3, 1) := by decide +kernel
theorem dX11_plan_46 : decode cX11_plan 46 = .ok (.if_icmp .ne 12, 3) := by decide +kernel
theorem dX11_plan_49 : decode cX11_plan 49 = .ok (.iload_n 2, 1) := by decide +kernel
theorem dX11_plan_50 : decode cX11_plan 50 = .ok (.invokestatic 98, 3) := by decide +kernel
theorem dX11_plan_53 : decode cX11_plan 53 = .ok (.ifCond .ne 5, 3) := by decide +kernel
theorem dX11_plan_56 : decode cX11_plan 56 = .ok (.iconst (-1), 1) := by decide +kernel
theorem dX11_plan_57 : decode cX11_plan 57 = .ok (.ireturn, 1) := by decide +kernel
theorem dX11_plan_58 : decode cX11_plan 58 = .ok (.aload_n 0, 1) := by decide +kernel
theorem dX11_plan_59 : decode cX11_plan 59 = .ok (.getfield 12, 3) := by decide +kernel
theorem dX11_plan_62 : decode cX11_plan 62 = .ok (.getfield 197, 3) := by decide +kernel
theorem dX11_plan_65 : decode cX11_plan 65 = .ok (.iload_n 1, 1) := by decide +kernel
theorem dX11_plan_66 : decode cX11_plan 66 = .ok (.iload_n 2, 1) := by decide +kernel
theorem dX11_plan_67 : decode cX11_plan 67 = .ok (.iconst 0, 1) := by decide +kernel
theorem dX11_plan_68 : decode cX11_plan 68 = .ok (.invokevirtual 184, 3) := by decide +kernel
theorem dX11_plan_71 : decode cX11_plan 71 = .ok (.ireturn, 1) := by decide +kernel
theorem dX11_ends_0 : decode cX11_ends 0 = .ok (.iload_n 1, 1) := by decide +kernel
theorem dX11_ends_1 : decode cX11_ends 1 = .ok (.iconst 1, 1) := by decide +kernel
theorem dX11_ends_2 : decode cX11_ends 2 = .ok (.invokestatic 57, 3) := by decide +kernel
theorem dX11_ends_5 : decode cX11_ends 5 = .ok (.ifCond .ne 5, 3) := by decide +kernel
theorem dX11_ends_8 : decode cX11_ends 8 = .ok (.iconst (-1), 1) := by decide +kernel
theorem dX11_ends_9 : decode cX11_ends 9 = .ok (.ireturn, 1) := by decide +kernel
theorem dX11_ends_10 : decode cX11_ends 10 = .ok (.aload_n 0, 1) := by decide +kernel
theorem dX11_ends_11 : decode cX11_ends 11 = .ok (.getfield 18, 3) := by decide +kernel
theorem dX11_ends_14 : decode cX11_ends 14 = .ok (.aload_n 0, 1) := by decide +kernel
theorem dX11_ends_15 : decode cX11_ends 15 = .ok (.getfield 12, 3) := by decide +kernel
theorem dX11_ends_18 : decode cX11_ends 18 = .ok (.invokevirtual 152, 3) := by decide +kernel
theorem dX11_ends_21 : decode cX11_ends 21 = .ok (.iconst 0, 1) := by decide +kernel
theorem dX11_ends_22 : decode cX11_ends 22 = .ok (.istore_n 2, 1) := by decide +kernel
theorem dX11_ends_23 : decode cX11_ends 23 = .ok (.iload_n 2, 1) := by decide +kernel
theorem dX11_ends_24 : decode cX11_ends 24 = .ok (.aload_n 0, 1) := by decide +kernel
theorem dX11_ends_25 : decode cX11_ends 25 = .ok (.getfield 12, 3) := by decide +kernel
theorem dX11_ends_28 : decode cX11_ends 28 = .ok (.getfield 197, 3) := by decide +kernel
theorem dX11_ends_31 : decode cX11_ends 31 = .ok (.getfield 200, 3) := by decide +kernel
theorem dX11_ends_34 : decode cX11_ends 34 = .ok (.if_icmp .ge 40, 3) := by decide +kernel
theorem dX11_ends_37 : decode cX11_ends 37 = .ok (.aload_n 0, 1) := by decide +kernel
theorem dX11_ends_38 : decode cX11_ends 38 = .ok (.getfield 18, 3) := by decide +kernel
theorem dX11_ends_41 : decode cX11_ends 41 = .ok (.aload_n 0, 1) := by decide +kernel
theorem dX11_ends_42 : decode cX11_ends 42 = .ok (.getfield 12, 3) := by decide +kernel
theorem dX11_ends_45 : decode cX11_ends 45 = .ok (.getfield 197, 3) := by decide +kernel
theorem dX11_ends_48 : decode cX11_ends 48 = .ok (.getfield 201, 3) := by decide +kernel
theorem dX11_ends_51 : decode cX11_ends 51 = .ok (.iload_n 2, 1) := by decide +kernel
theorem dX11_ends_52 : decode cX11_ends 52 = .ok (.iaload, 1) := by decide +kernel
theorem dX11_ends_53 : decode cX11_ends 53 = .ok (.aload_n 0, 1) := by decide +kernel
theorem dX11_ends_54 : decode cX11_ends 54 = .ok (.getfield 12, 3) := by decide +kernel
theorem dX11_ends_57 : decode cX11_ends 57 = .ok (.getfield 197, 3) := by decide +kernel
theorem dX11_ends_60 : decode cX11_ends 60 = .ok (.getfield 204, 3) := by decide +kernel
theorem dX11_ends_63 : decode cX11_ends 63 = .ok (.iload_n 2, 1) := by decide +kernel
theorem dX11_ends_64 : decode cX11_ends 64 = .ok (.iaload, 1) := by decide +kernel
theorem dX11_ends_65 : decode cX11_ends 65 = .ok (.invokevirtual 207, 3) := by decide +kernel
theorem dX11_ends_68 : decode cX11_ends 68 = .ok (.iinc 2 1, 3) := by decide +kernel
theorem dX11_ends_71 : decode cX11_ends 71 = .ok (.goto (-48), 3) := by decide +kernel
theorem dX11_ends_74 : decode cX11_ends 74 = .ok (.iload_n 1, 1) := by decide +kernel
theorem dX11_ends_75 : decode cX11_ends 75 = .ok (.ifCond .ne 13, 3) := by decide +kernel
theorem dX11_ends_78 : decode cX11_ends 78 = .ok (.aload_n 0, 1) := by decide +kernel
theorem dX11_ends_79 : decode cX11_ends 79 = .ok (.getfield 18, 3) := by decide +kernel
theorem dX11_ends_82 : decode cX11_ends 82 = .ok (.getfield 136, 3) := by decide +kernel
theorem dX11_ends_85 : decode cX11_ends 85 = .ok (.goto 10, 3) := by decide +kernel
theorem dX11_ends_88 : decode cX11_ends 88 = .ok (.aload_n 0, 1) := by decide +kernel
theorem dX11_ends_89 : decode cX11_ends 89 = .ok (.getfield 18, 3) := by decide +kernel
theorem dX11_ends_92 : decode cX11_ends 92 = .ok (.invokevirtual 211, 3) := by decide +kernel
theorem dX11_ends_95 : decode cX11_ends 95 = .ok (.ireturn, 1) := by decide +kernel
theorem dX11_book_0 : decode cX11_book 0 = .ok (.iload_n 1, 1) := by decide +kernel
theorem dX11_book_1 : decode cX11_book 1 = .ok (.iconst (-1), 1) := by decide +kernel
theorem dX11_book_2 : decode cX11_book 2 = .ok (.if_icmp .ne 14, 3) := by decide +kernel
theorem dX11_book_5 : decode cX11_book 5 = .ok (.aload_n 0, 1) := by decide +kernel
theorem dX11_book_6 : decode cX11_book 6 = .ok (.getfield 12, 3) := by decide +kernel
theorem dX11_book_9 : decode cX11_book 9 = .ok (.getfield 214, 3) := by decide +kernel
theorem dX11_book_12 : decode cX11_book 12 = .ok (.invokevirtual 179, 3) := by decide +kernel
theorem dX11_book_15 : decode cX11_book 15 = .ok (.ireturn, 1) := by decide +kernel
theorem dX11_book_16 : decode cX11_book 16 = .ok (.iload_n 1, 1) := by decide +kernel
theorem dX11_book_17 : decode cX11_book 17 = .ok (.invokestatic 98, 3) := by decide +kernel
theorem dX11_book_20 : decode cX11_book 20 = .ok (.ifCond .ne 5, 3) := by decide +kernel
theorem dX11_book_23 : decode cX11_book 23 = .ok (.iconst (-1), 1) := by decide +kernel
theorem dX11_book_24 : decode cX11_book 24 = .ok (.ireturn, 1) := by decide +kernel
theorem dX11_book_25 : decode cX11_book 25 = .ok (.iload_n 2, 1) := by decide +kernel
theorem dX11_book_26 : decode cX11_book 26 = .ok (.bipush 9, 2) := by decide +kernel
theorem dX11_book_28 : decode cX11_book 28 = .ok (.invokestatic 57, 3) := by decide +kernel
theorem dX11_book_31 : decode cX11_book 31 = .ok (.ifCond .ne 6, 3) := by decide +kernel
theorem dX11_book_34 : decode cX11_book 34 = .ok (.bipush (-2), 2) := by decide +kernel
theorem dX11_book_36 : decode cX11_book 36 = .ok (.ireturn, 1) := by decide +kernel
theorem dX11_book_37 : decode cX11_book 37 = .ok (.aload_n 0, 1) := by decide +kernel
theorem dX11_book_38 : decode cX11_book 38 = .ok (.getfield 12, 3) := by decide +kernel
theorem dX11_book_41 : decode cX11_book 41 = .ok (.getfield 214, 3) := by decide +kernel
theorem dX11_book_44 : decode cX11_book 44 = .ok (.iload_n 1, 1) := by decide +kernel
theorem dX11_book_45 : decode cX11_book 45 = .ok (.iload_n 2, 1) := by decide +kernel
theorem dX11_book_46 : decode cX11_book 46 = .ok (.iconst 0, 1) := by decide +kernel
theorem dX11_book_47 : decode cX11_book 47 = .ok (.invokevirtual 184, 3) := by decide +kernel
theorem dX11_book_50 : decode cX11_book 50 = .ok (.ireturn, 1) := by decide +kernel
theorem dX11_looked_0 : decode cX11_looked 0 = .ok (.iconst 0, 1) := by decide +kernel
theorem dX11_looked_1 : decode cX11_looked 1 = .ok (.istore_n 1, 1) := by decide +kernel
theorem dX11_looked_2 : decode cX11_looked 2 = .ok (.iload_n 1, 1) := by decide +kernel
theorem dX11_looked_3 : decode cX11_looked 3 = .ok (.aload_n 0, 1) := by decide +kernel
theorem dX11_looked_4 : decode cX11_looked 4 = .ok (.getfield 12, 3) := by decide +kernel
theorem dX11_looked_7 : decode cX11_looked 7 = .ok (.getfield 214, 3) := by decide +kernel
theorem dX11_looked_10 : decode cX11_looked 10 = .ok (.getfield 200, 3) := by decide +kernel
theorem dX11_looked_13 : decode cX11_looked 13 = .ok (.if_icmp .ge 46, 3) := by decide +kernel
theorem dX11_looked_16 : decode cX11_looked 16 = .ok (.aload_n 0, 1) := by decide +kernel
theorem dX11_looked_17 : decode cX11_looked 17 = .ok (.getfield 12, 3) := by decide +kernel
theorem dX11_looked_20 : decode cX11_looked 20 = .ok (.getfield 101, 3) := by decide +kernel
theorem dX11_looked_23 : decode cX11_looked 23 = .ok (.aload_n 0, 1) := by decide +kernel
theorem dX11_looked_24 : decode cX11_looked 24 = .ok (.getfield 12, 3) := by decide +kernel
theorem dX11_looked_27 : decode cX11_looked 27 = .ok (.getfield 214, 3) := by decide +kernel
theorem dX11_looked_30 : decode cX11_looked 30 = .ok (.getfield 201, 3) := by decide +kernel
theorem dX11_looked_33 : decode cX11_looked 33 = .ok (.iload_n 1, 1) := by decide +kernel
theorem dX11_looked_34 : decode cX11_looked 34 = .ok (.iaload, 1) := by decide +kernel
theorem dX11_looked_35 : decode cX11_looked 35 = .ok (.iaload, 1) := by decide +kernel
theorem dX11_looked_36 : decode cX11_looked 36 = .ok (.aload_n 0, 1) := by decide +kernel
theorem dX11_looked_37 : decode cX11_looked 37 = .ok (.getfield 12, 3) := by decide +kernel
theorem dX11_looked_40 : decode cX11_looked 40 = .ok (.getfield 214, 3) := by decide +kernel
theorem dX11_looked_43 : decode cX11_looked 43 = .ok (.getfield 204, 3) := by decide +kernel
theorem dX11_looked_46 : decode cX11_looked 46 = .ok (.iload_n 1, 1) := by decide +kernel
theorem dX11_looked_47 : decode cX11_looked 47 = .ok (.iaload, 1) := by decide +kernel
theorem dX11_looked_48 : decode cX11_looked 48 = .ok (.if_icmp .eq 5, 3) := by decide +kernel
theorem dX11_looked_51 : decode cX11_looked 51 = .ok (.iload_n 1, 1) := by decide +kernel
theorem dX11_looked_52 : decode cX11_looked 52 = .ok (.ireturn, 1) := by decide +kernel
theorem dX11_looked_53 : decode cX11_looked 53 = .ok (.iinc 1 1, 3) := by decide +kernel
theorem dX11_looked_56 : decode cX11_looked 56 = .ok (.goto (-54), 3) := by decide +kernel
theorem dX11_looked_59 : decode cX11_looked 59 = .ok (.bipush (-5), 2) := by decide +kernel
theorem dX11_looked_61 : decode cX11_looked 61 = .ok (.ireturn, 1) := by decide +kernel
theorem dX11_judge_0 : decode cX11_judge 0 = .ok (.iload_n 1, 1) := by decide +kernel
theorem dX11_judge_1 : decode cX11_judge 1 = .ok (.invokestatic 217, 3) := by decide +kernel
theorem dX11_judge_4 : decode cX11_judge 4 = .ok (.ifCond .ne 5, 3) := by decide +kernel
theorem dX11_judge_7 : decode cX11_judge 7 = .ok (.iconst (-1), 1) := by decide +kernel
theorem dX11_judge_8 : decode cX11_judge 8 = .ok (.ireturn, 1) := by decide +kernel
theorem dX11_judge_9 : decode cX11_judge 9 = .ok (.aload_n 0, 1) := by decide +kernel
theorem dX11_judge_10 : decode cX11_judge 10 = .ok (.getfield 45, 3) := by decide +kernel
theorem dX11_judge_13 : decode cX11_judge 13 = .ok (.iload_n 1, 1) := by decide +kernel
theorem dX11_judge_14 : decode cX11_judge 14 = .ok (.iaload, 1) := by decide +kernel
theorem dX11_judge_15 : decode cX11_judge 15 = .ok (.ifCond .ge 6, 3) := by decide +kernel
theorem dX11_judge_18 : decode cX11_judge 18 = .ok (.bipush 100, 2) := by decide +kernel
theorem dX11_judge_20 : decode cX11_judge 20 = .ok (.ireturn, 1) := by decide +kernel
theorem dX11_judge_21 : decode cX11_judge 21 = .ok (.aload_n 0, 1) := by decide +kernel
theorem dX11_judge_22 : decode cX11_judge 22 = .ok (.getfield 45, 3) := by decide +kernel
theorem dX11_judge_25 : decode cX11_judge 25 = .ok (.iload_n 1, 1) := by decide +kernel
theorem dX11_judge_26 : decode cX11_judge 26 = .ok (.iaload, 1) := by decide +kernel
theorem dX11_judge_27 : decode cX11_judge 27 = .ok (.iconst 2, 1) := by decide +kernel
theorem dX11_judge_28 : decode cX11_judge 28 = .ok (.if_icmp .eq 6, 3) := by decide +kernel
theorem dX11_judge_31 : decode cX11_judge 31 = .ok (.bipush (-12), 2) := by decide +kernel
theorem dX11_judge_33 : decode cX11_judge 33 = .ok (.ireturn, 1) := by decide +kernel
theorem dX11_judge_34 : decode cX11_judge 34 = .ok (.aload_n 0, 1) := by decide +kernel
theorem dX11_judge_35 : decode cX11_judge 35 = .ok (.iload_n 1, 1) := by decide +kernel
theorem dX11_judge_36 : decode cX11_judge 36 = .ok (.iload_n 2, 1) := by decide +kernel
theorem dX11_judge_37 : decode cX11_judge 37 = .ok (.invokevirtual 220, 3) := by decide +kernel
theorem dX11_judge_40 : decode cX11_judge 40 = .ok (.ifCond .ne 6, 3) := by decide +kernel
theorem dX11_judge_43 : decode cX11_judge 43 = .ok (.bipush 100, 2) := by decide +kernel
theorem dX11_judge_45 : decode cX11_judge 45 = .ok (.ireturn, 1) := by decide +kernel
theorem dX11_judge_46 : decode cX11_judge 46 = .ok (.iconst 0, 1) := by decide +kernel
theorem dX11_judge_47 : decode cX11_judge 47 = .ok (.istore_n 3, 1) := by decide +kernel
theorem dX11_judge_48 : decode cX11_judge 48 = .ok (.iload_n 3, 1) := by decide +kernel
theorem dX11_judge_49 : decode cX11_judge 49 = .ok (.bipush 12, 2) := by decide +kernel
theorem dX11_judge_51 : decode cX11_judge 51 = .ok (.if_icmp .ge 52, 3) := by decide +kernel
theorem dX11_judge_54 : decode cX11_judge 54 = .ok (.iload_n 2, 1) := by decide +kernel
theorem dX11_judge_55 : decode cX11_judge 55 = .ok (.iload_n 3, 1) := by decide +kernel
theorem dX11_judge_56 : decode cX11_judge 56 = .ok (.iadd, 1) := by decide +kernel
theorem dX11_judge_57 : decode cX11_judge 57 = .ok (.aload_n 0, 1) := by decide +kernel
theorem dX11_judge_58 : decode cX11_judge 58 = .ok (.getfield 48, 3) := by decide +kernel
theorem dX11_judge_61 : decode cX11_judge 61 = .ok (.iload_n 1, 1) := by decide +kernel
theorem dX11_judge_62 : decode cX11_judge 62 = .ok (.iaload, 1) := by decide +kernel
theorem dX11_judge_63 : decode cX11_judge 63 = .ok (.if_icmp .lt 8, 3) := by decide +kernel
theorem dX11_judge_66 : decode cX11_judge 66 = .ok (.bipush 100, 2) := by decide +kernel
theorem dX11_judge_68 : decode cX11_judge 68 = .ok (.iload_n 3, 1) := by decide +kernel
theorem dX11_judge_69 : decode cX11_judge 69 = .ok (.iadd, 1) := by decide +kernel
theorem dX11_judge_70 : decode cX11_judge 70 = .ok (.ireturn, 1) := by decide +kernel
theorem dX11_judge_71 : decode cX11_judge 71 = .ok (.aload_n 0, 1) := by decide +kernel
theorem dX11_judge_72 : decode cX11_judge 72 = .ok (.getfield 53, 3) := by decide +kernel
theorem dX11_judge_75 : decode cX11_judge 75 = .ok (.iload_n 1, 1) := by decide +kernel
theorem dX11_judge_76 : decode cX11_judge 76 = .ok (.aaload, 1) := by decide +kernel
theorem dX11_judge_77 : decode cX11_judge 77 = .ok (.iload_n 2, 1) := by decide +kernel
theorem dX11_judge_78 : decode cX11_judge 78 = .ok (.iload_n 3, 1) := by decide +kernel
theorem dX11_judge_79 : decode cX11_judge 79 = .ok (.iadd, 1) := by decide +kernel
theorem dX11_judge_80 : decode cX11_judge 80 = .ok (.laload, 1) := by decide +kernel
theorem dX11_judge_81 : decode cX11_judge 81 = .ok (.aload_n 0, 1) := by decide +kernel
theorem dX11_judge_82 : decode cX11_judge 82 = .ok (.getfield 12, 3) := by decide +kernel
theorem dX11_judge_85 : decode cX11_judge 85 = .ok (.getfield 101, 3) := by decide +kernel
theorem dX11_judge_88 : decode cX11_judge 88 = .ok (.iload_n 3, 1) := by decide +kernel
theorem dX11_judge_89 : decode cX11_judge 89 = .ok (.iaload, 1) := by decide +kernel
theorem dX11_judge_90 : decode cX11_judge 90 = .ok (.i2l, 1) := by decide +kernel
theorem dX11_judge_91 : decode cX11_judge 91 = .ok (.lcmp, 1) := by decide +kernel
theorem dX11_judge_92 : decode cX11_judge 92 = .ok (.ifCond .eq 5, 3) := by decide +kernel
theorem dX11_judge_95 : decode cX11_judge 95 = .ok (.iload_n 3, 1) := by decide +kernel
theorem dX11_judge_96 : decode cX11_judge 96 = .ok (.ireturn, 1) := by decide +kernel
theorem dX11_judge_97 : decode cX11_judge 97 = .ok (.iinc 3 1, 3) := by decide +kernel
theorem dX11_judge_100 : decode cX11_judge 100 = .ok (.goto (-52), 3) := by decide +kernel
theorem dX11_judge_103 : decode cX11_judge 103 = .ok (.bipush (-5), 2) := by decide +kernel
theorem dX11_judge_105 : decode cX11_judge 105 = .ok (.ireturn, 1) := by decide +kernel
theorem dX11_image_0 : decode cX11_image 0 = .ok (.aload_n 0, 1) := by decide +kernel
theorem dX11_image_1 : decode cX11_image 1 = .ok (.getfield 21, 3) := by decide +kernel
theorem dX11_image_4 : decode cX11_image 4 = .ok (.aload_n 0, 1) := by decide +kernel
theorem dX11_image_5 : decode cX11_image 5 = .ok (.getfield 12, 3) := by decide +kernel
theorem dX11_image_8 : decode cX11_image 8 = .ok (.invokevirtual 152, 3) := by decide +kernel
theorem dX11_image_11 : decode cX11_image 11 = .ok (.aload_n 0, 1) := by decide +kernel
theorem dX11_image_12 : decode cX11_image 12 = .ok (.iconst 1, 1) := by decide +kernel
theorem dX11_image_13 : decode cX11_image 13 = .ok (.putfield 223, 3) := by decide +kernel
theorem dX11_image_16 : decode cX11_image 16 = .ok (.aload_n 0, 1) := by decide +kernel
theorem dX11_image_17 : decode cX11_image 17 = .ok (.getfield 21, 3) := by decide +kernel
theorem dX11_image_20 : decode cX11_image 20 = .ok (.getfield 61, 3) := by decide +kernel
theorem dX11_image_23 : decode cX11_image 23 = .ok (.ireturn, 1) := by decide +kernel
theorem dX11_undo_0 : decode cX11_undo 0 = .ok (.aload_n 0, 1) := by decide +kernel
theorem dX11_undo_1 : decode cX11_undo 1 = .ok (.getfield 223, 3) := by decide +kernel
theorem dX11_undo_4 : decode cX11_undo 4 = .ok (.ifCond .ne 6, 3) := by decide +kernel
theorem dX11_undo_7 : decode cX11_undo 7 = .ok (.bipush (-3), 2) := by decide +kernel
theorem dX11_undo_9 : decode cX11_undo 9 = .ok (.ireturn, 1) := by decide +kernel
theorem dX11_undo_10 : decode cX11_undo 10 = .ok (.aload_n 0, 1) := by decide +kernel
theorem dX11_undo_11 : decode cX11_undo 11 = .ok (.getfield 12, 3) := by decide +kernel
theorem dX11_undo_14 : decode cX11_undo 14 = .ok (.aload_n 0, 1) := by decide +kernel
theorem dX11_undo_15 : decode cX11_undo 15 = .ok (.getfield 21, 3) := by decide +kernel
theorem dX11_undo_18 : decode cX11_undo 18 = .ok (.invokevirtual 152, 3) := by decide +kernel
theorem dX11_undo_21 : decode cX11_undo 21 = .ok (.aload_n 0, 1) := by decide +kernel
theorem dX11_undo_22 : decode cX11_undo 22 = .ok (.getfield 12, 3) := by decide +kernel
theorem dX11_undo_25 : decode cX11_undo 25 = .ok (.getfield 61, 3) := by decide +kernel
theorem dX11_undo_28 : decode cX11_undo 28 = .ok (.ireturn, 1) := by decide +kernel
theorem dX11_act_0 : decode cX11_act 0 = .ok (.aload_n 0, 1) := by decide +kernel
theorem dX11_act_1 : decode cX11_act 1 = .ok (.iload_n 1, 1) := by decide +kernel
theorem dX11_act_2 : decode cX11_act 2 = .ok (.invokevirtual 69, 3) := by decide +kernel
theorem dX11_act_5 : decode cX11_act 5 = .ok (.ifCond .eq 11, 3) := by decide +kernel
theorem dX11_act_8 : decode cX11_act 8 = .ok (.iload_n 2, 1) := by decide +kernel
theorem dX11_act_9 : decode cX11_act 9 = .ok (.iconst 2, 1) := by decide +kernel
theorem dX11_act_10 : decode cX11_act 10 = .ok (.invokestatic 57, 3) := by decide +kernel
theorem dX11_act_13 : decode cX11_act 13 = .ok (.ifCond .ne 14, 3) := by decide +kernel
theorem dX11_act_16 : decode cX11_act 16 = .ok (.aload_n 0, 1) := by decide +kernel
theorem dX11_act_17 : decode cX11_act 17 = .ok (.getfield 41, 3) := by decide +kernel
theorem dX11_act_20 : decode cX11_act 20 = .ok (.iconst 0, 1) := by decide +kernel
theorem dX11_act_21 : decode cX11_act 21 = .ok (.iconst 0, 1) := by decide +kernel
theorem dX11_act_22 : decode cX11_act 22 = .ok (.invokevirtual 227, 3) := by decide +kernel
theorem dX11_act_25 : decode cX11_act 25 = .ok (.iconst 0, 1) := by decide +kernel
theorem dX11_act_26 : decode cX11_act 26 = .ok (.ireturn, 1) := by decide +kernel
theorem dX11_act_27 : decode cX11_act 27 = .ok (.aload_n 0, 1) := by decide +kernel
theorem dX11_act_28 : decode cX11_act 28 = .ok (.getfield 41, 3) := by decide +kernel
theorem dX11_act_31 : decode cX11_act 31 = .ok (.iload_n 1, 1) := by decide +kernel
theorem dX11_act_32 : decode cX11_act 32 = .ok (.aload_n 0, 1) := by decide +kernel
theorem dX11_act_33 : decode cX11_act 33 = .ok (.getfield 12, 3) := by decide +kernel
theorem dX11_act_36 : decode cX11_act 36 = .ok (.getfield 76, 3) := by decide +kernel
theorem dX11_act_39 : decode cX11_act 39 = .ok (.iload_n 1, 1) := by decide +kernel
theorem dX11_act_40 : decode cX11_act 40 = .ok (.iaload, 1) := by decide +kernel
theorem dX11_act_41 : decode cX11_act 41 = .ok (.invokevirtual 227, 3) := by decide +kernel
theorem dX11_act_44 : decode cX11_act 44 = .ok (.aload_n 0, 1) := by decide +kernel
theorem dX11_act_45 : decode cX11_act 45 = .ok (.getfield 12, 3) := by decide +kernel
theorem dX11_act_48 : decode cX11_act 48 = .ok (.getfield 230, 3) := by decide +kernel
theorem dX11_act_51 : decode cX11_act 51 = .ok (.aload_n 0, 1) := by decide +kernel
theorem dX11_act_52 : decode cX11_act 52 = .ok (.getfield 12, 3) := by decide +kernel
theorem dX11_act_55 : decode cX11_act 55 = .ok (.getfield 73, 3) := by decide +kernel
theorem dX11_act_58 : decode cX11_act 58 = .ok (.iload_n 1, 1) := by decide +kernel
theorem dX11_act_59 : decode cX11_act 59 = .ok (.iaload, 1) := by decide +kernel
theorem dX11_act_60 : decode cX11_act 60 = .ok (.aaload, 1) := by decide +kernel
theorem dX11_act_61 : decode cX11_act 61 = .ok (.astore 4, 2) := by decide +kernel
theorem dX11_act_63 : decode cX11_act 63 = .ok (.iload_n 2, 1) := by decide +kernel
theorem dX11_act_64 : decode cX11_act 64 = .ok (.lookupswitch 50 #[(0, 28), (1, 39)], 28) := by decide +kernel
theorem dX11_act_92 : decode cX11_act 92 = .ok (.aload 4, 2) := by decide +kernel
theorem dX11_act_94 : decode cX11_act 94 = .ok (.aload_n 0, 1) := by decide +kernel
theorem dX11_act_95 : decode cX11_act 95 = .ok (.getfield 41, 3) := by decide +kernel
theorem dX11_act_98 : decode cX11_act 98 = .ok (.iload_n 3, 1) := by decide +kernel
theorem dX11_act_99 : decode cX11_act 99 = .ok (.invokevirtual 234, 3) := by decide +kernel
theorem dX11_act_102 : decode cX11_act 102 = .ok (.ireturn, 1) := by decide +kernel
theorem dX11_act_103 : decode cX11_act 103 = .ok (.aload 4, 2) := by decide +kernel
theorem dX11_act_105 : decode cX11_act 105 = .ok (.aload_n 0, 1) := by decide +kernel
theorem dX11_act_106 : decode cX11_act 106 = .ok (.getfield 41, 3) := by decide +kernel
theorem dX11_act_109 : decode cX11_act 109 = .ok (.iload_n 3, 1) := by decide +kernel
theorem dX11_act_110 : decode cX11_act 110 = .ok (.invokevirtual 240, 3) := by decide +kernel
theorem dX11_act_113 : decode cX11_act 113 = .ok (.ireturn, 1) := by decide +kernel
theorem dX11_act_114 : decode cX11_act 114 = .ok (.aload 4, 2) := by decide +kernel
theorem dX11_act_116 : decode cX11_act 116 = .ok (.aload_n 0, 1) := by decide +kernel
theorem dX11_act_117 : decode cX11_act 117 = .ok (.getfield 41, 3) := by decide +kernel
theorem dX11_act_120 : decode cX11_act 120 = .ok (.iload_n 3, 1) := by decide +kernel
theorem dX11_act_121 : decode cX11_act 121 = .ok (.invokevirtual 243, 3) := by decide +kernel
theorem dX11_act_124 : decode cX11_act 124 = .ok (.ireturn, 1) := by decide +kernel
theorem dX11_trace_0 : decode cX11_trace 0 = .ok (.iload_n 1, 1) := by decide +kernel
theorem dX11_trace_1 : decode cX11_trace 1 = .ok (.ifCond .lt 32, 3) := by decide +kernel
theorem dX11_trace_4 : decode cX11_trace 4 = .ok (.iload_n 1, 1) := by decide +kernel
theorem dX11_trace_5 : decode cX11_trace 5 = .ok (.aload_n 0, 1) := by decide +kernel
theorem dX11_trace_6 : decode cX11_trace 6 = .ok (.getfield 41, 3) := by decide +kernel
theorem dX11_trace_9 : decode cX11_trace 9 = .ok (.getfield 246, 3) := by decide +kernel
theorem dX11_trace_12 : decode cX11_trace 12 = .ok (.if_icmp .ge 21, 3) := by decide +kernel
theorem dX11_trace_15 : decode cX11_trace 15 = .ok (.iload_n 1, 1) := by decide +kernel
theorem dX11_trace_16 : decode cX11_trace 16 = .ok (.bipush 20, 2) := by decide +kernel
theorem dX11_trace_18 : decode cX11_trace 18 = .ok (.if_icmp .ge 15, 3) := by decide +kernel
theorem dX11_trace_21 : decode cX11_trace 21 = .ok (.aload_n 0, 1) := by decide +kernel
theorem dX11_trace_22 : decode cX11_trace 22 = .ok (.getfield 41, 3) := by decide +kernel
theorem dX11_trace_25 : decode cX11_trace 25 = .ok (.getfield 249, 3) := by decide +kernel
theorem dX11_trace_28 : decode cX11_trace 28 = .ok (.iload_n 1, 1) := by decide +kernel
theorem dX11_trace_29 : decode cX11_trace 29 = .ok (.iaload, 1) := by decide +kernel
theorem dX11_trace_30 : decode cX11_trace 30 = .ok (.goto 4, 3) := by decide +kernel
theorem dX11_trace_33 : decode cX11_trace 33 = .ok (.iconst (-1), 1) := by decide +kernel
theorem dX11_trace_34 : decode cX11_trace 34 = .ok (.ireturn, 1) := by decide +kernel
theorem dX11_taken_0 : decode cX11_taken 0 = .ok (.iload_n 2, 1) := by decide +kernel
theorem dX11_taken_1 : decode cX11_taken 1 = .ok (.bipush 6, 2) := by decide +kernel
theorem dX11_taken_3 : decode cX11_taken 3 = .ok (.invokestatic 57, 3) := by decide +kernel
theorem dX11_taken_6 : decode cX11_taken 6 = .ok (.ifCond .ne 6, 3) := by decide +kernel
theorem dX11_taken_9 : decode cX11_taken 9 = .ok (.bipush (-2), 2) := by decide +kernel
theorem dX11_taken_11 : decode cX11_taken 11 = .ok (.ireturn, 1) := by decide +kernel
theorem dX11_taken_12 : decode cX11_taken 12 = .ok (.aload_n 0, 1) := by decide +kernel
theorem dX11_taken_13 : decode cX11_taken 13 = .ok (.iload_n 1, 1) := by decide +kernel
theorem dX11_taken_14 : decode cX11_taken 14 = .ok (.invokevirtual 69, 3) := by decide +kernel
theorem dX11_taken_17 : decode cX11_taken 17 = .ok (.ifCond .ne 6, 3) := by decide +kernel
theorem dX11_taken_20 : decode cX11_taken 20 = .ok (.bipush (-11), 2) := by decide +kernel
theorem dX11_taken_22 : decode cX11_taken 22 = .ok (.ireturn, 1) := by decide +kernel
theorem dX11_taken_23 : decode cX11_taken 23 = .ok (.aload_n 0, 1) := by decide +kernel
theorem dX11_taken_24 : decode cX11_taken 24 = .ok (.getfield 12, 3) := by decide +kernel
theorem dX11_taken_27 : decode cX11_taken 27 = .ok (.getfield 73, 3) := by decide +kernel
theorem dX11_taken_30 : decode cX11_taken 30 = .ok (.iload_n 1, 1) := by decide +kernel
theorem dX11_taken_31 : decode cX11_taken 31 = .ok (.iaload, 1) := by decide +kernel
theorem dX11_taken_32 : decode cX11_taken 32 = .ok (.istore_n 3, 1) := by decide +kernel
theorem dX11_taken_33 : decode cX11_taken 33 = .ok (.aload_n 0, 1) := by decide +kernel
theorem dX11_taken_34 : decode cX11_taken 34 = .ok (.getfield 12, 3) := by decide +kernel
theorem dX11_taken_37 : decode cX11_taken 37 = .ok (.getfield 230, 3) := by decide +kernel
theorem dX11_taken_40 : decode cX11_taken 40 = .ok (.iload_n 3, 1) := by decide +kernel
theorem dX11_taken_41 : decode cX11_taken 41 = .ok (.aaload, 1) := by decide +kernel
theorem dX11_taken_42 : decode cX11_taken 42 = .ok (.iload_n 2, 1) := by decide +kernel
theorem dX11_taken_43 : decode cX11_taken 43 = .ok (.invokestatic 252, 3) := by decide +kernel
theorem dX11_taken_46 : decode cX11_taken 46 = .ok (.ifCond .eq 7, 3) := by decide +kernel
theorem dX11_taken_49 : decode cX11_taken 49 = .ok (.iload_n 3, 1) := by decide +kernel
theorem dX11_taken_50 : decode cX11_taken 50 = .ok (.goto 5, 3) := by decide +kernel
theorem dX11_taken_53 : decode cX11_taken 53 = .ok (.bipush (-12), 2) := by decide +kernel
theorem dX11_taken_55 : decode cX11_taken 55 = .ok (.ireturn, 1) := by decide +kernel
theorem dX11_count_0 : decode cX11_count 0 = .ok (.iload_n 1, 1) := by decide +kernel
theorem dX11_count_1 : decode cX11_count 1 = .ok (.tableswitch 102 0 6 #[43, 51, 56, 67, 78, 89, 94], 43) := by decide +kernel
theorem dX11_count_44 : decode cX11_count 44 = .ok (.aload_n 0, 1) := by decide +kernel
theorem dX11_count_45 : decode cX11_count 45 = .ok (.getfield 12, 3) := by decide +kernel
theorem dX11_count_48 : decode cX11_count 48 = .ok (.getfield 61, 3) := by decide +kernel
theorem dX11_count_51 : decode cX11_count 51 = .ok (.ireturn, 1) := by decide +kernel
theorem dX11_count_52 : decode cX11_count 52 = .ok (.aload_n 0, 1) := by decide +kernel
theorem dX11_count_53 : decode cX11_count 53 = .ok (.getfield 113, 3) := by decide +kernel
theorem dX11_count_56 : decode cX11_count 56 = .ok (.ireturn, 1) := by decide +kernel
theorem dX11_count_57 : decode cX11_count 57 = .ok (.aload_n 0, 1) := by decide +kernel
theorem dX11_count_58 : decode cX11_count 58 = .ok (.getfield 12, 3) := by decide +kernel
theorem dX11_count_61 : decode cX11_count 61 = .ok (.getfield 175, 3) := by decide +kernel
theorem dX11_count_64 : decode cX11_count 64 = .ok (.getfield 200, 3) := by decide +kernel
theorem dX11_count_67 : decode cX11_count 67 = .ok (.ireturn, 1) := by decide +kernel
theorem dX11_count_68 : decode cX11_count 68 = .ok (.aload_n 0, 1) := by decide +kernel
theorem dX11_count_69 : decode cX11_count 69 = .ok (.getfield 12, 3) := by decide +kernel
theorem dX11_count_72 : decode cX11_count 72 = .ok (.getfield 197, 3) := by decide +kernel
theorem dX11_count_75 : decode cX11_count 75 = .ok (.getfield 200, 3) := by decide +kernel
theorem dX11_count_78 : decode cX11_count 78 = .ok (.ireturn, 1) := by decide +kernel
theorem dX11_count_79 : decode cX11_count 79 = .ok (.aload_n 0, 1) := by decide +kernel
theorem dX11_count_80 : decode cX11_count 80 = .ok (.getfield 12, 3) := by decide +kernel
theorem dX11_count_83 : decode cX11_count 83 = .ok (.getfield 214, 3) := by decide +kernel
theorem dX11_count_86 : decode cX11_count 86 = .ok (.getfield 200, 3) := by decide +kernel
theorem dX11_count_89 : decode cX11_count 89 = .ok (.ireturn, 1) := by decide +kernel
theorem dX11_count_90 : decode cX11_count 90 = .ok (.aload_n 0, 1) := by decide +kernel
theorem dX11_count_91 : decode cX11_count 91 = .ok (.getfield 110, 3) := by decide +kernel
theorem dX11_count_94 : decode cX11_count 94 = .ok (.ireturn, 1) := by decide +kernel
theorem dX11_count_95 : decode cX11_count 95 = .ok (.aload_n 0, 1) := by decide +kernel
theorem dX11_count_96 : decode cX11_count 96 = .ok (.getfield 41, 3) := by decide +kernel
theorem dX11_count_99 : decode cX11_count 99 = .ok (.getfield 246, 3) := by decide +kernel
theorem dX11_count_102 : decode cX11_count 102 = .ok (.ireturn, 1) := by decide +kernel
theorem dX11_count_103 : decode cX11_count 103 = .ok (.bipush (-2), 2) := by decide +kernel
theorem dX11_count_105 : decode cX11_count 105 = .ok (.ireturn, 1) := by decide +kernel
theorem dX11_tape_0 : decode cX11_tape 0 = .ok (.iload_n 1, 1) := by decide +kernel
theorem dX11_tape_1 : decode cX11_tape 1 = .ok (.invokestatic 217, 3) := by decide +kernel
theorem dX11_tape_4 : decode cX11_tape 4 = .ok (.ifCond .ne 5, 3) := by decide +kernel
theorem dX11_tape_7 : decode cX11_tape 7 = .ok (.iconst (-1), 1) := by decide +kernel
theorem dX11_tape_8 : decode cX11_tape 8 = .ok (.ireturn, 1) := by decide +kernel
theorem dX11_tape_9 : decode cX11_tape 9 = .ok (.iload_n 2, 1) := by decide +kernel
theorem dX11_tape_10 : decode cX11_tape 10 = .ok (.iconst (-1), 1) := by decide +kernel
theorem dX11_tape_11 : decode cX11_tape 11 = .ok (.if_icmp .eq 20, 3) := by decide +kernel
theorem dX11_tape_14 : decode cX11_tape 14 = .ok (.iload_n 2, 1) := by decide +kernel
theorem dX11_tape_15 : decode cX11_tape 15 = .ok (.iconst 4, 1) := by decide +kernel
theorem dX11_tape_16 : decode cX11_tape 16 = .ok (.invokestatic 57, 3) := by decide +kernel
theorem dX11_tape_19 : decode cX11_tape 19 = .ok (.ifCond .eq 9, 3) := by decide +kernel
theorem dX11_tape_22 : decode cX11_tape 22 = .ok (.iload_n 3, 1) := by decide +kernel
theorem dX11_tape_23 : decode cX11_tape 23 = .ok (.bipush 60, 2) := by decide +kernel
theorem dX11_tape_25 : decode cX11_tape 25 = .ok (.if_icmp .le 6, 3) := by decide +kernel
theorem dX11_tape_28 : decode cX11_tape 28 = .ok (.bipush (-2), 2) := by decide +kernel
theorem dX11_tape_30 : decode cX11_tape 30 = .ok (.ireturn, 1) := by decide +kernel
theorem dX11_tape_31 : decode cX11_tape 31 = .ok (.iload_n 2, 1) := by decide +kernel
theorem dX11_tape_32 : decode cX11_tape 32 = .ok (.iconst (-1), 1) := by decide +kernel
theorem dX11_tape_33 : decode cX11_tape 33 = .ok (.if_icmp .eq 10, 3) := by decide +kernel
theorem dX11_tape_36 : decode cX11_tape 36 = .ok (.iload_n 3, 1) := by decide +kernel
theorem dX11_tape_37 : decode cX11_tape 37 = .ok (.ifCond .ge 6, 3) := by decide +kernel
theorem dX11_tape_40 : decode cX11_tape 40 = .ok (.bipush (-14), 2) := by decide +kernel
theorem dX11_tape_42 : decode cX11_tape 42 = .ok (.ireturn, 1) := by decide +kernel
theorem dX11_tape_43 : decode cX11_tape 43 = .ok (.aload_n 0, 1) := by decide +kernel
theorem dX11_tape_44 : decode cX11_tape 44 = .ok (.getfield 45, 3) := by decide +kernel
theorem dX11_tape_47 : decode cX11_tape 47 = .ok (.iload_n 1, 1) := by decide +kernel
theorem dX11_tape_48 : decode cX11_tape 48 = .ok (.iload_n 2, 1) := by decide +kernel
theorem dX11_tape_49 : decode cX11_tape 49 = .ok (.iastore, 1) := by decide +kernel
theorem dX11_tape_50 : decode cX11_tape 50 = .ok (.aload_n 0, 1) := by decide +kernel
theorem dX11_tape_51 : decode cX11_tape 51 = .ok (.getfield 48, 3) := by decide +kernel
theorem dX11_tape_54 : decode cX11_tape 54 = .ok (.iload_n 1, 1) := by decide +kernel
theorem dX11_tape_55 : decode cX11_tape 55 = .ok (.iload_n 2, 1) := by decide +kernel
theorem dX11_tape_56 : decode cX11_tape 56 = .ok (.iconst (-1), 1) := by decide +kernel
theorem dX11_tape_57 : decode cX11_tape 57 = .ok (.if_icmp .ne 7, 3) := by decide +kernel
theorem dX11_tape_60 : decode cX11_tape 60 = .ok (.iconst 0, 1) := by decide +kernel
theorem dX11_tape_61 : decode cX11_tape 61 = .ok (.goto 4, 3) := by decide +kernel
theorem dX11_tape_64 : decode cX11_tape 64 = .ok (.iload_n 3, 1) := by decide +kernel
theorem dX11_tape_65 : decode cX11_tape 65 = .ok (.iastore, 1) := by decide +kernel
theorem dX11_tape_66 : decode cX11_tape 66 = .ok (.iconst 0, 1) := by decide +kernel
theorem dX11_tape_67 : decode cX11_tape 67 = .ok (.istore 4, 2) := by decide +kernel
theorem dX11_tape_69 : decode cX11_tape 69 = .ok (.iload 4, 2) := by decide +kernel
theorem dX11_tape_71 : decode cX11_tape 71 = .ok (.bipush 60, 2) := by decide +kernel
theorem dX11_tape_73 : decode cX11_tape 73 = .ok (.if_icmp .ge 19, 3) := by decide +kernel
theorem dX11_tape_76 : decode cX11_tape 76 = .ok (.aload_n 0, 1) := by decide +kernel
theorem dX11_tape_77 : decode cX11_tape 77 = .ok (.getfield 53, 3) := by decide +kernel
theorem dX11_tape_80 : decode cX11_tape 80 = .ok (.iload_n 1, 1) := by decide +kernel
theorem dX11_tape_81 : decode cX11_tape 81 = .ok (.aaload, 1) := by decide +kernel
theorem dX11_tape_82 : decode cX11_tape 82 = .ok (.iload 4, 2) := by decide +kernel
theorem dX11_tape_84 : decode cX11_tape 84 = .ok (.lconst 0, 1) := by decide +kernel
theorem dX11_tape_85 : decode cX11_tape 85 = .ok (.lastore, 1) := by decide +kernel
theorem dX11_tape_86 : decode cX11_tape 86 = .ok (.iinc 4 1, 3) := by decide +kernel
theorem dX11_tape_89 : decode cX11_tape 89 = .ok (.goto (-20), 3) := by decide +kernel
theorem dX11_tape_92 : decode cX11_tape 92 = .ok (.iconst 1, 1) := by decide +kernel
theorem dX11_tape_93 : decode cX11_tape 93 = .ok (.ireturn, 1) := by decide +kernel
theorem dX11_item_0 : decode cX11_item 0 = .ok (.iload_n 1, 1) := by decide +kernel
theorem dX11_item_1 : decode cX11_item 1 = .ok (.invokestatic 217, 3) := by decide +kernel
theorem dX11_item_4 : decode cX11_item 4 = .ok (.ifCond .ne 5, 3) := by decide +kernel
theorem dX11_item_7 : decode cX11_item 7 = .ok (.iconst (-1), 1) := by decide +kernel
theorem dX11_item_8 : decode cX11_item 8 = .ok (.ireturn, 1) := by decide +kernel
theorem dX11_item_9 : decode cX11_item 9 = .ok (.aload_n 0, 1) := by decide +kernel
theorem dX11_item_10 : decode cX11_item 10 = .ok (.getfield 45, 3) := by decide +kernel
theorem dX11_item_13 : decode cX11_item 13 = .ok (.iload_n 1, 1) := by decide +kernel
theorem dX11_item_14 : decode cX11_item 14 = .ok (.iaload, 1) := by decide +kernel
theorem dX11_item_15 : decode cX11_item 15 = .ok (.ifCond .ge 6, 3) := by decide +kernel
theorem dX11_item_18 : decode cX11_item 18 = .ok (.bipush (-11), 2) := by decide +kernel
theorem dX11_item_20 : decode cX11_item 20 = .ok (.ireturn, 1) := by decide +kernel
theorem dX11_item_21 : decode cX11_item 21 = .ok (.aload_n 0, 1) := by decide +kernel
theorem dX11_item_22 : decode cX11_item 22 = .ok (.iload_n 1, 1) := by decide +kernel
theorem dX11_item_23 : decode cX11_item 23 = .ok (.iload_n 2, 1) := by decide +kernel
theorem dX11_item_24 : decode cX11_item 24 = .ok (.invokevirtual 220, 3) := by decide +kernel
theorem dX11_item_27 : decode cX11_item 27 = .ok (.ifCond .ne 6, 3) := by decide +kernel
theorem dX11_item_30 : decode cX11_item 30 = .ok (.bipush (-13), 2) := by decide +kernel
theorem dX11_item_32 : decode cX11_item 32 = .ok (.ireturn, 1) := by decide +kernel
theorem dX11_item_33 : decode cX11_item 33 = .ok (.aload_n 0, 1) := by decide +kernel
theorem dX11_item_34 : decode cX11_item 34 = .ok (.getfield 53, 3) := by decide +kernel
theorem dX11_item_37 : decode cX11_item 37 = .ok (.iload_n 1, 1) := by decide +kernel
theorem dX11_item_38 : decode cX11_item 38 = .ok (.aaload, 1) := by decide +kernel
theorem dX11_item_39 : decode cX11_item 39 = .ok (.iload_n 2, 1) := by decide +kernel
theorem dX11_item_40 : decode cX11_item 40 = .ok (.aload_n 0, 1) := by decide +kernel
theorem dX11_item_41 : decode cX11_item 41 = .ok (.getfield 45, 3) := by decide +kernel
theorem dX11_item_44 : decode cX11_item 44 = .ok (.iload_n 1, 1) := by decide +kernel
theorem dX11_item_45 : decode cX11_item 45 = .ok (.iaload, 1) := by decide +kernel
theorem dX11_item_46 : decode cX11_item 46 = .ok (.lload_n 3, 1) := by decide +kernel
theorem dX11_item_47 : decode cX11_item 47 = .ok (.invokestatic 256, 3) := by decide +kernel
theorem dX11_item_50 : decode cX11_item 50 = .ok (.lastore, 1) := by decide +kernel
theorem dX11_item_51 : decode cX11_item 51 = .ok (.iconst 1, 1) := by decide +kernel
theorem dX11_item_52 : decode cX11_item 52 = .ok (.ireturn, 1) := by decide +kernel
theorem dX11_read_0 : decode cX11_read 0 = .ok (.iload_n 1, 1) := by decide +kernel
theorem dX11_read_1 : decode cX11_read 1 = .ok (.invokestatic 217, 3) := by decide +kernel
theorem dX11_read_4 : decode cX11_read 4 = .ok (.ifCond .eq 23, 3) := by decide +kernel
theorem dX11_read_7 : decode cX11_read 7 = .ok (.aload_n 0, 1) := by decide +kernel
theorem dX11_read_8 : decode cX11_read 8 = .ok (.iload_n 1, 1) := by decide +kernel
theorem dX11_read_9 : decode cX11_read 9 = .ok (.iload_n 2, 1) := by decide +kernel
theorem dX11_read_10 : decode cX11_read 10 = .ok (.invokevirtual 220, 3) := by decide +kernel
theorem dX11_read_13 : decode cX11_read 13 = .ok (.ifCond .eq 14, 3) := by decide +kernel
theorem dX11_read_16 : decode cX11_read 16 = .ok (.aload_n 0, 1) := by decide +kernel
theorem dX11_read_17 : decode cX11_read 17 = .ok (.getfield 53, 3) := by decide +kernel
theorem dX11_read_20 : decode cX11_read 20 = .ok (.iload_n 1, 1) := by decide +kernel
theorem dX11_read_21 : decode cX11_read 21 = .ok (.aaload, 1) := by decide +kernel
theorem dX11_read_22 : decode cX11_read 22 = .ok (.iload_n 2, 1) := by decide +kernel
theorem dX11_read_23 : decode cX11_read 23 = .ok (.laload, 1) := by decide +kernel
theorem dX11_read_24 : decode cX11_read 24 = .ok (.goto 6, 3) := by decide +kernel
theorem dX11_read_27 : decode cX11_read 27 = .ok (.ldc2_w 191, 3) := by decide +kernel
theorem dX11_read_30 : decode cX11_read 30 = .ok (.lreturn, 1) := by decide +kernel
theorem dX11_shift_0 : decode cX11_shift 0 = .ok (.iload_n 1, 1) := by decide +kernel
theorem dX11_shift_1 : decode cX11_shift 1 = .ok (.invokestatic 217, 3) := by decide +kernel
theorem dX11_shift_4 : decode cX11_shift 4 = .ok (.ifCond .eq 10, 3) := by decide +kernel
theorem dX11_shift_7 : decode cX11_shift 7 = .ok (.iload_n 3, 1) := by decide +kernel
theorem dX11_shift_8 : decode cX11_shift 8 = .ok (.invokestatic 217, 3) := by decide +kernel
theorem dX11_shift_11 : decode cX11_shift 11 = .ok (.ifCond .ne 5, 3) := by decide +kernel
theorem dX11_shift_14 : decode cX11_shift 14 = .ok (.iconst (-1), 1) := by decide +kernel
theorem dX11_shift_15 : decode cX11_shift 15 = .ok (.ireturn, 1) := by decide +kernel
theorem dX11_shift_16 : decode cX11_shift 16 = .ok (.aload_n 0, 1) := by decide +kernel
theorem dX11_shift_17 : decode cX11_shift 17 = .ok (.getfield 45, 3) := by decide +kernel
theorem dX11_shift_20 : decode cX11_shift 20 = .ok (.iload_n 1, 1) := by decide +kernel
theorem dX11_shift_21 : decode cX11_shift 21 = .ok (.iaload, 1) := by decide +kernel
theorem dX11_shift_22 : decode cX11_shift 22 = .ok (.ifCond .lt 12, 3) := by decide +kernel
theorem dX11_shift_25 : decode cX11_shift 25 = .ok (.aload_n 0, 1) := by decide +kernel
theorem dX11_shift_26 : decode cX11_shift 26 = .ok (.getfield 45, 3) := by decide +kernel
theorem dX11_shift_29 : decode cX11_shift 29 = .ok (.iload_n 3, 1) := by decide +kernel
theorem dX11_shift_30 : decode cX11_shift 30 = .ok (.iaload, 1) := by decide +kernel
theorem dX11_shift_31 : decode cX11_shift 31 = .ok (.ifCond .ge 6, 3) := by decide +kernel
theorem dX11_shift_34 : decode cX11_shift 34 = .ok (.bipush (-11), 2) := by decide +kernel
theorem dX11_shift_36 : decode cX11_shift 36 = .ok (.ireturn, 1) := by decide +kernel
theorem dX11_shift_37 : decode cX11_shift 37 = .ok (.aload_n 0, 1) := by decide +kernel
theorem dX11_shift_38 : decode cX11_shift 38 = .ok (.getfield 45, 3) := by decide +kernel
theorem dX11_shift_41 : decode cX11_shift 41 = .ok (.iload_n 1, 1) := by decide +kernel
theorem dX11_shift_42 : decode cX11_shift 42 = .ok (.iaload, 1) := by decide +kernel
theorem dX11_shift_43 : decode cX11_shift 43 = .ok (.aload_n 0, 1) := by decide +kernel
theorem dX11_shift_44 : decode cX11_shift 44 = .ok (.getfield 45, 3) := by decide +kernel
theorem dX11_shift_47 : decode cX11_shift 47 = .ok (.iload_n 3, 1) := by decide +kernel
theorem dX11_shift_48 : decode cX11_shift 48 = .ok (.iaload, 1) := by decide +kernel
theorem dX11_shift_49 : decode cX11_shift 49 = .ok (.if_icmp .eq 6, 3) := by decide +kernel
theorem dX11_shift_52 : decode cX11_shift 52 = .ok (.bipush (-12), 2) := by decide +kernel
theorem dX11_shift_54 : decode cX11_shift 54 = .ok (.ireturn, 1) := by decide +kernel
theorem dX11_shift_55 : decode cX11_shift 55 = .ok (.iload 5, 2) := by decide +kernel
theorem dX11_shift_57 : decode cX11_shift 57 = .ok (.ifCond .lt 39, 3) := by decide +kernel
theorem dX11_shift_60 : decode cX11_shift 60 = .ok (.iload_n 2, 1) := by decide +kernel
theorem dX11_shift_61 : decode cX11_shift 61 = .ok (.ifCond .lt 35, 3) := by decide +kernel
theorem dX11_shift_64 : decode cX11_shift 64 = .ok (.iload 4, 2) := by decide +kernel
theorem dX11_shift_66 : decode cX11_shift 66 = .ok (.ifCond .lt 30, 3) := by decide +kernel
theorem dX11_shift_69 : decode cX11_shift 69 = .ok (.iload_n 2, 1) := by decide +kernel
theorem dX11_shift_70 : decode cX11_shift 70 = .ok (.aload_n 0, 1) := by decide +kernel
theorem dX11_shift_71 : decode cX11_shift 71 = .ok (.getfield 48, 3) := by decide +kernel
theorem dX11_shift_74 : decode cX11_shift 74 = .ok (.iload_n 1, 1) := by decide +kernel
theorem dX11_shift_75 : decode cX11_shift 75 = .ok (.iaload, 1) := by decide +kernel
theorem dX11_shift_76 : decode cX11_shift 76 = .ok (.iload 5, 2) := by decide +kernel
theorem dX11_shift_78 : decode cX11_shift 78 = .ok (.isub, 1) := by decide +kernel
theorem dX11_shift_79 : decode cX11_shift 79 = .ok (.if_icmp .gt 17, 3) := by decide +kernel
theorem dX11_shift_82 : decode cX11_shift 82 = .ok (.iload 4, 2) := by decide +kernel
theorem dX11_shift_84 : decode cX11_shift 84 = .ok (.aload_n 0, 1) := by decide +kernel
theorem dX11_shift_85 : decode cX11_shift 85 = .ok (.getfield 48, 3) := by decide +kernel
theorem dX11_shift_88 : decode cX11_shift 88 = .ok (.iload_n 3, 1) := by decide +kernel
theorem dX11_shift_89 : decode cX11_shift 89 = .ok (.iaload, 1) := by decide +kernel
theorem dX11_shift_90 : decode cX11_shift 90 = .ok (.iload 5, 2) := by decide +kernel
theorem dX11_shift_92 : decode cX11_shift 92 = .ok (.isub, 1) := by decide +kernel
theorem dX11_shift_93 : decode cX11_shift 93 = .ok (.if_icmp .le 6, 3) := by decide +kernel
theorem dX11_shift_96 : decode cX11_shift 96 = .ok (.bipush (-13), 2) := by decide +kernel
theorem dX11_shift_98 : decode cX11_shift 98 = .ok (.ireturn, 1) := by decide +kernel
theorem dX11_shift_99 : decode cX11_shift 99 = .ok (.aload_n 0, 1) := by decide +kernel
theorem dX11_shift_100 : decode cX11_shift 100 = .ok (.getfield 53, 3) := by decide +kernel
theorem dX11_shift_103 : decode cX11_shift 103 = .ok (.iload_n 1, 1) := by decide +kernel
theorem dX11_shift_104 : decode cX11_shift 104 = .ok (.aaload, 1) := by decide +kernel
theorem dX11_shift_105 : decode cX11_shift 105 = .ok (.iload_n 2, 1) := by decide +kernel
theorem dX11_shift_106 : decode cX11_shift 106 = .ok (.aload_n 0, 1) := by decide +kernel
theorem dX11_shift_107 : decode cX11_shift 107 = .ok (.getfield 53, 3) := by decide +kernel
theorem dX11_shift_110 : decode cX11_shift 110 = .ok (.iload_n 3, 1) := by decide +kernel
theorem dX11_shift_111 : decode cX11_shift 111 = .ok (.aaload, 1) := by decide +kernel
theorem dX11_shift_112 : decode cX11_shift 112 = .ok (.iload 4, 2) := by decide +kernel
theorem dX11_shift_114 : decode cX11_shift 114 = .ok (.iload 5, 2) := by decide +kernel
theorem dX11_shift_116 : decode cX11_shift 116 = .ok (.invokestatic 260, 3) := by decide +kernel
theorem dX11_shift_119 : decode cX11_shift 119 = .ok (.iload 5, 2) := by decide +kernel
theorem dX11_shift_121 : decode cX11_shift 121 = .ok (.ireturn, 1) := by decide +kernel
theorem dX11_isUpTo_0 : decode cX11_isUpTo 0 = .ok (.iload_n 0, 1) := by decide +kernel
theorem dX11_isUpTo_1 : decode cX11_isUpTo 1 = .ok (.ifCond .lt 12, 3) := by decide +kernel
theorem dX11_isUpTo_4 : decode cX11_isUpTo 4 = .ok (.iload_n 0, 1) := by decide +kernel
theorem dX11_isUpTo_5 : decode cX11_isUpTo 5 = .ok (.iload_n 1, 1) := by decide +kernel
theorem dX11_isUpTo_6 : decode cX11_isUpTo 6 = .ok (.if_icmp .gt 7, 3) := by decide +kernel
theorem dX11_isUpTo_9 : decode cX11_isUpTo 9 = .ok (.iconst 1, 1) := by decide +kernel
theorem dX11_isUpTo_10 : decode cX11_isUpTo 10 = .ok (.goto 4, 3) := by decide +kernel
theorem dX11_isUpTo_13 : decode cX11_isUpTo 13 = .ok (.iconst 0, 1) := by decide +kernel
theorem dX11_isUpTo_14 : decode cX11_isUpTo 14 = .ok (.ireturn, 1) := by decide +kernel
theorem dX11_isPigeon_0 : decode cX11_isPigeon 0 = .ok (.iload_n 1, 1) := by decide +kernel
theorem dX11_isPigeon_1 : decode cX11_isPigeon 1 = .ok (.ifCond .lt 18, 3) := by decide +kernel
theorem dX11_isPigeon_4 : decode cX11_isPigeon 4 = .ok (.iload_n 1, 1) := by decide +kernel
theorem dX11_isPigeon_5 : decode cX11_isPigeon 5 = .ok (.aload_n 0, 1) := by decide +kernel
theorem dX11_isPigeon_6 : decode cX11_isPigeon 6 = .ok (.getfield 12, 3) := by decide +kernel
theorem dX11_isPigeon_9 : decode cX11_isPigeon 9 = .ok (.getfield 61, 3) := by decide +kernel
theorem dX11_isPigeon_12 : decode cX11_isPigeon 12 = .ok (.if_icmp .ge 7, 3) := by decide +kernel
theorem dX11_isPigeon_15 : decode cX11_isPigeon 15 = .ok (.iconst 1, 1) := by decide +kernel
theorem dX11_isPigeon_16 : decode cX11_isPigeon 16 = .ok (.goto 4, 3) := by decide +kernel
theorem dX11_isPigeon_19 : decode cX11_isPigeon 19 = .ok (.iconst 0, 1) := by decide +kernel
theorem dX11_isPigeon_20 : decode cX11_isPigeon 20 = .ok (.ireturn, 1) := by decide +kernel
theorem dX11_isWord_0 : decode cX11_isWord 0 = .ok (.iload_n 0, 1) := by decide +kernel
theorem dX11_isWord_1 : decode cX11_isWord 1 = .ok (.ifCond .lt 13, 3) := by decide +kernel
theorem dX11_isWord_4 : decode cX11_isWord 4 = .ok (.iload_n 0, 1) := by decide +kernel
theorem dX11_isWord_5 : decode cX11_isWord 5 = .ok (.bipush 12, 2) := by decide +kernel
theorem dX11_isWord_7 : decode cX11_isWord 7 = .ok (.if_icmp .ge 7, 3) := by decide +kernel
theorem dX11_isWord_10 : decode cX11_isWord 10 = .ok (.iconst 1, 1) := by decide +kernel
theorem dX11_isWord_11 : decode cX11_isWord 11 = .ok (.goto 4, 3) := by decide +kernel
theorem dX11_isWord_14 : decode cX11_isWord 14 = .ok (.iconst 0, 1) := by decide +kernel
theorem dX11_isWord_15 : decode cX11_isWord 15 = .ok (.ireturn, 1) := by decide +kernel
theorem dX11_isTape_0 : decode cX11_isTape 0 = .ok (.iload_n 0, 1) := by decide +kernel
theorem dX11_isTape_1 : decode cX11_isTape 1 = .ok (.ifCond .lt 13, 3) := by decide +kernel
theorem dX11_isTape_4 : decode cX11_isTape 4 = .ok (.iload_n 0, 1) := by decide +kernel
theorem dX11_isTape_5 : decode cX11_isTape 5 = .ok (.bipush 6, 2) := by decide +kernel
theorem dX11_isTape_7 : decode cX11_isTape 7 = .ok (.if_icmp .ge 7, 3) := by decide +kernel
theorem dX11_isTape_10 : decode cX11_isTape 10 = .ok (.iconst 1, 1) := by decide +kernel
theorem dX11_isTape_11 : decode cX11_isTape 11 = .ok (.goto 4, 3) := by decide +kernel
theorem dX11_isTape_14 : decode cX11_isTape 14 = .ok (.iconst 0, 1) := by decide +kernel
theorem dX11_isTape_15 : decode cX11_isTape 15 = .ok (.ireturn, 1) := by decide +kernel
theorem dX11_isPlace_0 : decode cX11_isPlace 0 = .ok (.iload_n 2, 1) := by decide +kernel
theorem dX11_isPlace_1 : decode cX11_isPlace 1 = .ok (.ifCond .lt 17, 3) := by decide +kernel
theorem dX11_isPlace_4 : decode cX11_isPlace 4 = .ok (.iload_n 2, 1) := by decide +kernel
theorem dX11_isPlace_5 : decode cX11_isPlace 5 = .ok (.aload_n 0, 1) := by decide +kernel
theorem dX11_isPlace_6 : decode cX11_isPlace 6 = .ok (.getfield 48, 3) := by decide +kernel
theorem dX11_isPlace_9 : decode cX11_isPlace 9 = .ok (.iload_n 1, 1) := by decide +kernel
theorem dX11_isPlace_10 : decode cX11_isPlace 10 = .ok (.iaload, 1) := by decide +kernel
theorem dX11_isPlace_11 : decode cX11_isPlace 11 = .ok (.if_icmp .ge 7, 3) := by decide +kernel
theorem dX11_isPlace_14 : decode cX11_isPlace 14 = .ok (.iconst 1, 1) := by decide +kernel
theorem dX11_isPlace_15 : decode cX11_isPlace 15 = .ok (.goto 4, 3) := by decide +kernel
theorem dX11_isPlace_18 : decode cX11_isPlace 18 = .ok (.iconst 0, 1) := by decide +kernel
theorem dX11_isPlace_19 : decode cX11_isPlace 19 = .ok (.ireturn, 1) := by decide +kernel
theorem dX11_cut_0 : decode cX11_cut 0 = .ok (.iload_n 0, 1) := by decide +kernel
theorem dX11_cut_1 : decode cX11_cut 1 = .ok (.tableswitch 47 0 3 #[31, 36, 41, 45], 31) := by decide +kernel
theorem dX11_cut_32 : decode cX11_cut 32 = .ok (.lload_n 1, 1) := by decide +kernel
theorem dX11_cut_33 : decode cX11_cut 33 = .ok (.l2i, 1) := by decide +kernel
theorem dX11_cut_34 : decode cX11_cut 34 = .ok (.i2b, 1) := by decide +kernel
theorem dX11_cut_35 : decode cX11_cut 35 = .ok (.i2l, 1) := by decide +kernel
theorem dX11_cut_36 : decode cX11_cut 36 = .ok (.lreturn, 1) := by decide +kernel
theorem dX11_cut_37 : decode cX11_cut 37 = .ok (.lload_n 1, 1) := by decide +kernel
theorem dX11_cut_38 : decode cX11_cut 38 = .ok (.l2i, 1) := by decide +kernel
theorem dX11_cut_39 : decode cX11_cut 39 = .ok (.i2s, 1) := by decide +kernel
theorem dX11_cut_40 : decode cX11_cut 40 = .ok (.i2l, 1) := by decide +kernel
theorem dX11_cut_41 : decode cX11_cut 41 = .ok (.lreturn, 1) := by decide +kernel
theorem dX11_cut_42 : decode cX11_cut 42 = .ok (.lload_n 1, 1) := by decide +kernel
theorem dX11_cut_43 : decode cX11_cut 43 = .ok (.l2i, 1) := by decide +kernel
theorem dX11_cut_44 : decode cX11_cut 44 = .ok (.i2l, 1) := by decide +kernel
theorem dX11_cut_45 : decode cX11_cut 45 = .ok (.lreturn, 1) := by decide +kernel
theorem dX11_cut_46 : decode cX11_cut 46 = .ok (.lload_n 1, 1) := by decide +kernel
theorem dX11_cut_47 : decode cX11_cut 47 = .ok (.lreturn, 1) := by decide +kernel
theorem dX11_cut_48 : decode cX11_cut 48 = .ok (.lload_n 1, 1) := by decide +kernel
theorem dX11_cut_49 : decode cX11_cut 49 = .ok (.lconst 0, 1) := by decide +kernel
theorem dX11_cut_50 : decode cX11_cut 50 = .ok (.lcmp, 1) := by decide +kernel
theorem dX11_cut_51 : decode cX11_cut 51 = .ok (.ifCond .eq 7, 3) := by decide +kernel
theorem dX11_cut_54 : decode cX11_cut 54 = .ok (.lconst 1, 1) := by decide +kernel
theorem dX11_cut_55 : decode cX11_cut 55 = .ok (.goto 4, 3) := by decide +kernel
theorem dX11_cut_58 : decode cX11_cut 58 = .ok (.lconst 0, 1) := by decide +kernel
theorem dX11_cut_59 : decode cX11_cut 59 = .ok (.lreturn, 1) := by decide +kernel
theorem dX11_isUnder_0 : decode cX11_isUnder 0 = .ok (.iload_n 1, 1) := by decide +kernel
theorem dX11_isUnder_1 : decode cX11_isUnder 1 = .ok (.tableswitch 66 0 5 #[39, 41, 46, 51, 56, 61], 39) := by decide +kernel
theorem dX11_isUnder_40 : decode cX11_isUnder 40 = .ok (.iconst 1, 1) := by decide +kernel
theorem dX11_isUnder_41 : decode cX11_isUnder 41 = .ok (.ireturn, 1) := by decide +kernel
theorem dX11_isUnder_42 : decode cX11_isUnder 42 = .ok (.aload_n 0, 1) := by decide +kernel
theorem dX11_isUnder_43 : decode cX11_isUnder 43 = .ok (.instanceof 266, 3) := by decide +kernel
theorem dX11_isUnder_46 : decode cX11_isUnder 46 = .ok (.ireturn, 1) := by decide +kernel
theorem dX11_isUnder_47 : decode cX11_isUnder 47 = .ok (.aload_n 0, 1) := by decide +kernel
theorem dX11_isUnder_48 : decode cX11_isUnder 48 = .ok (.instanceof 268, 3) := by decide +kernel
theorem dX11_isUnder_51 : decode cX11_isUnder 51 = .ok (.ireturn, 1) := by decide +kernel
theorem dX11_isUnder_52 : decode cX11_isUnder 52 = .ok (.aload_n 0, 1) := by decide +kernel
theorem dX11_isUnder_53 : decode cX11_isUnder 53 = .ok (.instanceof 270, 3) := by decide +kernel
theorem dX11_isUnder_56 : decode cX11_isUnder 56 = .ok (.ireturn, 1) := by decide +kernel
theorem dX11_isUnder_57 : decode cX11_isUnder 57 = .ok (.aload_n 0, 1) := by decide +kernel
theorem dX11_isUnder_58 : decode cX11_isUnder 58 = .ok (.instanceof 272, 3) := by decide +kernel
theorem dX11_isUnder_61 : decode cX11_isUnder 61 = .ok (.ireturn, 1) := by decide +kernel
theorem dX11_isUnder_62 : decode cX11_isUnder 62 = .ok (.aload_n 0, 1) := by decide +kernel
theorem dX11_isUnder_63 : decode cX11_isUnder 63 = .ok (.instanceof 274, 3) := by decide +kernel
theorem dX11_isUnder_66 : decode cX11_isUnder 66 = .ok (.ireturn, 1) := by decide +kernel
theorem dX11_isUnder_67 : decode cX11_isUnder 67 = .ok (.aload_n 0, 1) := by decide +kernel
theorem dX11_isUnder_68 : decode cX11_isUnder 68 = .ok (.instanceof 276, 3) := by decide +kernel
theorem dX11_isUnder_71 : decode cX11_isUnder 71 = .ok (.ireturn, 1) := by decide +kernel
theorem dX11_lowestTerm_0 : decode cX11_lowestTerm 0 = .ok (.iconst 1, 1) := by decide +kernel
theorem dX11_lowestTerm_1 : decode cX11_lowestTerm 1 = .ok (.istore_n 3, 1) := by decide +kernel
theorem dX11_lowestTerm_2 : decode cX11_lowestTerm 2 = .ok (.iconst 2, 1) := by decide +kernel
theorem dX11_lowestTerm_3 : decode cX11_lowestTerm 3 = .ok (.istore 4, 2) := by decide +kernel
theorem dX11_lowestTerm_5 : decode cX11_lowestTerm 5 = .ok (.iload 4, 2) := by decide +kernel
theorem dX11_lowestTerm_7 : decode cX11_lowestTerm 7 = .ok (.iload_n 1, 1) := by decide +kernel
theorem dX11_lowestTerm_8 : decode cX11_lowestTerm 8 = .ok (.if_icmp .gt 26, 3) := by decide +kernel
theorem dX11_lowestTerm_11 : decode cX11_lowestTerm 11 = .ok (.iload_n 0, 1) := by decide +kernel
theorem dX11_lowestTerm_12 : decode cX11_lowestTerm 12 = .ok (.iload 4, 2) := by decide +kernel
theorem dX11_lowestTerm_14 : decode cX11_lowestTerm 14 = .ok (.irem, 1) := by decide +kernel
theorem dX11_lowestTerm_15 : decode cX11_lowestTerm 15 = .ok (.ifCond .ne 13, 3) := by decide +kernel
theorem dX11_lowestTerm_18 : decode cX11_lowestTerm 18 = .ok (.iload_n 1, 1) := by decide +kernel
theorem dX11_lowestTerm_19 : decode cX11_lowestTerm 19 = .ok (.iload 4, 2) := by decide +kernel
theorem dX11_lowestTerm_21 : decode cX11_lowestTerm 21 = .ok (.irem, 1) := by decide +kernel
theorem dX11_lowestTerm_22 : decode cX11_lowestTerm 22 = .ok (.ifCond .ne 6, 3) := by decide +kernel
theorem dX11_lowestTerm_25 : decode cX11_lowestTerm 25 = .ok (.iload 4, 2) := by decide +kernel
theorem dX11_lowestTerm_27 : decode cX11_lowestTerm 27 = .ok (.istore_n 3, 1) := by decide +kernel
theorem dX11_lowestTerm_28 : decode cX11_lowestTerm 28 = .ok (.iinc 4 1, 3) := by decide +kernel
theorem dX11_lowestTerm_31 : decode cX11_lowestTerm 31 = .ok (.goto (-26), 3) := by decide +kernel
theorem dX11_lowestTerm_34 : decode cX11_lowestTerm 34 = .ok (.iload_n 2, 1) := by decide +kernel
theorem dX11_lowestTerm_35 : decode cX11_lowestTerm 35 = .ok (.ifCond .ne 7, 3) := by decide +kernel
theorem dX11_lowestTerm_38 : decode cX11_lowestTerm 38 = .ok (.iload_n 0, 1) := by decide +kernel
theorem dX11_lowestTerm_39 : decode cX11_lowestTerm 39 = .ok (.goto 4, 3) := by decide +kernel
theorem dX11_lowestTerm_42 : decode cX11_lowestTerm 42 = .ok (.iload_n 1, 1) := by decide +kernel
theorem dX11_lowestTerm_43 : decode cX11_lowestTerm 43 = .ok (.iload_n 3, 1) := by decide +kernel
theorem dX11_lowestTerm_44 : decode cX11_lowestTerm 44 = .ok (.idiv, 1) := by decide +kernel
theorem dX11_lowestTerm_45 : decode cX11_lowestTerm 45 = .ok (.i2l, 1) := by decide +kernel
theorem dX11_lowestTerm_46 : decode cX11_lowestTerm 46 = .ok (.lreturn, 1) := by decide +kernel
theorem dX11_willing_0 : decode cX11_willing 0 = .ok (.iconst 0, 1) := by decide +kernel
theorem dX11_willing_1 : decode cX11_willing 1 = .ok (.istore_n 1, 1) := by decide +kernel
theorem dX11_willing_2 : decode cX11_willing 2 = .ok (.iconst 0, 1) := by decide +kernel
theorem dX11_willing_3 : decode cX11_willing 3 = .ok (.istore_n 2, 1) := by decide +kernel
theorem dX11_willing_4 : decode cX11_willing 4 = .ok (.iload_n 2, 1) := by decide +kernel
theorem dX11_willing_5 : decode cX11_willing 5 = .ok (.aload_n 0, 1) := by decide +kernel
theorem dX11_willing_6 : decode cX11_willing 6 = .ok (.getfield 12, 3) := by decide +kernel
theorem dX11_willing_9 : decode cX11_willing 9 = .ok (.getfield 61, 3) := by decide +kernel
theorem dX11_willing_12 : decode cX11_willing 12 = .ok (.if_icmp .ge 26, 3) := by decide +kernel
theorem dX11_willing_15 : decode cX11_willing 15 = .ok (.aload_n 0, 1) := by decide +kernel
theorem dX11_willing_16 : decode cX11_willing 16 = .ok (.getfield 12, 3) := by decide +kernel
theorem dX11_willing_19 : decode cX11_willing 19 = .ok (.iload_n 2, 1) := by decide +kernel
theorem dX11_willing_20 : decode cX11_willing 20 = .ok (.invokevirtual 88, 3) := by decide +kernel
theorem dX11_willing_23 : decode cX11_willing 23 = .ok (.ifCond .eq 9, 3) := by decide +kernel
theorem dX11_willing_26 : decode cX11_willing 26 = .ok (.iload_n 1, 1) := by decide +kernel
theorem dX11_willing_27 : decode cX11_willing 27 = .ok (.iconst 1, 1) := by decide +kernel
theorem dX11_willing_28 : decode cX11_willing 28 = .ok (.iload_n 2, 1) := by decide +kernel
theorem dX11_willing_29 : decode cX11_willing 29 = .ok (.ishl, 1) := by decide +kernel
theorem dX11_willing_30 : decode cX11_willing 30 = .ok (.ior, 1) := by decide +kernel
theorem dX11_willing_31 : decode cX11_willing 31 = .ok (.istore_n 1, 1) := by decide +kernel
theorem dX11_willing_32 : decode cX11_willing 32 = .ok (.iinc 2 1, 3) := by decide +kernel
theorem dX11_willing_35 : decode cX11_willing 35 = .ok (.goto (-31), 3) := by decide +kernel
theorem dX11_willing_38 : decode cX11_willing 38 = .ok (.iload_n 1, 1) := by decide +kernel
theorem dX11_willing_39 : decode cX11_willing 39 = .ok (.ireturn, 1) := by decide +kernel
theorem dX11_broughtBy_0 : decode cX11_broughtBy 0 = .ok (.aload_n 0, 1) := by decide +kernel
theorem dX11_broughtBy_1 : decode cX11_broughtBy 1 = .ok (.getfield 12, 3) := by decide +kernel
theorem dX11_broughtBy_4 : decode cX11_broughtBy 4 = .ok (.getfield 136, 3) := by decide +kernel
theorem dX11_broughtBy_7 : decode cX11_broughtBy 7 = .ok (.istore_n 2, 1) := by decide +kernel
theorem dX11_broughtBy_8 : decode cX11_broughtBy 8 = .ok (.iconst 0, 1) := by decide +kernel
theorem dX11_broughtBy_9 : decode cX11_broughtBy 9 = .ok (.istore_n 3, 1) := by decide +kernel
theorem dX11_broughtBy_10 : decode cX11_broughtBy 10 = .ok (.iload_n 3, 1) := by decide +kernel
theorem dX11_broughtBy_11 : decode cX11_broughtBy 11 = .ok (.aload_n 0, 1) := by decide +kernel
theorem dX11_broughtBy_12 : decode cX11_broughtBy 12 = .ok (.getfield 12, 3) := by decide +kernel
theorem dX11_broughtBy_15 : decode cX11_broughtBy 15 = .ok (.getfield 61, 3) := by decide +kernel
theorem dX11_broughtBy_18 : decode cX11_broughtBy 18 = .ok (.if_icmp .ge 36, 3) := by decide +kernel
theorem dX11_broughtBy_21 : decode cX11_broughtBy 21 = .ok (.iload_n 1, 1) := by decide +kernel
theorem dX11_broughtBy_22 : decode cX11_broughtBy 22 = .ok (.iload_n 3, 1) := by decide +kernel
theorem dX11_broughtBy_23 : decode cX11_broughtBy 23 = .ok (.ishr, 1) := by decide +kernel
theorem dX11_broughtBy_24 : decode cX11_broughtBy 24 = .ok (.iconst 1, 1) := by decide +kernel
theorem dX11_broughtBy_25 : decode cX11_broughtBy 25 = .ok (.iand, 1) := by decide +kernel
theorem dX11_broughtBy_26 : decode cX11_broughtBy 26 = .ok (.ifCond .eq 22, 3) := by decide +kernel
theorem dX11_broughtBy_29 : decode cX11_broughtBy 29 = .ok (.iload_n 2, 1) := by decide +kernel
theorem dX11_broughtBy_30 : decode cX11_broughtBy 30 = .ok (.aload_n 0, 1) := by decide +kernel
theorem dX11_broughtBy_31 : decode cX11_broughtBy 31 = .ok (.getfield 12, 3) := by decide +kernel
theorem dX11_broughtBy_34 : decode cX11_broughtBy 34 = .ok (.aload_n 0, 1) := by decide +kernel
theorem dX11_broughtBy_35 : decode cX11_broughtBy 35 = .ok (.getfield 12, 3) := by decide +kernel
theorem dX11_broughtBy_38 : decode cX11_broughtBy 38 = .ok (.getfield 79, 3) := by decide +kernel
theorem dX11_broughtBy_41 : decode cX11_broughtBy 41 = .ok (.iload_n 3, 1) := by decide +kernel
theorem dX11_broughtBy_42 : decode cX11_broughtBy 42 = .ok (.iaload, 1) := by decide +kernel
theorem dX11_broughtBy_43 : decode cX11_broughtBy 43 = .ok (.invokevirtual 165, 3) := by decide +kernel
theorem dX11_broughtBy_46 : decode cX11_broughtBy 46 = .ok (.ior, 1) := by decide +kernel
theorem dX11_broughtBy_47 : decode cX11_broughtBy 47 = .ok (.istore_n 2, 1) := by decide +kernel
theorem dX11_broughtBy_48 : decode cX11_broughtBy 48 = .ok (.iinc 3 1, 3) := by decide +kernel
theorem dX11_broughtBy_51 : decode cX11_broughtBy 51 = .ok (.goto (-41), 3) := by decide +kernel
theorem dX11_broughtBy_54 : decode cX11_broughtBy 54 = .ok (.iload_n 2, 1) := by decide +kernel
theorem dX11_broughtBy_55 : decode cX11_broughtBy 55 = .ok (.ireturn, 1) := by decide +kernel
theorem dX11_spareOf_0 : decode cX11_spareOf 0 = .ok (.aload_n 0, 1) := by decide +kernel
theorem dX11_spareOf_1 : decode cX11_spareOf 1 = .ok (.getfield 12, 3) := by decide +kernel
theorem dX11_spareOf_4 : decode cX11_spareOf 4 = .ok (.getfield 79, 3) := by decide +kernel
theorem dX11_spareOf_7 : decode cX11_spareOf 7 = .ok (.iload_n 1, 1) := by decide +kernel
theorem dX11_spareOf_8 : decode cX11_spareOf 8 = .ok (.iaload, 1) := by decide +kernel
theorem dX11_spareOf_9 : decode cX11_spareOf 9 = .ok (.istore_n 2, 1) := by decide +kernel
theorem dX11_spareOf_10 : decode cX11_spareOf 10 = .ok (.bipush (-5), 2) := by decide +kernel
theorem dX11_spareOf_12 : decode cX11_spareOf 12 = .ok (.istore_n 3, 1) := by decide +kernel
theorem dX11_spareOf_13 : decode cX11_spareOf 13 = .ok (.aload_n 0, 1) := by decide +kernel
theorem dX11_spareOf_14 : decode cX11_spareOf 14 = .ok (.getfield 12, 3) := by decide +kernel
theorem dX11_spareOf_17 : decode cX11_spareOf 17 = .ok (.iload_n 1, 1) := by decide +kernel
theorem dX11_spareOf_18 : decode cX11_spareOf 18 = .ok (.iload_n 2, 1) := by decide +kernel
theorem dX11_spareOf_19 : decode cX11_spareOf 19 = .ok (.invokevirtual 95, 3) := by decide +kernel
theorem dX11_spareOf_22 : decode cX11_spareOf 22 = .ok (.istore 4, 2) := by decide +kernel
theorem dX11_spareOf_24 : decode cX11_spareOf 24 = .ok (.iconst 0, 1) := by decide +kernel
theorem dX11_spareOf_25 : decode cX11_spareOf 25 = .ok (.istore 5, 2) := by decide +kernel
theorem dX11_spareOf_27 : decode cX11_spareOf 27 = .ok (.iload 5, 2) := by decide +kernel
theorem dX11_spareOf_29 : decode cX11_spareOf 29 = .ok (.bipush 12, 2) := by decide +kernel
theorem dX11_spareOf_31 : decode cX11_spareOf 31 = .ok (.if_icmp .ge 50, 3) := by decide +kernel
theorem dX11_spareOf_34 : decode cX11_spareOf 34 = .ok (.iload_n 2, 1) := by decide +kernel
theorem dX11_spareOf_35 : decode cX11_spareOf 35 = .ok (.iload 5, 2) := by decide +kernel
theorem dX11_spareOf_37 : decode cX11_spareOf 37 = .ok (.ishr, 1) := by decide +kernel
theorem dX11_spareOf_38 : decode cX11_spareOf 38 = .ok (.iconst 1, 1) := by decide +kernel
theorem dX11_spareOf_39 : decode cX11_spareOf 39 = .ok (.iand, 1) := by decide +kernel
theorem dX11_spareOf_40 : decode cX11_spareOf 40 = .ok (.ifCond .eq 35, 3) := by decide +kernel
theorem dX11_spareOf_43 : decode cX11_spareOf 43 = .ok (.aload_n 0, 1) := by decide +kernel
theorem dX11_spareOf_44 : decode cX11_spareOf 44 = .ok (.getfield 12, 3) := by decide +kernel
theorem dX11_spareOf_47 : decode cX11_spareOf 47 = .ok (.iload_n 1, 1) := by decide +kernel
theorem dX11_spareOf_48 : decode cX11_spareOf 48 = .ok (.iload_n 2, 1) := by decide +kernel
theorem dX11_spareOf_49 : decode cX11_spareOf 49 = .ok (.iconst 1, 1) := by decide +kernel
theorem dX11_spareOf_50 : decode cX11_spareOf 50 = .ok (.iload 5, 2) := by decide +kernel
theorem dX11_spareOf_52 : decode cX11_spareOf 52 = .ok (.ishl, 1) := by decide +kernel
theorem dX11_spareOf_53 : decode cX11_spareOf 53 = .ok (.iconst (-1), 1) := by decide +kernel
theorem dX11_spareOf_54 : decode cX11_spareOf 54 = .ok (.ixor, 1) := by decide +kernel
theorem dX11_spareOf_55 : decode cX11_spareOf 55 = .ok (.iand, 1) := by decide +kernel
theorem dX11_spareOf_56 : decode cX11_spareOf 56 = .ok (.invokevirtual 95, 3) := by decide +kernel
theorem dX11_spareOf_59 : decode cX11_spareOf 59 = .ok (.istore 6, 2) := by decide +kernel
theorem dX11_spareOf_61 : decode cX11_spareOf 61 = .ok (.iload 6, 2) := by decide +kernel
theorem dX11_spareOf_63 : decode cX11_spareOf 63 = .ok (.iload 4, 2) := by decide +kernel
theorem dX11_spareOf_65 : decode cX11_spareOf 65 = .ok (.if_icmp .le 10, 3) := by decide +kernel
theorem dX11_spareOf_68 : decode cX11_spareOf 68 = .ok (.iload 5, 2) := by decide +kernel
theorem dX11_spareOf_70 : decode cX11_spareOf 70 = .ok (.istore_n 3, 1) := by decide +kernel
theorem dX11_spareOf_71 : decode cX11_spareOf 71 = .ok (.iload 6, 2) := by decide +kernel
theorem dX11_spareOf_73 : decode cX11_spareOf 73 = .ok (.istore 4, 2) := by decide +kernel
theorem dX11_spareOf_75 : decode cX11_spareOf 75 = .ok (.iinc 5 1, 3) := by decide +kernel
theorem dX11_spareOf_78 : decode cX11_spareOf 78 = .ok (.goto (-51), 3) := by decide +kernel
theorem dX11_spareOf_81 : decode cX11_spareOf 81 = .ok (.iload_n 3, 1) := by decide +kernel
theorem dX11_spareOf_82 : decode cX11_spareOf 82 = .ok (.ireturn, 1) := by decide +kernel
theorem dX11_comesOf_0 : decode cX11_comesOf 0 = .ok (.aload_n 0, 1) := by decide +kernel
theorem dX11_comesOf_1 : decode cX11_comesOf 1 = .ok (.getfield 18, 3) := by decide +kernel
theorem dX11_comesOf_4 : decode cX11_comesOf 4 = .ok (.aload_n 0, 1) := by decide +kernel
theorem dX11_comesOf_5 : decode cX11_comesOf 5 = .ok (.getfield 12, 3) := by decide +kernel
theorem dX11_comesOf_8 : decode cX11_comesOf 8 = .ok (.invokevirtual 152, 3) := by decide +kernel
theorem dX11_comesOf_11 : decode cX11_comesOf 11 = .ok (.iconst 0, 1) := by decide +kernel
theorem dX11_comesOf_12 : decode cX11_comesOf 12 = .ok (.istore_n 2, 1) := by decide +kernel
theorem dX11_comesOf_13 : decode cX11_comesOf 13 = .ok (.iload_n 2, 1) := by decide +kernel
theorem dX11_comesOf_14 : decode cX11_comesOf 14 = .ok (.bipush 60, 2) := by decide +kernel
theorem dX11_comesOf_16 : decode cX11_comesOf 16 = .ok (.if_icmp .gt 33, 3) := by decide +kernel
theorem dX11_comesOf_19 : decode cX11_comesOf 19 = .ok (.aload_n 0, 1) := by decide +kernel
theorem dX11_comesOf_20 : decode cX11_comesOf 20 = .ok (.getfield 18, 3) := by decide +kernel
theorem dX11_comesOf_23 : decode cX11_comesOf 23 = .ok (.getfield 136, 3) := by decide +kernel
theorem dX11_comesOf_26 : decode cX11_comesOf 26 = .ok (.iload_n 1, 1) := by decide +kernel
theorem dX11_comesOf_27 : decode cX11_comesOf 27 = .ok (.ishr, 1) := by decide +kernel
theorem dX11_comesOf_28 : decode cX11_comesOf 28 = .ok (.iconst 1, 1) := by decide +kernel
theorem dX11_comesOf_29 : decode cX11_comesOf 29 = .ok (.iand, 1) := by decide +kernel
theorem dX11_comesOf_30 : decode cX11_comesOf 30 = .ok (.ifCond .eq 5, 3) := by decide +kernel
theorem dX11_comesOf_33 : decode cX11_comesOf 33 = .ok (.iload_n 2, 1) := by decide +kernel
theorem dX11_comesOf_34 : decode cX11_comesOf 34 = .ok (.ireturn, 1) := by decide +kernel
theorem dX11_comesOf_35 : decode cX11_comesOf 35 = .ok (.aload_n 0, 1) := by decide +kernel
theorem dX11_comesOf_36 : decode cX11_comesOf 36 = .ok (.getfield 18, 3) := by decide +kernel
theorem dX11_comesOf_39 : decode cX11_comesOf 39 = .ok (.iconst 1, 1) := by decide +kernel
theorem dX11_comesOf_40 : decode cX11_comesOf 40 = .ok (.invokevirtual 143, 3) := by decide +kernel
theorem dX11_comesOf_43 : decode cX11_comesOf 43 = .ok (.iinc 2 1, 3) := by decide +kernel
theorem dX11_comesOf_46 : decode cX11_comesOf 46 = .ok (.goto (-33), 3) := by decide +kernel
theorem dX11_comesOf_49 : decode cX11_comesOf 49 = .ok (.bipush (-5), 2) := by decide +kernel
theorem dX11_comesOf_51 : decode cX11_comesOf 51 = .ok (.ireturn, 1) := by decide +kernel
theorem dX11_cheersOf_0 : decode cX11_cheersOf 0 = .ok (.aload_n 0, 1) := by decide +kernel
theorem dX11_cheersOf_1 : decode cX11_cheersOf 1 = .ok (.getfield 18, 3) := by decide +kernel
theorem dX11_cheersOf_4 : decode cX11_cheersOf 4 = .ok (.aload_n 0, 1) := by decide +kernel
theorem dX11_cheersOf_5 : decode cX11_cheersOf 5 = .ok (.getfield 12, 3) := by decide +kernel
theorem dX11_cheersOf_8 : decode cX11_cheersOf 8 = .ok (.invokevirtual 152, 3) := by decide +kernel
theorem dX11_cheersOf_11 : decode cX11_cheersOf 11 = .ok (.iconst 0, 1) := by decide +kernel
theorem dX11_cheersOf_12 : decode cX11_cheersOf 12 = .ok (.istore_n 2, 1) := by decide +kernel
theorem dX11_cheersOf_13 : decode cX11_cheersOf 13 = .ok (.iconst 0, 1) := by decide +kernel
theorem dX11_cheersOf_14 : decode cX11_cheersOf 14 = .ok (.istore_n 3, 1) := by decide +kernel
theorem dX11_cheersOf_15 : decode cX11_cheersOf 15 = .ok (.iload_n 3, 1) := by decide +kernel
theorem dX11_cheersOf_16 : decode cX11_cheersOf 16 = .ok (.bipush 9, 2) := by decide +kernel
theorem dX11_cheersOf_18 : decode cX11_cheersOf 18 = .ok (.if_icmp .gt 35, 3) := by decide +kernel
theorem dX11_cheersOf_21 : decode cX11_cheersOf 21 = .ok (.aload_n 0, 1) := by decide +kernel
theorem dX11_cheersOf_22 : decode cX11_cheersOf 22 = .ok (.getfield 18, 3) := by decide +kernel
theorem dX11_cheersOf_25 : decode cX11_cheersOf 25 = .ok (.getfield 101, 3) := by decide +kernel
theorem dX11_cheersOf_28 : decode cX11_cheersOf 28 = .ok (.iload_n 1, 1) := by decide +kernel
theorem dX11_cheersOf_29 : decode cX11_cheersOf 29 = .ok (.iload_n 3, 1) := by decide +kernel
theorem dX11_cheersOf_30 : decode cX11_cheersOf 30 = .ok (.iastore, 1) := by decide +kernel
theorem dX11_cheersOf_31 : decode cX11_cheersOf 31 = .ok (.aload_n 0, 1) := by decide +kernel
theorem dX11_cheersOf_32 : decode cX11_cheersOf 32 = .ok (.getfield 18, 3) := by decide +kernel
theorem dX11_cheersOf_35 : decode cX11_cheersOf 35 = .ok (.invokevirtual 187, 3) := by decide +kernel
theorem dX11_cheersOf_38 : decode cX11_cheersOf 38 = .ok (.ifCond .eq 9, 3) := by decide +kernel
theorem dX11_cheersOf_41 : decode cX11_cheersOf 41 = .ok (.iload_n 2, 1) := by decide +kernel
theorem dX11_cheersOf_42 : decode cX11_cheersOf 42 = .ok (.iconst 1, 1) := by decide +kernel
theorem dX11_cheersOf_43 : decode cX11_cheersOf 43 = .ok (.iload_n 3, 1) := by decide +kernel
theorem dX11_cheersOf_44 : decode cX11_cheersOf 44 = .ok (.ishl, 1) := by decide +kernel
theorem dX11_cheersOf_45 : decode cX11_cheersOf 45 = .ok (.ior, 1) := by decide +kernel
theorem dX11_cheersOf_46 : decode cX11_cheersOf 46 = .ok (.istore_n 2, 1) := by decide +kernel
theorem dX11_cheersOf_47 : decode cX11_cheersOf 47 = .ok (.iinc 3 1, 3) := by decide +kernel
theorem dX11_cheersOf_50 : decode cX11_cheersOf 50 = .ok (.goto (-35), 3) := by decide +kernel
theorem dX11_cheersOf_53 : decode cX11_cheersOf 53 = .ok (.iload_n 2, 1) := by decide +kernel
theorem dX11_cheersOf_54 : decode cX11_cheersOf 54 = .ok (.ireturn, 1) := by decide +kernel
