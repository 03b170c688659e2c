theorem d_DL_init_0 : decode b_DL_init 0 = .ok (.aload_n 0, 1) := by decide +kernel
theorem d_DL_init_1 : decode b_DL_init 1 = .ok (.invokespecial 1, 3) := by decide +kernel
theorem d_DL_init_4 : decode b_DL_init 4 = .ok (.aload_n 0, 1) := by decide +kernel
theorem d_DL_init_5 : decode b_DL_init 5 = .ok (.iconst 1, 1) := by decide +kernel
theorem d_DL_init_6 : decode b_DL_init 6 = .ok (.iload_n 1, 1) := by decide +kernel
theorem d_DL_init_7 : decode b_DL_init 7 = .ok (.sipush 10000, 3) := by decide +kernel
theorem d_DL_init_10 : decode b_DL_init 10 = .ok (.invokestatic 9, 3) := by decide +kernel
theorem d_DL_init_13 : decode b_DL_init 13 = .ok (.invokestatic 15, 3) := by decide +kernel
theorem d_DL_init_16 : decode b_DL_init 16 = .ok (.putfield 18, 3) := by decide +kernel
theorem d_DL_init_19 : decode b_DL_init 19 = .ok (.aload_n 0, 1) := by decide +kernel
theorem d_DL_init_20 : decode b_DL_init 20 = .ok (.new 22, 3) := by decide +kernel
theorem d_DL_init_23 : decode b_DL_init 23 = .ok (.dup, 1) := by decide +kernel
theorem d_DL_init_24 : decode b_DL_init 24 = .ok (.aload_n 0, 1) := by decide +kernel
theorem d_DL_init_25 : decode b_DL_init 25 = .ok (.getfield 18, 3) := by decide +kernel
theorem d_DL_init_28 : decode b_DL_init 28 = .ok (.invokespecial 24, 3) := by decide +kernel
theorem d_DL_init_31 : decode b_DL_init 31 = .ok (.putfield 27, 3) := by decide +kernel
theorem d_DL_init_34 : decode b_DL_init 34 = .ok (.aload_n 0, 1) := by decide +kernel
theorem d_DL_init_35 : decode b_DL_init 35 = .ok (.new 31, 3) := by decide +kernel
theorem d_DL_init_38 : decode b_DL_init 38 = .ok (.dup, 1) := by decide +kernel
theorem d_DL_init_39 : decode b_DL_init 39 = .ok (.aload_n 0, 1) := by decide +kernel
theorem d_DL_init_40 : decode b_DL_init 40 = .ok (.getfield 18, 3) := by decide +kernel
theorem d_DL_init_43 : decode b_DL_init 43 = .ok (.invokespecial 33, 3) := by decide +kernel
theorem d_DL_init_46 : decode b_DL_init 46 = .ok (.putfield 34, 3) := by decide +kernel
theorem d_DL_init_49 : decode b_DL_init 49 = .ok (.return_, 1) := by decide +kernel
theorem d_Coder_init_0 : decode b_Coder_init 0 = .ok (.aload_n 0, 1) := by decide +kernel
theorem d_Coder_init_1 : decode b_Coder_init 1 = .ok (.invokespecial 3, 3) := by decide +kernel
theorem d_Coder_init_4 : decode b_Coder_init 4 = .ok (.aload_n 0, 1) := by decide +kernel
theorem d_Coder_init_5 : decode b_Coder_init 5 = .ok (.new 9, 3) := by decide +kernel
theorem d_Coder_init_8 : decode b_Coder_init 8 = .ok (.dup, 1) := by decide +kernel
theorem d_Coder_init_9 : decode b_Coder_init 9 = .ok (.invokespecial 11, 3) := by decide +kernel
theorem d_Coder_init_12 : decode b_Coder_init 12 = .ok (.putfield 12, 3) := by decide +kernel
theorem d_Coder_init_15 : decode b_Coder_init 15 = .ok (.aload_n 0, 1) := by decide +kernel
theorem d_Coder_init_16 : decode b_Coder_init 16 = .ok (.iload_n 1, 1) := by decide +kernel
theorem d_Coder_init_17 : decode b_Coder_init 17 = .ok (.putfield 18, 3) := by decide +kernel
theorem d_Coder_init_20 : decode b_Coder_init 20 = .ok (.aload_n 0, 1) := by decide +kernel
theorem d_Coder_init_21 : decode b_Coder_init 21 = .ok (.new 22, 3) := by decide +kernel
theorem d_Coder_init_24 : decode b_Coder_init 24 = .ok (.dup, 1) := by decide +kernel
theorem d_Coder_init_25 : decode b_Coder_init 25 = .ok (.iload_n 1, 1) := by decide +kernel
theorem d_Coder_init_26 : decode b_Coder_init 26 = .ok (.invokespecial 24, 3) := by decide +kernel
theorem d_Coder_init_29 : decode b_Coder_init 29 = .ok (.putfield 27, 3) := by decide +kernel
theorem d_Coder_init_32 : decode b_Coder_init 32 = .ok (.aload_n 0, 1) := by decide +kernel
theorem d_Coder_init_33 : decode b_Coder_init 33 = .ok (.new 22, 3) := by decide +kernel
theorem d_Coder_init_36 : decode b_Coder_init 36 = .ok (.dup, 1) := by decide +kernel
theorem d_Coder_init_37 : decode b_Coder_init 37 = .ok (.iload_n 1, 1) := by decide +kernel
theorem d_Coder_init_38 : decode b_Coder_init 38 = .ok (.invokespecial 24, 3) := by decide +kernel
theorem d_Coder_init_41 : decode b_Coder_init 41 = .ok (.putfield 31, 3) := by decide +kernel
theorem d_Coder_init_44 : decode b_Coder_init 44 = .ok (.aload_n 0, 1) := by decide +kernel
theorem d_Coder_init_45 : decode b_Coder_init 45 = .ok (.new 34, 3) := by decide +kernel
theorem d_Coder_init_48 : decode b_Coder_init 48 = .ok (.dup, 1) := by decide +kernel
theorem d_Coder_init_49 : decode b_Coder_init 49 = .ok (.aload_n 0, 1) := by decide +kernel
theorem d_Coder_init_50 : decode b_Coder_init 50 = .ok (.getfield 31, 3) := by decide +kernel
theorem d_Coder_init_53 : decode b_Coder_init 53 = .ok (.invokespecial 36, 3) := by decide +kernel
theorem d_Coder_init_56 : decode b_Coder_init 56 = .ok (.putfield 39, 3) := by decide +kernel
theorem d_Coder_init_59 : decode b_Coder_init 59 = .ok (.return_, 1) := by decide +kernel
theorem d_Reader_init_0 : decode b_Reader_init 0 = .ok (.aload_n 0, 1) := by decide +kernel
theorem d_Reader_init_1 : decode b_Reader_init 1 = .ok (.invokespecial 1, 3) := by decide +kernel
theorem d_Reader_init_4 : decode b_Reader_init 4 = .ok (.aload_n 0, 1) := by decide +kernel
theorem d_Reader_init_5 : decode b_Reader_init 5 = .ok (.new 7, 3) := by decide +kernel
theorem d_Reader_init_8 : decode b_Reader_init 8 = .ok (.dup, 1) := by decide +kernel
theorem d_Reader_init_9 : decode b_Reader_init 9 = .ok (.invokespecial 9, 3) := by decide +kernel
theorem d_Reader_init_12 : decode b_Reader_init 12 = .ok (.putfield 10, 3) := by decide +kernel
theorem d_Reader_init_15 : decode b_Reader_init 15 = .ok (.aload_n 0, 1) := by decide +kernel
theorem d_Reader_init_16 : decode b_Reader_init 16 = .ok (.new 16, 3) := by decide +kernel
theorem d_Reader_init_19 : decode b_Reader_init 19 = .ok (.dup, 1) := by decide +kernel
theorem d_Reader_init_20 : decode b_Reader_init 20 = .ok (.invokespecial 18, 3) := by decide +kernel
theorem d_Reader_init_23 : decode b_Reader_init 23 = .ok (.putfield 19, 3) := by decide +kernel
theorem d_Reader_init_26 : decode b_Reader_init 26 = .ok (.aload_n 0, 1) := by decide +kernel
theorem d_Reader_init_27 : decode b_Reader_init 27 = .ok (.iload_n 1, 1) := by decide +kernel
theorem d_Reader_init_28 : decode b_Reader_init 28 = .ok (.putfield 23, 3) := by decide +kernel
theorem d_Reader_init_31 : decode b_Reader_init 31 = .ok (.aload_n 0, 1) := by decide +kernel
theorem d_Reader_init_32 : decode b_Reader_init 32 = .ok (.new 27, 3) := by decide +kernel
theorem d_Reader_init_35 : decode b_Reader_init 35 = .ok (.dup, 1) := by decide +kernel
theorem d_Reader_init_36 : decode b_Reader_init 36 = .ok (.iload_n 1, 1) := by decide +kernel
theorem d_Reader_init_37 : decode b_Reader_init 37 = .ok (.invokespecial 29, 3) := by decide +kernel
theorem d_Reader_init_40 : decode b_Reader_init 40 = .ok (.putfield 32, 3) := by decide +kernel
theorem d_Reader_init_43 : decode b_Reader_init 43 = .ok (.aload_n 0, 1) := by decide +kernel
theorem d_Reader_init_44 : decode b_Reader_init 44 = .ok (.new 27, 3) := by decide +kernel
theorem d_Reader_init_47 : decode b_Reader_init 47 = .ok (.dup, 1) := by decide +kernel
theorem d_Reader_init_48 : decode b_Reader_init 48 = .ok (.iload_n 1, 1) := by decide +kernel
theorem d_Reader_init_49 : decode b_Reader_init 49 = .ok (.invokespecial 29, 3) := by decide +kernel
theorem d_Reader_init_52 : decode b_Reader_init 52 = .ok (.putfield 36, 3) := by decide +kernel
theorem d_Reader_init_55 : decode b_Reader_init 55 = .ok (.aload_n 0, 1) := by decide +kernel
theorem d_Reader_init_56 : decode b_Reader_init 56 = .ok (.new 39, 3) := by decide +kernel
theorem d_Reader_init_59 : decode b_Reader_init 59 = .ok (.dup, 1) := by decide +kernel
theorem d_Reader_init_60 : decode b_Reader_init 60 = .ok (.aload_n 0, 1) := by decide +kernel
theorem d_Reader_init_61 : decode b_Reader_init 61 = .ok (.getfield 32, 3) := by decide +kernel
theorem d_Reader_init_64 : decode b_Reader_init 64 = .ok (.invokespecial 41, 3) := by decide +kernel
theorem d_Reader_init_67 : decode b_Reader_init 67 = .ok (.putfield 44, 3) := by decide +kernel
theorem d_Reader_init_70 : decode b_Reader_init 70 = .ok (.aload_n 0, 1) := by decide +kernel
theorem d_Reader_init_71 : decode b_Reader_init 71 = .ok (.iconst 1, 1) := by decide +kernel
theorem d_Reader_init_72 : decode b_Reader_init 72 = .ok (.putfield 48, 3) := by decide +kernel
theorem d_Reader_init_75 : decode b_Reader_init 75 = .ok (.return_, 1) := by decide +kernel
theorem d_DL_paint_0 : decode b_DL_paint 0 = .ok (.iload_n 2, 1) := by decide +kernel
theorem d_DL_paint_1 : decode b_DL_paint 1 = .ok (.iconst 1, 1) := by decide +kernel
theorem d_DL_paint_2 : decode b_DL_paint 2 = .ok (.if_icmp .lt 25, 3) := by decide +kernel
theorem d_DL_paint_5 : decode b_DL_paint 5 = .ok (.iload_n 1, 1) := by decide +kernel
theorem d_DL_paint_6 : decode b_DL_paint 6 = .ok (.ifCond .lt 21, 3) := by decide +kernel
theorem d_DL_paint_9 : decode b_DL_paint 9 = .ok (.iload_n 1, 1) := by decide +kernel
theorem d_DL_paint_10 : decode b_DL_paint 10 = .ok (.aload_n 0, 1) := by decide +kernel
theorem d_DL_paint_11 : decode b_DL_paint 11 = .ok (.getfield 18, 3) := by decide +kernel
theorem d_DL_paint_14 : decode b_DL_paint 14 = .ok (.if_icmp .ge 13, 3) := by decide +kernel
theorem d_DL_paint_17 : decode b_DL_paint 17 = .ok (.iload_n 2, 1) := by decide +kernel
theorem d_DL_paint_18 : decode b_DL_paint 18 = .ok (.aload_n 0, 1) := by decide +kernel
theorem d_DL_paint_19 : decode b_DL_paint 19 = .ok (.getfield 18, 3) := by decide +kernel
theorem d_DL_paint_22 : decode b_DL_paint 22 = .ok (.iload_n 1, 1) := by decide +kernel
theorem d_DL_paint_23 : decode b_DL_paint 23 = .ok (.isub, 1) := by decide +kernel
theorem d_DL_paint_24 : decode b_DL_paint 24 = .ok (.if_icmp .le 5, 3) := by decide +kernel
theorem d_DL_paint_27 : decode b_DL_paint 27 = .ok (.iconst 0, 1) := by decide +kernel
theorem d_DL_paint_28 : decode b_DL_paint 28 = .ok (.ireturn, 1) := by decide +kernel
theorem d_DL_paint_29 : decode b_DL_paint 29 = .ok (.aload_n 0, 1) := by decide +kernel
theorem d_DL_paint_30 : decode b_DL_paint 30 = .ok (.getfield 27, 3) := by decide +kernel
theorem d_DL_paint_33 : decode b_DL_paint 33 = .ok (.getfield 38, 3) := by decide +kernel
theorem d_DL_paint_36 : decode b_DL_paint 36 = .ok (.iload_n 1, 1) := by decide +kernel
theorem d_DL_paint_37 : decode b_DL_paint 37 = .ok (.iload_n 1, 1) := by decide +kernel
theorem d_DL_paint_38 : decode b_DL_paint 38 = .ok (.iload_n 2, 1) := by decide +kernel
theorem d_DL_paint_39 : decode b_DL_paint 39 = .ok (.iadd, 1) := by decide +kernel
theorem d_DL_paint_40 : decode b_DL_paint 40 = .ok (.iload_n 3, 1) := by decide +kernel
theorem d_DL_paint_41 : decode b_DL_paint 41 = .ok (.invokevirtual 42, 3) := by decide +kernel
theorem d_DL_paint_44 : decode b_DL_paint 44 = .ok (.iconst 1, 1) := by decide +kernel
theorem d_DL_paint_45 : decode b_DL_paint 45 = .ok (.ireturn, 1) := by decide +kernel
theorem d_DL_clear_0 : decode b_DL_clear 0 = .ok (.aload_n 0, 1) := by decide +kernel
theorem d_DL_clear_1 : decode b_DL_clear 1 = .ok (.getfield 27, 3) := by decide +kernel
theorem d_DL_clear_4 : decode b_DL_clear 4 = .ok (.invokevirtual 64, 3) := by decide +kernel
theorem d_DL_clear_7 : decode b_DL_clear 7 = .ok (.return_, 1) := by decide +kernel
theorem d_Coder_begin_0 : decode b_Coder_begin 0 = .ok (.aload_n 0, 1) := by decide +kernel
theorem d_Coder_begin_1 : decode b_Coder_begin 1 = .ok (.getfield 12, 3) := by decide +kernel
theorem d_Coder_begin_4 : decode b_Coder_begin 4 = .ok (.iconst 0, 1) := by decide +kernel
theorem d_Coder_begin_5 : decode b_Coder_begin 5 = .ok (.invokevirtual 43, 3) := by decide +kernel
theorem d_Coder_begin_8 : decode b_Coder_begin 8 = .ok (.aload_n 0, 1) := by decide +kernel
theorem d_Coder_begin_9 : decode b_Coder_begin 9 = .ok (.iconst 0, 1) := by decide +kernel
theorem d_Coder_begin_10 : decode b_Coder_begin 10 = .ok (.putfield 46, 3) := by decide +kernel
theorem d_Coder_begin_13 : decode b_Coder_begin 13 = .ok (.aload_n 0, 1) := by decide +kernel
theorem d_Coder_begin_14 : decode b_Coder_begin 14 = .ok (.getfield 27, 3) := by decide +kernel
theorem d_Coder_begin_17 : decode b_Coder_begin 17 = .ok (.invokevirtual 50, 3) := by decide +kernel
theorem d_Coder_begin_20 : decode b_Coder_begin 20 = .ok (.aload_n 0, 1) := by decide +kernel
theorem d_Coder_begin_21 : decode b_Coder_begin 21 = .ok (.getfield 31, 3) := by decide +kernel
theorem d_Coder_begin_24 : decode b_Coder_begin 24 = .ok (.invokevirtual 50, 3) := by decide +kernel
theorem d_Coder_begin_27 : decode b_Coder_begin 27 = .ok (.aload_n 0, 1) := by decide +kernel
theorem d_Coder_begin_28 : decode b_Coder_begin 28 = .ok (.iconst 0, 1) := by decide +kernel
theorem d_Coder_begin_29 : decode b_Coder_begin 29 = .ok (.putfield 53, 3) := by decide +kernel
theorem d_Coder_begin_32 : decode b_Coder_begin 32 = .ok (.aload_n 0, 1) := by decide +kernel
theorem d_Coder_begin_33 : decode b_Coder_begin 33 = .ok (.iconst 0, 1) := by decide +kernel
theorem d_Coder_begin_34 : decode b_Coder_begin 34 = .ok (.putfield 56, 3) := by decide +kernel
theorem d_Coder_begin_37 : decode b_Coder_begin 37 = .ok (.aload_n 0, 1) := by decide +kernel
theorem d_Coder_begin_38 : decode b_Coder_begin 38 = .ok (.iconst 0, 1) := by decide +kernel
theorem d_Coder_begin_39 : decode b_Coder_begin 39 = .ok (.putfield 59, 3) := by decide +kernel
theorem d_Coder_begin_42 : decode b_Coder_begin 42 = .ok (.aload_n 0, 1) := by decide +kernel
theorem d_Coder_begin_43 : decode b_Coder_begin 43 = .ok (.iconst 0, 1) := by decide +kernel
theorem d_Coder_begin_44 : decode b_Coder_begin 44 = .ok (.putfield 62, 3) := by decide +kernel
theorem d_Coder_begin_47 : decode b_Coder_begin 47 = .ok (.return_, 1) := by decide +kernel
theorem d_DL_out_0 : decode b_DL_out 0 = .ok (.aload_n 0, 1) := by decide +kernel
theorem d_DL_out_1 : decode b_DL_out 1 = .ok (.getfield 27, 3) := by decide +kernel
theorem d_DL_out_4 : decode b_DL_out 4 = .ok (.getfield 67, 3) := by decide +kernel
theorem d_DL_out_7 : decode b_DL_out 7 = .ok (.iload_n 1, 1) := by decide +kernel
theorem d_DL_out_8 : decode b_DL_out 8 = .ok (.invokevirtual 71, 3) := by decide +kernel
theorem d_DL_out_11 : decode b_DL_out 11 = .ok (.lreturn, 1) := by decide +kernel
theorem d_DL_give_0 : decode b_DL_give 0 = .ok (.iload_n 3, 1) := by decide +kernel
theorem d_DL_give_1 : decode b_DL_give 1 = .ok (.iconst 1, 1) := by decide +kernel
theorem d_DL_give_2 : decode b_DL_give 2 = .ok (.if_icmp .lt 31, 3) := by decide +kernel
theorem d_DL_give_5 : decode b_DL_give 5 = .ok (.iload_n 3, 1) := by decide +kernel
theorem d_DL_give_6 : decode b_DL_give 6 = .ok (.bipush 8, 2) := by decide +kernel
theorem d_DL_give_8 : decode b_DL_give 8 = .ok (.if_icmp .gt 25, 3) := by decide +kernel
theorem d_DL_give_11 : decode b_DL_give 11 = .ok (.aload_n 0, 1) := by decide +kernel
theorem d_DL_give_12 : decode b_DL_give 12 = .ok (.getfield 34, 3) := by decide +kernel
theorem d_DL_give_15 : decode b_DL_give 15 = .ok (.getfield 77, 3) := by decide +kernel
theorem d_DL_give_18 : decode b_DL_give 18 = .ok (.lload_n 1, 1) := by decide +kernel
theorem d_DL_give_19 : decode b_DL_give 19 = .ok (.bipush 8, 2) := by decide +kernel
theorem d_DL_give_21 : decode b_DL_give 21 = .ok (.iload_n 3, 1) := by decide +kernel
theorem d_DL_give_22 : decode b_DL_give 22 = .ok (.imul, 1) := by decide +kernel
theorem d_DL_give_23 : decode b_DL_give 23 = .ok (.invokevirtual 80, 3) := by decide +kernel
theorem d_DL_give_26 : decode b_DL_give 26 = .ok (.ifCond .eq 7, 3) := by decide +kernel
theorem d_DL_give_29 : decode b_DL_give 29 = .ok (.iconst 1, 1) := by decide +kernel
theorem d_DL_give_30 : decode b_DL_give 30 = .ok (.goto 4, 3) := by decide +kernel
theorem d_DL_give_33 : decode b_DL_give 33 = .ok (.iconst 0, 1) := by decide +kernel
theorem d_DL_give_34 : decode b_DL_give 34 = .ok (.ireturn, 1) := by decide +kernel
theorem d_DL_wipe_0 : decode b_DL_wipe 0 = .ok (.aload_n 0, 1) := by decide +kernel
theorem d_DL_wipe_1 : decode b_DL_wipe 1 = .ok (.getfield 34, 3) := by decide +kernel
theorem d_DL_wipe_4 : decode b_DL_wipe 4 = .ok (.getfield 77, 3) := by decide +kernel
theorem d_DL_wipe_7 : decode b_DL_wipe 7 = .ok (.iconst 0, 1) := by decide +kernel
theorem d_DL_wipe_8 : decode b_DL_wipe 8 = .ok (.invokevirtual 97, 3) := by decide +kernel
theorem d_DL_wipe_11 : decode b_DL_wipe 11 = .ok (.aload_n 0, 1) := by decide +kernel
theorem d_DL_wipe_12 : decode b_DL_wipe 12 = .ok (.getfield 34, 3) := by decide +kernel
theorem d_DL_wipe_15 : decode b_DL_wipe 15 = .ok (.invokevirtual 96, 3) := by decide +kernel
theorem d_DL_wipe_18 : decode b_DL_wipe 18 = .ok (.return_, 1) := by decide +kernel
theorem d_Reader_begin_0 : decode b_Reader_begin 0 = .ok (.aload_n 0, 1) := by decide +kernel
theorem d_Reader_begin_1 : decode b_Reader_begin 1 = .ok (.getfield 32, 3) := by decide +kernel
theorem d_Reader_begin_4 : decode b_Reader_begin 4 = .ok (.invokevirtual 51, 3) := by decide +kernel
theorem d_Reader_begin_7 : decode b_Reader_begin 7 = .ok (.aload_n 0, 1) := by decide +kernel
theorem d_Reader_begin_8 : decode b_Reader_begin 8 = .ok (.iconst 0, 1) := by decide +kernel
theorem d_Reader_begin_9 : decode b_Reader_begin 9 = .ok (.putfield 54, 3) := by decide +kernel
theorem d_Reader_begin_12 : decode b_Reader_begin 12 = .ok (.aload_n 0, 1) := by decide +kernel
theorem d_Reader_begin_13 : decode b_Reader_begin 13 = .ok (.iconst 0, 1) := by decide +kernel
theorem d_Reader_begin_14 : decode b_Reader_begin 14 = .ok (.putfield 57, 3) := by decide +kernel
theorem d_Reader_begin_17 : decode b_Reader_begin 17 = .ok (.aload_n 0, 1) := by decide +kernel
theorem d_Reader_begin_18 : decode b_Reader_begin 18 = .ok (.iconst 1, 1) := by decide +kernel
theorem d_Reader_begin_19 : decode b_Reader_begin 19 = .ok (.putfield 48, 3) := by decide +kernel
theorem d_Reader_begin_22 : decode b_Reader_begin 22 = .ok (.return_, 1) := by decide +kernel
theorem d_DL_rewind_0 : decode b_DL_rewind 0 = .ok (.aload_n 0, 1) := by decide +kernel
theorem d_DL_rewind_1 : decode b_DL_rewind 1 = .ok (.getfield 34, 3) := by decide +kernel
theorem d_DL_rewind_4 : decode b_DL_rewind 4 = .ok (.invokevirtual 96, 3) := by decide +kernel
theorem d_DL_rewind_7 : decode b_DL_rewind 7 = .ok (.return_, 1) := by decide +kernel
theorem d_DL_read_0 : decode b_DL_read 0 = .ok (.aload_n 0, 1) := by decide +kernel
theorem d_DL_read_1 : decode b_DL_read 1 = .ok (.getfield 34, 3) := by decide +kernel
theorem d_DL_read_4 : decode b_DL_read 4 = .ok (.invokevirtual 100, 3) := by decide +kernel
theorem d_DL_read_7 : decode b_DL_read 7 = .ok (.ireturn, 1) := by decide +kernel
theorem d_Reader_nextLine_0 : decode b_Reader_nextLine 0 = .ok (.aload_n 0, 1) := by decide +kernel
theorem d_Reader_nextLine_1 : decode b_Reader_nextLine 1 = .ok (.getfield 48, 3) := by decide +kernel
theorem d_Reader_nextLine_4 : decode b_Reader_nextLine 4 = .ok (.iconst 1, 1) := by decide +kernel
theorem d_Reader_nextLine_5 : decode b_Reader_nextLine 5 = .ok (.if_icmp .eq 8, 3) := by decide +kernel
theorem d_Reader_nextLine_8 : decode b_Reader_nextLine 8 = .ok (.aload_n 0, 1) := by decide +kernel
theorem d_Reader_nextLine_9 : decode b_Reader_nextLine 9 = .ok (.getfield 48, 3) := by decide +kernel
theorem d_Reader_nextLine_12 : decode b_Reader_nextLine 12 = .ok (.ireturn, 1) := by decide +kernel
theorem d_Reader_nextLine_13 : decode b_Reader_nextLine 13 = .ok (.aload_n 0, 1) := by decide +kernel
theorem d_Reader_nextLine_14 : decode b_Reader_nextLine 14 = .ok (.getfield 44, 3) := by decide +kernel
theorem d_Reader_nextLine_17 : decode b_Reader_nextLine 17 = .ok (.aload_n 0, 1) := by decide +kernel
theorem d_Reader_nextLine_18 : decode b_Reader_nextLine 18 = .ok (.getfield 32, 3) := by decide +kernel
theorem d_Reader_nextLine_21 : decode b_Reader_nextLine 21 = .ok (.invokevirtual 60, 3) := by decide +kernel
theorem d_Reader_nextLine_24 : decode b_Reader_nextLine 24 = .ok (.aload_n 0, 1) := by decide +kernel
theorem d_Reader_nextLine_25 : decode b_Reader_nextLine 25 = .ok (.aload_n 0, 1) := by decide +kernel
theorem d_Reader_nextLine_26 : decode b_Reader_nextLine 26 = .ok (.invokevirtual 63, 3) := by decide +kernel
theorem d_Reader_nextLine_29 : decode b_Reader_nextLine 29 = .ok (.putfield 48, 3) := by decide +kernel
theorem d_Reader_nextLine_32 : decode b_Reader_nextLine 32 = .ok (.aload_n 0, 1) := by decide +kernel
theorem d_Reader_nextLine_33 : decode b_Reader_nextLine 33 = .ok (.getfield 48, 3) := by decide +kernel
theorem d_Reader_nextLine_36 : decode b_Reader_nextLine 36 = .ok (.iconst 1, 1) := by decide +kernel
theorem d_Reader_nextLine_37 : decode b_Reader_nextLine 37 = .ok (.if_icmp .ne 38, 3) := by decide +kernel
theorem d_Reader_nextLine_40 : decode b_Reader_nextLine 40 = .ok (.aload_n 0, 1) := by decide +kernel
theorem d_Reader_nextLine_41 : decode b_Reader_nextLine 41 = .ok (.getfield 36, 3) := by decide +kernel
theorem d_Reader_nextLine_44 : decode b_Reader_nextLine 44 = .ok (.invokevirtual 67, 3) := by decide +kernel
theorem d_Reader_nextLine_47 : decode b_Reader_nextLine 47 = .ok (.aload_n 0, 1) := by decide +kernel
theorem d_Reader_nextLine_48 : decode b_Reader_nextLine 48 = .ok (.getfield 32, 3) := by decide +kernel
theorem d_Reader_nextLine_51 : decode b_Reader_nextLine 51 = .ok (.astore_n 1, 1) := by decide +kernel
theorem d_Reader_nextLine_52 : decode b_Reader_nextLine 52 = .ok (.aload_n 0, 1) := by decide +kernel
theorem d_Reader_nextLine_53 : decode b_Reader_nextLine 53 = .ok (.aload_n 0, 1) := by decide +kernel
theorem d_Reader_nextLine_54 : decode b_Reader_nextLine 54 = .ok (.getfield 36, 3) := by decide +kernel
theorem d_Reader_nextLine_57 : decode b_Reader_nextLine 57 = .ok (.putfield 32, 3) := by decide +kernel
theorem d_Reader_nextLine_60 : decode b_Reader_nextLine 60 = .ok (.aload_n 0, 1) := by decide +kernel
theorem d_Reader_nextLine_61 : decode b_Reader_nextLine 61 = .ok (.aload_n 1, 1) := by decide +kernel
theorem d_Reader_nextLine_62 : decode b_Reader_nextLine 62 = .ok (.putfield 36, 3) := by decide +kernel
theorem d_Reader_nextLine_65 : decode b_Reader_nextLine 65 = .ok (.aload_n 0, 1) := by decide +kernel
theorem d_Reader_nextLine_66 : decode b_Reader_nextLine 66 = .ok (.dup, 1) := by decide +kernel
theorem d_Reader_nextLine_67 : decode b_Reader_nextLine 67 = .ok (.getfield 54, 3) := by decide +kernel
theorem d_Reader_nextLine_70 : decode b_Reader_nextLine 70 = .ok (.iconst 1, 1) := by decide +kernel
theorem d_Reader_nextLine_71 : decode b_Reader_nextLine 71 = .ok (.iadd, 1) := by decide +kernel
theorem d_Reader_nextLine_72 : decode b_Reader_nextLine 72 = .ok (.putfield 54, 3) := by decide +kernel
theorem d_Reader_nextLine_75 : decode b_Reader_nextLine 75 = .ok (.aload_n 0, 1) := by decide +kernel
theorem d_Reader_nextLine_76 : decode b_Reader_nextLine 76 = .ok (.getfield 48, 3) := by decide +kernel
theorem d_Reader_nextLine_79 : decode b_Reader_nextLine 79 = .ok (.ireturn, 1) := by decide +kernel
theorem d_Reader_readSteps_0 : decode b_Reader_readSteps 0 = .ok (.aload_n 0, 1) := by decide +kernel
theorem d_Reader_readSteps_1 : decode b_Reader_readSteps 1 = .ok (.iconst 1, 1) := by decide +kernel
theorem d_Reader_readSteps_2 : decode b_Reader_readSteps 2 = .ok (.invokevirtual 70, 3) := by decide +kernel
theorem d_Reader_readSteps_5 : decode b_Reader_readSteps 5 = .ok (.istore_n 1, 1) := by decide +kernel
theorem d_Reader_readSteps_6 : decode b_Reader_readSteps 6 = .ok (.iload_n 1, 1) := by decide +kernel
theorem d_Reader_readSteps_7 : decode b_Reader_readSteps 7 = .ok (.bipush 9, 2) := by decide +kernel
theorem d_Reader_readSteps_9 : decode b_Reader_readSteps 9 = .ok (.if_icmp .ne 19, 3) := by decide +kernel
theorem d_Reader_readSteps_12 : decode b_Reader_readSteps 12 = .ok (.aload_n 0, 1) := by decide +kernel
theorem d_Reader_readSteps_13 : decode b_Reader_readSteps 13 = .ok (.iconst 2, 1) := by decide +kernel
theorem d_Reader_readSteps_14 : decode b_Reader_readSteps 14 = .ok (.invokevirtual 70, 3) := by decide +kernel
theorem d_Reader_readSteps_17 : decode b_Reader_readSteps 17 = .ok (.istore_n 2, 1) := by decide +kernel
theorem d_Reader_readSteps_18 : decode b_Reader_readSteps 18 = .ok (.iload_n 2, 1) := by decide +kernel
theorem d_Reader_readSteps_19 : decode b_Reader_readSteps 19 = .ok (.ifCond .ge 7, 3) := by decide +kernel
theorem d_Reader_readSteps_22 : decode b_Reader_readSteps 22 = .ok (.iload_n 2, 1) := by decide +kernel
theorem d_Reader_readSteps_23 : decode b_Reader_readSteps 23 = .ok (.goto 4, 3) := by decide +kernel
theorem d_Reader_readSteps_26 : decode b_Reader_readSteps 26 = .ok (.iconst 0, 1) := by decide +kernel
theorem d_Reader_readSteps_27 : decode b_Reader_readSteps 27 = .ok (.ireturn, 1) := by decide +kernel
theorem d_Reader_readSteps_28 : decode b_Reader_readSteps 28 = .ok (.iconst 0, 1) := by decide +kernel
theorem d_Reader_readSteps_29 : decode b_Reader_readSteps 29 = .ok (.istore_n 2, 1) := by decide +kernel
theorem d_Reader_readSteps_30 : decode b_Reader_readSteps 30 = .ok (.iload_n 2, 1) := by decide +kernel
theorem d_Reader_readSteps_31 : decode b_Reader_readSteps 31 = .ok (.aload_n 0, 1) := by decide +kernel
theorem d_Reader_readSteps_32 : decode b_Reader_readSteps 32 = .ok (.getfield 23, 3) := by decide +kernel
theorem d_Reader_readSteps_35 : decode b_Reader_readSteps 35 = .ok (.if_icmp .gt 75, 3) := by decide +kernel
theorem d_Reader_readSteps_38 : decode b_Reader_readSteps 38 = .ok (.iload_n 1, 1) := by decide +kernel
theorem d_Reader_readSteps_39 : decode b_Reader_readSteps 39 = .ok (.ifCond .lt 71, 3) := by decide +kernel
theorem d_Reader_readSteps_42 : decode b_Reader_readSteps 42 = .ok (.iload_n 1, 1) := by decide +kernel
theorem d_Reader_readSteps_43 : decode b_Reader_readSteps 43 = .ok (.bipush 7, 2) := by decide +kernel
theorem d_Reader_readSteps_45 : decode b_Reader_readSteps 45 = .ok (.if_icmp .ne 10, 3) := by decide +kernel
theorem d_Reader_readSteps_48 : decode b_Reader_readSteps 48 = .ok (.aload_n 0, 1) := by decide +kernel
theorem d_Reader_readSteps_49 : decode b_Reader_readSteps 49 = .ok (.invokevirtual 76, 3) := by decide +kernel
theorem d_Reader_readSteps_52 : decode b_Reader_readSteps 52 = .ok (.goto 23, 3) := by decide +kernel
theorem d_Reader_readSteps_55 : decode b_Reader_readSteps 55 = .ok (.iload_n 1, 1) := by decide +kernel
theorem d_Reader_readSteps_56 : decode b_Reader_readSteps 56 = .ok (.bipush 8, 2) := by decide +kernel
theorem d_Reader_readSteps_58 : decode b_Reader_readSteps 58 = .ok (.if_icmp .ne 10, 3) := by decide +kernel
theorem d_Reader_readSteps_61 : decode b_Reader_readSteps 61 = .ok (.aload_n 0, 1) := by decide +kernel
theorem d_Reader_readSteps_62 : decode b_Reader_readSteps 62 = .ok (.invokevirtual 79, 3) := by decide +kernel
theorem d_Reader_readSteps_65 : decode b_Reader_readSteps 65 = .ok (.goto 10, 3) := by decide +kernel
theorem d_Reader_readSteps_68 : decode b_Reader_readSteps 68 = .ok (.aload_n 0, 1) := by decide +kernel
theorem d_Reader_readSteps_69 : decode b_Reader_readSteps 69 = .ok (.iload_n 1, 1) := by decide +kernel
theorem d_Reader_readSteps_70 : decode b_Reader_readSteps 70 = .ok (.iconst 3, 1) := by decide +kernel
theorem d_Reader_readSteps_71 : decode b_Reader_readSteps 71 = .ok (.isub, 1) := by decide +kernel
theorem d_Reader_readSteps_72 : decode b_Reader_readSteps 72 = .ok (.invokevirtual 82, 3) := by decide +kernel
theorem d_Reader_readSteps_75 : decode b_Reader_readSteps 75 = .ok (.istore_n 3, 1) := by decide +kernel
theorem d_Reader_readSteps_76 : decode b_Reader_readSteps 76 = .ok (.iload_n 3, 1) := by decide +kernel
theorem d_Reader_readSteps_77 : decode b_Reader_readSteps 77 = .ok (.ifCond .eq 5, 3) := by decide +kernel
theorem d_Reader_readSteps_80 : decode b_Reader_readSteps 80 = .ok (.iload_n 3, 1) := by decide +kernel
theorem d_Reader_readSteps_81 : decode b_Reader_readSteps 81 = .ok (.ireturn, 1) := by decide +kernel
theorem d_Reader_readSteps_82 : decode b_Reader_readSteps 82 = .ok (.aload_n 0, 1) := by decide +kernel
theorem d_Reader_readSteps_83 : decode b_Reader_readSteps 83 = .ok (.getfield 44, 3) := by decide +kernel
theorem d_Reader_readSteps_86 : decode b_Reader_readSteps 86 = .ok (.getfield 85, 3) := by decide +kernel
theorem d_Reader_readSteps_89 : decode b_Reader_readSteps 89 = .ok (.aload_n 0, 1) := by decide +kernel
theorem d_Reader_readSteps_90 : decode b_Reader_readSteps 90 = .ok (.getfield 23, 3) := by decide +kernel
theorem d_Reader_readSteps_93 : decode b_Reader_readSteps 93 = .ok (.if_icmp .lt 5, 3) := by decide +kernel
theorem d_Reader_readSteps_96 : decode b_Reader_readSteps 96 = .ok (.iconst 1, 1) := by decide +kernel
theorem d_Reader_readSteps_97 : decode b_Reader_readSteps 97 = .ok (.ireturn, 1) := by decide +kernel
theorem d_Reader_readSteps_98 : decode b_Reader_readSteps 98 = .ok (.aload_n 0, 1) := by decide +kernel
theorem d_Reader_readSteps_99 : decode b_Reader_readSteps 99 = .ok (.iconst 0, 1) := by decide +kernel
theorem d_Reader_readSteps_100 : decode b_Reader_readSteps 100 = .ok (.invokevirtual 70, 3) := by decide +kernel
theorem d_Reader_readSteps_103 : decode b_Reader_readSteps 103 = .ok (.istore_n 1, 1) := by decide +kernel
theorem d_Reader_readSteps_104 : decode b_Reader_readSteps 104 = .ok (.iinc 2 1, 3) := by decide +kernel
theorem d_Reader_readSteps_107 : decode b_Reader_readSteps 107 = .ok (.goto (-77), 3) := by decide +kernel
theorem d_Reader_readSteps_110 : decode b_Reader_readSteps 110 = .ok (.iload_n 1, 1) := by decide +kernel
theorem d_Reader_readSteps_111 : decode b_Reader_readSteps 111 = .ok (.ifCond .ge 7, 3) := by decide +kernel
theorem d_Reader_readSteps_114 : decode b_Reader_readSteps 114 = .ok (.iload_n 1, 1) := by decide +kernel
theorem d_Reader_readSteps_115 : decode b_Reader_readSteps 115 = .ok (.goto 5, 3) := by decide +kernel
theorem d_Reader_readSteps_118 : decode b_Reader_readSteps 118 = .ok (.bipush (-2), 2) := by decide +kernel
theorem d_Reader_readSteps_120 : decode b_Reader_readSteps 120 = .ok (.ireturn, 1) := by decide +kernel
theorem d_Reader_take_0 : decode b_Reader_take 0 = .ok (.iload_n 1, 1) := by decide +kernel
theorem d_Reader_take_1 : decode b_Reader_take 1 = .ok (.istore_n 2, 1) := by decide +kernel
theorem d_Reader_take_2 : decode b_Reader_take 2 = .ok (.aload_n 0, 1) := by decide +kernel
theorem d_Reader_take_3 : decode b_Reader_take 3 = .ok (.aload_n 0, 1) := by decide +kernel
theorem d_Reader_take_4 : decode b_Reader_take 4 = .ok (.getfield 57, 3) := by decide +kernel
theorem d_Reader_take_7 : decode b_Reader_take 7 = .ok (.putfield 88, 3) := by decide +kernel
theorem d_Reader_take_10 : decode b_Reader_take 10 = .ok (.aload_n 0, 1) := by decide +kernel
theorem d_Reader_take_11 : decode b_Reader_take 11 = .ok (.getfield 57, 3) := by decide +kernel
theorem d_Reader_take_14 : decode b_Reader_take 14 = .ok (.istore_n 3, 1) := by decide +kernel
theorem d_Reader_take_15 : decode b_Reader_take 15 = .ok (.iload_n 3, 1) := by decide +kernel
theorem d_Reader_take_16 : decode b_Reader_take 16 = .ok (.aload_n 0, 1) := by decide +kernel
theorem d_Reader_take_17 : decode b_Reader_take 17 = .ok (.getfield 10, 3) := by decide +kernel
theorem d_Reader_take_20 : decode b_Reader_take 20 = .ok (.getfield 91, 3) := by decide +kernel
theorem d_Reader_take_23 : decode b_Reader_take 23 = .ok (.if_icmp .ge 52, 3) := by decide +kernel
theorem d_Reader_take_26 : decode b_Reader_take 26 = .ok (.aload_n 0, 1) := by decide +kernel
theorem d_Reader_take_27 : decode b_Reader_take 27 = .ok (.getfield 19, 3) := by decide +kernel
theorem d_Reader_take_30 : decode b_Reader_take 30 = .ok (.iload_n 2, 1) := by decide +kernel
theorem d_Reader_take_31 : decode b_Reader_take 31 = .ok (.aload_n 0, 1) := by decide +kernel
theorem d_Reader_take_32 : decode b_Reader_take 32 = .ok (.getfield 10, 3) := by decide +kernel
theorem d_Reader_take_35 : decode b_Reader_take 35 = .ok (.iload_n 3, 1) := by decide +kernel
theorem d_Reader_take_36 : decode b_Reader_take 36 = .ok (.invokevirtual 94, 3) := by decide +kernel
theorem d_Reader_take_39 : decode b_Reader_take 39 = .ok (.invokevirtual 97, 3) := by decide +kernel
theorem d_Reader_take_42 : decode b_Reader_take 42 = .ok (.istore_n 2, 1) := by decide +kernel
theorem d_Reader_take_43 : decode b_Reader_take 43 = .ok (.iload_n 2, 1) := by decide +kernel
theorem d_Reader_take_44 : decode b_Reader_take 44 = .ok (.invokestatic 101, 3) := by decide +kernel
theorem d_Reader_take_47 : decode b_Reader_take 47 = .ok (.ifCond .eq 15, 3) := by decide +kernel
theorem d_Reader_take_50 : decode b_Reader_take 50 = .ok (.aload_n 0, 1) := by decide +kernel
theorem d_Reader_take_51 : decode b_Reader_take 51 = .ok (.iload_n 3, 1) := by decide +kernel
theorem d_Reader_take_52 : decode b_Reader_take 52 = .ok (.iconst 1, 1) := by decide +kernel
theorem d_Reader_take_53 : decode b_Reader_take 53 = .ok (.iadd, 1) := by decide +kernel
theorem d_Reader_take_54 : decode b_Reader_take 54 = .ok (.putfield 57, 3) := by decide +kernel
theorem d_Reader_take_57 : decode b_Reader_take 57 = .ok (.iload_n 2, 1) := by decide +kernel
theorem d_Reader_take_58 : decode b_Reader_take 58 = .ok (.invokestatic 105, 3) := by decide +kernel
theorem d_Reader_take_61 : decode b_Reader_take 61 = .ok (.ireturn, 1) := by decide +kernel
theorem d_Reader_take_62 : decode b_Reader_take 62 = .ok (.iload_n 2, 1) := by decide +kernel
theorem d_Reader_take_63 : decode b_Reader_take 63 = .ok (.ifCond .ne 6, 3) := by decide +kernel
theorem d_Reader_take_66 : decode b_Reader_take 66 = .ok (.bipush (-2), 2) := by decide +kernel
theorem d_Reader_take_68 : decode b_Reader_take 68 = .ok (.ireturn, 1) := by decide +kernel
theorem d_Reader_take_69 : decode b_Reader_take 69 = .ok (.iinc 3 1, 3) := by decide +kernel
theorem d_Reader_take_72 : decode b_Reader_take 72 = .ok (.goto (-57), 3) := by decide +kernel
theorem d_Reader_take_75 : decode b_Reader_take 75 = .ok (.iconst (-1), 1) := by decide +kernel
theorem d_Reader_take_76 : decode b_Reader_take 76 = .ok (.ireturn, 1) := by decide +kernel
theorem d_Reader_pass_0 : decode b_Reader_pass 0 = .ok (.aload_n 0, 1) := by decide +kernel
theorem d_Reader_pass_1 : decode b_Reader_pass 1 = .ok (.getfield 44, 3) := by decide +kernel
theorem d_Reader_pass_4 : decode b_Reader_pass 4 = .ok (.getfield 108, 3) := by decide +kernel
theorem d_Reader_pass_7 : decode b_Reader_pass 7 = .ok (.aload_n 0, 1) := by decide +kernel
theorem d_Reader_pass_8 : decode b_Reader_pass 8 = .ok (.getfield 23, 3) := by decide +kernel
theorem d_Reader_pass_11 : decode b_Reader_pass 11 = .ok (.if_icmp .lt 14, 3) := by decide +kernel
theorem d_Reader_pass_14 : decode b_Reader_pass 14 = .ok (.aload_n 0, 1) := by decide +kernel
theorem d_Reader_pass_15 : decode b_Reader_pass 15 = .ok (.aload_n 0, 1) := by decide +kernel
theorem d_Reader_pass_16 : decode b_Reader_pass 16 = .ok (.getfield 88, 3) := by decide +kernel
theorem d_Reader_pass_19 : decode b_Reader_pass 19 = .ok (.bipush (-3), 2) := by decide +kernel
theorem d_Reader_pass_21 : decode b_Reader_pass 21 = .ok (.invokevirtual 111, 3) := by decide +kernel
theorem d_Reader_pass_24 : decode b_Reader_pass 24 = .ok (.ireturn, 1) := by decide +kernel
theorem d_Reader_pass_25 : decode b_Reader_pass 25 = .ok (.aload_n 0, 1) := by decide +kernel
theorem d_Reader_pass_26 : decode b_Reader_pass 26 = .ok (.aload_n 0, 1) := by decide +kernel
theorem d_Reader_pass_27 : decode b_Reader_pass 27 = .ok (.getfield 44, 3) := by decide +kernel
theorem d_Reader_pass_30 : decode b_Reader_pass 30 = .ok (.getfield 108, 3) := by decide +kernel
theorem d_Reader_pass_33 : decode b_Reader_pass 33 = .ok (.invokevirtual 114, 3) := by decide +kernel
theorem d_Reader_pass_36 : decode b_Reader_pass 36 = .ok (.aload_n 0, 1) := by decide +kernel
theorem d_Reader_pass_37 : decode b_Reader_pass 37 = .ok (.getfield 44, 3) := by decide +kernel
theorem d_Reader_pass_40 : decode b_Reader_pass 40 = .ok (.aload_n 0, 1) := by decide +kernel
theorem d_Reader_pass_41 : decode b_Reader_pass 41 = .ok (.getfield 44, 3) := by decide +kernel
theorem d_Reader_pass_44 : decode b_Reader_pass 44 = .ok (.getfield 108, 3) := by decide +kernel
theorem d_Reader_pass_47 : decode b_Reader_pass 47 = .ok (.aload_n 0, 1) := by decide +kernel
theorem d_Reader_pass_48 : decode b_Reader_pass 48 = .ok (.getfield 44, 3) := by decide +kernel
theorem d_Reader_pass_51 : decode b_Reader_pass 51 = .ok (.getfield 117, 3) := by decide +kernel
theorem d_Reader_pass_54 : decode b_Reader_pass 54 = .ok (.invokevirtual 121, 3) := by decide +kernel
theorem d_Reader_pass_57 : decode b_Reader_pass 57 = .ok (.iconst 0, 1) := by decide +kernel
theorem d_Reader_pass_58 : decode b_Reader_pass 58 = .ok (.ireturn, 1) := by decide +kernel
theorem d_Reader_faultAt_0 : decode b_Reader_faultAt 0 = .ok (.aload_n 0, 1) := by decide +kernel
theorem d_Reader_faultAt_1 : decode b_Reader_faultAt 1 = .ok (.iload_n 1, 1) := by decide +kernel
theorem d_Reader_faultAt_2 : decode b_Reader_faultAt 2 = .ok (.putfield 57, 3) := by decide +kernel
theorem d_Reader_faultAt_5 : decode b_Reader_faultAt 5 = .ok (.iload_n 2, 1) := by decide +kernel
theorem d_Reader_faultAt_6 : decode b_Reader_faultAt 6 = .ok (.ireturn, 1) := by decide +kernel
theorem d_Reader_drawTo_0 : decode b_Reader_drawTo 0 = .ok (.aload_n 0, 1) := by decide +kernel
theorem d_Reader_drawTo_1 : decode b_Reader_drawTo 1 = .ok (.getfield 36, 3) := by decide +kernel
theorem d_Reader_drawTo_4 : decode b_Reader_drawTo 4 = .ok (.aload_n 0, 1) := by decide +kernel
theorem d_Reader_drawTo_5 : decode b_Reader_drawTo 5 = .ok (.getfield 44, 3) := by decide +kernel
theorem d_Reader_drawTo_8 : decode b_Reader_drawTo 8 = .ok (.getfield 85, 3) := by decide +kernel
theorem d_Reader_drawTo_11 : decode b_Reader_drawTo 11 = .ok (.iconst 0, 1) := by decide +kernel
theorem d_Reader_drawTo_12 : decode b_Reader_drawTo 12 = .ok (.invokestatic 128, 3) := by decide +kernel
theorem d_Reader_drawTo_15 : decode b_Reader_drawTo 15 = .ok (.iload_n 1, 1) := by decide +kernel
theorem d_Reader_drawTo_16 : decode b_Reader_drawTo 16 = .ok (.aload_n 0, 1) := by decide +kernel
theorem d_Reader_drawTo_17 : decode b_Reader_drawTo 17 = .ok (.getfield 44, 3) := by decide +kernel
theorem d_Reader_drawTo_20 : decode b_Reader_drawTo 20 = .ok (.getfield 117, 3) := by decide +kernel
theorem d_Reader_drawTo_23 : decode b_Reader_drawTo 23 = .ok (.invokevirtual 137, 3) := by decide +kernel
theorem d_Reader_drawTo_26 : decode b_Reader_drawTo 26 = .ok (.return_, 1) := by decide +kernel
theorem d_Reader_across_0 : decode b_Reader_across 0 = .ok (.aload_n 0, 1) := by decide +kernel
theorem d_Reader_across_1 : decode b_Reader_across 1 = .ok (.getfield 88, 3) := by decide +kernel
theorem d_Reader_across_4 : decode b_Reader_across 4 = .ok (.istore_n 1, 1) := by decide +kernel
theorem d_Reader_across_5 : decode b_Reader_across 5 = .ok (.aload_n 0, 1) := by decide +kernel
theorem d_Reader_across_6 : decode b_Reader_across 6 = .ok (.getfield 44, 3) := by decide +kernel
theorem d_Reader_across_9 : decode b_Reader_across 9 = .ok (.getfield 85, 3) := by decide +kernel
theorem d_Reader_across_12 : decode b_Reader_across 12 = .ok (.iconst 0, 1) := by decide +kernel
theorem d_Reader_across_13 : decode b_Reader_across 13 = .ok (.invokestatic 128, 3) := by decide +kernel
theorem d_Reader_across_16 : decode b_Reader_across 16 = .ok (.istore_n 2, 1) := by decide +kernel
theorem d_Reader_across_17 : decode b_Reader_across 17 = .ok (.aload_n 0, 1) := by decide +kernel
theorem d_Reader_across_18 : decode b_Reader_across 18 = .ok (.iload_n 2, 1) := by decide +kernel
theorem d_Reader_across_19 : decode b_Reader_across 19 = .ok (.aload_n 0, 1) := by decide +kernel
theorem d_Reader_across_20 : decode b_Reader_across 20 = .ok (.getfield 44, 3) := by decide +kernel
theorem d_Reader_across_23 : decode b_Reader_across 23 = .ok (.getfield 117, 3) := by decide +kernel
theorem d_Reader_across_26 : decode b_Reader_across 26 = .ok (.invokevirtual 133, 3) := by decide +kernel
theorem d_Reader_across_29 : decode b_Reader_across 29 = .ok (.istore_n 3, 1) := by decide +kernel
theorem d_Reader_across_30 : decode b_Reader_across 30 = .ok (.iload_n 3, 1) := by decide +kernel
theorem d_Reader_across_31 : decode b_Reader_across 31 = .ok (.ifCond .ge 5, 3) := by decide +kernel
theorem d_Reader_across_34 : decode b_Reader_across 34 = .ok (.iload_n 3, 1) := by decide +kernel
theorem d_Reader_across_35 : decode b_Reader_across 35 = .ok (.ireturn, 1) := by decide +kernel
theorem d_Reader_across_36 : decode b_Reader_across 36 = .ok (.aload_n 0, 1) := by decide +kernel
theorem d_Reader_across_37 : decode b_Reader_across 37 = .ok (.iload_n 3, 1) := by decide +kernel
theorem d_Reader_across_38 : decode b_Reader_across 38 = .ok (.aload_n 0, 1) := by decide +kernel
theorem d_Reader_across_39 : decode b_Reader_across 39 = .ok (.getfield 44, 3) := by decide +kernel
theorem d_Reader_across_42 : decode b_Reader_across 42 = .ok (.getfield 117, 3) := by decide +kernel
theorem d_Reader_across_45 : decode b_Reader_across 45 = .ok (.ifCond .ne 7, 3) := by decide +kernel
theorem d_Reader_across_48 : decode b_Reader_across 48 = .ok (.iconst 1, 1) := by decide +kernel
theorem d_Reader_across_49 : decode b_Reader_across 49 = .ok (.goto 4, 3) := by decide +kernel
theorem d_Reader_across_52 : decode b_Reader_across 52 = .ok (.iconst 0, 1) := by decide +kernel
theorem d_Reader_across_53 : decode b_Reader_across 53 = .ok (.invokevirtual 133, 3) := by decide +kernel
theorem d_Reader_across_56 : decode b_Reader_across 56 = .ok (.istore 4, 2) := by decide +kernel
theorem d_Reader_across_58 : decode b_Reader_across 58 = .ok (.iload 4, 2) := by decide +kernel
theorem d_Reader_across_60 : decode b_Reader_across 60 = .ok (.ifCond .ge 6, 3) := by decide +kernel
theorem d_Reader_across_63 : decode b_Reader_across 63 = .ok (.iload 4, 2) := by decide +kernel
theorem d_Reader_across_65 : decode b_Reader_across 65 = .ok (.ireturn, 1) := by decide +kernel
theorem d_Reader_across_66 : decode b_Reader_across 66 = .ok (.iload 4, 2) := by decide +kernel
theorem d_Reader_across_68 : decode b_Reader_across 68 = .ok (.iload_n 2, 1) := by decide +kernel
theorem d_Reader_across_69 : decode b_Reader_across 69 = .ok (.if_icmp .ne 11, 3) := by decide +kernel
theorem d_Reader_across_72 : decode b_Reader_across 72 = .ok (.aload_n 0, 1) := by decide +kernel
theorem d_Reader_across_73 : decode b_Reader_across 73 = .ok (.iload_n 1, 1) := by decide +kernel
theorem d_Reader_across_74 : decode b_Reader_across 74 = .ok (.bipush (-6), 2) := by decide +kernel
theorem d_Reader_across_76 : decode b_Reader_across 76 = .ok (.invokevirtual 111, 3) := by decide +kernel
theorem d_Reader_across_79 : decode b_Reader_across 79 = .ok (.ireturn, 1) := by decide +kernel
theorem d_Reader_across_80 : decode b_Reader_across 80 = .ok (.aload_n 0, 1) := by decide +kernel
theorem d_Reader_across_81 : decode b_Reader_across 81 = .ok (.getfield 36, 3) := by decide +kernel
theorem d_Reader_across_84 : decode b_Reader_across 84 = .ok (.iload_n 2, 1) := by decide +kernel
theorem d_Reader_across_85 : decode b_Reader_across 85 = .ok (.iload_n 3, 1) := by decide +kernel
theorem d_Reader_across_86 : decode b_Reader_across 86 = .ok (.aload_n 0, 1) := by decide +kernel
theorem d_Reader_across_87 : decode b_Reader_across 87 = .ok (.getfield 44, 3) := by decide +kernel
theorem d_Reader_across_90 : decode b_Reader_across 90 = .ok (.getfield 117, 3) := by decide +kernel
theorem d_Reader_across_93 : decode b_Reader_across 93 = .ok (.invokevirtual 137, 3) := by decide +kernel
theorem d_Reader_across_96 : decode b_Reader_across 96 = .ok (.aload_n 0, 1) := by decide +kernel
theorem d_Reader_across_97 : decode b_Reader_across 97 = .ok (.getfield 36, 3) := by decide +kernel
theorem d_Reader_across_100 : decode b_Reader_across 100 = .ok (.iload_n 3, 1) := by decide +kernel
theorem d_Reader_across_101 : decode b_Reader_across 101 = .ok (.iload 4, 2) := by decide +kernel
theorem d_Reader_across_103 : decode b_Reader_across 103 = .ok (.aload_n 0, 1) := by decide +kernel
theorem d_Reader_across_104 : decode b_Reader_across 104 = .ok (.getfield 44, 3) := by decide +kernel
theorem d_Reader_across_107 : decode b_Reader_across 107 = .ok (.getfield 117, 3) := by decide +kernel
theorem d_Reader_across_110 : decode b_Reader_across 110 = .ok (.ifCond .ne 7, 3) := by decide +kernel
theorem d_Reader_across_113 : decode b_Reader_across 113 = .ok (.iconst 1, 1) := by decide +kernel
theorem d_Reader_across_114 : decode b_Reader_across 114 = .ok (.goto 4, 3) := by decide +kernel
theorem d_Reader_across_117 : decode b_Reader_across 117 = .ok (.iconst 0, 1) := by decide +kernel
theorem d_Reader_across_118 : decode b_Reader_across 118 = .ok (.invokevirtual 137, 3) := by decide +kernel
theorem d_Reader_across_121 : decode b_Reader_across 121 = .ok (.aload_n 0, 1) := by decide +kernel
theorem d_Reader_across_122 : decode b_Reader_across 122 = .ok (.getfield 44, 3) := by decide +kernel
theorem d_Reader_across_125 : decode b_Reader_across 125 = .ok (.iload 4, 2) := by decide +kernel
theorem d_Reader_across_127 : decode b_Reader_across 127 = .ok (.aload_n 0, 1) := by decide +kernel
theorem d_Reader_across_128 : decode b_Reader_across 128 = .ok (.getfield 44, 3) := by decide +kernel
theorem d_Reader_across_131 : decode b_Reader_across 131 = .ok (.getfield 117, 3) := by decide +kernel
theorem d_Reader_across_134 : decode b_Reader_across 134 = .ok (.invokevirtual 121, 3) := by decide +kernel
theorem d_Reader_across_137 : decode b_Reader_across 137 = .ok (.iconst 0, 1) := by decide +kernel
theorem d_Reader_across_138 : decode b_Reader_across 138 = .ok (.ireturn, 1) := by decide +kernel
theorem d_Reader_runFrom_0 : decode b_Reader_runFrom 0 = .ok (.iload_n 1, 1) := by decide +kernel
theorem d_Reader_runFrom_1 : decode b_Reader_runFrom 1 = .ok (.istore_n 3, 1) := by decide +kernel
theorem d_Reader_runFrom_2 : decode b_Reader_runFrom 2 = .ok (.iconst 0, 1) := by decide +kernel
theorem d_Reader_runFrom_3 : decode b_Reader_runFrom 3 = .ok (.istore 4, 2) := by decide +kernel
theorem d_Reader_runFrom_5 : decode b_Reader_runFrom 5 = .ok (.iload 4, 2) := by decide +kernel
theorem d_Reader_runFrom_7 : decode b_Reader_runFrom 7 = .ok (.aload_n 0, 1) := by decide +kernel
theorem d_Reader_runFrom_8 : decode b_Reader_runFrom 8 = .ok (.getfield 23, 3) := by decide +kernel
theorem d_Reader_runFrom_11 : decode b_Reader_runFrom 11 = .ok (.if_icmp .gt 68, 3) := by decide +kernel
theorem d_Reader_runFrom_14 : decode b_Reader_runFrom 14 = .ok (.aload_n 0, 1) := by decide +kernel
theorem d_Reader_runFrom_15 : decode b_Reader_runFrom 15 = .ok (.iload_n 2, 1) := by decide +kernel
theorem d_Reader_runFrom_16 : decode b_Reader_runFrom 16 = .ok (.ifCond .eq 7, 3) := by decide +kernel
theorem d_Reader_runFrom_19 : decode b_Reader_runFrom 19 = .ok (.iconst 4, 1) := by decide +kernel
theorem d_Reader_runFrom_20 : decode b_Reader_runFrom 20 = .ok (.goto 4, 3) := by decide +kernel
theorem d_Reader_runFrom_23 : decode b_Reader_runFrom 23 = .ok (.iconst 3, 1) := by decide +kernel
theorem d_Reader_runFrom_24 : decode b_Reader_runFrom 24 = .ok (.invokevirtual 70, 3) := by decide +kernel
theorem d_Reader_runFrom_27 : decode b_Reader_runFrom 27 = .ok (.istore 5, 2) := by decide +kernel
theorem d_Reader_runFrom_29 : decode b_Reader_runFrom 29 = .ok (.iload 5, 2) := by decide +kernel
theorem d_Reader_runFrom_31 : decode b_Reader_runFrom 31 = .ok (.ifCond .ge 6, 3) := by decide +kernel
theorem d_Reader_runFrom_34 : decode b_Reader_runFrom 34 = .ok (.iload 5, 2) := by decide +kernel
theorem d_Reader_runFrom_36 : decode b_Reader_runFrom 36 = .ok (.ireturn, 1) := by decide +kernel
theorem d_Reader_runFrom_37 : decode b_Reader_runFrom 37 = .ok (.iload 5, 2) := by decide +kernel
theorem d_Reader_runFrom_39 : decode b_Reader_runFrom 39 = .ok (.aload_n 0, 1) := by decide +kernel
theorem d_Reader_runFrom_40 : decode b_Reader_runFrom 40 = .ok (.getfield 23, 3) := by decide +kernel
theorem d_Reader_runFrom_43 : decode b_Reader_runFrom 43 = .ok (.iload_n 3, 1) := by decide +kernel
theorem d_Reader_runFrom_44 : decode b_Reader_runFrom 44 = .ok (.isub, 1) := by decide +kernel
theorem d_Reader_runFrom_45 : decode b_Reader_runFrom 45 = .ok (.if_icmp .le 14, 3) := by decide +kernel
theorem d_Reader_runFrom_48 : decode b_Reader_runFrom 48 = .ok (.aload_n 0, 1) := by decide +kernel
theorem d_Reader_runFrom_49 : decode b_Reader_runFrom 49 = .ok (.aload_n 0, 1) := by decide +kernel
theorem d_Reader_runFrom_50 : decode b_Reader_runFrom 50 = .ok (.getfield 88, 3) := by decide +kernel
theorem d_Reader_runFrom_53 : decode b_Reader_runFrom 53 = .ok (.bipush (-5), 2) := by decide +kernel
theorem d_Reader_runFrom_55 : decode b_Reader_runFrom 55 = .ok (.invokevirtual 111, 3) := by decide +kernel
theorem d_Reader_runFrom_58 : decode b_Reader_runFrom 58 = .ok (.ireturn, 1) := by decide +kernel
theorem d_Reader_runFrom_59 : decode b_Reader_runFrom 59 = .ok (.iload_n 3, 1) := by decide +kernel
theorem d_Reader_runFrom_60 : decode b_Reader_runFrom 60 = .ok (.iload 5, 2) := by decide +kernel
theorem d_Reader_runFrom_62 : decode b_Reader_runFrom 62 = .ok (.iadd, 1) := by decide +kernel
theorem d_Reader_runFrom_63 : decode b_Reader_runFrom 63 = .ok (.istore_n 3, 1) := by decide +kernel
theorem d_Reader_runFrom_64 : decode b_Reader_runFrom 64 = .ok (.iload 5, 2) := by decide +kernel
theorem d_Reader_runFrom_66 : decode b_Reader_runFrom 66 = .ok (.bipush 64, 2) := by decide +kernel
theorem d_Reader_runFrom_68 : decode b_Reader_runFrom 68 = .ok (.if_icmp .ge 5, 3) := by decide +kernel
theorem d_Reader_runFrom_71 : decode b_Reader_runFrom 71 = .ok (.iload_n 3, 1) := by decide +kernel
theorem d_Reader_runFrom_72 : decode b_Reader_runFrom 72 = .ok (.ireturn, 1) := by decide +kernel
theorem d_Reader_runFrom_73 : decode b_Reader_runFrom 73 = .ok (.iinc 4 1, 3) := by decide +kernel
theorem d_Reader_runFrom_76 : decode b_Reader_runFrom 76 = .ok (.goto (-71), 3) := by decide +kernel
theorem d_Reader_runFrom_79 : decode b_Reader_runFrom 79 = .ok (.aload_n 0, 1) := by decide +kernel
theorem d_Reader_runFrom_80 : decode b_Reader_runFrom 80 = .ok (.aload_n 0, 1) := by decide +kernel
theorem d_Reader_runFrom_81 : decode b_Reader_runFrom 81 = .ok (.getfield 88, 3) := by decide +kernel
theorem d_Reader_runFrom_84 : decode b_Reader_runFrom 84 = .ok (.bipush (-5), 2) := by decide +kernel
theorem d_Reader_runFrom_86 : decode b_Reader_runFrom 86 = .ok (.invokevirtual 111, 3) := by decide +kernel
theorem d_Reader_runFrom_89 : decode b_Reader_runFrom 89 = .ok (.ireturn, 1) := by decide +kernel
theorem d_Reader_shift_0 : decode b_Reader_shift 0 = .ok (.aload_n 0, 1) := by decide +kernel
theorem d_Reader_shift_1 : decode b_Reader_shift 1 = .ok (.getfield 44, 3) := by decide +kernel
theorem d_Reader_shift_4 : decode b_Reader_shift 4 = .ok (.getfield 125, 3) := by decide +kernel
theorem d_Reader_shift_7 : decode b_Reader_shift 7 = .ok (.iload_n 1, 1) := by decide +kernel
theorem d_Reader_shift_8 : decode b_Reader_shift 8 = .ok (.iadd, 1) := by decide +kernel
theorem d_Reader_shift_9 : decode b_Reader_shift 9 = .ok (.istore_n 2, 1) := by decide +kernel
theorem d_Reader_shift_10 : decode b_Reader_shift 10 = .ok (.iload_n 2, 1) := by decide +kernel
theorem d_Reader_shift_11 : decode b_Reader_shift 11 = .ok (.aload_n 0, 1) := by decide +kernel
theorem d_Reader_shift_12 : decode b_Reader_shift 12 = .ok (.getfield 44, 3) := by decide +kernel
theorem d_Reader_shift_15 : decode b_Reader_shift 15 = .ok (.getfield 85, 3) := by decide +kernel
theorem d_Reader_shift_18 : decode b_Reader_shift 18 = .ok (.if_icmp .le 11, 3) := by decide +kernel
theorem d_Reader_shift_21 : decode b_Reader_shift 21 = .ok (.iload_n 2, 1) := by decide +kernel
theorem d_Reader_shift_22 : decode b_Reader_shift 22 = .ok (.aload_n 0, 1) := by decide +kernel
theorem d_Reader_shift_23 : decode b_Reader_shift 23 = .ok (.getfield 23, 3) := by decide +kernel
theorem d_Reader_shift_26 : decode b_Reader_shift 26 = .ok (.if_icmp .le 14, 3) := by decide +kernel
theorem d_Reader_shift_29 : decode b_Reader_shift 29 = .ok (.aload_n 0, 1) := by decide +kernel
theorem d_Reader_shift_30 : decode b_Reader_shift 30 = .ok (.aload_n 0, 1) := by decide +kernel
theorem d_Reader_shift_31 : decode b_Reader_shift 31 = .ok (.getfield 88, 3) := by decide +kernel
theorem d_Reader_shift_34 : decode b_Reader_shift 34 = .ok (.bipush (-4), 2) := by decide +kernel
theorem d_Reader_shift_36 : decode b_Reader_shift 36 = .ok (.invokevirtual 111, 3) := by decide +kernel
theorem d_Reader_shift_39 : decode b_Reader_shift 39 = .ok (.ireturn, 1) := by decide +kernel
theorem d_Reader_shift_40 : decode b_Reader_shift 40 = .ok (.aload_n 0, 1) := by decide +kernel
theorem d_Reader_shift_41 : decode b_Reader_shift 41 = .ok (.iload_n 2, 1) := by decide +kernel
theorem d_Reader_shift_42 : decode b_Reader_shift 42 = .ok (.invokevirtual 114, 3) := by decide +kernel
theorem d_Reader_shift_45 : decode b_Reader_shift 45 = .ok (.aload_n 0, 1) := by decide +kernel
theorem d_Reader_shift_46 : decode b_Reader_shift 46 = .ok (.getfield 44, 3) := by decide +kernel
theorem d_Reader_shift_49 : decode b_Reader_shift 49 = .ok (.iload_n 2, 1) := by decide +kernel
theorem d_Reader_shift_50 : decode b_Reader_shift 50 = .ok (.aload_n 0, 1) := by decide +kernel
theorem d_Reader_shift_51 : decode b_Reader_shift 51 = .ok (.getfield 44, 3) := by decide +kernel
theorem d_Reader_shift_54 : decode b_Reader_shift 54 = .ok (.getfield 117, 3) := by decide +kernel
theorem d_Reader_shift_57 : decode b_Reader_shift 57 = .ok (.ifCond .ne 7, 3) := by decide +kernel
theorem d_Reader_shift_60 : decode b_Reader_shift 60 = .ok (.iconst 1, 1) := by decide +kernel
theorem d_Reader_shift_61 : decode b_Reader_shift 61 = .ok (.goto 4, 3) := by decide +kernel
theorem d_Reader_shift_64 : decode b_Reader_shift 64 = .ok (.iconst 0, 1) := by decide +kernel
theorem d_Reader_shift_65 : decode b_Reader_shift 65 = .ok (.invokevirtual 121, 3) := by decide +kernel
theorem d_Reader_shift_68 : decode b_Reader_shift 68 = .ok (.iconst 0, 1) := by decide +kernel
theorem d_Reader_shift_69 : decode b_Reader_shift 69 = .ok (.ireturn, 1) := by decide +kernel
theorem d_DL_dots_0 : decode b_DL_dots 0 = .ok (.aload_n 0, 1) := by decide +kernel
theorem d_DL_dots_1 : decode b_DL_dots 1 = .ok (.getfield 34, 3) := by decide +kernel
theorem d_DL_dots_4 : decode b_DL_dots 4 = .ok (.getfield 108, 3) := by decide +kernel
theorem d_DL_dots_7 : decode b_DL_dots 7 = .ok (.iload_n 1, 1) := by decide +kernel
theorem d_DL_dots_8 : decode b_DL_dots 8 = .ok (.invokevirtual 111, 3) := by decide +kernel
theorem d_DL_dots_11 : decode b_DL_dots 11 = .ok (.lreturn, 1) := by decide +kernel
theorem d_DL_change_0 : decode b_DL_change 0 = .ok (.aload_n 0, 1) := by decide +kernel
theorem d_DL_change_1 : decode b_DL_change 1 = .ok (.getfield 34, 3) := by decide +kernel
theorem d_DL_change_4 : decode b_DL_change 4 = .ok (.getfield 108, 3) := by decide +kernel
theorem d_DL_change_7 : decode b_DL_change 7 = .ok (.getfield 112, 3) := by decide +kernel
theorem d_DL_change_10 : decode b_DL_change 10 = .ok (.istore_n 2, 1) := by decide +kernel
theorem d_DL_change_11 : decode b_DL_change 11 = .ok (.iload_n 1, 1) := by decide +kernel
theorem d_DL_change_12 : decode b_DL_change 12 = .ok (.iconst (-1), 1) := by decide +kernel
theorem d_DL_change_13 : decode b_DL_change 13 = .ok (.if_icmp .ne 5, 3) := by decide +kernel
theorem d_DL_change_16 : decode b_DL_change 16 = .ok (.iload_n 2, 1) := by decide +kernel
theorem d_DL_change_17 : decode b_DL_change 17 = .ok (.ireturn, 1) := by decide +kernel
theorem d_DL_change_18 : decode b_DL_change 18 = .ok (.iload_n 1, 1) := by decide +kernel
theorem d_DL_change_19 : decode b_DL_change 19 = .ok (.ifCond .lt 22, 3) := by decide +kernel
theorem d_DL_change_22 : decode b_DL_change 22 = .ok (.iload_n 1, 1) := by decide +kernel
theorem d_DL_change_23 : decode b_DL_change 23 = .ok (.iload_n 2, 1) := by decide +kernel
theorem d_DL_change_24 : decode b_DL_change 24 = .ok (.if_icmp .ge 17, 3) := by decide +kernel
theorem d_DL_change_27 : decode b_DL_change 27 = .ok (.aload_n 0, 1) := by decide +kernel
theorem d_DL_change_28 : decode b_DL_change 28 = .ok (.getfield 34, 3) := by decide +kernel
theorem d_DL_change_31 : decode b_DL_change 31 = .ok (.getfield 108, 3) := by decide +kernel
theorem d_DL_change_34 : decode b_DL_change 34 = .ok (.iload_n 1, 1) := by decide +kernel
theorem d_DL_change_35 : decode b_DL_change 35 = .ok (.invokevirtual 115, 3) := by decide +kernel
theorem d_DL_change_38 : decode b_DL_change 38 = .ok (.goto 4, 3) := by decide +kernel
theorem d_DL_change_41 : decode b_DL_change 41 = .ok (.iconst (-1), 1) := by decide +kernel
theorem d_DL_change_42 : decode b_DL_change 42 = .ok (.ireturn, 1) := by decide +kernel
theorem d_DL_look_0 : decode b_DL_look 0 = .ok (.iload_n 1, 1) := by decide +kernel
theorem d_DL_look_1 : decode b_DL_look 1 = .ok (.tableswitch 146 0 9 #[55, 60, 71, 87, 98, 106, 114, 122, 130, 138], 55) := by decide +kernel
theorem d_DL_look_56 : decode b_DL_look 56 = .ok (.aload_n 0, 1) := by decide +kernel
theorem d_DL_look_57 : decode b_DL_look 57 = .ok (.getfield 18, 3) := by decide +kernel
theorem d_DL_look_60 : decode b_DL_look 60 = .ok (.ireturn, 1) := by decide +kernel
theorem d_DL_look_61 : decode b_DL_look 61 = .ok (.aload_n 0, 1) := by decide +kernel
theorem d_DL_look_62 : decode b_DL_look 62 = .ok (.getfield 27, 3) := by decide +kernel
theorem d_DL_look_65 : decode b_DL_look 65 = .ok (.getfield 67, 3) := by decide +kernel
theorem d_DL_look_68 : decode b_DL_look 68 = .ok (.getfield 119, 3) := by decide +kernel
theorem d_DL_look_71 : decode b_DL_look 71 = .ok (.ireturn, 1) := by decide +kernel
theorem d_DL_look_72 : decode b_DL_look 72 = .ok (.aload_n 0, 1) := by decide +kernel
theorem d_DL_look_73 : decode b_DL_look 73 = .ok (.getfield 27, 3) := by decide +kernel
theorem d_DL_look_76 : decode b_DL_look 76 = .ok (.getfield 122, 3) := by decide +kernel
theorem d_DL_look_79 : decode b_DL_look 79 = .ok (.ifCond .eq 7, 3) := by decide +kernel
theorem d_DL_look_82 : decode b_DL_look 82 = .ok (.iconst 1, 1) := by decide +kernel
theorem d_DL_look_83 : decode b_DL_look 83 = .ok (.goto 4, 3) := by decide +kernel
theorem d_DL_look_86 : decode b_DL_look 86 = .ok (.iconst 0, 1) := by decide +kernel
theorem d_DL_look_87 : decode b_DL_look 87 = .ok (.ireturn, 1) := by decide +kernel
theorem d_DL_look_88 : decode b_DL_look 88 = .ok (.aload_n 0, 1) := by decide +kernel
theorem d_DL_look_89 : decode b_DL_look 89 = .ok (.getfield 34, 3) := by decide +kernel
theorem d_DL_look_92 : decode b_DL_look 92 = .ok (.getfield 77, 3) := by decide +kernel
theorem d_DL_look_95 : decode b_DL_look 95 = .ok (.invokevirtual 84, 3) := by decide +kernel
theorem d_DL_look_98 : decode b_DL_look 98 = .ok (.ireturn, 1) := by decide +kernel
theorem d_DL_look_99 : decode b_DL_look 99 = .ok (.aload_n 0, 1) := by decide +kernel
theorem d_DL_look_100 : decode b_DL_look 100 = .ok (.getfield 34, 3) := by decide +kernel
theorem d_DL_look_103 : decode b_DL_look 103 = .ok (.getfield 126, 3) := by decide +kernel
theorem d_DL_look_106 : decode b_DL_look 106 = .ok (.ireturn, 1) := by decide +kernel
theorem d_DL_look_107 : decode b_DL_look 107 = .ok (.aload_n 0, 1) := by decide +kernel
theorem d_DL_look_108 : decode b_DL_look 108 = .ok (.getfield 27, 3) := by decide +kernel
theorem d_DL_look_111 : decode b_DL_look 111 = .ok (.getfield 129, 3) := by decide +kernel
theorem d_DL_look_114 : decode b_DL_look 114 = .ok (.ireturn, 1) := by decide +kernel
theorem d_DL_look_115 : decode b_DL_look 115 = .ok (.aload_n 0, 1) := by decide +kernel
theorem d_DL_look_116 : decode b_DL_look 116 = .ok (.getfield 27, 3) := by decide +kernel
theorem d_DL_look_119 : decode b_DL_look 119 = .ok (.getfield 130, 3) := by decide +kernel
theorem d_DL_look_122 : decode b_DL_look 122 = .ok (.ireturn, 1) := by decide +kernel
theorem d_DL_look_123 : decode b_DL_look 123 = .ok (.aload_n 0, 1) := by decide +kernel
theorem d_DL_look_124 : decode b_DL_look 124 = .ok (.getfield 27, 3) := by decide +kernel
theorem d_DL_look_127 : decode b_DL_look 127 = .ok (.getfield 133, 3) := by decide +kernel
theorem d_DL_look_130 : decode b_DL_look 130 = .ok (.ireturn, 1) := by decide +kernel
theorem d_DL_look_131 : decode b_DL_look 131 = .ok (.aload_n 0, 1) := by decide +kernel
theorem d_DL_look_132 : decode b_DL_look 132 = .ok (.getfield 27, 3) := by decide +kernel
theorem d_DL_look_135 : decode b_DL_look 135 = .ok (.getfield 136, 3) := by decide +kernel
theorem d_DL_look_138 : decode b_DL_look 138 = .ok (.ireturn, 1) := by decide +kernel
theorem d_DL_look_139 : decode b_DL_look 139 = .ok (.aload_n 0, 1) := by decide +kernel
theorem d_DL_look_140 : decode b_DL_look 140 = .ok (.getfield 34, 3) := by decide +kernel
theorem d_DL_look_143 : decode b_DL_look 143 = .ok (.getfield 139, 3) := by decide +kernel
theorem d_DL_look_146 : decode b_DL_look 146 = .ok (.ireturn, 1) := by decide +kernel
theorem d_DL_look_147 : decode b_DL_look 147 = .ok (.iconst (-1), 1) := by decide +kernel
theorem d_DL_look_148 : decode b_DL_look 148 = .ok (.ireturn, 1) := by decide +kernel
theorem d_DL_code_0 : decode b_DL_code 0 = .ok (.aload_n 0, 1) := by decide +kernel
theorem d_DL_code_1 : decode b_DL_code 1 = .ok (.getfield 27, 3) := by decide +kernel
theorem d_DL_code_4 : decode b_DL_code 4 = .ok (.invokevirtual 48, 3) := by decide +kernel
theorem d_DL_code_7 : decode b_DL_code 7 = .ok (.istore_n 1, 1) := by decide +kernel
theorem d_DL_code_8 : decode b_DL_code 8 = .ok (.iload_n 1, 1) := by decide +kernel
theorem d_DL_code_9 : decode b_DL_code 9 = .ok (.iconst (-1), 1) := by decide +kernel
theorem d_DL_code_10 : decode b_DL_code 10 = .ok (.if_icmp .ne 13, 3) := by decide +kernel
theorem d_DL_code_13 : decode b_DL_code 13 = .ok (.new 52, 3) := by decide +kernel
theorem d_DL_code_16 : decode b_DL_code 16 = .ok (.dup, 1) := by decide +kernel
theorem d_DL_code_17 : decode b_DL_code 17 = .ok (.ldc 54, 2) := by decide +kernel
theorem d_DL_code_19 : decode b_DL_code 19 = .ok (.invokespecial 56, 3) := by decide +kernel
theorem d_DL_code_22 : decode b_DL_code 22 = .ok (.athrow, 1) := by decide +kernel
theorem d_DL_code_23 : decode b_DL_code 23 = .ok (.iload_n 1, 1) := by decide +kernel
theorem d_DL_code_24 : decode b_DL_code 24 = .ok (.ireturn, 1) := by decide +kernel
theorem d_Coder_addLine_0 : decode b_Coder_addLine 0 = .ok (.aload_n 0, 1) := by decide +kernel
theorem d_Coder_addLine_1 : decode b_Coder_addLine 1 = .ok (.getfield 46, 3) := by decide +kernel
theorem d_Coder_addLine_4 : decode b_Coder_addLine 4 = .ok (.ifCond .eq 5, 3) := by decide +kernel
theorem d_Coder_addLine_7 : decode b_Coder_addLine 7 = .ok (.iconst (-1), 1) := by decide +kernel
theorem d_Coder_addLine_8 : decode b_Coder_addLine 8 = .ok (.ireturn, 1) := by decide +kernel
theorem d_Coder_addLine_9 : decode b_Coder_addLine 9 = .ok (.aload_n 0, 1) := by decide +kernel
theorem d_Coder_addLine_10 : decode b_Coder_addLine 10 = .ok (.getfield 12, 3) := by decide +kernel
theorem d_Coder_addLine_13 : decode b_Coder_addLine 13 = .ok (.getfield 65, 3) := by decide +kernel
theorem d_Coder_addLine_16 : decode b_Coder_addLine 16 = .ok (.istore_n 1, 1) := by decide +kernel
theorem d_Coder_addLine_17 : decode b_Coder_addLine 17 = .ok (.aload_n 0, 1) := by decide +kernel
theorem d_Coder_addLine_18 : decode b_Coder_addLine 18 = .ok (.getfield 56, 3) := by decide +kernel
theorem d_Coder_addLine_21 : decode b_Coder_addLine 21 = .ok (.istore_n 2, 1) := by decide +kernel
theorem d_Coder_addLine_22 : decode b_Coder_addLine 22 = .ok (.aload_n 0, 1) := by decide +kernel
theorem d_Coder_addLine_23 : decode b_Coder_addLine 23 = .ok (.getfield 59, 3) := by decide +kernel
theorem d_Coder_addLine_26 : decode b_Coder_addLine 26 = .ok (.istore_n 3, 1) := by decide +kernel
theorem d_Coder_addLine_27 : decode b_Coder_addLine 27 = .ok (.aload_n 0, 1) := by decide +kernel
theorem d_Coder_addLine_28 : decode b_Coder_addLine 28 = .ok (.getfield 62, 3) := by decide +kernel
theorem d_Coder_addLine_31 : decode b_Coder_addLine 31 = .ok (.istore 4, 2) := by decide +kernel
theorem d_Coder_addLine_33 : decode b_Coder_addLine 33 = .ok (.aload_n 0, 1) := by decide +kernel
theorem d_Coder_addLine_34 : decode b_Coder_addLine 34 = .ok (.invokevirtual 68, 3) := by decide +kernel
theorem d_Coder_addLine_37 : decode b_Coder_addLine 37 = .ok (.aload_n 0, 1) := by decide +kernel
theorem d_Coder_addLine_38 : decode b_Coder_addLine 38 = .ok (.getfield 71, 3) := by decide +kernel
theorem d_Coder_addLine_41 : decode b_Coder_addLine 41 = .ok (.ifCond .ne 29, 3) := by decide +kernel
theorem d_Coder_addLine_44 : decode b_Coder_addLine 44 = .ok (.aload_n 0, 1) := by decide +kernel
theorem d_Coder_addLine_45 : decode b_Coder_addLine 45 = .ok (.getfield 12, 3) := by decide +kernel
theorem d_Coder_addLine_48 : decode b_Coder_addLine 48 = .ok (.iload_n 1, 1) := by decide +kernel
theorem d_Coder_addLine_49 : decode b_Coder_addLine 49 = .ok (.invokevirtual 43, 3) := by decide +kernel
theorem d_Coder_addLine_52 : decode b_Coder_addLine 52 = .ok (.aload_n 0, 1) := by decide +kernel
theorem d_Coder_addLine_53 : decode b_Coder_addLine 53 = .ok (.iload_n 2, 1) := by decide +kernel
theorem d_Coder_addLine_54 : decode b_Coder_addLine 54 = .ok (.putfield 56, 3) := by decide +kernel
theorem d_Coder_addLine_57 : decode b_Coder_addLine 57 = .ok (.aload_n 0, 1) := by decide +kernel
theorem d_Coder_addLine_58 : decode b_Coder_addLine 58 = .ok (.iload_n 3, 1) := by decide +kernel
theorem d_Coder_addLine_59 : decode b_Coder_addLine 59 = .ok (.putfield 59, 3) := by decide +kernel
theorem d_Coder_addLine_62 : decode b_Coder_addLine 62 = .ok (.aload_n 0, 1) := by decide +kernel
theorem d_Coder_addLine_63 : decode b_Coder_addLine 63 = .ok (.iload 4, 2) := by decide +kernel
theorem d_Coder_addLine_65 : decode b_Coder_addLine 65 = .ok (.putfield 62, 3) := by decide +kernel
theorem d_Coder_addLine_68 : decode b_Coder_addLine 68 = .ok (.iconst (-1), 1) := by decide +kernel
theorem d_Coder_addLine_69 : decode b_Coder_addLine 69 = .ok (.ireturn, 1) := by decide +kernel
theorem d_Coder_addLine_70 : decode b_Coder_addLine 70 = .ok (.aload_n 0, 1) := by decide +kernel
theorem d_Coder_addLine_71 : decode b_Coder_addLine 71 = .ok (.getfield 27, 3) := by decide +kernel
theorem d_Coder_addLine_74 : decode b_Coder_addLine 74 = .ok (.astore 5, 2) := by decide +kernel
theorem d_Coder_addLine_76 : decode b_Coder_addLine 76 = .ok (.aload_n 0, 1) := by decide +kernel
theorem d_Coder_addLine_77 : decode b_Coder_addLine 77 = .ok (.aload_n 0, 1) := by decide +kernel
theorem d_Coder_addLine_78 : decode b_Coder_addLine 78 = .ok (.getfield 31, 3) := by decide +kernel
theorem d_Coder_addLine_81 : decode b_Coder_addLine 81 = .ok (.putfield 27, 3) := by decide +kernel
theorem d_Coder_addLine_84 : decode b_Coder_addLine 84 = .ok (.aload_n 0, 1) := by decide +kernel
theorem d_Coder_addLine_85 : decode b_Coder_addLine 85 = .ok (.aload 5, 2) := by decide +kernel
theorem d_Coder_addLine_87 : decode b_Coder_addLine 87 = .ok (.putfield 31, 3) := by decide +kernel
theorem d_Coder_addLine_90 : decode b_Coder_addLine 90 = .ok (.aload_n 0, 1) := by decide +kernel
theorem d_Coder_addLine_91 : decode b_Coder_addLine 91 = .ok (.getfield 27, 3) := by decide +kernel
theorem d_Coder_addLine_94 : decode b_Coder_addLine 94 = .ok (.invokevirtual 50, 3) := by decide +kernel
theorem d_Coder_addLine_97 : decode b_Coder_addLine 97 = .ok (.aload_n 0, 1) := by decide +kernel
theorem d_Coder_addLine_98 : decode b_Coder_addLine 98 = .ok (.dup, 1) := by decide +kernel
theorem d_Coder_addLine_99 : decode b_Coder_addLine 99 = .ok (.getfield 53, 3) := by decide +kernel
theorem d_Coder_addLine_102 : decode b_Coder_addLine 102 = .ok (.iconst 1, 1) := by decide +kernel
theorem d_Coder_addLine_103 : decode b_Coder_addLine 103 = .ok (.iadd, 1) := by decide +kernel
theorem d_Coder_addLine_104 : decode b_Coder_addLine 104 = .ok (.putfield 53, 3) := by decide +kernel
theorem d_Coder_addLine_107 : decode b_Coder_addLine 107 = .ok (.aload_n 0, 1) := by decide +kernel
theorem d_Coder_addLine_108 : decode b_Coder_addLine 108 = .ok (.getfield 12, 3) := by decide +kernel
theorem d_Coder_addLine_111 : decode b_Coder_addLine 111 = .ok (.getfield 65, 3) := by decide +kernel
theorem d_Coder_addLine_114 : decode b_Coder_addLine 114 = .ok (.iload_n 1, 1) := by decide +kernel
theorem d_Coder_addLine_115 : decode b_Coder_addLine 115 = .ok (.isub, 1) := by decide +kernel
theorem d_Coder_addLine_116 : decode b_Coder_addLine 116 = .ok (.ireturn, 1) := by decide +kernel
theorem d_Coder_addSteps_0 : decode b_Coder_addSteps 0 = .ok (.aload_n 0, 1) := by decide +kernel
theorem d_Coder_addSteps_1 : decode b_Coder_addSteps 1 = .ok (.iconst 1, 1) := by decide +kernel
theorem d_Coder_addSteps_2 : decode b_Coder_addSteps 2 = .ok (.putfield 71, 3) := by decide +kernel
theorem d_Coder_addSteps_5 : decode b_Coder_addSteps 5 = .ok (.aload_n 0, 1) := by decide +kernel
theorem d_Coder_addSteps_6 : decode b_Coder_addSteps 6 = .ok (.getfield 27, 3) := by decide +kernel
theorem d_Coder_addSteps_9 : decode b_Coder_addSteps 9 = .ok (.invokevirtual 95, 3) := by decide +kernel
theorem d_Coder_addSteps_12 : decode b_Coder_addSteps 12 = .ok (.aload_n 0, 1) := by decide +kernel
theorem d_Coder_addSteps_13 : decode b_Coder_addSteps 13 = .ok (.getfield 39, 3) := by decide +kernel
theorem d_Coder_addSteps_16 : decode b_Coder_addSteps 16 = .ok (.aload_n 0, 1) := by decide +kernel
theorem d_Coder_addSteps_17 : decode b_Coder_addSteps 17 = .ok (.getfield 31, 3) := by decide +kernel
theorem d_Coder_addSteps_20 : decode b_Coder_addSteps 20 = .ok (.invokevirtual 98, 3) := by decide +kernel
theorem d_Coder_addSteps_23 : decode b_Coder_addSteps 23 = .ok (.iconst 0, 1) := by decide +kernel
theorem d_Coder_addSteps_24 : decode b_Coder_addSteps 24 = .ok (.istore_n 1, 1) := by decide +kernel
theorem d_Coder_addSteps_25 : decode b_Coder_addSteps 25 = .ok (.iconst 0, 1) := by decide +kernel
theorem d_Coder_addSteps_26 : decode b_Coder_addSteps 26 = .ok (.istore_n 2, 1) := by decide +kernel
theorem d_Coder_addSteps_27 : decode b_Coder_addSteps 27 = .ok (.iload_n 2, 1) := by decide +kernel
theorem d_Coder_addSteps_28 : decode b_Coder_addSteps 28 = .ok (.aload_n 0, 1) := by decide +kernel
theorem d_Coder_addSteps_29 : decode b_Coder_addSteps 29 = .ok (.getfield 18, 3) := by decide +kernel
theorem d_Coder_addSteps_32 : decode b_Coder_addSteps 32 = .ok (.if_icmp .gt 68, 3) := by decide +kernel
theorem d_Coder_addSteps_35 : decode b_Coder_addSteps 35 = .ok (.aload_n 0, 1) := by decide +kernel
theorem d_Coder_addSteps_36 : decode b_Coder_addSteps 36 = .ok (.getfield 39, 3) := by decide +kernel
theorem d_Coder_addSteps_39 : decode b_Coder_addSteps 39 = .ok (.getfield 101, 3) := by decide +kernel
theorem d_Coder_addSteps_42 : decode b_Coder_addSteps 42 = .ok (.aload_n 0, 1) := by decide +kernel
theorem d_Coder_addSteps_43 : decode b_Coder_addSteps 43 = .ok (.getfield 18, 3) := by decide +kernel
theorem d_Coder_addSteps_46 : decode b_Coder_addSteps 46 = .ok (.if_icmp .ge 54, 3) := by decide +kernel
theorem d_Coder_addSteps_49 : decode b_Coder_addSteps 49 = .ok (.aload_n 0, 1) := by decide +kernel
theorem d_Coder_addSteps_50 : decode b_Coder_addSteps 50 = .ok (.getfield 71, 3) := by decide +kernel
theorem d_Coder_addSteps_53 : decode b_Coder_addSteps 53 = .ok (.ifCond .eq 47, 3) := by decide +kernel
theorem d_Coder_addSteps_56 : decode b_Coder_addSteps 56 = .ok (.aload_n 0, 1) := by decide +kernel
theorem d_Coder_addSteps_57 : decode b_Coder_addSteps 57 = .ok (.getfield 27, 3) := by decide +kernel
theorem d_Coder_addSteps_60 : decode b_Coder_addSteps 60 = .ok (.aload_n 0, 1) := by decide +kernel
theorem d_Coder_addSteps_61 : decode b_Coder_addSteps 61 = .ok (.getfield 39, 3) := by decide +kernel
theorem d_Coder_addSteps_64 : decode b_Coder_addSteps 64 = .ok (.getfield 101, 3) := by decide +kernel
theorem d_Coder_addSteps_67 : decode b_Coder_addSteps 67 = .ok (.iload_n 1, 1) := by decide +kernel
theorem d_Coder_addSteps_68 : decode b_Coder_addSteps 68 = .ok (.invokevirtual 104, 3) := by decide +kernel
theorem d_Coder_addSteps_71 : decode b_Coder_addSteps 71 = .ok (.istore_n 1, 1) := by decide +kernel
theorem d_Coder_addSteps_72 : decode b_Coder_addSteps 72 = .ok (.aload_n 0, 1) := by decide +kernel
theorem d_Coder_addSteps_73 : decode b_Coder_addSteps 73 = .ok (.aload_n 0, 1) := by decide +kernel
theorem d_Coder_addSteps_74 : decode b_Coder_addSteps 74 = .ok (.getfield 27, 3) := by decide +kernel
theorem d_Coder_addSteps_77 : decode b_Coder_addSteps 77 = .ok (.iload_n 1, 1) := by decide +kernel
theorem d_Coder_addSteps_78 : decode b_Coder_addSteps 78 = .ok (.invokevirtual 108, 3) := by decide +kernel
theorem d_Coder_addSteps_81 : decode b_Coder_addSteps 81 = .ok (.aload_n 0, 1) := by decide +kernel
theorem d_Coder_addSteps_82 : decode b_Coder_addSteps 82 = .ok (.getfield 27, 3) := by decide +kernel
theorem d_Coder_addSteps_85 : decode b_Coder_addSteps 85 = .ok (.iload_n 1, 1) := by decide +kernel
theorem d_Coder_addSteps_86 : decode b_Coder_addSteps 86 = .ok (.iconst 1, 1) := by decide +kernel
theorem d_Coder_addSteps_87 : decode b_Coder_addSteps 87 = .ok (.iadd, 1) := by decide +kernel
theorem d_Coder_addSteps_88 : decode b_Coder_addSteps 88 = .ok (.invokevirtual 108, 3) := by decide +kernel
theorem d_Coder_addSteps_91 : decode b_Coder_addSteps 91 = .ok (.invokevirtual 111, 3) := by decide +kernel
theorem d_Coder_addSteps_94 : decode b_Coder_addSteps 94 = .ok (.iinc 2 1, 3) := by decide +kernel
theorem d_Coder_addSteps_97 : decode b_Coder_addSteps 97 = .ok (.goto (-70), 3) := by decide +kernel
theorem d_Coder_addSteps_100 : decode b_Coder_addSteps 100 = .ok (.return_, 1) := by decide +kernel
theorem d_Coder_addStep_0 : decode b_Coder_addStep 0 = .ok (.iload_n 1, 1) := by decide +kernel
theorem d_Coder_addStep_1 : decode b_Coder_addStep 1 = .ok (.aload_n 0, 1) := by decide +kernel
theorem d_Coder_addStep_2 : decode b_Coder_addStep 2 = .ok (.getfield 39, 3) := by decide +kernel
theorem d_Coder_addStep_5 : decode b_Coder_addStep 5 = .ok (.getfield 115, 3) := by decide +kernel
theorem d_Coder_addStep_8 : decode b_Coder_addStep 8 = .ok (.isub, 1) := by decide +kernel
theorem d_Coder_addStep_9 : decode b_Coder_addStep 9 = .ok (.istore_n 3, 1) := by decide +kernel
theorem d_Coder_addStep_10 : decode b_Coder_addStep 10 = .ok (.aload_n 0, 1) := by decide +kernel
theorem d_Coder_addStep_11 : decode b_Coder_addStep 11 = .ok (.getfield 39, 3) := by decide +kernel
theorem d_Coder_addStep_14 : decode b_Coder_addStep 14 = .ok (.getfield 118, 3) := by decide +kernel
theorem d_Coder_addStep_17 : decode b_Coder_addStep 17 = .ok (.iload_n 1, 1) := by decide +kernel
theorem d_Coder_addStep_18 : decode b_Coder_addStep 18 = .ok (.if_icmp .ge 46, 3) := by decide +kernel
theorem d_Coder_addStep_21 : decode b_Coder_addStep 21 = .ok (.aload_n 0, 1) := by decide +kernel
theorem d_Coder_addStep_22 : decode b_Coder_addStep 22 = .ok (.dup, 1) := by decide +kernel
theorem d_Coder_addStep_23 : decode b_Coder_addStep 23 = .ok (.getfield 56, 3) := by decide +kernel
theorem d_Coder_addStep_26 : decode b_Coder_addStep 26 = .ok (.iconst 1, 1) := by decide +kernel
theorem d_Coder_addStep_27 : decode b_Coder_addStep 27 = .ok (.iadd, 1) := by decide +kernel
theorem d_Coder_addStep_28 : decode b_Coder_addStep 28 = .ok (.putfield 56, 3) := by decide +kernel
theorem d_Coder_addStep_31 : decode b_Coder_addStep 31 = .ok (.aload_n 0, 1) := by decide +kernel
theorem d_Coder_addStep_32 : decode b_Coder_addStep 32 = .ok (.bipush 7, 2) := by decide +kernel
theorem d_Coder_addStep_34 : decode b_Coder_addStep 34 = .ok (.invokestatic 76, 3) := by decide +kernel
theorem d_Coder_addStep_37 : decode b_Coder_addStep 37 = .ok (.invokevirtual 84, 3) := by decide +kernel
theorem d_Coder_addStep_40 : decode b_Coder_addStep 40 = .ok (.aload_n 0, 1) := by decide +kernel
theorem d_Coder_addStep_41 : decode b_Coder_addStep 41 = .ok (.getfield 39, 3) := by decide +kernel
theorem d_Coder_addStep_44 : decode b_Coder_addStep 44 = .ok (.aload_n 0, 1) := by decide +kernel
theorem d_Coder_addStep_45 : decode b_Coder_addStep 45 = .ok (.getfield 39, 3) := by decide +kernel
theorem d_Coder_addStep_48 : decode b_Coder_addStep 48 = .ok (.getfield 118, 3) := by decide +kernel
theorem d_Coder_addStep_51 : decode b_Coder_addStep 51 = .ok (.aload_n 0, 1) := by decide +kernel
theorem d_Coder_addStep_52 : decode b_Coder_addStep 52 = .ok (.getfield 39, 3) := by decide +kernel
theorem d_Coder_addStep_55 : decode b_Coder_addStep 55 = .ok (.getfield 121, 3) := by decide +kernel
theorem d_Coder_addStep_58 : decode b_Coder_addStep 58 = .ok (.invokevirtual 124, 3) := by decide +kernel
theorem d_Coder_addStep_61 : decode b_Coder_addStep 61 = .ok (.goto 140, 3) := by decide +kernel
theorem d_Coder_addStep_64 : decode b_Coder_addStep 64 = .ok (.iload_n 3, 1) := by decide +kernel
theorem d_Coder_addStep_65 : decode b_Coder_addStep 65 = .ok (.bipush (-3), 2) := by decide +kernel
theorem d_Coder_addStep_67 : decode b_Coder_addStep 67 = .ok (.if_icmp .lt 54, 3) := by decide +kernel
theorem d_Coder_addStep_70 : decode b_Coder_addStep 70 = .ok (.iload_n 3, 1) := by decide +kernel
theorem d_Coder_addStep_71 : decode b_Coder_addStep 71 = .ok (.iconst 3, 1) := by decide +kernel
theorem d_Coder_addStep_72 : decode b_Coder_addStep 72 = .ok (.if_icmp .gt 49, 3) := by decide +kernel
theorem d_Coder_addStep_75 : decode b_Coder_addStep 75 = .ok (.aload_n 0, 1) := by decide +kernel
theorem d_Coder_addStep_76 : decode b_Coder_addStep 76 = .ok (.dup, 1) := by decide +kernel
theorem d_Coder_addStep_77 : decode b_Coder_addStep 77 = .ok (.getfield 59, 3) := by decide +kernel
theorem d_Coder_addStep_80 : decode b_Coder_addStep 80 = .ok (.iconst 1, 1) := by decide +kernel
theorem d_Coder_addStep_81 : decode b_Coder_addStep 81 = .ok (.iadd, 1) := by decide +kernel
theorem d_Coder_addStep_82 : decode b_Coder_addStep 82 = .ok (.putfield 59, 3) := by decide +kernel
theorem d_Coder_addStep_85 : decode b_Coder_addStep 85 = .ok (.aload_n 0, 1) := by decide +kernel
theorem d_Coder_addStep_86 : decode b_Coder_addStep 86 = .ok (.iconst 3, 1) := by decide +kernel
theorem d_Coder_addStep_87 : decode b_Coder_addStep 87 = .ok (.iload_n 3, 1) := by decide +kernel
theorem d_Coder_addStep_88 : decode b_Coder_addStep 88 = .ok (.iadd, 1) := by decide +kernel
theorem d_Coder_addStep_89 : decode b_Coder_addStep 89 = .ok (.invokestatic 76, 3) := by decide +kernel
theorem d_Coder_addStep_92 : decode b_Coder_addStep 92 = .ok (.invokevirtual 84, 3) := by decide +kernel
theorem d_Coder_addStep_95 : decode b_Coder_addStep 95 = .ok (.aload_n 0, 1) := by decide +kernel
theorem d_Coder_addStep_96 : decode b_Coder_addStep 96 = .ok (.getfield 39, 3) := by decide +kernel
theorem d_Coder_addStep_99 : decode b_Coder_addStep 99 = .ok (.iload_n 1, 1) := by decide +kernel
theorem d_Coder_addStep_100 : decode b_Coder_addStep 100 = .ok (.aload_n 0, 1) := by decide +kernel
theorem d_Coder_addStep_101 : decode b_Coder_addStep 101 = .ok (.getfield 39, 3) := by decide +kernel
theorem d_Coder_addStep_104 : decode b_Coder_addStep 104 = .ok (.getfield 121, 3) := by decide +kernel
theorem d_Coder_addStep_107 : decode b_Coder_addStep 107 = .ok (.ifCond .ne 7, 3) := by decide +kernel
theorem d_Coder_addStep_110 : decode b_Coder_addStep 110 = .ok (.iconst 1, 1) := by decide +kernel
theorem d_Coder_addStep_111 : decode b_Coder_addStep 111 = .ok (.goto 4, 3) := by decide +kernel
theorem d_Coder_addStep_114 : decode b_Coder_addStep 114 = .ok (.iconst 0, 1) := by decide +kernel
theorem d_Coder_addStep_115 : decode b_Coder_addStep 115 = .ok (.invokevirtual 124, 3) := by decide +kernel
theorem d_Coder_addStep_118 : decode b_Coder_addStep 118 = .ok (.goto 83, 3) := by decide +kernel
theorem d_Coder_addStep_121 : decode b_Coder_addStep 121 = .ok (.aload_n 0, 1) := by decide +kernel
theorem d_Coder_addStep_122 : decode b_Coder_addStep 122 = .ok (.dup, 1) := by decide +kernel
theorem d_Coder_addStep_123 : decode b_Coder_addStep 123 = .ok (.getfield 62, 3) := by decide +kernel
theorem d_Coder_addStep_126 : decode b_Coder_addStep 126 = .ok (.iconst 1, 1) := by decide +kernel
theorem d_Coder_addStep_127 : decode b_Coder_addStep 127 = .ok (.iadd, 1) := by decide +kernel
theorem d_Coder_addStep_128 : decode b_Coder_addStep 128 = .ok (.putfield 62, 3) := by decide +kernel
theorem d_Coder_addStep_131 : decode b_Coder_addStep 131 = .ok (.aload_n 0, 1) := by decide +kernel
theorem d_Coder_addStep_132 : decode b_Coder_addStep 132 = .ok (.bipush 8, 2) := by decide +kernel
theorem d_Coder_addStep_134 : decode b_Coder_addStep 134 = .ok (.invokestatic 76, 3) := by decide +kernel
theorem d_Coder_addStep_137 : decode b_Coder_addStep 137 = .ok (.invokevirtual 84, 3) := by decide +kernel
theorem d_Coder_addStep_140 : decode b_Coder_addStep 140 = .ok (.aload_n 0, 1) := by decide +kernel
theorem d_Coder_addStep_141 : decode b_Coder_addStep 141 = .ok (.iload_n 1, 1) := by decide +kernel
theorem d_Coder_addStep_142 : decode b_Coder_addStep 142 = .ok (.aload_n 0, 1) := by decide +kernel
theorem d_Coder_addStep_143 : decode b_Coder_addStep 143 = .ok (.getfield 39, 3) := by decide +kernel
theorem d_Coder_addStep_146 : decode b_Coder_addStep 146 = .ok (.getfield 101, 3) := by decide +kernel
theorem d_Coder_addStep_149 : decode b_Coder_addStep 149 = .ok (.iconst 0, 1) := by decide +kernel
theorem d_Coder_addStep_150 : decode b_Coder_addStep 150 = .ok (.invokestatic 128, 3) := by decide +kernel
theorem d_Coder_addStep_153 : decode b_Coder_addStep 153 = .ok (.isub, 1) := by decide +kernel
theorem d_Coder_addStep_154 : decode b_Coder_addStep 154 = .ok (.aload_n 0, 1) := by decide +kernel
theorem d_Coder_addStep_155 : decode b_Coder_addStep 155 = .ok (.getfield 39, 3) := by decide +kernel
theorem d_Coder_addStep_158 : decode b_Coder_addStep 158 = .ok (.getfield 121, 3) := by decide +kernel
theorem d_Coder_addStep_161 : decode b_Coder_addStep 161 = .ok (.invokevirtual 133, 3) := by decide +kernel
theorem d_Coder_addStep_164 : decode b_Coder_addStep 164 = .ok (.aload_n 0, 1) := by decide +kernel
theorem d_Coder_addStep_165 : decode b_Coder_addStep 165 = .ok (.iload_n 2, 1) := by decide +kernel
theorem d_Coder_addStep_166 : decode b_Coder_addStep 166 = .ok (.iload_n 1, 1) := by decide +kernel
theorem d_Coder_addStep_167 : decode b_Coder_addStep 167 = .ok (.isub, 1) := by decide +kernel
theorem d_Coder_addStep_168 : decode b_Coder_addStep 168 = .ok (.aload_n 0, 1) := by decide +kernel
theorem d_Coder_addStep_169 : decode b_Coder_addStep 169 = .ok (.getfield 39, 3) := by decide +kernel
theorem d_Coder_addStep_172 : decode b_Coder_addStep 172 = .ok (.getfield 121, 3) := by decide +kernel
theorem d_Coder_addStep_175 : decode b_Coder_addStep 175 = .ok (.ifCond .ne 7, 3) := by decide +kernel
theorem d_Coder_addStep_178 : decode b_Coder_addStep 178 = .ok (.iconst 1, 1) := by decide +kernel
theorem d_Coder_addStep_179 : decode b_Coder_addStep 179 = .ok (.goto 4, 3) := by decide +kernel
theorem d_Coder_addStep_182 : decode b_Coder_addStep 182 = .ok (.iconst 0, 1) := by decide +kernel
theorem d_Coder_addStep_183 : decode b_Coder_addStep 183 = .ok (.invokevirtual 133, 3) := by decide +kernel
theorem d_Coder_addStep_186 : decode b_Coder_addStep 186 = .ok (.aload_n 0, 1) := by decide +kernel
theorem d_Coder_addStep_187 : decode b_Coder_addStep 187 = .ok (.getfield 39, 3) := by decide +kernel
theorem d_Coder_addStep_190 : decode b_Coder_addStep 190 = .ok (.iload_n 2, 1) := by decide +kernel
theorem d_Coder_addStep_191 : decode b_Coder_addStep 191 = .ok (.aload_n 0, 1) := by decide +kernel
theorem d_Coder_addStep_192 : decode b_Coder_addStep 192 = .ok (.getfield 39, 3) := by decide +kernel
theorem d_Coder_addStep_195 : decode b_Coder_addStep 195 = .ok (.getfield 121, 3) := by decide +kernel
theorem d_Coder_addStep_198 : decode b_Coder_addStep 198 = .ok (.invokevirtual 124, 3) := by decide +kernel
theorem d_Coder_addStep_201 : decode b_Coder_addStep 201 = .ok (.return_, 1) := by decide +kernel
theorem d_Coder_addWord_0 : decode b_Coder_addWord 0 = .ok (.aload_n 0, 1) := by decide +kernel
theorem d_Coder_addWord_1 : decode b_Coder_addWord 1 = .ok (.aload_n 0, 1) := by decide +kernel
theorem d_Coder_addWord_2 : decode b_Coder_addWord 2 = .ok (.getfield 12, 3) := by decide +kernel
theorem d_Coder_addWord_5 : decode b_Coder_addWord 5 = .ok (.iload_n 1, 1) := by decide +kernel
theorem d_Coder_addWord_6 : decode b_Coder_addWord 6 = .ok (.i2l, 1) := by decide +kernel
theorem d_Coder_addWord_7 : decode b_Coder_addWord 7 = .ok (.iload_n 1, 1) := by decide +kernel
theorem d_Coder_addWord_8 : decode b_Coder_addWord 8 = .ok (.invokestatic 80, 3) := by decide +kernel
theorem d_Coder_addWord_11 : decode b_Coder_addWord 11 = .ok (.invokevirtual 91, 3) := by decide +kernel
theorem d_Coder_addWord_14 : decode b_Coder_addWord 14 = .ok (.ifCond .eq 14, 3) := by decide +kernel
theorem d_Coder_addWord_17 : decode b_Coder_addWord 17 = .ok (.aload_n 0, 1) := by decide +kernel
theorem d_Coder_addWord_18 : decode b_Coder_addWord 18 = .ok (.getfield 71, 3) := by decide +kernel
theorem d_Coder_addWord_21 : decode b_Coder_addWord 21 = .ok (.ifCond .eq 7, 3) := by decide +kernel
theorem d_Coder_addWord_24 : decode b_Coder_addWord 24 = .ok (.iconst 1, 1) := by decide +kernel
theorem d_Coder_addWord_25 : decode b_Coder_addWord 25 = .ok (.goto 4, 3) := by decide +kernel
theorem d_Coder_addWord_28 : decode b_Coder_addWord 28 = .ok (.iconst 0, 1) := by decide +kernel
theorem d_Coder_addWord_29 : decode b_Coder_addWord 29 = .ok (.putfield 71, 3) := by decide +kernel
theorem d_Coder_addWord_32 : decode b_Coder_addWord 32 = .ok (.return_, 1) := by decide +kernel
theorem d_Coder_addRun_0 : decode b_Coder_addRun 0 = .ok (.iload_n 1, 1) := by decide +kernel
theorem d_Coder_addRun_1 : decode b_Coder_addRun 1 = .ok (.istore_n 3, 1) := by decide +kernel
theorem d_Coder_addRun_2 : decode b_Coder_addRun 2 = .ok (.iload_n 3, 1) := by decide +kernel
theorem d_Coder_addRun_3 : decode b_Coder_addRun 3 = .ok (.sipush 2560, 3) := by decide +kernel
theorem d_Coder_addRun_6 : decode b_Coder_addRun 6 = .ok (.if_icmp .lt 23, 3) := by decide +kernel
theorem d_Coder_addRun_9 : decode b_Coder_addRun 9 = .ok (.aload_n 0, 1) := by decide +kernel
theorem d_Coder_addRun_10 : decode b_Coder_addRun 10 = .ok (.sipush 2560, 3) := by decide +kernel
theorem d_Coder_addRun_13 : decode b_Coder_addRun 13 = .ok (.iload_n 2, 1) := by decide +kernel
theorem d_Coder_addRun_14 : decode b_Coder_addRun 14 = .ok (.invokestatic 136, 3) := by decide +kernel
theorem d_Coder_addRun_17 : decode b_Coder_addRun 17 = .ok (.invokevirtual 84, 3) := by decide +kernel
theorem d_Coder_addRun_20 : decode b_Coder_addRun 20 = .ok (.iinc 3 (-2560), 6) := by decide +kernel
theorem d_Coder_addRun_26 : decode b_Coder_addRun 26 = .ok (.goto (-24), 3) := by decide +kernel
theorem d_Coder_addRun_29 : decode b_Coder_addRun 29 = .ok (.iload_n 3, 1) := by decide +kernel
theorem d_Coder_addRun_30 : decode b_Coder_addRun 30 = .ok (.bipush 64, 2) := by decide +kernel
theorem d_Coder_addRun_32 : decode b_Coder_addRun 32 = .ok (.if_icmp .lt 12, 3) := by decide +kernel
theorem d_Coder_addRun_35 : decode b_Coder_addRun 35 = .ok (.aload_n 0, 1) := by decide +kernel
theorem d_Coder_addRun_36 : decode b_Coder_addRun 36 = .ok (.iload_n 3, 1) := by decide +kernel
theorem d_Coder_addRun_37 : decode b_Coder_addRun 37 = .ok (.iload_n 2, 1) := by decide +kernel
theorem d_Coder_addRun_38 : decode b_Coder_addRun 38 = .ok (.invokestatic 136, 3) := by decide +kernel
theorem d_Coder_addRun_41 : decode b_Coder_addRun 41 = .ok (.invokevirtual 84, 3) := by decide +kernel
theorem d_Coder_addRun_44 : decode b_Coder_addRun 44 = .ok (.aload_n 0, 1) := by decide +kernel
theorem d_Coder_addRun_45 : decode b_Coder_addRun 45 = .ok (.iload_n 3, 1) := by decide +kernel
theorem d_Coder_addRun_46 : decode b_Coder_addRun 46 = .ok (.bipush 64, 2) := by decide +kernel
theorem d_Coder_addRun_48 : decode b_Coder_addRun 48 = .ok (.irem, 1) := by decide +kernel
theorem d_Coder_addRun_49 : decode b_Coder_addRun 49 = .ok (.iload_n 2, 1) := by decide +kernel
theorem d_Coder_addRun_50 : decode b_Coder_addRun 50 = .ok (.invokestatic 140, 3) := by decide +kernel
theorem d_Coder_addRun_53 : decode b_Coder_addRun 53 = .ok (.invokevirtual 84, 3) := by decide +kernel
theorem d_Coder_addRun_56 : decode b_Coder_addRun 56 = .ok (.return_, 1) := by decide +kernel
theorem d_DL_close_0 : decode b_DL_close 0 = .ok (.aload_n 0, 1) := by decide +kernel
theorem d_DL_close_1 : decode b_DL_close 1 = .ok (.getfield 27, 3) := by decide +kernel
theorem d_DL_close_4 : decode b_DL_close 4 = .ok (.invokevirtual 59, 3) := by decide +kernel
theorem d_DL_close_7 : decode b_DL_close 7 = .ok (.istore_n 1, 1) := by decide +kernel
theorem d_DL_close_8 : decode b_DL_close 8 = .ok (.iload_n 1, 1) := by decide +kernel
theorem d_DL_close_9 : decode b_DL_close 9 = .ok (.iconst (-1), 1) := by decide +kernel
theorem d_DL_close_10 : decode b_DL_close 10 = .ok (.if_icmp .ne 13, 3) := by decide +kernel
theorem d_DL_close_13 : decode b_DL_close 13 = .ok (.new 52, 3) := by decide +kernel
theorem d_DL_close_16 : decode b_DL_close 16 = .ok (.dup, 1) := by decide +kernel
theorem d_DL_close_17 : decode b_DL_close 17 = .ok (.ldc 62, 2) := by decide +kernel
theorem d_DL_close_19 : decode b_DL_close 19 = .ok (.invokespecial 56, 3) := by decide +kernel
theorem d_DL_close_22 : decode b_DL_close 22 = .ok (.athrow, 1) := by decide +kernel
theorem d_DL_close_23 : decode b_DL_close 23 = .ok (.iload_n 1, 1) := by decide +kernel
theorem d_DL_close_24 : decode b_DL_close 24 = .ok (.ireturn, 1) := by decide +kernel
theorem d_Coder_finish_0 : decode b_Coder_finish 0 = .ok (.aload_n 0, 1) := by decide +kernel
theorem d_Coder_finish_1 : decode b_Coder_finish 1 = .ok (.getfield 12, 3) := by decide +kernel
theorem d_Coder_finish_4 : decode b_Coder_finish 4 = .ok (.getfield 65, 3) := by decide +kernel
theorem d_Coder_finish_7 : decode b_Coder_finish 7 = .ok (.iconst 2, 1) := by decide +kernel
theorem d_Coder_finish_8 : decode b_Coder_finish 8 = .ok (.bipush 9, 2) := by decide +kernel
theorem d_Coder_finish_10 : decode b_Coder_finish 10 = .ok (.invokestatic 76, 3) := by decide +kernel
theorem d_Coder_finish_13 : decode b_Coder_finish 13 = .ok (.invokestatic 80, 3) := by decide +kernel
theorem d_Coder_finish_16 : decode b_Coder_finish 16 = .ok (.imul, 1) := by decide +kernel
theorem d_Coder_finish_17 : decode b_Coder_finish 17 = .ok (.iadd, 1) := by decide +kernel
theorem d_Coder_finish_18 : decode b_Coder_finish 18 = .ok (.istore_n 1, 1) := by decide +kernel
theorem d_Coder_finish_19 : decode b_Coder_finish 19 = .ok (.aload_n 0, 1) := by decide +kernel
theorem d_Coder_finish_20 : decode b_Coder_finish 20 = .ok (.getfield 46, 3) := by decide +kernel
theorem d_Coder_finish_23 : decode b_Coder_finish 23 = .ok (.ifCond .ne 9, 3) := by decide +kernel
theorem d_Coder_finish_26 : decode b_Coder_finish 26 = .ok (.iload_n 1, 1) := by decide +kernel
theorem d_Coder_finish_27 : decode b_Coder_finish 27 = .ok (.ldc 83, 2) := by decide +kernel
theorem d_Coder_finish_29 : decode b_Coder_finish 29 = .ok (.if_icmp .le 5, 3) := by decide +kernel
theorem d_Coder_finish_32 : decode b_Coder_finish 32 = .ok (.iconst (-1), 1) := by decide +kernel
theorem d_Coder_finish_33 : decode b_Coder_finish 33 = .ok (.ireturn, 1) := by decide +kernel
theorem d_Coder_finish_34 : decode b_Coder_finish 34 = .ok (.aload_n 0, 1) := by decide +kernel
theorem d_Coder_finish_35 : decode b_Coder_finish 35 = .ok (.bipush 9, 2) := by decide +kernel
theorem d_Coder_finish_37 : decode b_Coder_finish 37 = .ok (.invokestatic 76, 3) := by decide +kernel
theorem d_Coder_finish_40 : decode b_Coder_finish 40 = .ok (.invokevirtual 84, 3) := by decide +kernel
theorem d_Coder_finish_43 : decode b_Coder_finish 43 = .ok (.aload_n 0, 1) := by decide +kernel
theorem d_Coder_finish_44 : decode b_Coder_finish 44 = .ok (.bipush 9, 2) := by decide +kernel
theorem d_Coder_finish_46 : decode b_Coder_finish 46 = .ok (.invokestatic 76, 3) := by decide +kernel
theorem d_Coder_finish_49 : decode b_Coder_finish 49 = .ok (.invokevirtual 84, 3) := by decide +kernel
theorem d_Coder_finish_52 : decode b_Coder_finish 52 = .ok (.aload_n 0, 1) := by decide +kernel
theorem d_Coder_finish_53 : decode b_Coder_finish 53 = .ok (.getfield 12, 3) := by decide +kernel
theorem d_Coder_finish_56 : decode b_Coder_finish 56 = .ok (.lconst 0, 1) := by decide +kernel
theorem d_Coder_finish_57 : decode b_Coder_finish 57 = .ok (.bipush 8, 2) := by decide +kernel
theorem d_Coder_finish_59 : decode b_Coder_finish 59 = .ok (.aload_n 0, 1) := by decide +kernel
theorem d_Coder_finish_60 : decode b_Coder_finish 60 = .ok (.getfield 12, 3) := by decide +kernel
theorem d_Coder_finish_63 : decode b_Coder_finish 63 = .ok (.invokevirtual 87, 3) := by decide +kernel
theorem d_Coder_finish_66 : decode b_Coder_finish 66 = .ok (.imul, 1) := by decide +kernel
theorem d_Coder_finish_67 : decode b_Coder_finish 67 = .ok (.aload_n 0, 1) := by decide +kernel
theorem d_Coder_finish_68 : decode b_Coder_finish 68 = .ok (.getfield 12, 3) := by decide +kernel
theorem d_Coder_finish_71 : decode b_Coder_finish 71 = .ok (.getfield 65, 3) := by decide +kernel
theorem d_Coder_finish_74 : decode b_Coder_finish 74 = .ok (.isub, 1) := by decide +kernel
theorem d_Coder_finish_75 : decode b_Coder_finish 75 = .ok (.invokevirtual 91, 3) := by decide +kernel
theorem d_Coder_finish_78 : decode b_Coder_finish 78 = .ok (.pop, 1) := by decide +kernel
theorem d_Coder_finish_79 : decode b_Coder_finish 79 = .ok (.aload_n 0, 1) := by decide +kernel
theorem d_Coder_finish_80 : decode b_Coder_finish 80 = .ok (.iconst 1, 1) := by decide +kernel
theorem d_Coder_finish_81 : decode b_Coder_finish 81 = .ok (.putfield 46, 3) := by decide +kernel
theorem d_Coder_finish_84 : decode b_Coder_finish 84 = .ok (.aload_n 0, 1) := by decide +kernel
theorem d_Coder_finish_85 : decode b_Coder_finish 85 = .ok (.getfield 12, 3) := by decide +kernel
theorem d_Coder_finish_88 : decode b_Coder_finish 88 = .ok (.invokevirtual 87, 3) := by decide +kernel
theorem d_Coder_finish_91 : decode b_Coder_finish 91 = .ok (.ireturn, 1) := by decide +kernel
theorem d_DL_turn_0 : decode b_DL_turn 0 = .ok (.iload_n 1, 1) := by decide +kernel
theorem d_DL_turn_1 : decode b_DL_turn 1 = .ok (.ifCond .lt 17, 3) := by decide +kernel
theorem d_DL_turn_4 : decode b_DL_turn 4 = .ok (.iload_n 1, 1) := by decide +kernel
theorem d_DL_turn_5 : decode b_DL_turn 5 = .ok (.aload_n 0, 1) := by decide +kernel
theorem d_DL_turn_6 : decode b_DL_turn 6 = .ok (.getfield 27, 3) := by decide +kernel
theorem d_DL_turn_9 : decode b_DL_turn 9 = .ok (.getfield 67, 3) := by decide +kernel
theorem d_DL_turn_12 : decode b_DL_turn 12 = .ok (.invokevirtual 84, 3) := by decide +kernel
theorem d_DL_turn_15 : decode b_DL_turn 15 = .ok (.if_icmp .le 13, 3) := by decide +kernel
theorem d_DL_turn_18 : decode b_DL_turn 18 = .ok (.new 87, 3) := by decide +kernel
theorem d_DL_turn_21 : decode b_DL_turn 21 = .ok (.dup, 1) := by decide +kernel
theorem d_DL_turn_22 : decode b_DL_turn 22 = .ok (.ldc 89, 2) := by decide +kernel
theorem d_DL_turn_24 : decode b_DL_turn 24 = .ok (.invokespecial 91, 3) := by decide +kernel
theorem d_DL_turn_27 : decode b_DL_turn 27 = .ok (.athrow, 1) := by decide +kernel
theorem d_DL_turn_28 : decode b_DL_turn 28 = .ok (.aload_n 0, 1) := by decide +kernel
theorem d_DL_turn_29 : decode b_DL_turn 29 = .ok (.getfield 34, 3) := by decide +kernel
theorem d_DL_turn_32 : decode b_DL_turn 32 = .ok (.getfield 77, 3) := by decide +kernel
theorem d_DL_turn_35 : decode b_DL_turn 35 = .ok (.aload_n 0, 1) := by decide +kernel
theorem d_DL_turn_36 : decode b_DL_turn 36 = .ok (.getfield 27, 3) := by decide +kernel
theorem d_DL_turn_39 : decode b_DL_turn 39 = .ok (.getfield 67, 3) := by decide +kernel
theorem d_DL_turn_42 : decode b_DL_turn 42 = .ok (.iload_n 1, 1) := by decide +kernel
theorem d_DL_turn_43 : decode b_DL_turn 43 = .ok (.invokevirtual 92, 3) := by decide +kernel
theorem d_DL_turn_46 : decode b_DL_turn 46 = .ok (.aload_n 0, 1) := by decide +kernel
theorem d_DL_turn_47 : decode b_DL_turn 47 = .ok (.getfield 34, 3) := by decide +kernel
theorem d_DL_turn_50 : decode b_DL_turn 50 = .ok (.invokevirtual 96, 3) := by decide +kernel
theorem d_DL_turn_53 : decode b_DL_turn 53 = .ok (.aload_n 0, 1) := by decide +kernel
theorem d_DL_turn_54 : decode b_DL_turn 54 = .ok (.getfield 34, 3) := by decide +kernel
theorem d_DL_turn_57 : decode b_DL_turn 57 = .ok (.getfield 77, 3) := by decide +kernel
theorem d_DL_turn_60 : decode b_DL_turn 60 = .ok (.invokevirtual 84, 3) := by decide +kernel
theorem d_DL_turn_63 : decode b_DL_turn 63 = .ok (.ireturn, 1) := by decide +kernel
theorem d_DL_black_0 : decode b_DL_black 0 = .ok (.iload_n 1, 1) := by decide +kernel
theorem d_DL_black_1 : decode b_DL_black 1 = .ok (.ifCond .lt 11, 3) := by decide +kernel
theorem d_DL_black_4 : decode b_DL_black 4 = .ok (.iload_n 1, 1) := by decide +kernel
theorem d_DL_black_5 : decode b_DL_black 5 = .ok (.aload_n 0, 1) := by decide +kernel
theorem d_DL_black_6 : decode b_DL_black 6 = .ok (.getfield 18, 3) := by decide +kernel
theorem d_DL_black_9 : decode b_DL_black 9 = .ok (.if_icmp .lt 13, 3) := by decide +kernel
theorem d_DL_black_12 : decode b_DL_black 12 = .ok (.new 103, 3) := by decide +kernel
theorem d_DL_black_15 : decode b_DL_black 15 = .ok (.dup, 1) := by decide +kernel
theorem d_DL_black_16 : decode b_DL_black 16 = .ok (.ldc 105, 2) := by decide +kernel
theorem d_DL_black_18 : decode b_DL_black 18 = .ok (.invokespecial 107, 3) := by decide +kernel
theorem d_DL_black_21 : decode b_DL_black 21 = .ok (.athrow, 1) := by decide +kernel
theorem d_DL_black_22 : decode b_DL_black 22 = .ok (.aload_n 0, 1) := by decide +kernel
theorem d_DL_black_23 : decode b_DL_black 23 = .ok (.getfield 34, 3) := by decide +kernel
theorem d_DL_black_26 : decode b_DL_black 26 = .ok (.getfield 108, 3) := by decide +kernel
theorem d_DL_black_29 : decode b_DL_black 29 = .ok (.iload_n 1, 1) := by decide +kernel
theorem d_DL_black_30 : decode b_DL_black 30 = .ok (.bipush 64, 2) := by decide +kernel
theorem d_DL_black_32 : decode b_DL_black 32 = .ok (.idiv, 1) := by decide +kernel
theorem d_DL_black_33 : decode b_DL_black 33 = .ok (.invokevirtual 111, 3) := by decide +kernel
theorem d_DL_black_36 : decode b_DL_black 36 = .ok (.iload_n 1, 1) := by decide +kernel
theorem d_DL_black_37 : decode b_DL_black 37 = .ok (.bipush 64, 2) := by decide +kernel
theorem d_DL_black_39 : decode b_DL_black 39 = .ok (.irem, 1) := by decide +kernel
theorem d_DL_black_40 : decode b_DL_black 40 = .ok (.lshl, 1) := by decide +kernel
theorem d_DL_black_41 : decode b_DL_black 41 = .ok (.lconst 0, 1) := by decide +kernel
theorem d_DL_black_42 : decode b_DL_black 42 = .ok (.lcmp, 1) := by decide +kernel
theorem d_DL_black_43 : decode b_DL_black 43 = .ok (.ifCond .ge 7, 3) := by decide +kernel
theorem d_DL_black_46 : decode b_DL_black 46 = .ok (.iconst 1, 1) := by decide +kernel
theorem d_DL_black_47 : decode b_DL_black 47 = .ok (.goto 4, 3) := by decide +kernel
theorem d_DL_black_50 : decode b_DL_black 50 = .ok (.iconst 0, 1) := by decide +kernel
theorem d_DL_black_51 : decode b_DL_black 51 = .ok (.ireturn, 1) := by decide +kernel
