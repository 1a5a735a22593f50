theorem dX0_init_0 : decode cX0_init 0 = .ok (.aload_n 0, 1) := by decide +kernel
theorem dX0_init_1 : decode cX0_init 1 = .ok (.invokespecial 3, 3) := by decide +kernel
theorem dX0_init_4 : decode cX0_init 4 = .ok (.aload_n 0, 1) := by decide +kernel
theorem dX0_init_5 : decode cX0_init 5 = .ok (.sipush 4800, 3) := by decide +kernel
theorem dX0_init_8 : decode cX0_init 8 = .ok (.newarray .int, 2) := by decide +kernel
theorem dX0_init_10 : decode cX0_init 10 = .ok (.putfield 9, 3) := by decide +kernel
theorem dX0_init_13 : decode cX0_init 13 = .ok (.aload_n 0, 1) := by decide +kernel
theorem dX0_init_14 : decode cX0_init 14 = .ok (.sipush 4800, 3) := by decide +kernel
theorem dX0_init_17 : decode cX0_init 17 = .ok (.newarray .int, 2) := by decide +kernel
theorem dX0_init_19 : decode cX0_init 19 = .ok (.putfield 15, 3) := by decide +kernel
theorem dX0_init_22 : decode cX0_init 22 = .ok (.aload_n 0, 1) := by decide +kernel
theorem dX0_init_23 : decode cX0_init 23 = .ok (.sipush 4812, 3) := by decide +kernel
theorem dX0_init_26 : decode cX0_init 26 = .ok (.newarray .int, 2) := by decide +kernel
theorem dX0_init_28 : decode cX0_init 28 = .ok (.putfield 18, 3) := by decide +kernel
theorem dX0_init_31 : decode cX0_init 31 = .ok (.aload_n 0, 1) := by decide +kernel
theorem dX0_init_32 : decode cX0_init 32 = .ok (.sipush 4812, 3) := by decide +kernel
theorem dX0_init_35 : decode cX0_init 35 = .ok (.newarray .int, 2) := by decide +kernel
theorem dX0_init_37 : decode cX0_init 37 = .ok (.putfield 21, 3) := by decide +kernel
theorem dX0_init_40 : decode cX0_init 40 = .ok (.aload_n 0, 1) := by decide +kernel
theorem dX0_init_41 : decode cX0_init 41 = .ok (.bipush 12, 2) := by decide +kernel
theorem dX0_init_43 : decode cX0_init 43 = .ok (.newarray .int, 2) := by decide +kernel
theorem dX0_init_45 : decode cX0_init 45 = .ok (.putfield 24, 3) := by decide +kernel
theorem dX0_init_48 : decode cX0_init 48 = .ok (.return_, 1) := by decide +kernel
theorem dX0_shots_0 : decode cX0_shots 0 = .ok (.aload_n 0, 1) := by decide +kernel
theorem dX0_shots_1 : decode cX0_shots 1 = .ok (.getfield 27, 3) := by decide +kernel
theorem dX0_shots_4 : decode cX0_shots 4 = .ok (.ireturn, 1) := by decide +kernel
theorem dX0_shotFrames_0 : decode cX0_shotFrames 0 = .ok (.aload_n 0, 1) := by decide +kernel
theorem dX0_shotFrames_1 : decode cX0_shotFrames 1 = .ok (.getfield 24, 3) := by decide +kernel
theorem dX0_shotFrames_4 : decode cX0_shotFrames 4 = .ok (.iload_n 1, 1) := by decide +kernel
theorem dX0_shotFrames_5 : decode cX0_shotFrames 5 = .ok (.invokestatic 31, 3) := by decide +kernel
theorem dX0_shotFrames_8 : decode cX0_shotFrames 8 = .ok (.ireturn, 1) := by decide +kernel
theorem dX0_size_0 : decode cX0_size 0 = .ok (.aload_n 0, 1) := by decide +kernel
theorem dX0_size_1 : decode cX0_size 1 = .ok (.getfield 35, 3) := by decide +kernel
theorem dX0_size_4 : decode cX0_size 4 = .ok (.ireturn, 1) := by decide +kernel
theorem dX0_keyAt_0 : decode cX0_keyAt 0 = .ok (.aload_n 0, 1) := by decide +kernel
theorem dX0_keyAt_1 : decode cX0_keyAt 1 = .ok (.getfield 9, 3) := by decide +kernel
theorem dX0_keyAt_4 : decode cX0_keyAt 4 = .ok (.iload_n 1, 1) := by decide +kernel
theorem dX0_keyAt_5 : decode cX0_keyAt 5 = .ok (.invokestatic 31, 3) := by decide +kernel
theorem dX0_keyAt_8 : decode cX0_keyAt 8 = .ok (.ireturn, 1) := by decide +kernel
theorem dX0_placeOfFrame_0 : decode cX0_placeOfFrame 0 = .ok (.aload_n 0, 1) := by decide +kernel
theorem dX0_placeOfFrame_1 : decode cX0_placeOfFrame 1 = .ok (.getfield 18, 3) := by decide +kernel
theorem dX0_placeOfFrame_4 : decode cX0_placeOfFrame 4 = .ok (.iload_n 1, 1) := by decide +kernel
theorem dX0_placeOfFrame_5 : decode cX0_placeOfFrame 5 = .ok (.sipush 401, 3) := by decide +kernel
theorem dX0_placeOfFrame_8 : decode cX0_placeOfFrame 8 = .ok (.imul, 1) := by decide +kernel
theorem dX0_placeOfFrame_9 : decode cX0_placeOfFrame 9 = .ok (.iload_n 2, 1) := by decide +kernel
theorem dX0_placeOfFrame_10 : decode cX0_placeOfFrame 10 = .ok (.iadd, 1) := by decide +kernel
theorem dX0_placeOfFrame_11 : decode cX0_placeOfFrame 11 = .ok (.invokestatic 31, 3) := by decide +kernel
theorem dX0_placeOfFrame_14 : decode cX0_placeOfFrame 14 = .ok (.ireturn, 1) := by decide +kernel
theorem dX0_isSeam_0 : decode cX0_isSeam 0 = .ok (.iload_n 1, 1) := by decide +kernel
theorem dX0_isSeam_1 : decode cX0_isSeam 1 = .ok (.ifCond .le 24, 3) := by decide +kernel
theorem dX0_isSeam_4 : decode cX0_isSeam 4 = .ok (.aload_n 0, 1) := by decide +kernel
theorem dX0_isSeam_5 : decode cX0_isSeam 5 = .ok (.iload_n 1, 1) := by decide +kernel
theorem dX0_isSeam_6 : decode cX0_isSeam 6 = .ok (.invokevirtual 38, 3) := by decide +kernel
theorem dX0_isSeam_9 : decode cX0_isSeam 9 = .ok (.aload_n 0, 1) := by decide +kernel
theorem dX0_isSeam_10 : decode cX0_isSeam 10 = .ok (.iload_n 1, 1) := by decide +kernel
theorem dX0_isSeam_11 : decode cX0_isSeam 11 = .ok (.iconst 1, 1) := by decide +kernel
theorem dX0_isSeam_12 : decode cX0_isSeam 12 = .ok (.isub, 1) := by decide +kernel
theorem dX0_isSeam_13 : decode cX0_isSeam 13 = .ok (.invokevirtual 38, 3) := by decide +kernel
theorem dX0_isSeam_16 : decode cX0_isSeam 16 = .ok (.iconst 1, 1) := by decide +kernel
theorem dX0_isSeam_17 : decode cX0_isSeam 17 = .ok (.iadd, 1) := by decide +kernel
theorem dX0_isSeam_18 : decode cX0_isSeam 18 = .ok (.if_icmp .eq 7, 3) := by decide +kernel
theorem dX0_isSeam_21 : decode cX0_isSeam 21 = .ok (.iconst 1, 1) := by decide +kernel
theorem dX0_isSeam_22 : decode cX0_isSeam 22 = .ok (.goto 4, 3) := by decide +kernel
theorem dX0_isSeam_25 : decode cX0_isSeam 25 = .ok (.iconst 0, 1) := by decide +kernel
theorem dX0_isSeam_26 : decode cX0_isSeam 26 = .ok (.ireturn, 1) := by decide +kernel
theorem dX0_appendShot_0 : decode cX0_appendShot 0 = .ok (.aload_n 0, 1) := by decide +kernel
theorem dX0_appendShot_1 : decode cX0_appendShot 1 = .ok (.getfield 27, 3) := by decide +kernel
theorem dX0_appendShot_4 : decode cX0_appendShot 4 = .ok (.istore_n 2, 1) := by decide +kernel
theorem dX0_appendShot_5 : decode cX0_appendShot 5 = .ok (.aload_n 0, 1) := by decide +kernel
theorem dX0_appendShot_6 : decode cX0_appendShot 6 = .ok (.dup, 1) := by decide +kernel
theorem dX0_appendShot_7 : decode cX0_appendShot 7 = .ok (.getfield 27, 3) := by decide +kernel
theorem dX0_appendShot_10 : decode cX0_appendShot 10 = .ok (.iconst 1, 1) := by decide +kernel
theorem dX0_appendShot_11 : decode cX0_appendShot 11 = .ok (.iadd, 1) := by decide +kernel
theorem dX0_appendShot_12 : decode cX0_appendShot 12 = .ok (.putfield 27, 3) := by decide +kernel
theorem dX0_appendShot_15 : decode cX0_appendShot 15 = .ok (.aload_n 0, 1) := by decide +kernel
theorem dX0_appendShot_16 : decode cX0_appendShot 16 = .ok (.getfield 24, 3) := by decide +kernel
theorem dX0_appendShot_19 : decode cX0_appendShot 19 = .ok (.iload_n 2, 1) := by decide +kernel
theorem dX0_appendShot_20 : decode cX0_appendShot 20 = .ok (.iload_n 1, 1) := by decide +kernel
theorem dX0_appendShot_21 : decode cX0_appendShot 21 = .ok (.invokestatic 42, 3) := by decide +kernel
theorem dX0_appendShot_24 : decode cX0_appendShot 24 = .ok (.aload_n 0, 1) := by decide +kernel
theorem dX0_appendShot_25 : decode cX0_appendShot 25 = .ok (.iload_n 2, 1) := by decide +kernel
theorem dX0_appendShot_26 : decode cX0_appendShot 26 = .ok (.iconst 0, 1) := by decide +kernel
theorem dX0_appendShot_27 : decode cX0_appendShot 27 = .ok (.iload_n 1, 1) := by decide +kernel
theorem dX0_appendShot_28 : decode cX0_appendShot 28 = .ok (.aload_n 0, 1) := by decide +kernel
theorem dX0_appendShot_29 : decode cX0_appendShot 29 = .ok (.getfield 35, 3) := by decide +kernel
theorem dX0_appendShot_32 : decode cX0_appendShot 32 = .ok (.invokevirtual 46, 3) := by decide +kernel
theorem dX0_appendShot_35 : decode cX0_appendShot 35 = .ok (.iload_n 2, 1) := by decide +kernel
theorem dX0_appendShot_36 : decode cX0_appendShot 36 = .ok (.ireturn, 1) := by decide +kernel
theorem dX0_takeOut_0 : decode cX0_takeOut 0 = .ok (.iconst 0, 1) := by decide +kernel
theorem dX0_takeOut_1 : decode cX0_takeOut 1 = .ok (.istore_n 3, 1) := by decide +kernel
theorem dX0_takeOut_2 : decode cX0_takeOut 2 = .ok (.iload_n 3, 1) := by decide +kernel
theorem dX0_takeOut_3 : decode cX0_takeOut 3 = .ok (.iload_n 2, 1) := by decide +kernel
theorem dX0_takeOut_4 : decode cX0_takeOut 4 = .ok (.if_icmp .ge 24, 3) := by decide +kernel
theorem dX0_takeOut_7 : decode cX0_takeOut 7 = .ok (.aload_n 0, 1) := by decide +kernel
theorem dX0_takeOut_8 : decode cX0_takeOut 8 = .ok (.getfield 18, 3) := by decide +kernel
theorem dX0_takeOut_11 : decode cX0_takeOut 11 = .ok (.aload_n 0, 1) := by decide +kernel
theorem dX0_takeOut_12 : decode cX0_takeOut 12 = .ok (.iload_n 1, 1) := by decide +kernel
theorem dX0_takeOut_13 : decode cX0_takeOut 13 = .ok (.iload_n 3, 1) := by decide +kernel
theorem dX0_takeOut_14 : decode cX0_takeOut 14 = .ok (.iadd, 1) := by decide +kernel
theorem dX0_takeOut_15 : decode cX0_takeOut 15 = .ok (.invokevirtual 38, 3) := by decide +kernel
theorem dX0_takeOut_18 : decode cX0_takeOut 18 = .ok (.iconst (-1), 1) := by decide +kernel
theorem dX0_takeOut_19 : decode cX0_takeOut 19 = .ok (.invokestatic 42, 3) := by decide +kernel
theorem dX0_takeOut_22 : decode cX0_takeOut 22 = .ok (.iinc 3 1, 3) := by decide +kernel
theorem dX0_takeOut_25 : decode cX0_takeOut 25 = .ok (.goto (-23), 3) := by decide +kernel
theorem dX0_takeOut_28 : decode cX0_takeOut 28 = .ok (.aload_n 0, 1) := by decide +kernel
theorem dX0_takeOut_29 : decode cX0_takeOut 29 = .ok (.getfield 9, 3) := by decide +kernel
theorem dX0_takeOut_32 : decode cX0_takeOut 32 = .ok (.iload_n 1, 1) := by decide +kernel
theorem dX0_takeOut_33 : decode cX0_takeOut 33 = .ok (.iload_n 2, 1) := by decide +kernel
theorem dX0_takeOut_34 : decode cX0_takeOut 34 = .ok (.iadd, 1) := by decide +kernel
theorem dX0_takeOut_35 : decode cX0_takeOut 35 = .ok (.aload_n 0, 1) := by decide +kernel
theorem dX0_takeOut_36 : decode cX0_takeOut 36 = .ok (.getfield 9, 3) := by decide +kernel
theorem dX0_takeOut_39 : decode cX0_takeOut 39 = .ok (.iload_n 1, 1) := by decide +kernel
theorem dX0_takeOut_40 : decode cX0_takeOut 40 = .ok (.aload_n 0, 1) := by decide +kernel
theorem dX0_takeOut_41 : decode cX0_takeOut 41 = .ok (.getfield 35, 3) := by decide +kernel
theorem dX0_takeOut_44 : decode cX0_takeOut 44 = .ok (.iload_n 1, 1) := by decide +kernel
theorem dX0_takeOut_45 : decode cX0_takeOut 45 = .ok (.isub, 1) := by decide +kernel
theorem dX0_takeOut_46 : decode cX0_takeOut 46 = .ok (.iload_n 2, 1) := by decide +kernel
theorem dX0_takeOut_47 : decode cX0_takeOut 47 = .ok (.isub, 1) := by decide +kernel
theorem dX0_takeOut_48 : decode cX0_takeOut 48 = .ok (.invokestatic 50, 3) := by decide +kernel
theorem dX0_takeOut_51 : decode cX0_takeOut 51 = .ok (.aload_n 0, 1) := by decide +kernel
theorem dX0_takeOut_52 : decode cX0_takeOut 52 = .ok (.dup, 1) := by decide +kernel
theorem dX0_takeOut_53 : decode cX0_takeOut 53 = .ok (.getfield 35, 3) := by decide +kernel
theorem dX0_takeOut_56 : decode cX0_takeOut 56 = .ok (.iload_n 2, 1) := by decide +kernel
theorem dX0_takeOut_57 : decode cX0_takeOut 57 = .ok (.isub, 1) := by decide +kernel
theorem dX0_takeOut_58 : decode cX0_takeOut 58 = .ok (.putfield 35, 3) := by decide +kernel
theorem dX0_takeOut_61 : decode cX0_takeOut 61 = .ok (.aload_n 0, 1) := by decide +kernel
theorem dX0_takeOut_62 : decode cX0_takeOut 62 = .ok (.iload_n 1, 1) := by decide +kernel
theorem dX0_takeOut_63 : decode cX0_takeOut 63 = .ok (.invokevirtual 54, 3) := by decide +kernel
theorem dX0_takeOut_66 : decode cX0_takeOut 66 = .ok (.return_, 1) := by decide +kernel
theorem dX0_putIn_0 : decode cX0_putIn 0 = .ok (.aload_n 0, 1) := by decide +kernel
theorem dX0_putIn_1 : decode cX0_putIn 1 = .ok (.getfield 9, 3) := by decide +kernel
theorem dX0_putIn_4 : decode cX0_putIn 4 = .ok (.iload 4, 2) := by decide +kernel
theorem dX0_putIn_6 : decode cX0_putIn 6 = .ok (.aload_n 0, 1) := by decide +kernel
theorem dX0_putIn_7 : decode cX0_putIn 7 = .ok (.getfield 9, 3) := by decide +kernel
theorem dX0_putIn_10 : decode cX0_putIn 10 = .ok (.iload 4, 2) := by decide +kernel
theorem dX0_putIn_12 : decode cX0_putIn 12 = .ok (.iload_n 3, 1) := by decide +kernel
theorem dX0_putIn_13 : decode cX0_putIn 13 = .ok (.iadd, 1) := by decide +kernel
theorem dX0_putIn_14 : decode cX0_putIn 14 = .ok (.aload_n 0, 1) := by decide +kernel
theorem dX0_putIn_15 : decode cX0_putIn 15 = .ok (.getfield 35, 3) := by decide +kernel
theorem dX0_putIn_18 : decode cX0_putIn 18 = .ok (.iload 4, 2) := by decide +kernel
theorem dX0_putIn_20 : decode cX0_putIn 20 = .ok (.isub, 1) := by decide +kernel
theorem dX0_putIn_21 : decode cX0_putIn 21 = .ok (.invokestatic 50, 3) := by decide +kernel
theorem dX0_putIn_24 : decode cX0_putIn 24 = .ok (.iconst 0, 1) := by decide +kernel
theorem dX0_putIn_25 : decode cX0_putIn 25 = .ok (.istore 5, 2) := by decide +kernel
theorem dX0_putIn_27 : decode cX0_putIn 27 = .ok (.iload 5, 2) := by decide +kernel
theorem dX0_putIn_29 : decode cX0_putIn 29 = .ok (.iload_n 3, 1) := by decide +kernel
theorem dX0_putIn_30 : decode cX0_putIn 30 = .ok (.if_icmp .ge 31, 3) := by decide +kernel
theorem dX0_putIn_33 : decode cX0_putIn 33 = .ok (.aload_n 0, 1) := by decide +kernel
theorem dX0_putIn_34 : decode cX0_putIn 34 = .ok (.getfield 9, 3) := by decide +kernel
theorem dX0_putIn_37 : decode cX0_putIn 37 = .ok (.iload 4, 2) := by decide +kernel
theorem dX0_putIn_39 : decode cX0_putIn 39 = .ok (.iload 5, 2) := by decide +kernel
theorem dX0_putIn_41 : decode cX0_putIn 41 = .ok (.iadd, 1) := by decide +kernel
theorem dX0_putIn_42 : decode cX0_putIn 42 = .ok (.iload_n 1, 1) := by decide +kernel
theorem dX0_putIn_43 : decode cX0_putIn 43 = .ok (.sipush 401, 3) := by decide +kernel
theorem dX0_putIn_46 : decode cX0_putIn 46 = .ok (.imul, 1) := by decide +kernel
theorem dX0_putIn_47 : decode cX0_putIn 47 = .ok (.iload_n 2, 1) := by decide +kernel
theorem dX0_putIn_48 : decode cX0_putIn 48 = .ok (.iadd, 1) := by decide +kernel
theorem dX0_putIn_49 : decode cX0_putIn 49 = .ok (.iload 5, 2) := by decide +kernel
theorem dX0_putIn_51 : decode cX0_putIn 51 = .ok (.iadd, 1) := by decide +kernel
theorem dX0_putIn_52 : decode cX0_putIn 52 = .ok (.invokestatic 42, 3) := by decide +kernel
theorem dX0_putIn_55 : decode cX0_putIn 55 = .ok (.iinc 5 1, 3) := by decide +kernel
theorem dX0_putIn_58 : decode cX0_putIn 58 = .ok (.goto (-31), 3) := by decide +kernel
theorem dX0_putIn_61 : decode cX0_putIn 61 = .ok (.aload_n 0, 1) := by decide +kernel
theorem dX0_putIn_62 : decode cX0_putIn 62 = .ok (.dup, 1) := by decide +kernel
theorem dX0_putIn_63 : decode cX0_putIn 63 = .ok (.getfield 35, 3) := by decide +kernel
theorem dX0_putIn_66 : decode cX0_putIn 66 = .ok (.iload_n 3, 1) := by decide +kernel
theorem dX0_putIn_67 : decode cX0_putIn 67 = .ok (.iadd, 1) := by decide +kernel
theorem dX0_putIn_68 : decode cX0_putIn 68 = .ok (.putfield 35, 3) := by decide +kernel
theorem dX0_putIn_71 : decode cX0_putIn 71 = .ok (.aload_n 0, 1) := by decide +kernel
theorem dX0_putIn_72 : decode cX0_putIn 72 = .ok (.iload 4, 2) := by decide +kernel
theorem dX0_putIn_74 : decode cX0_putIn 74 = .ok (.invokevirtual 54, 3) := by decide +kernel
theorem dX0_putIn_77 : decode cX0_putIn 77 = .ok (.return_, 1) := by decide +kernel
theorem dX0_shift_0 : decode cX0_shift 0 = .ok (.aload_n 0, 1) := by decide +kernel
theorem dX0_shift_1 : decode cX0_shift 1 = .ok (.getfield 9, 3) := by decide +kernel
theorem dX0_shift_4 : decode cX0_shift 4 = .ok (.iload_n 1, 1) := by decide +kernel
theorem dX0_shift_5 : decode cX0_shift 5 = .ok (.aload_n 0, 1) := by decide +kernel
theorem dX0_shift_6 : decode cX0_shift 6 = .ok (.getfield 15, 3) := by decide +kernel
theorem dX0_shift_9 : decode cX0_shift 9 = .ok (.iconst 0, 1) := by decide +kernel
theorem dX0_shift_10 : decode cX0_shift 10 = .ok (.iload_n 2, 1) := by decide +kernel
theorem dX0_shift_11 : decode cX0_shift 11 = .ok (.invokestatic 50, 3) := by decide +kernel
theorem dX0_shift_14 : decode cX0_shift 14 = .ok (.aload_n 0, 1) := by decide +kernel
theorem dX0_shift_15 : decode cX0_shift 15 = .ok (.getfield 9, 3) := by decide +kernel
theorem dX0_shift_18 : decode cX0_shift 18 = .ok (.iload_n 1, 1) := by decide +kernel
theorem dX0_shift_19 : decode cX0_shift 19 = .ok (.iload_n 2, 1) := by decide +kernel
theorem dX0_shift_20 : decode cX0_shift 20 = .ok (.iadd, 1) := by decide +kernel
theorem dX0_shift_21 : decode cX0_shift 21 = .ok (.aload_n 0, 1) := by decide +kernel
theorem dX0_shift_22 : decode cX0_shift 22 = .ok (.getfield 9, 3) := by decide +kernel
theorem dX0_shift_25 : decode cX0_shift 25 = .ok (.iload_n 1, 1) := by decide +kernel
theorem dX0_shift_26 : decode cX0_shift 26 = .ok (.aload_n 0, 1) := by decide +kernel
theorem dX0_shift_27 : decode cX0_shift 27 = .ok (.getfield 35, 3) := by decide +kernel
theorem dX0_shift_30 : decode cX0_shift 30 = .ok (.iload_n 1, 1) := by decide +kernel
theorem dX0_shift_31 : decode cX0_shift 31 = .ok (.isub, 1) := by decide +kernel
theorem dX0_shift_32 : decode cX0_shift 32 = .ok (.iload_n 2, 1) := by decide +kernel
theorem dX0_shift_33 : decode cX0_shift 33 = .ok (.isub, 1) := by decide +kernel
theorem dX0_shift_34 : decode cX0_shift 34 = .ok (.invokestatic 50, 3) := by decide +kernel
theorem dX0_shift_37 : decode cX0_shift 37 = .ok (.aload_n 0, 1) := by decide +kernel
theorem dX0_shift_38 : decode cX0_shift 38 = .ok (.getfield 9, 3) := by decide +kernel
theorem dX0_shift_41 : decode cX0_shift 41 = .ok (.iload_n 3, 1) := by decide +kernel
theorem dX0_shift_42 : decode cX0_shift 42 = .ok (.aload_n 0, 1) := by decide +kernel
theorem dX0_shift_43 : decode cX0_shift 43 = .ok (.getfield 9, 3) := by decide +kernel
theorem dX0_shift_46 : decode cX0_shift 46 = .ok (.iload_n 3, 1) := by decide +kernel
theorem dX0_shift_47 : decode cX0_shift 47 = .ok (.iload_n 2, 1) := by decide +kernel
theorem dX0_shift_48 : decode cX0_shift 48 = .ok (.iadd, 1) := by decide +kernel
theorem dX0_shift_49 : decode cX0_shift 49 = .ok (.aload_n 0, 1) := by decide +kernel
theorem dX0_shift_50 : decode cX0_shift 50 = .ok (.getfield 35, 3) := by decide +kernel
theorem dX0_shift_53 : decode cX0_shift 53 = .ok (.iload_n 2, 1) := by decide +kernel
theorem dX0_shift_54 : decode cX0_shift 54 = .ok (.isub, 1) := by decide +kernel
theorem dX0_shift_55 : decode cX0_shift 55 = .ok (.iload_n 3, 1) := by decide +kernel
theorem dX0_shift_56 : decode cX0_shift 56 = .ok (.isub, 1) := by decide +kernel
theorem dX0_shift_57 : decode cX0_shift 57 = .ok (.invokestatic 50, 3) := by decide +kernel
theorem dX0_shift_60 : decode cX0_shift 60 = .ok (.aload_n 0, 1) := by decide +kernel
theorem dX0_shift_61 : decode cX0_shift 61 = .ok (.getfield 15, 3) := by decide +kernel
theorem dX0_shift_64 : decode cX0_shift 64 = .ok (.iconst 0, 1) := by decide +kernel
theorem dX0_shift_65 : decode cX0_shift 65 = .ok (.aload_n 0, 1) := by decide +kernel
theorem dX0_shift_66 : decode cX0_shift 66 = .ok (.getfield 9, 3) := by decide +kernel
theorem dX0_shift_69 : decode cX0_shift 69 = .ok (.iload_n 3, 1) := by decide +kernel
theorem dX0_shift_70 : decode cX0_shift 70 = .ok (.iload_n 2, 1) := by decide +kernel
theorem dX0_shift_71 : decode cX0_shift 71 = .ok (.invokestatic 50, 3) := by decide +kernel
theorem dX0_shift_74 : decode cX0_shift 74 = .ok (.aload_n 0, 1) := by decide +kernel
theorem dX0_shift_75 : decode cX0_shift 75 = .ok (.iload_n 1, 1) := by decide +kernel
theorem dX0_shift_76 : decode cX0_shift 76 = .ok (.iload_n 3, 1) := by decide +kernel
theorem dX0_shift_77 : decode cX0_shift 77 = .ok (.invokestatic 58, 3) := by decide +kernel
theorem dX0_shift_80 : decode cX0_shift 80 = .ok (.invokevirtual 54, 3) := by decide +kernel
theorem dX0_shift_83 : decode cX0_shift 83 = .ok (.return_, 1) := by decide +kernel
theorem dX0_showsAny_0 : decode cX0_showsAny 0 = .ok (.iconst 0, 1) := by decide +kernel
theorem dX0_showsAny_1 : decode cX0_showsAny 1 = .ok (.istore 4, 2) := by decide +kernel
theorem dX0_showsAny_3 : decode cX0_showsAny 3 = .ok (.iload 4, 2) := by decide +kernel
theorem dX0_showsAny_5 : decode cX0_showsAny 5 = .ok (.iload_n 3, 1) := by decide +kernel
theorem dX0_showsAny_6 : decode cX0_showsAny 6 = .ok (.if_icmp .ge 24, 3) := by decide +kernel
theorem dX0_showsAny_9 : decode cX0_showsAny 9 = .ok (.aload_n 0, 1) := by decide +kernel
theorem dX0_showsAny_10 : decode cX0_showsAny 10 = .ok (.iload_n 1, 1) := by decide +kernel
theorem dX0_showsAny_11 : decode cX0_showsAny 11 = .ok (.iload_n 2, 1) := by decide +kernel
theorem dX0_showsAny_12 : decode cX0_showsAny 12 = .ok (.iload 4, 2) := by decide +kernel
theorem dX0_showsAny_14 : decode cX0_showsAny 14 = .ok (.iadd, 1) := by decide +kernel
theorem dX0_showsAny_15 : decode cX0_showsAny 15 = .ok (.invokevirtual 64, 3) := by decide +kernel
theorem dX0_showsAny_18 : decode cX0_showsAny 18 = .ok (.iconst (-1), 1) := by decide +kernel
theorem dX0_showsAny_19 : decode cX0_showsAny 19 = .ok (.if_icmp .eq 5, 3) := by decide +kernel
theorem dX0_showsAny_22 : decode cX0_showsAny 22 = .ok (.iconst 1, 1) := by decide +kernel
theorem dX0_showsAny_23 : decode cX0_showsAny 23 = .ok (.ireturn, 1) := by decide +kernel
theorem dX0_showsAny_24 : decode cX0_showsAny 24 = .ok (.iinc 4 1, 3) := by decide +kernel
theorem dX0_showsAny_27 : decode cX0_showsAny 27 = .ok (.goto (-24), 3) := by decide +kernel
theorem dX0_showsAny_30 : decode cX0_showsAny 30 = .ok (.iconst 0, 1) := by decide +kernel
theorem dX0_showsAny_31 : decode cX0_showsAny 31 = .ok (.ireturn, 1) := by decide +kernel
theorem dX0_marksAt_0 : decode cX0_marksAt 0 = .ok (.iload_n 1, 1) := by decide +kernel
theorem dX0_marksAt_1 : decode cX0_marksAt 1 = .ok (.ifCond .lt 20, 3) := by decide +kernel
theorem dX0_marksAt_4 : decode cX0_marksAt 4 = .ok (.iload_n 1, 1) := by decide +kernel
theorem dX0_marksAt_5 : decode cX0_marksAt 5 = .ok (.aload_n 0, 1) := by decide +kernel
theorem dX0_marksAt_6 : decode cX0_marksAt 6 = .ok (.getfield 35, 3) := by decide +kernel
theorem dX0_marksAt_9 : decode cX0_marksAt 9 = .ok (.if_icmp .ge 12, 3) := by decide +kernel
theorem dX0_marksAt_12 : decode cX0_marksAt 12 = .ok (.iload_n 1, 1) := by decide +kernel
theorem dX0_marksAt_13 : decode cX0_marksAt 13 = .ok (.aload_n 0, 1) := by decide +kernel
theorem dX0_marksAt_14 : decode cX0_marksAt 14 = .ok (.getfield 9, 3) := by decide +kernel
theorem dX0_marksAt_17 : decode cX0_marksAt 17 = .ok (.arraylength, 1) := by decide +kernel
theorem dX0_marksAt_18 : decode cX0_marksAt 18 = .ok (.if_icmp .lt 5, 3) := by decide +kernel
theorem dX0_marksAt_21 : decode cX0_marksAt 21 = .ok (.iconst 0, 1) := by decide +kernel
theorem dX0_marksAt_22 : decode cX0_marksAt 22 = .ok (.ireturn, 1) := by decide +kernel
theorem dX0_marksAt_23 : decode cX0_marksAt 23 = .ok (.aload_n 0, 1) := by decide +kernel
theorem dX0_marksAt_24 : decode cX0_marksAt 24 = .ok (.getfield 9, 3) := by decide +kernel
theorem dX0_marksAt_27 : decode cX0_marksAt 27 = .ok (.iload_n 1, 1) := by decide +kernel
theorem dX0_marksAt_28 : decode cX0_marksAt 28 = .ok (.iaload, 1) := by decide +kernel
theorem dX0_marksAt_29 : decode cX0_marksAt 29 = .ok (.istore_n 2, 1) := by decide +kernel
theorem dX0_marksAt_30 : decode cX0_marksAt 30 = .ok (.iload_n 2, 1) := by decide +kernel
theorem dX0_marksAt_31 : decode cX0_marksAt 31 = .ok (.ifCond .lt 21, 3) := by decide +kernel
theorem dX0_marksAt_34 : decode cX0_marksAt 34 = .ok (.iload_n 2, 1) := by decide +kernel
theorem dX0_marksAt_35 : decode cX0_marksAt 35 = .ok (.aload_n 0, 1) := by decide +kernel
theorem dX0_marksAt_36 : decode cX0_marksAt 36 = .ok (.getfield 21, 3) := by decide +kernel
theorem dX0_marksAt_39 : decode cX0_marksAt 39 = .ok (.arraylength, 1) := by decide +kernel
theorem dX0_marksAt_40 : decode cX0_marksAt 40 = .ok (.if_icmp .ge 12, 3) := by decide +kernel
theorem dX0_marksAt_43 : decode cX0_marksAt 43 = .ok (.aload_n 0, 1) := by decide +kernel
theorem dX0_marksAt_44 : decode cX0_marksAt 44 = .ok (.getfield 21, 3) := by decide +kernel
theorem dX0_marksAt_47 : decode cX0_marksAt 47 = .ok (.iload_n 2, 1) := by decide +kernel
theorem dX0_marksAt_48 : decode cX0_marksAt 48 = .ok (.iaload, 1) := by decide +kernel
theorem dX0_marksAt_49 : decode cX0_marksAt 49 = .ok (.goto 4, 3) := by decide +kernel
theorem dX0_marksAt_52 : decode cX0_marksAt 52 = .ok (.iconst 0, 1) := by decide +kernel
theorem dX0_marksAt_53 : decode cX0_marksAt 53 = .ok (.ireturn, 1) := by decide +kernel
theorem dX0_mark_0 : decode cX0_mark 0 = .ok (.iconst 0, 1) := by decide +kernel
theorem dX0_mark_1 : decode cX0_mark 1 = .ok (.istore 4, 2) := by decide +kernel
theorem dX0_mark_3 : decode cX0_mark 3 = .ok (.iload 4, 2) := by decide +kernel
theorem dX0_mark_5 : decode cX0_mark 5 = .ok (.iload_n 3, 1) := by decide +kernel
theorem dX0_mark_6 : decode cX0_mark 6 = .ok (.if_icmp .ge 42, 3) := by decide +kernel
theorem dX0_mark_9 : decode cX0_mark 9 = .ok (.aload_n 0, 1) := by decide +kernel
theorem dX0_mark_10 : decode cX0_mark 10 = .ok (.iload_n 2, 1) := by decide +kernel
theorem dX0_mark_11 : decode cX0_mark 11 = .ok (.iload 4, 2) := by decide +kernel
theorem dX0_mark_13 : decode cX0_mark 13 = .ok (.iadd, 1) := by decide +kernel
theorem dX0_mark_14 : decode cX0_mark 14 = .ok (.invokevirtual 38, 3) := by decide +kernel
theorem dX0_mark_17 : decode cX0_mark 17 = .ok (.istore 5, 2) := by decide +kernel
theorem dX0_mark_19 : decode cX0_mark 19 = .ok (.aload_n 0, 1) := by decide +kernel
theorem dX0_mark_20 : decode cX0_mark 20 = .ok (.getfield 21, 3) := by decide +kernel
theorem dX0_mark_23 : decode cX0_mark 23 = .ok (.iload 5, 2) := by decide +kernel
theorem dX0_mark_25 : decode cX0_mark 25 = .ok (.aload_n 0, 1) := by decide +kernel
theorem dX0_mark_26 : decode cX0_mark 26 = .ok (.getfield 21, 3) := by decide +kernel
theorem dX0_mark_29 : decode cX0_mark 29 = .ok (.iload 5, 2) := by decide +kernel
theorem dX0_mark_31 : decode cX0_mark 31 = .ok (.invokestatic 31, 3) := by decide +kernel
theorem dX0_mark_34 : decode cX0_mark 34 = .ok (.iload_n 1, 1) := by decide +kernel
theorem dX0_mark_35 : decode cX0_mark 35 = .ok (.invokestatic 67, 3) := by decide +kernel
theorem dX0_mark_38 : decode cX0_mark 38 = .ok (.ior, 1) := by decide +kernel
theorem dX0_mark_39 : decode cX0_mark 39 = .ok (.invokestatic 42, 3) := by decide +kernel
theorem dX0_mark_42 : decode cX0_mark 42 = .ok (.iinc 4 1, 3) := by decide +kernel
theorem dX0_mark_45 : decode cX0_mark 45 = .ok (.goto (-42), 3) := by decide +kernel
theorem dX0_mark_48 : decode cX0_mark 48 = .ok (.return_, 1) := by decide +kernel
theorem dX0_unmark_0 : decode cX0_unmark 0 = .ok (.iconst 0, 1) := by decide +kernel
theorem dX0_unmark_1 : decode cX0_unmark 1 = .ok (.istore_n 2, 1) := by decide +kernel
theorem dX0_unmark_2 : decode cX0_unmark 2 = .ok (.iload_n 2, 1) := by decide +kernel
theorem dX0_unmark_3 : decode cX0_unmark 3 = .ok (.aload_n 0, 1) := by decide +kernel
theorem dX0_unmark_4 : decode cX0_unmark 4 = .ok (.getfield 21, 3) := by decide +kernel
theorem dX0_unmark_7 : decode cX0_unmark 7 = .ok (.arraylength, 1) := by decide +kernel
theorem dX0_unmark_8 : decode cX0_unmark 8 = .ok (.if_icmp .ge 24, 3) := by decide +kernel
theorem dX0_unmark_11 : decode cX0_unmark 11 = .ok (.aload_n 0, 1) := by decide +kernel
theorem dX0_unmark_12 : decode cX0_unmark 12 = .ok (.getfield 21, 3) := by decide +kernel
theorem dX0_unmark_15 : decode cX0_unmark 15 = .ok (.iload_n 2, 1) := by decide +kernel
theorem dX0_unmark_16 : decode cX0_unmark 16 = .ok (.dup2, 1) := by decide +kernel
theorem dX0_unmark_17 : decode cX0_unmark 17 = .ok (.iaload, 1) := by decide +kernel
theorem dX0_unmark_18 : decode cX0_unmark 18 = .ok (.iload_n 1, 1) := by decide +kernel
theorem dX0_unmark_19 : decode cX0_unmark 19 = .ok (.invokestatic 67, 3) := by decide +kernel
theorem dX0_unmark_22 : decode cX0_unmark 22 = .ok (.iconst (-1), 1) := by decide +kernel
theorem dX0_unmark_23 : decode cX0_unmark 23 = .ok (.ixor, 1) := by decide +kernel
theorem dX0_unmark_24 : decode cX0_unmark 24 = .ok (.iand, 1) := by decide +kernel
theorem dX0_unmark_25 : decode cX0_unmark 25 = .ok (.iastore, 1) := by decide +kernel
theorem dX0_unmark_26 : decode cX0_unmark 26 = .ok (.iinc 2 1, 3) := by decide +kernel
theorem dX0_unmark_29 : decode cX0_unmark 29 = .ok (.goto (-27), 3) := by decide +kernel
theorem dX0_unmark_32 : decode cX0_unmark 32 = .ok (.return_, 1) := by decide +kernel
theorem dX0_renumber_0 : decode cX0_renumber 0 = .ok (.iload_n 1, 1) := by decide +kernel
theorem dX0_renumber_1 : decode cX0_renumber 1 = .ok (.istore_n 2, 1) := by decide +kernel
theorem dX0_renumber_2 : decode cX0_renumber 2 = .ok (.iload_n 2, 1) := by decide +kernel
theorem dX0_renumber_3 : decode cX0_renumber 3 = .ok (.ifCond .lt 53, 3) := by decide +kernel
theorem dX0_renumber_6 : decode cX0_renumber 6 = .ok (.iload_n 2, 1) := by decide +kernel
theorem dX0_renumber_7 : decode cX0_renumber 7 = .ok (.aload_n 0, 1) := by decide +kernel
theorem dX0_renumber_8 : decode cX0_renumber 8 = .ok (.getfield 35, 3) := by decide +kernel
theorem dX0_renumber_11 : decode cX0_renumber 11 = .ok (.if_icmp .ge 45, 3) := by decide +kernel
theorem dX0_renumber_14 : decode cX0_renumber 14 = .ok (.iload_n 2, 1) := by decide +kernel
theorem dX0_renumber_15 : decode cX0_renumber 15 = .ok (.aload_n 0, 1) := by decide +kernel
theorem dX0_renumber_16 : decode cX0_renumber 16 = .ok (.getfield 9, 3) := by decide +kernel
theorem dX0_renumber_19 : decode cX0_renumber 19 = .ok (.arraylength, 1) := by decide +kernel
theorem dX0_renumber_20 : decode cX0_renumber 20 = .ok (.if_icmp .ge 36, 3) := by decide +kernel
theorem dX0_renumber_23 : decode cX0_renumber 23 = .ok (.aload_n 0, 1) := by decide +kernel
theorem dX0_renumber_24 : decode cX0_renumber 24 = .ok (.getfield 9, 3) := by decide +kernel
theorem dX0_renumber_27 : decode cX0_renumber 27 = .ok (.iload_n 2, 1) := by decide +kernel
theorem dX0_renumber_28 : decode cX0_renumber 28 = .ok (.iaload, 1) := by decide +kernel
theorem dX0_renumber_29 : decode cX0_renumber 29 = .ok (.istore_n 3, 1) := by decide +kernel
theorem dX0_renumber_30 : decode cX0_renumber 30 = .ok (.iload_n 3, 1) := by decide +kernel
theorem dX0_renumber_31 : decode cX0_renumber 31 = .ok (.ifCond .lt 19, 3) := by decide +kernel
theorem dX0_renumber_34 : decode cX0_renumber 34 = .ok (.iload_n 3, 1) := by decide +kernel
theorem dX0_renumber_35 : decode cX0_renumber 35 = .ok (.aload_n 0, 1) := by decide +kernel
theorem dX0_renumber_36 : decode cX0_renumber 36 = .ok (.getfield 18, 3) := by decide +kernel
theorem dX0_renumber_39 : decode cX0_renumber 39 = .ok (.arraylength, 1) := by decide +kernel
theorem dX0_renumber_40 : decode cX0_renumber 40 = .ok (.if_icmp .ge 10, 3) := by decide +kernel
theorem dX0_renumber_43 : decode cX0_renumber 43 = .ok (.aload_n 0, 1) := by decide +kernel
theorem dX0_renumber_44 : decode cX0_renumber 44 = .ok (.getfield 18, 3) := by decide +kernel
theorem dX0_renumber_47 : decode cX0_renumber 47 = .ok (.iload_n 3, 1) := by decide +kernel
theorem dX0_renumber_48 : decode cX0_renumber 48 = .ok (.iload_n 2, 1) := by decide +kernel
theorem dX0_renumber_49 : decode cX0_renumber 49 = .ok (.iastore, 1) := by decide +kernel
theorem dX0_renumber_50 : decode cX0_renumber 50 = .ok (.iinc 2 1, 3) := by decide +kernel
theorem dX0_renumber_53 : decode cX0_renumber 53 = .ok (.goto (-51), 3) := by decide +kernel
theorem dX0_renumber_56 : decode cX0_renumber 56 = .ok (.return_, 1) := by decide +kernel
theorem dX1_init_0 : decode cX1_init 0 = .ok (.aload_n 0, 1) := by decide +kernel
theorem dX1_init_1 : decode cX1_init 1 = .ok (.invokespecial 3, 3) := by decide +kernel
theorem dX1_init_4 : decode cX1_init 4 = .ok (.aload_n 0, 1) := by decide +kernel
theorem dX1_init_5 : decode cX1_init 5 = .ok (.bipush 61, 2) := by decide +kernel
theorem dX1_init_7 : decode cX1_init 7 = .ok (.newarray .int, 2) := by decide +kernel
theorem dX1_init_9 : decode cX1_init 9 = .ok (.putfield 9, 3) := by decide +kernel
theorem dX1_init_12 : decode cX1_init 12 = .ok (.aload_n 0, 1) := by decide +kernel
theorem dX1_init_13 : decode cX1_init 13 = .ok (.bipush 61, 2) := by decide +kernel
theorem dX1_init_15 : decode cX1_init 15 = .ok (.newarray .int, 2) := by decide +kernel
theorem dX1_init_17 : decode cX1_init 17 = .ok (.putfield 15, 3) := by decide +kernel
theorem dX1_init_20 : decode cX1_init 20 = .ok (.aload_n 0, 1) := by decide +kernel
theorem dX1_init_21 : decode cX1_init 21 = .ok (.bipush 61, 2) := by decide +kernel
theorem dX1_init_23 : decode cX1_init 23 = .ok (.newarray .int, 2) := by decide +kernel
theorem dX1_init_25 : decode cX1_init 25 = .ok (.putfield 18, 3) := by decide +kernel
theorem dX1_init_28 : decode cX1_init 28 = .ok (.return_, 1) := by decide +kernel
theorem dX1_count_0 : decode cX1_count 0 = .ok (.aload_n 0, 1) := by decide +kernel
theorem dX1_count_1 : decode cX1_count 1 = .ok (.getfield 21, 3) := by decide +kernel
theorem dX1_count_4 : decode cX1_count 4 = .ok (.ireturn, 1) := by decide +kernel
theorem dX1_widest_0 : decode cX1_widest 0 = .ok (.aload_n 0, 1) := by decide +kernel
theorem dX1_widest_1 : decode cX1_widest 1 = .ok (.getfield 25, 3) := by decide +kernel
theorem dX1_widest_4 : decode cX1_widest 4 = .ok (.ireturn, 1) := by decide +kernel
theorem dX1_first_0 : decode cX1_first 0 = .ok (.aload_n 0, 1) := by decide +kernel
theorem dX1_first_1 : decode cX1_first 1 = .ok (.getfield 9, 3) := by decide +kernel
theorem dX1_first_4 : decode cX1_first 4 = .ok (.iload_n 1, 1) := by decide +kernel
theorem dX1_first_5 : decode cX1_first 5 = .ok (.invokestatic 28, 3) := by decide +kernel
theorem dX1_first_8 : decode cX1_first 8 = .ok (.ireturn, 1) := by decide +kernel
theorem dX1_end_0 : decode cX1_end 0 = .ok (.aload_n 0, 1) := by decide +kernel
theorem dX1_end_1 : decode cX1_end 1 = .ok (.getfield 15, 3) := by decide +kernel
theorem dX1_end_4 : decode cX1_end 4 = .ok (.iload_n 1, 1) := by decide +kernel
theorem dX1_end_5 : decode cX1_end 5 = .ok (.invokestatic 28, 3) := by decide +kernel
theorem dX1_end_8 : decode cX1_end 8 = .ok (.ireturn, 1) := by decide +kernel
theorem dX1_divide_0 : decode cX1_divide 0 = .ok (.aload_n 0, 1) := by decide +kernel
theorem dX1_divide_1 : decode cX1_divide 1 = .ok (.iconst 0, 1) := by decide +kernel
theorem dX1_divide_2 : decode cX1_divide 2 = .ok (.putfield 21, 3) := by decide +kernel
theorem dX1_divide_5 : decode cX1_divide 5 = .ok (.aload_n 0, 1) := by decide +kernel
theorem dX1_divide_6 : decode cX1_divide 6 = .ok (.iconst 0, 1) := by decide +kernel
theorem dX1_divide_7 : decode cX1_divide 7 = .ok (.putfield 25, 3) := by decide +kernel
theorem dX1_divide_10 : decode cX1_divide 10 = .ok (.aload_n 1, 1) := by decide +kernel
theorem dX1_divide_11 : decode cX1_divide 11 = .ok (.iload_n 2, 1) := by decide +kernel
theorem dX1_divide_12 : decode cX1_divide 12 = .ok (.invokevirtual 32, 3) := by decide +kernel
theorem dX1_divide_15 : decode cX1_divide 15 = .ok (.istore 4, 2) := by decide +kernel
theorem dX1_divide_17 : decode cX1_divide 17 = .ok (.iload 4, 2) := by decide +kernel
theorem dX1_divide_19 : decode cX1_divide 19 = .ok (.ifCond .ne 4, 3) := by decide +kernel
theorem dX1_divide_22 : decode cX1_divide 22 = .ok (.return_, 1) := by decide +kernel
theorem dX1_divide_23 : decode cX1_divide 23 = .ok (.aload_n 0, 1) := by decide +kernel
theorem dX1_divide_24 : decode cX1_divide 24 = .ok (.aload_n 1, 1) := by decide +kernel
theorem dX1_divide_25 : decode cX1_divide 25 = .ok (.iload_n 2, 1) := by decide +kernel
theorem dX1_divide_26 : decode cX1_divide 26 = .ok (.invokevirtual 38, 3) := by decide +kernel
theorem dX1_divide_29 : decode cX1_divide 29 = .ok (.iconst 0, 1) := by decide +kernel
theorem dX1_divide_30 : decode cX1_divide 30 = .ok (.istore 5, 2) := by decide +kernel
theorem dX1_divide_32 : decode cX1_divide 32 = .ok (.iconst 0, 1) := by decide +kernel
theorem dX1_divide_33 : decode cX1_divide 33 = .ok (.istore 6, 2) := by decide +kernel
theorem dX1_divide_35 : decode cX1_divide 35 = .ok (.iload 6, 2) := by decide +kernel
theorem dX1_divide_37 : decode cX1_divide 37 = .ok (.iload 4, 2) := by decide +kernel
theorem dX1_divide_39 : decode cX1_divide 39 = .ok (.if_icmp .gt 45, 3) := by decide +kernel
theorem dX1_divide_42 : decode cX1_divide 42 = .ok (.iload 6, 2) := by decide +kernel
theorem dX1_divide_44 : decode cX1_divide 44 = .ok (.iload 4, 2) := by decide +kernel
theorem dX1_divide_46 : decode cX1_divide 46 = .ok (.if_icmp .eq 15, 3) := by decide +kernel
theorem dX1_divide_49 : decode cX1_divide 49 = .ok (.aload_n 1, 1) := by decide +kernel
theorem dX1_divide_50 : decode cX1_divide 50 = .ok (.iload_n 2, 1) := by decide +kernel
theorem dX1_divide_51 : decode cX1_divide 51 = .ok (.iload 6, 2) := by decide +kernel
theorem dX1_divide_53 : decode cX1_divide 53 = .ok (.invokevirtual 42, 3) := by decide +kernel
theorem dX1_divide_56 : decode cX1_divide 56 = .ok (.bipush 10, 2) := by decide +kernel
theorem dX1_divide_58 : decode cX1_divide 58 = .ok (.if_icmp .ne 20, 3) := by decide +kernel
theorem dX1_divide_61 : decode cX1_divide 61 = .ok (.aload_n 0, 1) := by decide +kernel
theorem dX1_divide_62 : decode cX1_divide 62 = .ok (.aload_n 1, 1) := by decide +kernel
theorem dX1_divide_63 : decode cX1_divide 63 = .ok (.iload_n 2, 1) := by decide +kernel
theorem dX1_divide_64 : decode cX1_divide 64 = .ok (.iload 5, 2) := by decide +kernel
theorem dX1_divide_66 : decode cX1_divide 66 = .ok (.iload 6, 2) := by decide +kernel
theorem dX1_divide_68 : decode cX1_divide 68 = .ok (.iload_n 3, 1) := by decide +kernel
theorem dX1_divide_69 : decode cX1_divide 69 = .ok (.invokevirtual 46, 3) := by decide +kernel
theorem dX1_divide_72 : decode cX1_divide 72 = .ok (.iload 6, 2) := by decide +kernel
theorem dX1_divide_74 : decode cX1_divide 74 = .ok (.iconst 1, 1) := by decide +kernel
theorem dX1_divide_75 : decode cX1_divide 75 = .ok (.iadd, 1) := by decide +kernel
theorem dX1_divide_76 : decode cX1_divide 76 = .ok (.istore 5, 2) := by decide +kernel
theorem dX1_divide_78 : decode cX1_divide 78 = .ok (.iinc 6 1, 3) := by decide +kernel
theorem dX1_divide_81 : decode cX1_divide 81 = .ok (.goto (-46), 3) := by decide +kernel
theorem dX1_divide_84 : decode cX1_divide 84 = .ok (.return_, 1) := by decide +kernel
theorem dX1_measure_0 : decode cX1_measure 0 = .ok (.iconst 0, 1) := by decide +kernel
theorem dX1_measure_1 : decode cX1_measure 1 = .ok (.istore_n 3, 1) := by decide +kernel
theorem dX1_measure_2 : decode cX1_measure 2 = .ok (.iconst 0, 1) := by decide +kernel
theorem dX1_measure_3 : decode cX1_measure 3 = .ok (.istore 4, 2) := by decide +kernel
theorem dX1_measure_5 : decode cX1_measure 5 = .ok (.iload 4, 2) := by decide +kernel
theorem dX1_measure_7 : decode cX1_measure 7 = .ok (.aload_n 1, 1) := by decide +kernel
theorem dX1_measure_8 : decode cX1_measure 8 = .ok (.iload_n 2, 1) := by decide +kernel
theorem dX1_measure_9 : decode cX1_measure 9 = .ok (.invokevirtual 32, 3) := by decide +kernel
theorem dX1_measure_12 : decode cX1_measure 12 = .ok (.if_icmp .ge 32, 3) := by decide +kernel
theorem dX1_measure_15 : decode cX1_measure 15 = .ok (.aload_n 0, 1) := by decide +kernel
theorem dX1_measure_16 : decode cX1_measure 16 = .ok (.getfield 18, 3) := by decide +kernel
theorem dX1_measure_19 : decode cX1_measure 19 = .ok (.iload 4, 2) := by decide +kernel
theorem dX1_measure_21 : decode cX1_measure 21 = .ok (.iload_n 3, 1) := by decide +kernel
theorem dX1_measure_22 : decode cX1_measure 22 = .ok (.invokestatic 50, 3) := by decide +kernel
theorem dX1_measure_25 : decode cX1_measure 25 = .ok (.iload_n 3, 1) := by decide +kernel
theorem dX1_measure_26 : decode cX1_measure 26 = .ok (.aload_n 1, 1) := by decide +kernel
theorem dX1_measure_27 : decode cX1_measure 27 = .ok (.iload_n 2, 1) := by decide +kernel
theorem dX1_measure_28 : decode cX1_measure 28 = .ok (.iload 4, 2) := by decide +kernel
theorem dX1_measure_30 : decode cX1_measure 30 = .ok (.invokevirtual 42, 3) := by decide +kernel
theorem dX1_measure_33 : decode cX1_measure 33 = .ok (.invokestatic 54, 3) := by decide +kernel
theorem dX1_measure_36 : decode cX1_measure 36 = .ok (.iadd, 1) := by decide +kernel
theorem dX1_measure_37 : decode cX1_measure 37 = .ok (.istore_n 3, 1) := by decide +kernel
theorem dX1_measure_38 : decode cX1_measure 38 = .ok (.iinc 4 1, 3) := by decide +kernel
theorem dX1_measure_41 : decode cX1_measure 41 = .ok (.goto (-36), 3) := by decide +kernel
theorem dX1_measure_44 : decode cX1_measure 44 = .ok (.aload_n 0, 1) := by decide +kernel
theorem dX1_measure_45 : decode cX1_measure 45 = .ok (.getfield 18, 3) := by decide +kernel
theorem dX1_measure_48 : decode cX1_measure 48 = .ok (.aload_n 1, 1) := by decide +kernel
theorem dX1_measure_49 : decode cX1_measure 49 = .ok (.iload_n 2, 1) := by decide +kernel
theorem dX1_measure_50 : decode cX1_measure 50 = .ok (.invokevirtual 32, 3) := by decide +kernel
theorem dX1_measure_53 : decode cX1_measure 53 = .ok (.iload_n 3, 1) := by decide +kernel
theorem dX1_measure_54 : decode cX1_measure 54 = .ok (.invokestatic 50, 3) := by decide +kernel
theorem dX1_measure_57 : decode cX1_measure 57 = .ok (.return_, 1) := by decide +kernel
theorem dX1_widthBetween_0 : decode cX1_widthBetween 0 = .ok (.aload_n 0, 1) := by decide +kernel
theorem dX1_widthBetween_1 : decode cX1_widthBetween 1 = .ok (.getfield 18, 3) := by decide +kernel
theorem dX1_widthBetween_4 : decode cX1_widthBetween 4 = .ok (.iload_n 2, 1) := by decide +kernel
theorem dX1_widthBetween_5 : decode cX1_widthBetween 5 = .ok (.invokestatic 28, 3) := by decide +kernel
theorem dX1_widthBetween_8 : decode cX1_widthBetween 8 = .ok (.aload_n 0, 1) := by decide +kernel
theorem dX1_widthBetween_9 : decode cX1_widthBetween 9 = .ok (.getfield 18, 3) := by decide +kernel
theorem dX1_widthBetween_12 : decode cX1_widthBetween 12 = .ok (.iload_n 1, 1) := by decide +kernel
theorem dX1_widthBetween_13 : decode cX1_widthBetween 13 = .ok (.invokestatic 28, 3) := by decide +kernel
theorem dX1_widthBetween_16 : decode cX1_widthBetween 16 = .ok (.isub, 1) := by decide +kernel
theorem dX1_widthBetween_17 : decode cX1_widthBetween 17 = .ok (.ireturn, 1) := by decide +kernel
theorem dX1_dividePart_0 : decode cX1_dividePart 0 = .ok (.aload_n 0, 1) := by decide +kernel
theorem dX1_dividePart_1 : decode cX1_dividePart 1 = .ok (.iload_n 3, 1) := by decide +kernel
theorem dX1_dividePart_2 : decode cX1_dividePart 2 = .ok (.iload 4, 2) := by decide +kernel
theorem dX1_dividePart_4 : decode cX1_dividePart 4 = .ok (.invokevirtual 57, 3) := by decide +kernel
theorem dX1_dividePart_7 : decode cX1_dividePart 7 = .ok (.iload 5, 2) := by decide +kernel
theorem dX1_dividePart_9 : decode cX1_dividePart 9 = .ok (.if_icmp .le 17, 3) := by decide +kernel
theorem dX1_dividePart_12 : decode cX1_dividePart 12 = .ok (.aload_n 0, 1) := by decide +kernel
theorem dX1_dividePart_13 : decode cX1_dividePart 13 = .ok (.aload_n 1, 1) := by decide +kernel
theorem dX1_dividePart_14 : decode cX1_dividePart 14 = .ok (.iload_n 2, 1) := by decide +kernel
theorem dX1_dividePart_15 : decode cX1_dividePart 15 = .ok (.iload_n 3, 1) := by decide +kernel
theorem dX1_dividePart_16 : decode cX1_dividePart 16 = .ok (.iload 4, 2) := by decide +kernel
theorem dX1_dividePart_18 : decode cX1_dividePart 18 = .ok (.iload 5, 2) := by decide +kernel
theorem dX1_dividePart_20 : decode cX1_dividePart 20 = .ok (.invokevirtual 60, 3) := by decide +kernel
theorem dX1_dividePart_23 : decode cX1_dividePart 23 = .ok (.goto 4, 3) := by decide +kernel
theorem dX1_dividePart_26 : decode cX1_dividePart 26 = .ok (.iconst (-1), 1) := by decide +kernel
theorem dX1_dividePart_27 : decode cX1_dividePart 27 = .ok (.istore 6, 2) := by decide +kernel
theorem dX1_dividePart_29 : decode cX1_dividePart 29 = .ok (.iload 6, 2) := by decide +kernel
theorem dX1_dividePart_31 : decode cX1_dividePart 31 = .ok (.iconst (-1), 1) := by decide +kernel
theorem dX1_dividePart_32 : decode cX1_dividePart 32 = .ok (.if_icmp .ne 13, 3) := by decide +kernel
theorem dX1_dividePart_35 : decode cX1_dividePart 35 = .ok (.aload_n 0, 1) := by decide +kernel
theorem dX1_dividePart_36 : decode cX1_dividePart 36 = .ok (.iload_n 3, 1) := by decide +kernel
theorem dX1_dividePart_37 : decode cX1_dividePart 37 = .ok (.iload 4, 2) := by decide +kernel
theorem dX1_dividePart_39 : decode cX1_dividePart 39 = .ok (.invokevirtual 64, 3) := by decide +kernel
theorem dX1_dividePart_42 : decode cX1_dividePart 42 = .ok (.goto 20, 3) := by decide +kernel
theorem dX1_dividePart_45 : decode cX1_dividePart 45 = .ok (.aload_n 0, 1) := by decide +kernel
theorem dX1_dividePart_46 : decode cX1_dividePart 46 = .ok (.iload_n 3, 1) := by decide +kernel
theorem dX1_dividePart_47 : decode cX1_dividePart 47 = .ok (.iload 6, 2) := by decide +kernel
theorem dX1_dividePart_49 : decode cX1_dividePart 49 = .ok (.invokevirtual 64, 3) := by decide +kernel
theorem dX1_dividePart_52 : decode cX1_dividePart 52 = .ok (.aload_n 0, 1) := by decide +kernel
theorem dX1_dividePart_53 : decode cX1_dividePart 53 = .ok (.iload 6, 2) := by decide +kernel
theorem dX1_dividePart_55 : decode cX1_dividePart 55 = .ok (.iconst 1, 1) := by decide +kernel
theorem dX1_dividePart_56 : decode cX1_dividePart 56 = .ok (.iadd, 1) := by decide +kernel
theorem dX1_dividePart_57 : decode cX1_dividePart 57 = .ok (.iload 4, 2) := by decide +kernel
theorem dX1_dividePart_59 : decode cX1_dividePart 59 = .ok (.invokevirtual 64, 3) := by decide +kernel
theorem dX1_dividePart_62 : decode cX1_dividePart 62 = .ok (.return_, 1) := by decide +kernel
theorem dX1_bestSpace_0 : decode cX1_bestSpace 0 = .ok (.iconst (-1), 1) := by decide +kernel
theorem dX1_bestSpace_1 : decode cX1_bestSpace 1 = .ok (.istore 6, 2) := by decide +kernel
theorem dX1_bestSpace_3 : decode cX1_bestSpace 3 = .ok (.iconst 0, 1) := by decide +kernel
theorem dX1_bestSpace_4 : decode cX1_bestSpace 4 = .ok (.istore 7, 2) := by decide +kernel
theorem dX1_bestSpace_6 : decode cX1_bestSpace 6 = .ok (.iload_n 3, 1) := by decide +kernel
theorem dX1_bestSpace_7 : decode cX1_bestSpace 7 = .ok (.iconst 1, 1) := by decide +kernel
theorem dX1_bestSpace_8 : decode cX1_bestSpace 8 = .ok (.iadd, 1) := by decide +kernel
theorem dX1_bestSpace_9 : decode cX1_bestSpace 9 = .ok (.istore 8, 2) := by decide +kernel
theorem dX1_bestSpace_11 : decode cX1_bestSpace 11 = .ok (.iload 8, 2) := by decide +kernel
theorem dX1_bestSpace_13 : decode cX1_bestSpace 13 = .ok (.iload 4, 2) := by decide +kernel
theorem dX1_bestSpace_15 : decode cX1_bestSpace 15 = .ok (.iconst 1, 1) := by decide +kernel
theorem dX1_bestSpace_16 : decode cX1_bestSpace 16 = .ok (.isub, 1) := by decide +kernel
theorem dX1_bestSpace_17 : decode cX1_bestSpace 17 = .ok (.if_icmp .ge 108, 3) := by decide +kernel
theorem dX1_bestSpace_20 : decode cX1_bestSpace 20 = .ok (.aload_n 1, 1) := by decide +kernel
theorem dX1_bestSpace_21 : decode cX1_bestSpace 21 = .ok (.iload_n 2, 1) := by decide +kernel
theorem dX1_bestSpace_22 : decode cX1_bestSpace 22 = .ok (.iload 8, 2) := by decide +kernel
theorem dX1_bestSpace_24 : decode cX1_bestSpace 24 = .ok (.invokevirtual 42, 3) := by decide +kernel
theorem dX1_bestSpace_27 : decode cX1_bestSpace 27 = .ok (.bipush 32, 2) := by decide +kernel
theorem dX1_bestSpace_29 : decode cX1_bestSpace 29 = .ok (.if_icmp .ne 90, 3) := by decide +kernel
theorem dX1_bestSpace_32 : decode cX1_bestSpace 32 = .ok (.aload_n 0, 1) := by decide +kernel
theorem dX1_bestSpace_33 : decode cX1_bestSpace 33 = .ok (.iload_n 3, 1) := by decide +kernel
theorem dX1_bestSpace_34 : decode cX1_bestSpace 34 = .ok (.iload 8, 2) := by decide +kernel
theorem dX1_bestSpace_36 : decode cX1_bestSpace 36 = .ok (.invokevirtual 57, 3) := by decide +kernel
theorem dX1_bestSpace_39 : decode cX1_bestSpace 39 = .ok (.istore 9, 2) := by decide +kernel
theorem dX1_bestSpace_41 : decode cX1_bestSpace 41 = .ok (.aload_n 0, 1) := by decide +kernel
theorem dX1_bestSpace_42 : decode cX1_bestSpace 42 = .ok (.iload 8, 2) := by decide +kernel
theorem dX1_bestSpace_44 : decode cX1_bestSpace 44 = .ok (.iconst 1, 1) := by decide +kernel
theorem dX1_bestSpace_45 : decode cX1_bestSpace 45 = .ok (.iadd, 1) := by decide +kernel
theorem dX1_bestSpace_46 : decode cX1_bestSpace 46 = .ok (.iload 4, 2) := by decide +kernel
theorem dX1_bestSpace_48 : decode cX1_bestSpace 48 = .ok (.invokevirtual 57, 3) := by decide +kernel
theorem dX1_bestSpace_51 : decode cX1_bestSpace 51 = .ok (.istore 10, 2) := by decide +kernel
theorem dX1_bestSpace_53 : decode cX1_bestSpace 53 = .ok (.iload 9, 2) := by decide +kernel
theorem dX1_bestSpace_55 : decode cX1_bestSpace 55 = .ok (.iload 10, 2) := by decide +kernel
theorem dX1_bestSpace_57 : decode cX1_bestSpace 57 = .ok (.isub, 1) := by decide +kernel
theorem dX1_bestSpace_58 : decode cX1_bestSpace 58 = .ok (.invokestatic 68, 3) := by decide +kernel
theorem dX1_bestSpace_61 : decode cX1_bestSpace 61 = .ok (.aload_n 1, 1) := by decide +kernel
theorem dX1_bestSpace_62 : decode cX1_bestSpace 62 = .ok (.iload_n 2, 1) := by decide +kernel
theorem dX1_bestSpace_63 : decode cX1_bestSpace 63 = .ok (.iload 8, 2) := by decide +kernel
theorem dX1_bestSpace_65 : decode cX1_bestSpace 65 = .ok (.iconst 1, 1) := by decide +kernel
theorem dX1_bestSpace_66 : decode cX1_bestSpace 66 = .ok (.isub, 1) := by decide +kernel
theorem dX1_bestSpace_67 : decode cX1_bestSpace 67 = .ok (.invokevirtual 42, 3) := by decide +kernel
theorem dX1_bestSpace_70 : decode cX1_bestSpace 70 = .ok (.invokestatic 73, 3) := by decide +kernel
theorem dX1_bestSpace_73 : decode cX1_bestSpace 73 = .ok (.ifCond .eq 7, 3) := by decide +kernel
theorem dX1_bestSpace_76 : decode cX1_bestSpace 76 = .ok (.iconst 0, 1) := by decide +kernel
theorem dX1_bestSpace_77 : decode cX1_bestSpace 77 = .ok (.goto 4, 3) := by decide +kernel
theorem dX1_bestSpace_80 : decode cX1_bestSpace 80 = .ok (.iconst 5, 1) := by decide +kernel
theorem dX1_bestSpace_81 : decode cX1_bestSpace 81 = .ok (.iadd, 1) := by decide +kernel
theorem dX1_bestSpace_82 : decode cX1_bestSpace 82 = .ok (.istore 11, 2) := by decide +kernel
theorem dX1_bestSpace_84 : decode cX1_bestSpace 84 = .ok (.iload 9, 2) := by decide +kernel
theorem dX1_bestSpace_86 : decode cX1_bestSpace 86 = .ok (.iload 5, 2) := by decide +kernel
theorem dX1_bestSpace_88 : decode cX1_bestSpace 88 = .ok (.if_icmp .gt 31, 3) := by decide +kernel
theorem dX1_bestSpace_91 : decode cX1_bestSpace 91 = .ok (.iload 10, 2) := by decide +kernel
theorem dX1_bestSpace_93 : decode cX1_bestSpace 93 = .ok (.iload 5, 2) := by decide +kernel
theorem dX1_bestSpace_95 : decode cX1_bestSpace 95 = .ok (.if_icmp .gt 24, 3) := by decide +kernel
theorem dX1_bestSpace_98 : decode cX1_bestSpace 98 = .ok (.iload 6, 2) := by decide +kernel
theorem dX1_bestSpace_100 : decode cX1_bestSpace 100 = .ok (.iconst (-1), 1) := by decide +kernel
theorem dX1_bestSpace_101 : decode cX1_bestSpace 101 = .ok (.if_icmp .eq 10, 3) := by decide +kernel
theorem dX1_bestSpace_104 : decode cX1_bestSpace 104 = .ok (.iload 11, 2) := by decide +kernel
theorem dX1_bestSpace_106 : decode cX1_bestSpace 106 = .ok (.iload 7, 2) := by decide +kernel
theorem dX1_bestSpace_108 : decode cX1_bestSpace 108 = .ok (.if_icmp .ge 11, 3) := by decide +kernel
theorem dX1_bestSpace_111 : decode cX1_bestSpace 111 = .ok (.iload 8, 2) := by decide +kernel
theorem dX1_bestSpace_113 : decode cX1_bestSpace 113 = .ok (.istore 6, 2) := by decide +kernel
theorem dX1_bestSpace_115 : decode cX1_bestSpace 115 = .ok (.iload 11, 2) := by decide +kernel
theorem dX1_bestSpace_117 : decode cX1_bestSpace 117 = .ok (.istore 7, 2) := by decide +kernel
theorem dX1_bestSpace_119 : decode cX1_bestSpace 119 = .ok (.iinc 8 1, 3) := by decide +kernel
theorem dX1_bestSpace_122 : decode cX1_bestSpace 122 = .ok (.goto (-111), 3) := by decide +kernel
theorem dX1_bestSpace_125 : decode cX1_bestSpace 125 = .ok (.iload 6, 2) := by decide +kernel
theorem dX1_bestSpace_127 : decode cX1_bestSpace 127 = .ok (.ireturn, 1) := by decide +kernel
theorem dX1_keepRow_0 : decode cX1_keepRow 0 = .ok (.aload_n 0, 1) := by decide +kernel
theorem dX1_keepRow_1 : decode cX1_keepRow 1 = .ok (.getfield 9, 3) := by decide +kernel
theorem dX1_keepRow_4 : decode cX1_keepRow 4 = .ok (.aload_n 0, 1) := by decide +kernel
theorem dX1_keepRow_5 : decode cX1_keepRow 5 = .ok (.getfield 21, 3) := by decide +kernel
theorem dX1_keepRow_8 : decode cX1_keepRow 8 = .ok (.iload_n 1, 1) := by decide +kernel
theorem dX1_keepRow_9 : decode cX1_keepRow 9 = .ok (.invokestatic 50, 3) := by decide +kernel
theorem dX1_keepRow_12 : decode cX1_keepRow 12 = .ok (.aload_n 0, 1) := by decide +kernel
theorem dX1_keepRow_13 : decode cX1_keepRow 13 = .ok (.getfield 15, 3) := by decide +kernel
theorem dX1_keepRow_16 : decode cX1_keepRow 16 = .ok (.aload_n 0, 1) := by decide +kernel
theorem dX1_keepRow_17 : decode cX1_keepRow 17 = .ok (.getfield 21, 3) := by decide +kernel
theorem dX1_keepRow_20 : decode cX1_keepRow 20 = .ok (.iload_n 2, 1) := by decide +kernel
theorem dX1_keepRow_21 : decode cX1_keepRow 21 = .ok (.invokestatic 50, 3) := by decide +kernel
theorem dX1_keepRow_24 : decode cX1_keepRow 24 = .ok (.aload_n 0, 1) := by decide +kernel
theorem dX1_keepRow_25 : decode cX1_keepRow 25 = .ok (.dup, 1) := by decide +kernel
theorem dX1_keepRow_26 : decode cX1_keepRow 26 = .ok (.getfield 21, 3) := by decide +kernel
theorem dX1_keepRow_29 : decode cX1_keepRow 29 = .ok (.iconst 1, 1) := by decide +kernel
theorem dX1_keepRow_30 : decode cX1_keepRow 30 = .ok (.iadd, 1) := by decide +kernel
theorem dX1_keepRow_31 : decode cX1_keepRow 31 = .ok (.putfield 21, 3) := by decide +kernel
theorem dX1_keepRow_34 : decode cX1_keepRow 34 = .ok (.aload_n 0, 1) := by decide +kernel
theorem dX1_keepRow_35 : decode cX1_keepRow 35 = .ok (.aload_n 0, 1) := by decide +kernel
theorem dX1_keepRow_36 : decode cX1_keepRow 36 = .ok (.getfield 25, 3) := by decide +kernel
theorem dX1_keepRow_39 : decode cX1_keepRow 39 = .ok (.aload_n 0, 1) := by decide +kernel
theorem dX1_keepRow_40 : decode cX1_keepRow 40 = .ok (.iload_n 1, 1) := by decide +kernel
theorem dX1_keepRow_41 : decode cX1_keepRow 41 = .ok (.iload_n 2, 1) := by decide +kernel
theorem dX1_keepRow_42 : decode cX1_keepRow 42 = .ok (.invokevirtual 57, 3) := by decide +kernel
theorem dX1_keepRow_45 : decode cX1_keepRow 45 = .ok (.invokestatic 77, 3) := by decide +kernel
theorem dX1_keepRow_48 : decode cX1_keepRow 48 = .ok (.putfield 25, 3) := by decide +kernel
theorem dX1_keepRow_51 : decode cX1_keepRow 51 = .ok (.return_, 1) := by decide +kernel
theorem dX2_init_0 : decode cX2_init 0 = .ok (.aload_n 0, 1) := by decide +kernel
theorem dX2_init_1 : decode cX2_init 1 = .ok (.invokespecial 3, 3) := by decide +kernel
theorem dX2_init_4 : decode cX2_init 4 = .ok (.aload_n 0, 1) := by decide +kernel
theorem dX2_init_5 : decode cX2_init 5 = .ok (.bipush 8, 2) := by decide +kernel
theorem dX2_init_7 : decode cX2_init 7 = .ok (.newarray .int, 2) := by decide +kernel
theorem dX2_init_9 : decode cX2_init 9 = .ok (.putfield 9, 3) := by decide +kernel
theorem dX2_init_12 : decode cX2_init 12 = .ok (.aload_n 0, 1) := by decide +kernel
theorem dX2_init_13 : decode cX2_init 13 = .ok (.iload_n 1, 1) := by decide +kernel
theorem dX2_init_14 : decode cX2_init 14 = .ok (.putfield 15, 3) := by decide +kernel
theorem dX2_init_17 : decode cX2_init 17 = .ok (.aload_n 0, 1) := by decide +kernel
theorem dX2_init_18 : decode cX2_init 18 = .ok (.iload_n 1, 1) := by decide +kernel
theorem dX2_init_19 : decode cX2_init 19 = .ok (.bipush 8, 2) := by decide +kernel
theorem dX2_init_21 : decode cX2_init 21 = .ok (.iadd, 1) := by decide +kernel
theorem dX2_init_22 : decode cX2_init 22 = .ok (.putfield 19, 3) := by decide +kernel
theorem dX2_init_25 : decode cX2_init 25 = .ok (.return_, 1) := by decide +kernel
theorem dX2_count_0 : decode cX2_count 0 = .ok (.aload_n 0, 1) := by decide +kernel
theorem dX2_count_1 : decode cX2_count 1 = .ok (.getfield 22, 3) := by decide +kernel
theorem dX2_count_4 : decode cX2_count 4 = .ok (.ireturn, 1) := by decide +kernel
theorem dX2_keep_0 : decode cX2_keep 0 = .ok (.aload_n 0, 1) := by decide +kernel
theorem dX2_keep_1 : decode cX2_keep 1 = .ok (.aload_n 1, 1) := by decide +kernel
theorem dX2_keep_2 : decode cX2_keep 2 = .ok (.iload_n 2, 1) := by decide +kernel
theorem dX2_keep_3 : decode cX2_keep 3 = .ok (.invokevirtual 25, 3) := by decide +kernel
theorem dX2_keep_6 : decode cX2_keep 6 = .ok (.istore 4, 2) := by decide +kernel
theorem dX2_keep_8 : decode cX2_keep 8 = .ok (.iload 4, 2) := by decide +kernel
theorem dX2_keep_10 : decode cX2_keep 10 = .ok (.iconst (-1), 1) := by decide +kernel
theorem dX2_keep_11 : decode cX2_keep 11 = .ok (.if_icmp .ne 21, 3) := by decide +kernel
theorem dX2_keep_14 : decode cX2_keep 14 = .ok (.aload_n 0, 1) := by decide +kernel
theorem dX2_keep_15 : decode cX2_keep 15 = .ok (.invokevirtual 29, 3) := by decide +kernel
theorem dX2_keep_18 : decode cX2_keep 18 = .ok (.istore 4, 2) := by decide +kernel
theorem dX2_keep_20 : decode cX2_keep 20 = .ok (.aload_n 1, 1) := by decide +kernel
theorem dX2_keep_21 : decode cX2_keep 21 = .ok (.iload_n 2, 1) := by decide +kernel
theorem dX2_keep_22 : decode cX2_keep 22 = .ok (.aload_n 0, 1) := by decide +kernel
theorem dX2_keep_23 : decode cX2_keep 23 = .ok (.getfield 15, 3) := by decide +kernel
theorem dX2_keep_26 : decode cX2_keep 26 = .ok (.iload 4, 2) := by decide +kernel
theorem dX2_keep_28 : decode cX2_keep 28 = .ok (.iadd, 1) := by decide +kernel
theorem dX2_keep_29 : decode cX2_keep 29 = .ok (.invokevirtual 33, 3) := by decide +kernel
theorem dX2_keep_32 : decode cX2_keep 32 = .ok (.aload_n 1, 1) := by decide +kernel
theorem dX2_keep_33 : decode cX2_keep 33 = .ok (.iload_n 3, 1) := by decide +kernel
theorem dX2_keep_34 : decode cX2_keep 34 = .ok (.aload_n 0, 1) := by decide +kernel
theorem dX2_keep_35 : decode cX2_keep 35 = .ok (.getfield 19, 3) := by decide +kernel
theorem dX2_keep_38 : decode cX2_keep 38 = .ok (.iload 4, 2) := by decide +kernel
theorem dX2_keep_40 : decode cX2_keep 40 = .ok (.iadd, 1) := by decide +kernel
theorem dX2_keep_41 : decode cX2_keep 41 = .ok (.invokevirtual 33, 3) := by decide +kernel
theorem dX2_keep_44 : decode cX2_keep 44 = .ok (.aload_n 0, 1) := by decide +kernel
theorem dX2_keep_45 : decode cX2_keep 45 = .ok (.iload 4, 2) := by decide +kernel
theorem dX2_keep_47 : decode cX2_keep 47 = .ok (.invokevirtual 39, 3) := by decide +kernel
theorem dX2_keep_50 : decode cX2_keep 50 = .ok (.return_, 1) := by decide +kernel
theorem dX2_give_0 : decode cX2_give 0 = .ok (.aload_n 0, 1) := by decide +kernel
theorem dX2_give_1 : decode cX2_give 1 = .ok (.aload_n 1, 1) := by decide +kernel
theorem dX2_give_2 : decode cX2_give 2 = .ok (.iload_n 2, 1) := by decide +kernel
theorem dX2_give_3 : decode cX2_give 3 = .ok (.invokevirtual 25, 3) := by decide +kernel
theorem dX2_give_6 : decode cX2_give 6 = .ok (.istore 4, 2) := by decide +kernel
theorem dX2_give_8 : decode cX2_give 8 = .ok (.iload 4, 2) := by decide +kernel
theorem dX2_give_10 : decode cX2_give 10 = .ok (.iconst (-1), 1) := by decide +kernel
theorem dX2_give_11 : decode cX2_give 11 = .ok (.if_icmp .ne 5, 3) := by decide +kernel
theorem dX2_give_14 : decode cX2_give 14 = .ok (.iconst 0, 1) := by decide +kernel
theorem dX2_give_15 : decode cX2_give 15 = .ok (.ireturn, 1) := by decide +kernel
theorem dX2_give_16 : decode cX2_give 16 = .ok (.aload_n 1, 1) := by decide +kernel
theorem dX2_give_17 : decode cX2_give 17 = .ok (.aload_n 0, 1) := by decide +kernel
theorem dX2_give_18 : decode cX2_give 18 = .ok (.getfield 19, 3) := by decide +kernel
theorem dX2_give_21 : decode cX2_give 21 = .ok (.iload 4, 2) := by decide +kernel
theorem dX2_give_23 : decode cX2_give 23 = .ok (.iadd, 1) := by decide +kernel
theorem dX2_give_24 : decode cX2_give 24 = .ok (.iload_n 3, 1) := by decide +kernel
theorem dX2_give_25 : decode cX2_give 25 = .ok (.invokevirtual 33, 3) := by decide +kernel
theorem dX2_give_28 : decode cX2_give 28 = .ok (.aload_n 0, 1) := by decide +kernel
theorem dX2_give_29 : decode cX2_give 29 = .ok (.iload 4, 2) := by decide +kernel
theorem dX2_give_31 : decode cX2_give 31 = .ok (.invokevirtual 39, 3) := by decide +kernel
theorem dX2_give_34 : decode cX2_give 34 = .ok (.iconst 1, 1) := by decide +kernel
theorem dX2_give_35 : decode cX2_give 35 = .ok (.ireturn, 1) := by decide +kernel
theorem dX2_find_0 : decode cX2_find 0 = .ok (.iconst 0, 1) := by decide +kernel
theorem dX2_find_1 : decode cX2_find 1 = .ok (.istore_n 3, 1) := by decide +kernel
theorem dX2_find_2 : decode cX2_find 2 = .ok (.iload_n 3, 1) := by decide +kernel
theorem dX2_find_3 : decode cX2_find 3 = .ok (.aload_n 0, 1) := by decide +kernel
theorem dX2_find_4 : decode cX2_find 4 = .ok (.getfield 22, 3) := by decide +kernel
theorem dX2_find_7 : decode cX2_find 7 = .ok (.if_icmp .ge 25, 3) := by decide +kernel
theorem dX2_find_10 : decode cX2_find 10 = .ok (.aload_n 1, 1) := by decide +kernel
theorem dX2_find_11 : decode cX2_find 11 = .ok (.aload_n 0, 1) := by decide +kernel
theorem dX2_find_12 : decode cX2_find 12 = .ok (.getfield 15, 3) := by decide +kernel
theorem dX2_find_15 : decode cX2_find 15 = .ok (.iload_n 3, 1) := by decide +kernel
theorem dX2_find_16 : decode cX2_find 16 = .ok (.iadd, 1) := by decide +kernel
theorem dX2_find_17 : decode cX2_find 17 = .ok (.iload_n 2, 1) := by decide +kernel
theorem dX2_find_18 : decode cX2_find 18 = .ok (.invokevirtual 43, 3) := by decide +kernel
theorem dX2_find_21 : decode cX2_find 21 = .ok (.ifCond .eq 5, 3) := by decide +kernel
theorem dX2_find_24 : decode cX2_find 24 = .ok (.iload_n 3, 1) := by decide +kernel
theorem dX2_find_25 : decode cX2_find 25 = .ok (.ireturn, 1) := by decide +kernel
theorem dX2_find_26 : decode cX2_find 26 = .ok (.iinc 3 1, 3) := by decide +kernel
theorem dX2_find_29 : decode cX2_find 29 = .ok (.goto (-27), 3) := by decide +kernel
theorem dX2_find_32 : decode cX2_find 32 = .ok (.iconst (-1), 1) := by decide +kernel
theorem dX2_find_33 : decode cX2_find 33 = .ok (.ireturn, 1) := by decide +kernel
theorem dX2_freeSlot_0 : decode cX2_freeSlot 0 = .ok (.aload_n 0, 1) := by decide +kernel
theorem dX2_freeSlot_1 : decode cX2_freeSlot 1 = .ok (.getfield 22, 3) := by decide +kernel
theorem dX2_freeSlot_4 : decode cX2_freeSlot 4 = .ok (.bipush 8, 2) := by decide +kernel
theorem dX2_freeSlot_6 : decode cX2_freeSlot 6 = .ok (.if_icmp .ge 20, 3) := by decide +kernel
theorem dX2_freeSlot_9 : decode cX2_freeSlot 9 = .ok (.aload_n 0, 1) := by decide +kernel
theorem dX2_freeSlot_10 : decode cX2_freeSlot 10 = .ok (.dup, 1) := by decide +kernel
theorem dX2_freeSlot_11 : decode cX2_freeSlot 11 = .ok (.getfield 22, 3) := by decide +kernel
theorem dX2_freeSlot_14 : decode cX2_freeSlot 14 = .ok (.iconst 1, 1) := by decide +kernel
theorem dX2_freeSlot_15 : decode cX2_freeSlot 15 = .ok (.iadd, 1) := by decide +kernel
theorem dX2_freeSlot_16 : decode cX2_freeSlot 16 = .ok (.putfield 22, 3) := by decide +kernel
theorem dX2_freeSlot_19 : decode cX2_freeSlot 19 = .ok (.aload_n 0, 1) := by decide +kernel
theorem dX2_freeSlot_20 : decode cX2_freeSlot 20 = .ok (.getfield 22, 3) := by decide +kernel
theorem dX2_freeSlot_23 : decode cX2_freeSlot 23 = .ok (.iconst 1, 1) := by decide +kernel
theorem dX2_freeSlot_24 : decode cX2_freeSlot 24 = .ok (.isub, 1) := by decide +kernel
theorem dX2_freeSlot_25 : decode cX2_freeSlot 25 = .ok (.ireturn, 1) := by decide +kernel
theorem dX2_freeSlot_26 : decode cX2_freeSlot 26 = .ok (.iconst 0, 1) := by decide +kernel
theorem dX2_freeSlot_27 : decode cX2_freeSlot 27 = .ok (.istore_n 1, 1) := by decide +kernel
theorem dX2_freeSlot_28 : decode cX2_freeSlot 28 = .ok (.iconst 1, 1) := by decide +kernel
theorem dX2_freeSlot_29 : decode cX2_freeSlot 29 = .ok (.istore_n 2, 1) := by decide +kernel
theorem dX2_freeSlot_30 : decode cX2_freeSlot 30 = .ok (.iload_n 2, 1) := by decide +kernel
theorem dX2_freeSlot_31 : decode cX2_freeSlot 31 = .ok (.aload_n 0, 1) := by decide +kernel
theorem dX2_freeSlot_32 : decode cX2_freeSlot 32 = .ok (.getfield 22, 3) := by decide +kernel
theorem dX2_freeSlot_35 : decode cX2_freeSlot 35 = .ok (.if_icmp .ge 30, 3) := by decide +kernel
theorem dX2_freeSlot_38 : decode cX2_freeSlot 38 = .ok (.aload_n 0, 1) := by decide +kernel
theorem dX2_freeSlot_39 : decode cX2_freeSlot 39 = .ok (.getfield 9, 3) := by decide +kernel
theorem dX2_freeSlot_42 : decode cX2_freeSlot 42 = .ok (.iload_n 2, 1) := by decide +kernel
theorem dX2_freeSlot_43 : decode cX2_freeSlot 43 = .ok (.invokestatic 47, 3) := by decide +kernel
theorem dX2_freeSlot_46 : decode cX2_freeSlot 46 = .ok (.aload_n 0, 1) := by decide +kernel
theorem dX2_freeSlot_47 : decode cX2_freeSlot 47 = .ok (.getfield 9, 3) := by decide +kernel
theorem dX2_freeSlot_50 : decode cX2_freeSlot 50 = .ok (.iload_n 1, 1) := by decide +kernel
theorem dX2_freeSlot_51 : decode cX2_freeSlot 51 = .ok (.invokestatic 47, 3) := by decide +kernel
theorem dX2_freeSlot_54 : decode cX2_freeSlot 54 = .ok (.if_icmp .ge 5, 3) := by decide +kernel
theorem dX2_freeSlot_57 : decode cX2_freeSlot 57 = .ok (.iload_n 2, 1) := by decide +kernel
theorem dX2_freeSlot_58 : decode cX2_freeSlot 58 = .ok (.istore_n 1, 1) := by decide +kernel
theorem dX2_freeSlot_59 : decode cX2_freeSlot 59 = .ok (.iinc 2 1, 3) := by decide +kernel
theorem dX2_freeSlot_62 : decode cX2_freeSlot 62 = .ok (.goto (-32), 3) := by decide +kernel
theorem dX2_freeSlot_65 : decode cX2_freeSlot 65 = .ok (.iload_n 1, 1) := by decide +kernel
theorem dX2_freeSlot_66 : decode cX2_freeSlot 66 = .ok (.ireturn, 1) := by decide +kernel
theorem dX2_use_0 : decode cX2_use 0 = .ok (.aload_n 0, 1) := by decide +kernel
theorem dX2_use_1 : decode cX2_use 1 = .ok (.dup, 1) := by decide +kernel
theorem dX2_use_2 : decode cX2_use 2 = .ok (.getfield 51, 3) := by decide +kernel
theorem dX2_use_5 : decode cX2_use 5 = .ok (.iconst 1, 1) := by decide +kernel
theorem dX2_use_6 : decode cX2_use 6 = .ok (.iadd, 1) := by decide +kernel
theorem dX2_use_7 : decode cX2_use 7 = .ok (.putfield 51, 3) := by decide +kernel
theorem dX2_use_10 : decode cX2_use 10 = .ok (.aload_n 0, 1) := by decide +kernel
theorem dX2_use_11 : decode cX2_use 11 = .ok (.getfield 9, 3) := by decide +kernel
theorem dX2_use_14 : decode cX2_use 14 = .ok (.iload_n 1, 1) := by decide +kernel
theorem dX2_use_15 : decode cX2_use 15 = .ok (.aload_n 0, 1) := by decide +kernel
theorem dX2_use_16 : decode cX2_use 16 = .ok (.getfield 51, 3) := by decide +kernel
theorem dX2_use_19 : decode cX2_use 19 = .ok (.invokestatic 54, 3) := by decide +kernel
theorem dX2_use_22 : decode cX2_use 22 = .ok (.return_, 1) := by decide +kernel
theorem dX3_init_0 : decode cX3_init 0 = .ok (.aload_n 0, 1) := by decide +kernel
theorem dX3_init_1 : decode cX3_init 1 = .ok (.invokespecial 3, 3) := by decide +kernel
theorem dX3_init_4 : decode cX3_init 4 = .ok (.aload_n 0, 1) := by decide +kernel
theorem dX3_init_5 : decode cX3_init 5 = .ok (.sipush 2400, 3) := by decide +kernel
theorem dX3_init_8 : decode cX3_init 8 = .ok (.newarray .char, 2) := by decide +kernel
theorem dX3_init_10 : decode cX3_init 10 = .ok (.putfield 9, 3) := by decide +kernel
theorem dX3_init_13 : decode cX3_init 13 = .ok (.return_, 1) := by decide +kernel
theorem dX3_length_0 : decode cX3_length 0 = .ok (.aload_n 0, 1) := by decide +kernel
theorem dX3_length_1 : decode cX3_length 1 = .ok (.getfield 15, 3) := by decide +kernel
theorem dX3_length_4 : decode cX3_length 4 = .ok (.ireturn, 1) := by decide +kernel
theorem dX3_at_0 : decode cX3_at 0 = .ok (.iload_n 1, 1) := by decide +kernel
theorem dX3_at_1 : decode cX3_at 1 = .ok (.ifCond .lt 21, 3) := by decide +kernel
theorem dX3_at_4 : decode cX3_at 4 = .ok (.iload_n 1, 1) := by decide +kernel
theorem dX3_at_5 : decode cX3_at 5 = .ok (.aload_n 0, 1) := by decide +kernel
theorem dX3_at_6 : decode cX3_at 6 = .ok (.getfield 9, 3) := by decide +kernel
theorem dX3_at_9 : decode cX3_at 9 = .ok (.arraylength, 1) := by decide +kernel
theorem dX3_at_10 : decode cX3_at 10 = .ok (.if_icmp .ge 12, 3) := by decide +kernel
theorem dX3_at_13 : decode cX3_at 13 = .ok (.aload_n 0, 1) := by decide +kernel
theorem dX3_at_14 : decode cX3_at 14 = .ok (.getfield 9, 3) := by decide +kernel
theorem dX3_at_17 : decode cX3_at 17 = .ok (.iload_n 1, 1) := by decide +kernel
theorem dX3_at_18 : decode cX3_at 18 = .ok (.caload, 1) := by decide +kernel
theorem dX3_at_19 : decode cX3_at 19 = .ok (.goto 4, 3) := by decide +kernel
theorem dX3_at_22 : decode cX3_at 22 = .ok (.iconst 0, 1) := by decide +kernel
theorem dX3_at_23 : decode cX3_at 23 = .ok (.ireturn, 1) := by decide +kernel
theorem dX3_clear_0 : decode cX3_clear 0 = .ok (.aload_n 0, 1) := by decide +kernel
theorem dX3_clear_1 : decode cX3_clear 1 = .ok (.iconst 0, 1) := by decide +kernel
theorem dX3_clear_2 : decode cX3_clear 2 = .ok (.putfield 15, 3) := by decide +kernel
theorem dX3_clear_5 : decode cX3_clear 5 = .ok (.return_, 1) := by decide +kernel
theorem dX3_write_0 : decode cX3_write 0 = .ok (.iload_n 1, 1) := by decide +kernel
theorem dX3_write_1 : decode cX3_write 1 = .ok (.ldc 19, 2) := by decide +kernel
theorem dX3_write_3 : decode cX3_write 3 = .ok (.if_icmp .ge 11, 3) := by decide +kernel
theorem dX3_write_6 : decode cX3_write 6 = .ok (.aload_n 0, 1) := by decide +kernel
theorem dX3_write_7 : decode cX3_write 7 = .ok (.iload_n 1, 1) := by decide +kernel
theorem dX3_write_8 : decode cX3_write 8 = .ok (.invokevirtual 20, 3) := by decide +kernel
theorem dX3_write_11 : decode cX3_write 11 = .ok (.goto 29, 3) := by decide +kernel
theorem dX3_write_14 : decode cX3_write 14 = .ok (.aload_n 0, 1) := by decide +kernel
theorem dX3_write_15 : decode cX3_write 15 = .ok (.ldc 24, 2) := by decide +kernel
theorem dX3_write_17 : decode cX3_write 17 = .ok (.iload_n 1, 1) := by decide +kernel
theorem dX3_write_18 : decode cX3_write 18 = .ok (.ldc 19, 2) := by decide +kernel
theorem dX3_write_20 : decode cX3_write 20 = .ok (.isub, 1) := by decide +kernel
theorem dX3_write_21 : decode cX3_write 21 = .ok (.bipush 10, 2) := by decide +kernel
theorem dX3_write_23 : decode cX3_write 23 = .ok (.ishr, 1) := by decide +kernel
theorem dX3_write_24 : decode cX3_write 24 = .ok (.iadd, 1) := by decide +kernel
theorem dX3_write_25 : decode cX3_write 25 = .ok (.invokevirtual 20, 3) := by decide +kernel
theorem dX3_write_28 : decode cX3_write 28 = .ok (.aload_n 0, 1) := by decide +kernel
theorem dX3_write_29 : decode cX3_write 29 = .ok (.ldc 25, 2) := by decide +kernel
theorem dX3_write_31 : decode cX3_write 31 = .ok (.iload_n 1, 1) := by decide +kernel
theorem dX3_write_32 : decode cX3_write 32 = .ok (.sipush 1023, 3) := by decide +kernel
theorem dX3_write_35 : decode cX3_write 35 = .ok (.iand, 1) := by decide +kernel
theorem dX3_write_36 : decode cX3_write 36 = .ok (.iadd, 1) := by decide +kernel
theorem dX3_write_37 : decode cX3_write 37 = .ok (.invokevirtual 20, 3) := by decide +kernel
theorem dX3_write_40 : decode cX3_write 40 = .ok (.return_, 1) := by decide +kernel
theorem dX3_writeNumber_0 : decode cX3_writeNumber 0 = .ok (.sipush 1000, 3) := by decide +kernel
theorem dX3_writeNumber_3 : decode cX3_writeNumber 3 = .ok (.istore_n 2, 1) := by decide +kernel
theorem dX3_writeNumber_4 : decode cX3_writeNumber 4 = .ok (.iload_n 2, 1) := by decide +kernel
theorem dX3_writeNumber_5 : decode cX3_writeNumber 5 = .ok (.iconst 1, 1) := by decide +kernel
theorem dX3_writeNumber_6 : decode cX3_writeNumber 6 = .ok (.if_icmp .lt 34, 3) := by decide +kernel
theorem dX3_writeNumber_9 : decode cX3_writeNumber 9 = .ok (.iload_n 1, 1) := by decide +kernel
theorem dX3_writeNumber_10 : decode cX3_writeNumber 10 = .ok (.iload_n 2, 1) := by decide +kernel
theorem dX3_writeNumber_11 : decode cX3_writeNumber 11 = .ok (.if_icmp .ge 8, 3) := by decide +kernel
theorem dX3_writeNumber_14 : decode cX3_writeNumber 14 = .ok (.iload_n 2, 1) := by decide +kernel
theorem dX3_writeNumber_15 : decode cX3_writeNumber 15 = .ok (.iconst 1, 1) := by decide +kernel
theorem dX3_writeNumber_16 : decode cX3_writeNumber 16 = .ok (.if_icmp .ne 16, 3) := by decide +kernel
theorem dX3_writeNumber_19 : decode cX3_writeNumber 19 = .ok (.aload_n 0, 1) := by decide +kernel
theorem dX3_writeNumber_20 : decode cX3_writeNumber 20 = .ok (.bipush 48, 2) := by decide +kernel
theorem dX3_writeNumber_22 : decode cX3_writeNumber 22 = .ok (.iload_n 1, 1) := by decide +kernel
theorem dX3_writeNumber_23 : decode cX3_writeNumber 23 = .ok (.iload_n 2, 1) := by decide +kernel
theorem dX3_writeNumber_24 : decode cX3_writeNumber 24 = .ok (.idiv, 1) := by decide +kernel
theorem dX3_writeNumber_25 : decode cX3_writeNumber 25 = .ok (.bipush 10, 2) := by decide +kernel
theorem dX3_writeNumber_27 : decode cX3_writeNumber 27 = .ok (.irem, 1) := by decide +kernel
theorem dX3_writeNumber_28 : decode cX3_writeNumber 28 = .ok (.iadd, 1) := by decide +kernel
theorem dX3_writeNumber_29 : decode cX3_writeNumber 29 = .ok (.invokevirtual 20, 3) := by decide +kernel
theorem dX3_writeNumber_32 : decode cX3_writeNumber 32 = .ok (.iload_n 2, 1) := by decide +kernel
theorem dX3_writeNumber_33 : decode cX3_writeNumber 33 = .ok (.bipush 10, 2) := by decide +kernel
theorem dX3_writeNumber_35 : decode cX3_writeNumber 35 = .ok (.idiv, 1) := by decide +kernel
theorem dX3_writeNumber_36 : decode cX3_writeNumber 36 = .ok (.istore_n 2, 1) := by decide +kernel
theorem dX3_writeNumber_37 : decode cX3_writeNumber 37 = .ok (.goto (-33), 3) := by decide +kernel
theorem dX3_writeNumber_40 : decode cX3_writeNumber 40 = .ok (.return_, 1) := by decide +kernel
theorem dX3_writeTwoDigits_0 : decode cX3_writeTwoDigits 0 = .ok (.aload_n 0, 1) := by decide +kernel
theorem dX3_writeTwoDigits_1 : decode cX3_writeTwoDigits 1 = .ok (.bipush 48, 2) := by decide +kernel
theorem dX3_writeTwoDigits_3 : decode cX3_writeTwoDigits 3 = .ok (.iload_n 1, 1) := by decide +kernel
theorem dX3_writeTwoDigits_4 : decode cX3_writeTwoDigits 4 = .ok (.bipush 10, 2) := by decide +kernel
theorem dX3_writeTwoDigits_6 : decode cX3_writeTwoDigits 6 = .ok (.idiv, 1) := by decide +kernel
theorem dX3_writeTwoDigits_7 : decode cX3_writeTwoDigits 7 = .ok (.iadd, 1) := by decide +kernel
theorem dX3_writeTwoDigits_8 : decode cX3_writeTwoDigits 8 = .ok (.invokevirtual 20, 3) := by decide +kernel
theorem dX3_writeTwoDigits_11 : decode cX3_writeTwoDigits 11 = .ok (.aload_n 0, 1) := by decide +kernel
theorem dX3_writeTwoDigits_12 : decode cX3_writeTwoDigits 12 = .ok (.bipush 48, 2) := by decide +kernel
theorem dX3_writeTwoDigits_14 : decode cX3_writeTwoDigits 14 = .ok (.iload_n 1, 1) := by decide +kernel
theorem dX3_writeTwoDigits_15 : decode cX3_writeTwoDigits 15 = .ok (.bipush 10, 2) := by decide +kernel
theorem dX3_writeTwoDigits_17 : decode cX3_writeTwoDigits 17 = .ok (.irem, 1) := by decide +kernel
theorem dX3_writeTwoDigits_18 : decode cX3_writeTwoDigits 18 = .ok (.iadd, 1) := by decide +kernel
theorem dX3_writeTwoDigits_19 : decode cX3_writeTwoDigits 19 = .ok (.invokevirtual 20, 3) := by decide +kernel
theorem dX3_writeTwoDigits_22 : decode cX3_writeTwoDigits 22 = .ok (.return_, 1) := by decide +kernel
theorem dX3_writeUnit_0 : decode cX3_writeUnit 0 = .ok (.aload_n 0, 1) := by decide +kernel
theorem dX3_writeUnit_1 : decode cX3_writeUnit 1 = .ok (.getfield 15, 3) := by decide +kernel
theorem dX3_writeUnit_4 : decode cX3_writeUnit 4 = .ok (.ifCond .lt 36, 3) := by decide +kernel
theorem dX3_writeUnit_7 : decode cX3_writeUnit 7 = .ok (.aload_n 0, 1) := by decide +kernel
theorem dX3_writeUnit_8 : decode cX3_writeUnit 8 = .ok (.getfield 15, 3) := by decide +kernel
theorem dX3_writeUnit_11 : decode cX3_writeUnit 11 = .ok (.aload_n 0, 1) := by decide +kernel
theorem dX3_writeUnit_12 : decode cX3_writeUnit 12 = .ok (.getfield 9, 3) := by decide +kernel
theorem dX3_writeUnit_15 : decode cX3_writeUnit 15 = .ok (.arraylength, 1) := by decide +kernel
theorem dX3_writeUnit_16 : decode cX3_writeUnit 16 = .ok (.if_icmp .ge 24, 3) := by decide +kernel
theorem dX3_writeUnit_19 : decode cX3_writeUnit 19 = .ok (.aload_n 0, 1) := by decide +kernel
theorem dX3_writeUnit_20 : decode cX3_writeUnit 20 = .ok (.getfield 9, 3) := by decide +kernel
theorem dX3_writeUnit_23 : decode cX3_writeUnit 23 = .ok (.aload_n 0, 1) := by decide +kernel
theorem dX3_writeUnit_24 : decode cX3_writeUnit 24 = .ok (.getfield 15, 3) := by decide +kernel
theorem dX3_writeUnit_27 : decode cX3_writeUnit 27 = .ok (.iload_n 1, 1) := by decide +kernel
theorem dX3_writeUnit_28 : decode cX3_writeUnit 28 = .ok (.i2c, 1) := by decide +kernel
theorem dX3_writeUnit_29 : decode cX3_writeUnit 29 = .ok (.castore, 1) := by decide +kernel
theorem dX3_writeUnit_30 : decode cX3_writeUnit 30 = .ok (.aload_n 0, 1) := by decide +kernel
theorem dX3_writeUnit_31 : decode cX3_writeUnit 31 = .ok (.dup, 1) := by decide +kernel
theorem dX3_writeUnit_32 : decode cX3_writeUnit 32 = .ok (.getfield 15, 3) := by decide +kernel
theorem dX3_writeUnit_35 : decode cX3_writeUnit 35 = .ok (.iconst 1, 1) := by decide +kernel
theorem dX3_writeUnit_36 : decode cX3_writeUnit 36 = .ok (.iadd, 1) := by decide +kernel
theorem dX3_writeUnit_37 : decode cX3_writeUnit 37 = .ok (.putfield 15, 3) := by decide +kernel
theorem dX3_writeUnit_40 : decode cX3_writeUnit 40 = .ok (.return_, 1) := by decide +kernel
theorem dX4_init_0 : decode cX4_init 0 = .ok (.aload_n 0, 1) := by decide +kernel
theorem dX4_init_1 : decode cX4_init 1 = .ok (.invokespecial 3, 3) := by decide +kernel
theorem dX4_init_4 : decode cX4_init 4 = .ok (.aload_n 0, 1) := by decide +kernel
theorem dX4_init_5 : decode cX4_init 5 = .ok (.sipush 4800, 3) := by decide +kernel
theorem dX4_init_8 : decode cX4_init 8 = .ok (.newarray .int, 2) := by decide +kernel
theorem dX4_init_10 : decode cX4_init 10 = .ok (.putfield 9, 3) := by decide +kernel
theorem dX4_init_13 : decode cX4_init 13 = .ok (.aload_n 0, 1) := by decide +kernel
theorem dX4_init_14 : decode cX4_init 14 = .ok (.bipush 80, 2) := by decide +kernel
theorem dX4_init_16 : decode cX4_init 16 = .ok (.newarray .int, 2) := by decide +kernel
theorem dX4_init_18 : decode cX4_init 18 = .ok (.putfield 15, 3) := by decide +kernel
theorem dX4_init_21 : decode cX4_init 21 = .ok (.return_, 1) := by decide +kernel
theorem dX4_size_0 : decode cX4_size 0 = .ok (.aload_n 0, 1) := by decide +kernel
theorem dX4_size_1 : decode cX4_size 1 = .ok (.getfield 15, 3) := by decide +kernel
theorem dX4_size_4 : decode cX4_size 4 = .ok (.iload_n 1, 1) := by decide +kernel
theorem dX4_size_5 : decode cX4_size 5 = .ok (.invokestatic 18, 3) := by decide +kernel
theorem dX4_size_8 : decode cX4_size 8 = .ok (.ireturn, 1) := by decide +kernel
theorem dX4_sign_0 : decode cX4_sign 0 = .ok (.iload_n 2, 1) := by decide +kernel
theorem dX4_sign_1 : decode cX4_sign 1 = .ok (.ifCond .lt 31, 3) := by decide +kernel
theorem dX4_sign_4 : decode cX4_sign 4 = .ok (.iload_n 2, 1) := by decide +kernel
theorem dX4_sign_5 : decode cX4_sign 5 = .ok (.aload_n 0, 1) := by decide +kernel
theorem dX4_sign_6 : decode cX4_sign 6 = .ok (.getfield 15, 3) := by decide +kernel
theorem dX4_sign_9 : decode cX4_sign 9 = .ok (.iload_n 1, 1) := by decide +kernel
theorem dX4_sign_10 : decode cX4_sign 10 = .ok (.invokestatic 18, 3) := by decide +kernel
theorem dX4_sign_13 : decode cX4_sign 13 = .ok (.if_icmp .ge 19, 3) := by decide +kernel
theorem dX4_sign_16 : decode cX4_sign 16 = .ok (.aload_n 0, 1) := by decide +kernel
theorem dX4_sign_17 : decode cX4_sign 17 = .ok (.getfield 9, 3) := by decide +kernel
theorem dX4_sign_20 : decode cX4_sign 20 = .ok (.iload_n 1, 1) := by decide +kernel
theorem dX4_sign_21 : decode cX4_sign 21 = .ok (.bipush 60, 2) := by decide +kernel
theorem dX4_sign_23 : decode cX4_sign 23 = .ok (.imul, 1) := by decide +kernel
theorem dX4_sign_24 : decode cX4_sign 24 = .ok (.iload_n 2, 1) := by decide +kernel
theorem dX4_sign_25 : decode cX4_sign 25 = .ok (.iadd, 1) := by decide +kernel
theorem dX4_sign_26 : decode cX4_sign 26 = .ok (.invokestatic 18, 3) := by decide +kernel
theorem dX4_sign_29 : decode cX4_sign 29 = .ok (.goto 4, 3) := by decide +kernel
theorem dX4_sign_32 : decode cX4_sign 32 = .ok (.iconst 0, 1) := by decide +kernel
theorem dX4_sign_33 : decode cX4_sign 33 = .ok (.ireturn, 1) := by decide +kernel
theorem dX4_append_0 : decode cX4_append 0 = .ok (.aload_n 0, 1) := by decide +kernel
theorem dX4_append_1 : decode cX4_append 1 = .ok (.iload_n 1, 1) := by decide +kernel
theorem dX4_append_2 : decode cX4_append 2 = .ok (.invokevirtual 22, 3) := by decide +kernel
theorem dX4_append_5 : decode cX4_append 5 = .ok (.istore_n 3, 1) := by decide +kernel
theorem dX4_append_6 : decode cX4_append 6 = .ok (.aload_n 0, 1) := by decide +kernel
theorem dX4_append_7 : decode cX4_append 7 = .ok (.getfield 9, 3) := by decide +kernel
theorem dX4_append_10 : decode cX4_append 10 = .ok (.iload_n 1, 1) := by decide +kernel
theorem dX4_append_11 : decode cX4_append 11 = .ok (.bipush 60, 2) := by decide +kernel
theorem dX4_append_13 : decode cX4_append 13 = .ok (.imul, 1) := by decide +kernel
theorem dX4_append_14 : decode cX4_append 14 = .ok (.iload_n 3, 1) := by decide +kernel
theorem dX4_append_15 : decode cX4_append 15 = .ok (.iadd, 1) := by decide +kernel
theorem dX4_append_16 : decode cX4_append 16 = .ok (.iload_n 2, 1) := by decide +kernel
theorem dX4_append_17 : decode cX4_append 17 = .ok (.invokestatic 26, 3) := by decide +kernel
theorem dX4_append_20 : decode cX4_append 20 = .ok (.aload_n 0, 1) := by decide +kernel
theorem dX4_append_21 : decode cX4_append 21 = .ok (.getfield 15, 3) := by decide +kernel
theorem dX4_append_24 : decode cX4_append 24 = .ok (.iload_n 1, 1) := by decide +kernel
theorem dX4_append_25 : decode cX4_append 25 = .ok (.iload_n 3, 1) := by decide +kernel
theorem dX4_append_26 : decode cX4_append 26 = .ok (.iconst 1, 1) := by decide +kernel
theorem dX4_append_27 : decode cX4_append 27 = .ok (.iadd, 1) := by decide +kernel
theorem dX4_append_28 : decode cX4_append 28 = .ok (.invokestatic 26, 3) := by decide +kernel
theorem dX4_append_31 : decode cX4_append 31 = .ok (.return_, 1) := by decide +kernel
theorem dX4_removeLast_0 : decode cX4_removeLast 0 = .ok (.aload_n 0, 1) := by decide +kernel
theorem dX4_removeLast_1 : decode cX4_removeLast 1 = .ok (.iload_n 1, 1) := by decide +kernel
theorem dX4_removeLast_2 : decode cX4_removeLast 2 = .ok (.invokevirtual 22, 3) := by decide +kernel
theorem dX4_removeLast_5 : decode cX4_removeLast 5 = .ok (.iconst 1, 1) := by decide +kernel
theorem dX4_removeLast_6 : decode cX4_removeLast 6 = .ok (.isub, 1) := by decide +kernel
theorem dX4_removeLast_7 : decode cX4_removeLast 7 = .ok (.istore_n 2, 1) := by decide +kernel
theorem dX4_removeLast_8 : decode cX4_removeLast 8 = .ok (.aload_n 0, 1) := by decide +kernel
theorem dX4_removeLast_9 : decode cX4_removeLast 9 = .ok (.iload_n 1, 1) := by decide +kernel
theorem dX4_removeLast_10 : decode cX4_removeLast 10 = .ok (.iload_n 2, 1) := by decide +kernel
theorem dX4_removeLast_11 : decode cX4_removeLast 11 = .ok (.invokevirtual 30, 3) := by decide +kernel
theorem dX4_removeLast_14 : decode cX4_removeLast 14 = .ok (.istore_n 3, 1) := by decide +kernel
theorem dX4_removeLast_15 : decode cX4_removeLast 15 = .ok (.aload_n 0, 1) := by decide +kernel
theorem dX4_removeLast_16 : decode cX4_removeLast 16 = .ok (.getfield 15, 3) := by decide +kernel
theorem dX4_removeLast_19 : decode cX4_removeLast 19 = .ok (.iload_n 1, 1) := by decide +kernel
theorem dX4_removeLast_20 : decode cX4_removeLast 20 = .ok (.iload_n 2, 1) := by decide +kernel
theorem dX4_removeLast_21 : decode cX4_removeLast 21 = .ok (.invokestatic 26, 3) := by decide +kernel
theorem dX4_removeLast_24 : decode cX4_removeLast 24 = .ok (.iload_n 3, 1) := by decide +kernel
theorem dX4_removeLast_25 : decode cX4_removeLast 25 = .ok (.ireturn, 1) := by decide +kernel
theorem dX4_copy_0 : decode cX4_copy 0 = .ok (.aload_n 0, 1) := by decide +kernel
theorem dX4_copy_1 : decode cX4_copy 1 = .ok (.getfield 9, 3) := by decide +kernel
theorem dX4_copy_4 : decode cX4_copy 4 = .ok (.iload_n 1, 1) := by decide +kernel
theorem dX4_copy_5 : decode cX4_copy 5 = .ok (.bipush 60, 2) := by decide +kernel
theorem dX4_copy_7 : decode cX4_copy 7 = .ok (.imul, 1) := by decide +kernel
theorem dX4_copy_8 : decode cX4_copy 8 = .ok (.aload_n 0, 1) := by decide +kernel
theorem dX4_copy_9 : decode cX4_copy 9 = .ok (.getfield 9, 3) := by decide +kernel
theorem dX4_copy_12 : decode cX4_copy 12 = .ok (.iload_n 2, 1) := by decide +kernel
theorem dX4_copy_13 : decode cX4_copy 13 = .ok (.bipush 60, 2) := by decide +kernel
theorem dX4_copy_15 : decode cX4_copy 15 = .ok (.imul, 1) := by decide +kernel
theorem dX4_copy_16 : decode cX4_copy 16 = .ok (.aload_n 0, 1) := by decide +kernel
theorem dX4_copy_17 : decode cX4_copy 17 = .ok (.iload_n 1, 1) := by decide +kernel
theorem dX4_copy_18 : decode cX4_copy 18 = .ok (.invokevirtual 22, 3) := by decide +kernel
theorem dX4_copy_21 : decode cX4_copy 21 = .ok (.invokestatic 34, 3) := by decide +kernel
theorem dX4_copy_24 : decode cX4_copy 24 = .ok (.aload_n 0, 1) := by decide +kernel
theorem dX4_copy_25 : decode cX4_copy 25 = .ok (.getfield 15, 3) := by decide +kernel
theorem dX4_copy_28 : decode cX4_copy 28 = .ok (.iload_n 2, 1) := by decide +kernel
theorem dX4_copy_29 : decode cX4_copy 29 = .ok (.aload_n 0, 1) := by decide +kernel
theorem dX4_copy_30 : decode cX4_copy 30 = .ok (.iload_n 1, 1) := by decide +kernel
theorem dX4_copy_31 : decode cX4_copy 31 = .ok (.invokevirtual 22, 3) := by decide +kernel
theorem dX4_copy_34 : decode cX4_copy 34 = .ok (.invokestatic 26, 3) := by decide +kernel
theorem dX4_copy_37 : decode cX4_copy 37 = .ok (.return_, 1) := by decide +kernel
theorem dX4_isSame_0 : decode cX4_isSame 0 = .ok (.aload_n 0, 1) := by decide +kernel
theorem dX4_isSame_1 : decode cX4_isSame 1 = .ok (.iload_n 1, 1) := by decide +kernel
theorem dX4_isSame_2 : decode cX4_isSame 2 = .ok (.invokevirtual 22, 3) := by decide +kernel
theorem dX4_isSame_5 : decode cX4_isSame 5 = .ok (.aload_n 0, 1) := by decide +kernel
theorem dX4_isSame_6 : decode cX4_isSame 6 = .ok (.iload_n 2, 1) := by decide +kernel
theorem dX4_isSame_7 : decode cX4_isSame 7 = .ok (.invokevirtual 22, 3) := by decide +kernel
theorem dX4_isSame_10 : decode cX4_isSame 10 = .ok (.if_icmp .eq 5, 3) := by decide +kernel
theorem dX4_isSame_13 : decode cX4_isSame 13 = .ok (.iconst 0, 1) := by decide +kernel
theorem dX4_isSame_14 : decode cX4_isSame 14 = .ok (.ireturn, 1) := by decide +kernel
theorem dX4_isSame_15 : decode cX4_isSame 15 = .ok (.iconst 0, 1) := by decide +kernel
theorem dX4_isSame_16 : decode cX4_isSame 16 = .ok (.istore_n 3, 1) := by decide +kernel
theorem dX4_isSame_17 : decode cX4_isSame 17 = .ok (.iload_n 3, 1) := by decide +kernel
theorem dX4_isSame_18 : decode cX4_isSame 18 = .ok (.aload_n 0, 1) := by decide +kernel
theorem dX4_isSame_19 : decode cX4_isSame 19 = .ok (.iload_n 1, 1) := by decide +kernel
theorem dX4_isSame_20 : decode cX4_isSame 20 = .ok (.invokevirtual 22, 3) := by decide +kernel
theorem dX4_isSame_23 : decode cX4_isSame 23 = .ok (.if_icmp .ge 26, 3) := by decide +kernel
theorem dX4_isSame_26 : decode cX4_isSame 26 = .ok (.aload_n 0, 1) := by decide +kernel
theorem dX4_isSame_27 : decode cX4_isSame 27 = .ok (.iload_n 1, 1) := by decide +kernel
theorem dX4_isSame_28 : decode cX4_isSame 28 = .ok (.iload_n 3, 1) := by decide +kernel
theorem dX4_isSame_29 : decode cX4_isSame 29 = .ok (.invokevirtual 30, 3) := by decide +kernel
theorem dX4_isSame_32 : decode cX4_isSame 32 = .ok (.aload_n 0, 1) := by decide +kernel
theorem dX4_isSame_33 : decode cX4_isSame 33 = .ok (.iload_n 2, 1) := by decide +kernel
theorem dX4_isSame_34 : decode cX4_isSame 34 = .ok (.iload_n 3, 1) := by decide +kernel
theorem dX4_isSame_35 : decode cX4_isSame 35 = .ok (.invokevirtual 30, 3) := by decide +kernel
theorem dX4_isSame_38 : decode cX4_isSame 38 = .ok (.if_icmp .eq 5, 3) := by decide +kernel
theorem dX4_isSame_41 : decode cX4_isSame 41 = .ok (.iconst 0, 1) := by decide +kernel
theorem dX4_isSame_42 : decode cX4_isSame 42 = .ok (.ireturn, 1) := by decide +kernel
theorem dX4_isSame_43 : decode cX4_isSame 43 = .ok (.iinc 3 1, 3) := by decide +kernel
theorem dX4_isSame_46 : decode cX4_isSame 46 = .ok (.goto (-29), 3) := by decide +kernel
theorem dX4_isSame_49 : decode cX4_isSame 49 = .ok (.iconst 1, 1) := by decide +kernel
theorem dX4_isSame_50 : decode cX4_isSame 50 = .ok (.ireturn, 1) := by decide +kernel
theorem dX5_init_0 : decode cX5_init 0 = .ok (.aload_n 0, 1) := by decide +kernel
theorem dX5_init_1 : decode cX5_init 1 = .ok (.invokespecial 3, 3) := by decide +kernel
theorem dX5_init_4 : decode cX5_init 4 = .ok (.aload_n 0, 1) := by decide +kernel
theorem dX5_init_5 : decode cX5_init 5 = .ok (.bipush 16, 2) := by decide +kernel
theorem dX5_init_7 : decode cX5_init 7 = .ok (.newarray .int, 2) := by decide +kernel
theorem dX5_init_9 : decode cX5_init 9 = .ok (.putfield 9, 3) := by decide +kernel
theorem dX5_init_12 : decode cX5_init 12 = .ok (.aload_n 0, 1) := by decide +kernel
theorem dX5_init_13 : decode cX5_init 13 = .ok (.bipush 16, 2) := by decide +kernel
theorem dX5_init_15 : decode cX5_init 15 = .ok (.newarray .int, 2) := by decide +kernel
theorem dX5_init_17 : decode cX5_init 17 = .ok (.putfield 15, 3) := by decide +kernel
theorem dX5_init_20 : decode cX5_init 20 = .ok (.aload_n 0, 1) := by decide +kernel
theorem dX5_init_21 : decode cX5_init 21 = .ok (.bipush 16, 2) := by decide +kernel
theorem dX5_init_23 : decode cX5_init 23 = .ok (.newarray .int, 2) := by decide +kernel
theorem dX5_init_25 : decode cX5_init 25 = .ok (.putfield 18, 3) := by decide +kernel
theorem dX5_init_28 : decode cX5_init 28 = .ok (.aload_n 0, 1) := by decide +kernel
theorem dX5_init_29 : decode cX5_init 29 = .ok (.bipush 16, 2) := by decide +kernel
theorem dX5_init_31 : decode cX5_init 31 = .ok (.newarray .int, 2) := by decide +kernel
theorem dX5_init_33 : decode cX5_init 33 = .ok (.putfield 21, 3) := by decide +kernel
theorem dX5_init_36 : decode cX5_init 36 = .ok (.aload_n 0, 1) := by decide +kernel
theorem dX5_init_37 : decode cX5_init 37 = .ok (.bipush 16, 2) := by decide +kernel
theorem dX5_init_39 : decode cX5_init 39 = .ok (.newarray .int, 2) := by decide +kernel
theorem dX5_init_41 : decode cX5_init 41 = .ok (.putfield 24, 3) := by decide +kernel
theorem dX5_init_44 : decode cX5_init 44 = .ok (.aload_n 0, 1) := by decide +kernel
theorem dX5_init_45 : decode cX5_init 45 = .ok (.getfield 9, 3) := by decide +kernel
theorem dX5_init_48 : decode cX5_init 48 = .ok (.iconst (-1), 1) := by decide +kernel
theorem dX5_init_49 : decode cX5_init 49 = .ok (.invokestatic 27, 3) := by decide +kernel
theorem dX5_init_52 : decode cX5_init 52 = .ok (.return_, 1) := by decide +kernel
theorem dX5_start_0 : decode cX5_start 0 = .ok (.aload_n 0, 1) := by decide +kernel
theorem dX5_start_1 : decode cX5_start 1 = .ok (.getfield 9, 3) := by decide +kernel
theorem dX5_start_4 : decode cX5_start 4 = .ok (.iload_n 1, 1) := by decide +kernel
theorem dX5_start_5 : decode cX5_start 5 = .ok (.invokestatic 33, 3) := by decide +kernel
theorem dX5_start_8 : decode cX5_start 8 = .ok (.ireturn, 1) := by decide +kernel
theorem dX5_length_0 : decode cX5_length 0 = .ok (.aload_n 0, 1) := by decide +kernel
theorem dX5_length_1 : decode cX5_length 1 = .ok (.getfield 15, 3) := by decide +kernel
theorem dX5_length_4 : decode cX5_length 4 = .ok (.iload_n 1, 1) := by decide +kernel
theorem dX5_length_5 : decode cX5_length 5 = .ok (.invokestatic 33, 3) := by decide +kernel
theorem dX5_length_8 : decode cX5_length 8 = .ok (.ireturn, 1) := by decide +kernel
theorem dX5_end_0 : decode cX5_end 0 = .ok (.aload_n 0, 1) := by decide +kernel
theorem dX5_end_1 : decode cX5_end 1 = .ok (.iload_n 1, 1) := by decide +kernel
theorem dX5_end_2 : decode cX5_end 2 = .ok (.invokevirtual 37, 3) := by decide +kernel
theorem dX5_end_5 : decode cX5_end 5 = .ok (.aload_n 0, 1) := by decide +kernel
theorem dX5_end_6 : decode cX5_end 6 = .ok (.iload_n 1, 1) := by decide +kernel
theorem dX5_end_7 : decode cX5_end 7 = .ok (.invokevirtual 41, 3) := by decide +kernel
theorem dX5_end_10 : decode cX5_end 10 = .ok (.iadd, 1) := by decide +kernel
theorem dX5_end_11 : decode cX5_end 11 = .ok (.ireturn, 1) := by decide +kernel
theorem dX5_isIn_0 : decode cX5_isIn 0 = .ok (.aload_n 0, 1) := by decide +kernel
theorem dX5_isIn_1 : decode cX5_isIn 1 = .ok (.iload_n 1, 1) := by decide +kernel
theorem dX5_isIn_2 : decode cX5_isIn 2 = .ok (.invokevirtual 41, 3) := by decide +kernel
theorem dX5_isIn_5 : decode cX5_isIn 5 = .ok (.ifCond .le 7, 3) := by decide +kernel
theorem dX5_isIn_8 : decode cX5_isIn 8 = .ok (.iconst 1, 1) := by decide +kernel
theorem dX5_isIn_9 : decode cX5_isIn 9 = .ok (.goto 4, 3) := by decide +kernel
theorem dX5_isIn_12 : decode cX5_isIn 12 = .ok (.iconst 0, 1) := by decide +kernel
theorem dX5_isIn_13 : decode cX5_isIn 13 = .ok (.ireturn, 1) := by decide +kernel
theorem dX5_set_0 : decode cX5_set 0 = .ok (.aload_n 0, 1) := by decide +kernel
theorem dX5_set_1 : decode cX5_set 1 = .ok (.getfield 9, 3) := by decide +kernel
theorem dX5_set_4 : decode cX5_set 4 = .ok (.iload_n 1, 1) := by decide +kernel
theorem dX5_set_5 : decode cX5_set 5 = .ok (.iload_n 2, 1) := by decide +kernel
theorem dX5_set_6 : decode cX5_set 6 = .ok (.invokestatic 44, 3) := by decide +kernel
theorem dX5_set_9 : decode cX5_set 9 = .ok (.aload_n 0, 1) := by decide +kernel
theorem dX5_set_10 : decode cX5_set 10 = .ok (.getfield 15, 3) := by decide +kernel
theorem dX5_set_13 : decode cX5_set 13 = .ok (.iload_n 1, 1) := by decide +kernel
theorem dX5_set_14 : decode cX5_set 14 = .ok (.iload_n 3, 1) := by decide +kernel
theorem dX5_set_15 : decode cX5_set 15 = .ok (.invokestatic 44, 3) := by decide +kernel
theorem dX5_set_18 : decode cX5_set 18 = .ok (.return_, 1) := by decide +kernel
theorem dX5_find_0 : decode cX5_find 0 = .ok (.aload_n 0, 1) := by decide +kernel
theorem dX5_find_1 : decode cX5_find 1 = .ok (.getfield 21, 3) := by decide +kernel
theorem dX5_find_4 : decode cX5_find 4 = .ok (.iconst (-1), 1) := by decide +kernel
theorem dX5_find_5 : decode cX5_find 5 = .ok (.invokestatic 27, 3) := by decide +kernel
theorem dX5_find_8 : decode cX5_find 8 = .ok (.aload_n 0, 1) := by decide +kernel
theorem dX5_find_9 : decode cX5_find 9 = .ok (.getfield 24, 3) := by decide +kernel
theorem dX5_find_12 : decode cX5_find 12 = .ok (.iconst 0, 1) := by decide +kernel
theorem dX5_find_13 : decode cX5_find 13 = .ok (.invokestatic 27, 3) := by decide +kernel
theorem dX5_find_16 : decode cX5_find 16 = .ok (.iconst 0, 1) := by decide +kernel
theorem dX5_find_17 : decode cX5_find 17 = .ok (.istore_n 2, 1) := by decide +kernel
theorem dX5_find_18 : decode cX5_find 18 = .ok (.iconst 0, 1) := by decide +kernel
theorem dX5_find_19 : decode cX5_find 19 = .ok (.istore_n 3, 1) := by decide +kernel
theorem dX5_find_20 : decode cX5_find 20 = .ok (.iload_n 3, 1) := by decide +kernel
theorem dX5_find_21 : decode cX5_find 21 = .ok (.aload_n 1, 1) := by decide +kernel
theorem dX5_find_22 : decode cX5_find 22 = .ok (.invokevirtual 48, 3) := by decide +kernel
theorem dX5_find_25 : decode cX5_find 25 = .ok (.if_icmp .gt 33, 3) := by decide +kernel
theorem dX5_find_28 : decode cX5_find 28 = .ok (.aload_n 1, 1) := by decide +kernel
theorem dX5_find_29 : decode cX5_find 29 = .ok (.iload_n 3, 1) := by decide +kernel
theorem dX5_find_30 : decode cX5_find 30 = .ok (.invokevirtual 54, 3) := by decide +kernel
theorem dX5_find_33 : decode cX5_find 33 = .ok (.istore 4, 2) := by decide +kernel
theorem dX5_find_35 : decode cX5_find 35 = .ok (.iload 4, 2) := by decide +kernel
theorem dX5_find_37 : decode cX5_find 37 = .ok (.iload_n 2, 1) := by decide +kernel
theorem dX5_find_38 : decode cX5_find 38 = .ok (.if_icmp .eq 11, 3) := by decide +kernel
theorem dX5_find_41 : decode cX5_find 41 = .ok (.aload_n 0, 1) := by decide +kernel
theorem dX5_find_42 : decode cX5_find 42 = .ok (.iload_n 2, 1) := by decide +kernel
theorem dX5_find_43 : decode cX5_find 43 = .ok (.iload 4, 2) := by decide +kernel
theorem dX5_find_45 : decode cX5_find 45 = .ok (.iload_n 3, 1) := by decide +kernel
theorem dX5_find_46 : decode cX5_find 46 = .ok (.invokevirtual 57, 3) := by decide +kernel
theorem dX5_find_49 : decode cX5_find 49 = .ok (.iload 4, 2) := by decide +kernel
theorem dX5_find_51 : decode cX5_find 51 = .ok (.istore_n 2, 1) := by decide +kernel
theorem dX5_find_52 : decode cX5_find 52 = .ok (.iinc 3 1, 3) := by decide +kernel
theorem dX5_find_55 : decode cX5_find 55 = .ok (.goto (-35), 3) := by decide +kernel
theorem dX5_find_58 : decode cX5_find 58 = .ok (.aload_n 0, 1) := by decide +kernel
theorem dX5_find_59 : decode cX5_find 59 = .ok (.invokevirtual 61, 3) := by decide +kernel
theorem dX5_find_62 : decode cX5_find 62 = .ok (.ireturn, 1) := by decide +kernel
theorem dX5_turn_0 : decode cX5_turn 0 = .ok (.iconst 0, 1) := by decide +kernel
theorem dX5_turn_1 : decode cX5_turn 1 = .ok (.istore 4, 2) := by decide +kernel
theorem dX5_turn_3 : decode cX5_turn 3 = .ok (.iload 4, 2) := by decide +kernel
theorem dX5_turn_5 : decode cX5_turn 5 = .ok (.bipush 16, 2) := by decide +kernel
theorem dX5_turn_7 : decode cX5_turn 7 = .ok (.if_icmp .ge 62, 3) := by decide +kernel
theorem dX5_turn_10 : decode cX5_turn 10 = .ok (.iload_n 1, 1) := by decide +kernel
theorem dX5_turn_11 : decode cX5_turn 11 = .ok (.iload 4, 2) := by decide +kernel
theorem dX5_turn_13 : decode cX5_turn 13 = .ok (.invokestatic 64, 3) := by decide +kernel
theorem dX5_turn_16 : decode cX5_turn 16 = .ok (.istore 5, 2) := by decide +kernel
theorem dX5_turn_18 : decode cX5_turn 18 = .ok (.iload_n 2, 1) := by decide +kernel
theorem dX5_turn_19 : decode cX5_turn 19 = .ok (.iload 4, 2) := by decide +kernel
theorem dX5_turn_21 : decode cX5_turn 21 = .ok (.invokestatic 64, 3) := by decide +kernel
theorem dX5_turn_24 : decode cX5_turn 24 = .ok (.istore 6, 2) := by decide +kernel
theorem dX5_turn_26 : decode cX5_turn 26 = .ok (.iload 6, 2) := by decide +kernel
theorem dX5_turn_28 : decode cX5_turn 28 = .ok (.ifCond .eq 18, 3) := by decide +kernel
theorem dX5_turn_31 : decode cX5_turn 31 = .ok (.iload 5, 2) := by decide +kernel
theorem dX5_turn_33 : decode cX5_turn 33 = .ok (.ifCond .ne 13, 3) := by decide +kernel
theorem dX5_turn_36 : decode cX5_turn 36 = .ok (.aload_n 0, 1) := by decide +kernel
theorem dX5_turn_37 : decode cX5_turn 37 = .ok (.getfield 18, 3) := by decide +kernel
theorem dX5_turn_40 : decode cX5_turn 40 = .ok (.iload 4, 2) := by decide +kernel
theorem dX5_turn_42 : decode cX5_turn 42 = .ok (.iload_n 3, 1) := by decide +kernel
theorem dX5_turn_43 : decode cX5_turn 43 = .ok (.invokestatic 44, 3) := by decide +kernel
theorem dX5_turn_46 : decode cX5_turn 46 = .ok (.iload 5, 2) := by decide +kernel
theorem dX5_turn_48 : decode cX5_turn 48 = .ok (.ifCond .eq 15, 3) := by decide +kernel
theorem dX5_turn_51 : decode cX5_turn 51 = .ok (.iload 6, 2) := by decide +kernel
theorem dX5_turn_53 : decode cX5_turn 53 = .ok (.ifCond .ne 10, 3) := by decide +kernel
theorem dX5_turn_56 : decode cX5_turn 56 = .ok (.aload_n 0, 1) := by decide +kernel
theorem dX5_turn_57 : decode cX5_turn 57 = .ok (.iload 4, 2) := by decide +kernel
theorem dX5_turn_59 : decode cX5_turn 59 = .ok (.iload_n 3, 1) := by decide +kernel
theorem dX5_turn_60 : decode cX5_turn 60 = .ok (.invokevirtual 68, 3) := by decide +kernel
theorem dX5_turn_63 : decode cX5_turn 63 = .ok (.iinc 4 1, 3) := by decide +kernel
theorem dX5_turn_66 : decode cX5_turn 66 = .ok (.goto (-63), 3) := by decide +kernel
theorem dX5_turn_69 : decode cX5_turn 69 = .ok (.return_, 1) := by decide +kernel
theorem dX5_endRun_0 : decode cX5_endRun 0 = .ok (.aload_n 0, 1) := by decide +kernel
theorem dX5_endRun_1 : decode cX5_endRun 1 = .ok (.getfield 18, 3) := by decide +kernel
theorem dX5_endRun_4 : decode cX5_endRun 4 = .ok (.iload_n 1, 1) := by decide +kernel
theorem dX5_endRun_5 : decode cX5_endRun 5 = .ok (.invokestatic 33, 3) := by decide +kernel
theorem dX5_endRun_8 : decode cX5_endRun 8 = .ok (.istore_n 3, 1) := by decide +kernel
theorem dX5_endRun_9 : decode cX5_endRun 9 = .ok (.iload_n 2, 1) := by decide +kernel
theorem dX5_endRun_10 : decode cX5_endRun 10 = .ok (.iload_n 3, 1) := by decide +kernel
theorem dX5_endRun_11 : decode cX5_endRun 11 = .ok (.isub, 1) := by decide +kernel
theorem dX5_endRun_12 : decode cX5_endRun 12 = .ok (.aload_n 0, 1) := by decide +kernel
theorem dX5_endRun_13 : decode cX5_endRun 13 = .ok (.getfield 24, 3) := by decide +kernel
theorem dX5_endRun_16 : decode cX5_endRun 16 = .ok (.iload_n 1, 1) := by decide +kernel
theorem dX5_endRun_17 : decode cX5_endRun 17 = .ok (.invokestatic 33, 3) := by decide +kernel
theorem dX5_endRun_20 : decode cX5_endRun 20 = .ok (.if_icmp .le 23, 3) := by decide +kernel
theorem dX5_endRun_23 : decode cX5_endRun 23 = .ok (.aload_n 0, 1) := by decide +kernel
theorem dX5_endRun_24 : decode cX5_endRun 24 = .ok (.getfield 21, 3) := by decide +kernel
theorem dX5_endRun_27 : decode cX5_endRun 27 = .ok (.iload_n 1, 1) := by decide +kernel
theorem dX5_endRun_28 : decode cX5_endRun 28 = .ok (.iload_n 3, 1) := by decide +kernel
theorem dX5_endRun_29 : decode cX5_endRun 29 = .ok (.invokestatic 44, 3) := by decide +kernel
theorem dX5_endRun_32 : decode cX5_endRun 32 = .ok (.aload_n 0, 1) := by decide +kernel
theorem dX5_endRun_33 : decode cX5_endRun 33 = .ok (.getfield 24, 3) := by decide +kernel
theorem dX5_endRun_36 : decode cX5_endRun 36 = .ok (.iload_n 1, 1) := by decide +kernel
theorem dX5_endRun_37 : decode cX5_endRun 37 = .ok (.iload_n 2, 1) := by decide +kernel
theorem dX5_endRun_38 : decode cX5_endRun 38 = .ok (.iload_n 3, 1) := by decide +kernel
theorem dX5_endRun_39 : decode cX5_endRun 39 = .ok (.isub, 1) := by decide +kernel
theorem dX5_endRun_40 : decode cX5_endRun 40 = .ok (.invokestatic 44, 3) := by decide +kernel
theorem dX5_endRun_43 : decode cX5_endRun 43 = .ok (.return_, 1) := by decide +kernel
theorem dX5_takeLongest_0 : decode cX5_takeLongest 0 = .ok (.iconst 0, 1) := by decide +kernel
theorem dX5_takeLongest_1 : decode cX5_takeLongest 1 = .ok (.istore_n 1, 1) := by decide +kernel
theorem dX5_takeLongest_2 : decode cX5_takeLongest 2 = .ok (.iconst 0, 1) := by decide +kernel
theorem dX5_takeLongest_3 : decode cX5_takeLongest 3 = .ok (.istore_n 2, 1) := by decide +kernel
theorem dX5_takeLongest_4 : decode cX5_takeLongest 4 = .ok (.iload_n 2, 1) := by decide +kernel
theorem dX5_takeLongest_5 : decode cX5_takeLongest 5 = .ok (.bipush 16, 2) := by decide +kernel
theorem dX5_takeLongest_7 : decode cX5_takeLongest 7 = .ok (.if_icmp .ge 58, 3) := by decide +kernel
theorem dX5_takeLongest_10 : decode cX5_takeLongest 10 = .ok (.aload_n 0, 1) := by decide +kernel
theorem dX5_takeLongest_11 : decode cX5_takeLongest 11 = .ok (.getfield 21, 3) := by decide +kernel
theorem dX5_takeLongest_14 : decode cX5_takeLongest 14 = .ok (.iload_n 2, 1) := by decide +kernel
theorem dX5_takeLongest_15 : decode cX5_takeLongest 15 = .ok (.invokestatic 33, 3) := by decide +kernel
theorem dX5_takeLongest_18 : decode cX5_takeLongest 18 = .ok (.istore_n 3, 1) := by decide +kernel
theorem dX5_takeLongest_19 : decode cX5_takeLongest 19 = .ok (.aload_n 0, 1) := by decide +kernel
theorem dX5_takeLongest_20 : decode cX5_takeLongest 20 = .ok (.getfield 24, 3) := by decide +kernel
theorem dX5_takeLongest_23 : decode cX5_takeLongest 23 = .ok (.iload_n 2, 1) := by decide +kernel
theorem dX5_takeLongest_24 : decode cX5_takeLongest 24 = .ok (.invokestatic 33, 3) := by decide +kernel
theorem dX5_takeLongest_27 : decode cX5_takeLongest 27 = .ok (.istore 4, 2) := by decide +kernel
theorem dX5_takeLongest_29 : decode cX5_takeLongest 29 = .ok (.iload_n 3, 1) := by decide +kernel
theorem dX5_takeLongest_30 : decode cX5_takeLongest 30 = .ok (.aload_n 0, 1) := by decide +kernel
theorem dX5_takeLongest_31 : decode cX5_takeLongest 31 = .ok (.iload_n 2, 1) := by decide +kernel
theorem dX5_takeLongest_32 : decode cX5_takeLongest 32 = .ok (.invokevirtual 37, 3) := by decide +kernel
theorem dX5_takeLongest_35 : decode cX5_takeLongest 35 = .ok (.if_icmp .ne 13, 3) := by decide +kernel
theorem dX5_takeLongest_38 : decode cX5_takeLongest 38 = .ok (.iload 4, 2) := by decide +kernel
theorem dX5_takeLongest_40 : decode cX5_takeLongest 40 = .ok (.aload_n 0, 1) := by decide +kernel
theorem dX5_takeLongest_41 : decode cX5_takeLongest 41 = .ok (.iload_n 2, 1) := by decide +kernel
theorem dX5_takeLongest_42 : decode cX5_takeLongest 42 = .ok (.invokevirtual 41, 3) := by decide +kernel
theorem dX5_takeLongest_45 : decode cX5_takeLongest 45 = .ok (.if_icmp .eq 14, 3) := by decide +kernel
theorem dX5_takeLongest_48 : decode cX5_takeLongest 48 = .ok (.aload_n 0, 1) := by decide +kernel
theorem dX5_takeLongest_49 : decode cX5_takeLongest 49 = .ok (.iload_n 2, 1) := by decide +kernel
theorem dX5_takeLongest_50 : decode cX5_takeLongest 50 = .ok (.iload_n 3, 1) := by decide +kernel
theorem dX5_takeLongest_51 : decode cX5_takeLongest 51 = .ok (.iload 4, 2) := by decide +kernel
theorem dX5_takeLongest_53 : decode cX5_takeLongest 53 = .ok (.invokevirtual 72, 3) := by decide +kernel
theorem dX5_takeLongest_56 : decode cX5_takeLongest 56 = .ok (.iinc 1 1, 3) := by decide +kernel
theorem dX5_takeLongest_59 : decode cX5_takeLongest 59 = .ok (.iinc 2 1, 3) := by decide +kernel
theorem dX5_takeLongest_62 : decode cX5_takeLongest 62 = .ok (.goto (-58), 3) := by decide +kernel
theorem dX5_takeLongest_65 : decode cX5_takeLongest 65 = .ok (.iload_n 1, 1) := by decide +kernel
theorem dX5_takeLongest_66 : decode cX5_takeLongest 66 = .ok (.ireturn, 1) := by decide +kernel
theorem dX6_init_0 : decode cX6_init 0 = .ok (.aload_n 0, 1) := by decide +kernel
theorem dX6_init_1 : decode cX6_init 1 = .ok (.invokespecial 1, 3) := by decide +kernel
theorem dX6_init_4 : decode cX6_init 4 = .ok (.aload_n 0, 1) := by decide +kernel
theorem dX6_init_5 : decode cX6_init 5 = .ok (.new 7, 3) := by decide +kernel
theorem dX6_init_8 : decode cX6_init 8 = .ok (.dup, 1) := by decide +kernel
theorem dX6_init_9 : decode cX6_init 9 = .ok (.invokespecial 9, 3) := by decide +kernel
theorem dX6_init_12 : decode cX6_init 12 = .ok (.putfield 10, 3) := by decide +kernel
theorem dX6_init_15 : decode cX6_init 15 = .ok (.aload_n 0, 1) := by decide +kernel
theorem dX6_init_16 : decode cX6_init 16 = .ok (.new 16, 3) := by decide +kernel
theorem dX6_init_19 : decode cX6_init 19 = .ok (.dup, 1) := by decide +kernel
theorem dX6_init_20 : decode cX6_init 20 = .ok (.invokespecial 18, 3) := by decide +kernel
theorem dX6_init_23 : decode cX6_init 23 = .ok (.putfield 19, 3) := by decide +kernel
theorem dX6_init_26 : decode cX6_init 26 = .ok (.aload_n 0, 1) := by decide +kernel
theorem dX6_init_27 : decode cX6_init 27 = .ok (.new 23, 3) := by decide +kernel
theorem dX6_init_30 : decode cX6_init 30 = .ok (.dup, 1) := by decide +kernel
theorem dX6_init_31 : decode cX6_init 31 = .ok (.invokespecial 25, 3) := by decide +kernel
theorem dX6_init_34 : decode cX6_init 34 = .ok (.putfield 26, 3) := by decide +kernel
theorem dX6_init_37 : decode cX6_init 37 = .ok (.aload_n 0, 1) := by decide +kernel
theorem dX6_init_38 : decode cX6_init 38 = .ok (.new 30, 3) := by decide +kernel
theorem dX6_init_41 : decode cX6_init 41 = .ok (.dup, 1) := by decide +kernel
theorem dX6_init_42 : decode cX6_init 42 = .ok (.bipush 48, 2) := by decide +kernel
theorem dX6_init_44 : decode cX6_init 44 = .ok (.invokespecial 32, 3) := by decide +kernel
theorem dX6_init_47 : decode cX6_init 47 = .ok (.putfield 35, 3) := by decide +kernel
theorem dX6_init_50 : decode cX6_init 50 = .ok (.aload_n 0, 1) := by decide +kernel
theorem dX6_init_51 : decode cX6_init 51 = .ok (.new 30, 3) := by decide +kernel
theorem dX6_init_54 : decode cX6_init 54 = .ok (.dup, 1) := by decide +kernel
theorem dX6_init_55 : decode cX6_init 55 = .ok (.bipush 64, 2) := by decide +kernel
theorem dX6_init_57 : decode cX6_init 57 = .ok (.invokespecial 32, 3) := by decide +kernel
theorem dX6_init_60 : decode cX6_init 60 = .ok (.putfield 39, 3) := by decide +kernel
theorem dX6_init_63 : decode cX6_init 63 = .ok (.aload_n 0, 1) := by decide +kernel
theorem dX6_init_64 : decode cX6_init 64 = .ok (.new 42, 3) := by decide +kernel
theorem dX6_init_67 : decode cX6_init 67 = .ok (.dup, 1) := by decide +kernel
theorem dX6_init_68 : decode cX6_init 68 = .ok (.invokespecial 44, 3) := by decide +kernel
theorem dX6_init_71 : decode cX6_init 71 = .ok (.putfield 45, 3) := by decide +kernel
theorem dX6_init_74 : decode cX6_init 74 = .ok (.aload_n 0, 1) := by decide +kernel
theorem dX6_init_75 : decode cX6_init 75 = .ok (.new 49, 3) := by decide +kernel
theorem dX6_init_78 : decode cX6_init 78 = .ok (.dup, 1) := by decide +kernel
theorem dX6_init_79 : decode cX6_init 79 = .ok (.invokespecial 51, 3) := by decide +kernel
theorem dX6_init_82 : decode cX6_init 82 = .ok (.putfield 52, 3) := by decide +kernel
theorem dX6_init_85 : decode cX6_init 85 = .ok (.aload_n 0, 1) := by decide +kernel
theorem dX6_init_86 : decode cX6_init 86 = .ok (.bipush 16, 2) := by decide +kernel
theorem dX6_init_88 : decode cX6_init 88 = .ok (.newarray .int, 2) := by decide +kernel
theorem dX6_init_90 : decode cX6_init 90 = .ok (.putfield 56, 3) := by decide +kernel
theorem dX6_init_93 : decode cX6_init 93 = .ok (.aload_n 0, 1) := by decide +kernel
theorem dX6_init_94 : decode cX6_init 94 = .ok (.sipush 384, 3) := by decide +kernel
theorem dX6_init_97 : decode cX6_init 97 = .ok (.newarray .int, 2) := by decide +kernel
theorem dX6_init_99 : decode cX6_init 99 = .ok (.putfield 60, 3) := by decide +kernel
theorem dX6_init_102 : decode cX6_init 102 = .ok (.aload_n 0, 1) := by decide +kernel
theorem dX6_init_103 : decode cX6_init 103 = .ok (.bipush 48, 2) := by decide +kernel
theorem dX6_init_105 : decode cX6_init 105 = .ok (.newarray .boolean, 2) := by decide +kernel
theorem dX6_init_107 : decode cX6_init 107 = .ok (.putfield 63, 3) := by decide +kernel
theorem dX6_init_110 : decode cX6_init 110 = .ok (.aload_n 0, 1) := by decide +kernel
theorem dX6_init_111 : decode cX6_init 111 = .ok (.bipush 16, 2) := by decide +kernel
theorem dX6_init_113 : decode cX6_init 113 = .ok (.newarray .int, 2) := by decide +kernel
theorem dX6_init_115 : decode cX6_init 115 = .ok (.putfield 67, 3) := by decide +kernel
theorem dX6_init_118 : decode cX6_init 118 = .ok (.aload_n 0, 1) := by decide +kernel
theorem dX6_init_119 : decode cX6_init 119 = .ok (.iconst 0, 1) := by decide +kernel
theorem dX6_init_120 : decode cX6_init 120 = .ok (.putfield 70, 3) := by decide +kernel
theorem dX6_init_123 : decode cX6_init 123 = .ok (.aload_n 0, 1) := by decide +kernel
theorem dX6_init_124 : decode cX6_init 124 = .ok (.bipush 32, 2) := by decide +kernel
theorem dX6_init_126 : decode cX6_init 126 = .ok (.putfield 74, 3) := by decide +kernel
theorem dX6_init_129 : decode cX6_init 129 = .ok (.aload_n 0, 1) := by decide +kernel
theorem dX6_init_130 : decode cX6_init 130 = .ok (.bipush 15, 2) := by decide +kernel
theorem dX6_init_132 : decode cX6_init 132 = .ok (.putfield 77, 3) := by decide +kernel
theorem dX6_init_135 : decode cX6_init 135 = .ok (.return_, 1) := by decide +kernel
theorem dX6_addShot_0 : decode cX6_addShot 0 = .ok (.iload_n 1, 1) := by decide +kernel
theorem dX6_addShot_1 : decode cX6_addShot 1 = .ok (.iconst 1, 1) := by decide +kernel
theorem dX6_addShot_2 : decode cX6_addShot 2 = .ok (.if_icmp .lt 10, 3) := by decide +kernel
theorem dX6_addShot_5 : decode cX6_addShot 5 = .ok (.iload_n 1, 1) := by decide +kernel
theorem dX6_addShot_6 : decode cX6_addShot 6 = .ok (.sipush 400, 3) := by decide +kernel
theorem dX6_addShot_9 : decode cX6_addShot 9 = .ok (.if_icmp .le 13, 3) := by decide +kernel
theorem dX6_addShot_12 : decode cX6_addShot 12 = .ok (.new 80, 3) := by decide +kernel
theorem dX6_addShot_15 : decode cX6_addShot 15 = .ok (.dup, 1) := by decide +kernel
theorem dX6_addShot_16 : decode cX6_addShot 16 = .ok (.ldc 82, 2) := by decide +kernel
theorem dX6_addShot_18 : decode cX6_addShot 18 = .ok (.invokespecial 84, 3) := by decide +kernel
theorem dX6_addShot_21 : decode cX6_addShot 21 = .ok (.athrow, 1) := by decide +kernel
theorem dX6_addShot_22 : decode cX6_addShot 22 = .ok (.aload_n 0, 1) := by decide +kernel
theorem dX6_addShot_23 : decode cX6_addShot 23 = .ok (.getfield 10, 3) := by decide +kernel
theorem dX6_addShot_26 : decode cX6_addShot 26 = .ok (.invokevirtual 87, 3) := by decide +kernel
theorem dX6_addShot_29 : decode cX6_addShot 29 = .ok (.bipush 12, 2) := by decide +kernel
theorem dX6_addShot_31 : decode cX6_addShot 31 = .ok (.if_icmp .lt 13, 3) := by decide +kernel
theorem dX6_addShot_34 : decode cX6_addShot 34 = .ok (.new 91, 3) := by decide +kernel
theorem dX6_addShot_37 : decode cX6_addShot 37 = .ok (.dup, 1) := by decide +kernel
theorem dX6_addShot_38 : decode cX6_addShot 38 = .ok (.ldc 93, 2) := by decide +kernel
theorem dX6_addShot_40 : decode cX6_addShot 40 = .ok (.invokespecial 95, 3) := by decide +kernel
theorem dX6_addShot_43 : decode cX6_addShot 43 = .ok (.athrow, 1) := by decide +kernel
theorem dX6_addShot_44 : decode cX6_addShot 44 = .ok (.aload_n 0, 1) := by decide +kernel
theorem dX6_addShot_45 : decode cX6_addShot 45 = .ok (.getfield 10, 3) := by decide +kernel
theorem dX6_addShot_48 : decode cX6_addShot 48 = .ok (.iload_n 1, 1) := by decide +kernel
theorem dX6_addShot_49 : decode cX6_addShot 49 = .ok (.invokevirtual 96, 3) := by decide +kernel
theorem dX6_addShot_52 : decode cX6_addShot 52 = .ok (.ireturn, 1) := by decide +kernel
theorem dX6_cut_0 : decode cX6_cut 0 = .ok (.aload_n 0, 1) := by decide +kernel
theorem dX6_cut_1 : decode cX6_cut 1 = .ok (.iload_n 1, 1) := by decide +kernel
theorem dX6_cut_2 : decode cX6_cut 2 = .ok (.invokevirtual 100, 3) := by decide +kernel
theorem dX6_cut_5 : decode cX6_cut 5 = .ok (.iload_n 2, 1) := by decide +kernel
theorem dX6_cut_6 : decode cX6_cut 6 = .ok (.aload_n 0, 1) := by decide +kernel
theorem dX6_cut_7 : decode cX6_cut 7 = .ok (.getfield 10, 3) := by decide +kernel
theorem dX6_cut_10 : decode cX6_cut 10 = .ok (.invokevirtual 103, 3) := by decide +kernel
theorem dX6_cut_13 : decode cX6_cut 13 = .ok (.iload_n 1, 1) := by decide +kernel
theorem dX6_cut_14 : decode cX6_cut 14 = .ok (.isub, 1) := by decide +kernel
theorem dX6_cut_15 : decode cX6_cut 15 = .ok (.if_icmp .le 13, 3) := by decide +kernel
theorem dX6_cut_18 : decode cX6_cut 18 = .ok (.new 106, 3) := by decide +kernel
theorem dX6_cut_21 : decode cX6_cut 21 = .ok (.dup, 1) := by decide +kernel
theorem dX6_cut_22 : decode cX6_cut 22 = .ok (.ldc 108, 2) := by decide +kernel
theorem dX6_cut_24 : decode cX6_cut 24 = .ok (.invokespecial 110, 3) := by decide +kernel
theorem dX6_cut_27 : decode cX6_cut 27 = .ok (.athrow, 1) := by decide +kernel
theorem dX6_cut_28 : decode cX6_cut 28 = .ok (.iload_n 2, 1) := by decide +kernel
theorem dX6_cut_29 : decode cX6_cut 29 = .ok (.invokestatic 111, 3) := by decide +kernel
theorem dX6_cut_32 : decode cX6_cut 32 = .ok (.aload_n 0, 1) := by decide +kernel
theorem dX6_cut_33 : decode cX6_cut 33 = .ok (.getfield 10, 3) := by decide +kernel
theorem dX6_cut_36 : decode cX6_cut 36 = .ok (.iload_n 1, 1) := by decide +kernel
theorem dX6_cut_37 : decode cX6_cut 37 = .ok (.iload_n 2, 1) := by decide +kernel
theorem dX6_cut_38 : decode cX6_cut 38 = .ok (.invokevirtual 114, 3) := by decide +kernel
theorem dX6_cut_41 : decode cX6_cut 41 = .ok (.aload_n 0, 1) := by decide +kernel
theorem dX6_cut_42 : decode cX6_cut 42 = .ok (.getfield 19, 3) := by decide +kernel
theorem dX6_cut_45 : decode cX6_cut 45 = .ok (.aload_n 0, 1) := by decide +kernel
theorem dX6_cut_46 : decode cX6_cut 46 = .ok (.getfield 10, 3) := by decide +kernel
theorem dX6_cut_49 : decode cX6_cut 49 = .ok (.invokevirtual 118, 3) := by decide +kernel
theorem dX6_cut_52 : decode cX6_cut 52 = .ok (.pop, 1) := by decide +kernel
theorem dX6_cut_53 : decode cX6_cut 53 = .ok (.aload_n 0, 1) := by decide +kernel
theorem dX6_cut_54 : decode cX6_cut 54 = .ok (.getfield 10, 3) := by decide +kernel
theorem dX6_cut_57 : decode cX6_cut 57 = .ok (.invokevirtual 103, 3) := by decide +kernel
theorem dX6_cut_60 : decode cX6_cut 60 = .ok (.ireturn, 1) := by decide +kernel
theorem dX6_move_0 : decode cX6_move 0 = .ok (.aload_n 0, 1) := by decide +kernel
theorem dX6_move_1 : decode cX6_move 1 = .ok (.iload_n 1, 1) := by decide +kernel
theorem dX6_move_2 : decode cX6_move 2 = .ok (.invokevirtual 100, 3) := by decide +kernel
theorem dX6_move_5 : decode cX6_move 5 = .ok (.iload_n 2, 1) := by decide +kernel
theorem dX6_move_6 : decode cX6_move 6 = .ok (.iconst 1, 1) := by decide +kernel
theorem dX6_move_7 : decode cX6_move 7 = .ok (.if_icmp .lt 43, 3) := by decide +kernel
theorem dX6_move_10 : decode cX6_move 10 = .ok (.iload_n 2, 1) := by decide +kernel
theorem dX6_move_11 : decode cX6_move 11 = .ok (.aload_n 0, 1) := by decide +kernel
theorem dX6_move_12 : decode cX6_move 12 = .ok (.getfield 10, 3) := by decide +kernel
theorem dX6_move_15 : decode cX6_move 15 = .ok (.invokevirtual 103, 3) := by decide +kernel
theorem dX6_move_18 : decode cX6_move 18 = .ok (.iload_n 1, 1) := by decide +kernel
theorem dX6_move_19 : decode cX6_move 19 = .ok (.isub, 1) := by decide +kernel
theorem dX6_move_20 : decode cX6_move 20 = .ok (.if_icmp .gt 20, 3) := by decide +kernel
theorem dX6_move_23 : decode cX6_move 23 = .ok (.iload_n 3, 1) := by decide +kernel
theorem dX6_move_24 : decode cX6_move 24 = .ok (.ifCond .lt 16, 3) := by decide +kernel
theorem dX6_move_27 : decode cX6_move 27 = .ok (.iload_n 3, 1) := by decide +kernel
theorem dX6_move_28 : decode cX6_move 28 = .ok (.aload_n 0, 1) := by decide +kernel
theorem dX6_move_29 : decode cX6_move 29 = .ok (.getfield 10, 3) := by decide +kernel
theorem dX6_move_32 : decode cX6_move 32 = .ok (.invokevirtual 103, 3) := by decide +kernel
theorem dX6_move_35 : decode cX6_move 35 = .ok (.iload_n 2, 1) := by decide +kernel
theorem dX6_move_36 : decode cX6_move 36 = .ok (.isub, 1) := by decide +kernel
theorem dX6_move_37 : decode cX6_move 37 = .ok (.if_icmp .le 13, 3) := by decide +kernel
theorem dX6_move_40 : decode cX6_move 40 = .ok (.new 106, 3) := by decide +kernel
theorem dX6_move_43 : decode cX6_move 43 = .ok (.dup, 1) := by decide +kernel
theorem dX6_move_44 : decode cX6_move 44 = .ok (.ldc 122, 2) := by decide +kernel
theorem dX6_move_46 : decode cX6_move 46 = .ok (.invokespecial 110, 3) := by decide +kernel
theorem dX6_move_49 : decode cX6_move 49 = .ok (.athrow, 1) := by decide +kernel
theorem dX6_move_50 : decode cX6_move 50 = .ok (.iload_n 2, 1) := by decide +kernel
theorem dX6_move_51 : decode cX6_move 51 = .ok (.invokestatic 111, 3) := by decide +kernel
theorem dX6_move_54 : decode cX6_move 54 = .ok (.aload_n 0, 1) := by decide +kernel
theorem dX6_move_55 : decode cX6_move 55 = .ok (.getfield 10, 3) := by decide +kernel
theorem dX6_move_58 : decode cX6_move 58 = .ok (.iload_n 1, 1) := by decide +kernel
theorem dX6_move_59 : decode cX6_move 59 = .ok (.iload_n 2, 1) := by decide +kernel
theorem dX6_move_60 : decode cX6_move 60 = .ok (.iload_n 3, 1) := by decide +kernel
theorem dX6_move_61 : decode cX6_move 61 = .ok (.invokevirtual 124, 3) := by decide +kernel
theorem dX6_move_64 : decode cX6_move 64 = .ok (.aload_n 0, 1) := by decide +kernel
theorem dX6_move_65 : decode cX6_move 65 = .ok (.getfield 19, 3) := by decide +kernel
theorem dX6_move_68 : decode cX6_move 68 = .ok (.aload_n 0, 1) := by decide +kernel
theorem dX6_move_69 : decode cX6_move 69 = .ok (.getfield 10, 3) := by decide +kernel
theorem dX6_move_72 : decode cX6_move 72 = .ok (.invokevirtual 118, 3) := by decide +kernel
theorem dX6_move_75 : decode cX6_move 75 = .ok (.ireturn, 1) := by decide +kernel
theorem dX6_putBack_0 : decode cX6_putBack 0 = .ok (.aload_n 0, 1) := by decide +kernel
theorem dX6_putBack_1 : decode cX6_putBack 1 = .ok (.iload_n 1, 1) := by decide +kernel
theorem dX6_putBack_2 : decode cX6_putBack 2 = .ok (.iload_n 2, 1) := by decide +kernel
theorem dX6_putBack_3 : decode cX6_putBack 3 = .ok (.invokevirtual 128, 3) := by decide +kernel
theorem dX6_putBack_6 : decode cX6_putBack 6 = .ok (.iload_n 3, 1) := by decide +kernel
theorem dX6_putBack_7 : decode cX6_putBack 7 = .ok (.iconst 1, 1) := by decide +kernel
theorem dX6_putBack_8 : decode cX6_putBack 8 = .ok (.if_icmp .lt 44, 3) := by decide +kernel
theorem dX6_putBack_11 : decode cX6_putBack 11 = .ok (.iload_n 3, 1) := by decide +kernel
theorem dX6_putBack_12 : decode cX6_putBack 12 = .ok (.aload_n 0, 1) := by decide +kernel
theorem dX6_putBack_13 : decode cX6_putBack 13 = .ok (.getfield 10, 3) := by decide +kernel
theorem dX6_putBack_16 : decode cX6_putBack 16 = .ok (.iload_n 1, 1) := by decide +kernel
theorem dX6_putBack_17 : decode cX6_putBack 17 = .ok (.invokevirtual 131, 3) := by decide +kernel
theorem dX6_putBack_20 : decode cX6_putBack 20 = .ok (.iload_n 2, 1) := by decide +kernel
theorem dX6_putBack_21 : decode cX6_putBack 21 = .ok (.isub, 1) := by decide +kernel
theorem dX6_putBack_22 : decode cX6_putBack 22 = .ok (.if_icmp .gt 20, 3) := by decide +kernel
theorem dX6_putBack_25 : decode cX6_putBack 25 = .ok (.iload 4, 2) := by decide +kernel
theorem dX6_putBack_27 : decode cX6_putBack 27 = .ok (.ifCond .lt 15, 3) := by decide +kernel
theorem dX6_putBack_30 : decode cX6_putBack 30 = .ok (.iload 4, 2) := by decide +kernel
theorem dX6_putBack_32 : decode cX6_putBack 32 = .ok (.aload_n 0, 1) := by decide +kernel
theorem dX6_putBack_33 : decode cX6_putBack 33 = .ok (.getfield 10, 3) := by decide +kernel
theorem dX6_putBack_36 : decode cX6_putBack 36 = .ok (.invokevirtual 103, 3) := by decide +kernel
theorem dX6_putBack_39 : decode cX6_putBack 39 = .ok (.if_icmp .le 13, 3) := by decide +kernel
theorem dX6_putBack_42 : decode cX6_putBack 42 = .ok (.new 106, 3) := by decide +kernel
theorem dX6_putBack_45 : decode cX6_putBack 45 = .ok (.dup, 1) := by decide +kernel
theorem dX6_putBack_46 : decode cX6_putBack 46 = .ok (.ldc 122, 2) := by decide +kernel
theorem dX6_putBack_48 : decode cX6_putBack 48 = .ok (.invokespecial 110, 3) := by decide +kernel
theorem dX6_putBack_51 : decode cX6_putBack 51 = .ok (.athrow, 1) := by decide +kernel
theorem dX6_putBack_52 : decode cX6_putBack 52 = .ok (.iload_n 3, 1) := by decide +kernel
theorem dX6_putBack_53 : decode cX6_putBack 53 = .ok (.invokestatic 111, 3) := by decide +kernel
theorem dX6_putBack_56 : decode cX6_putBack 56 = .ok (.aload_n 0, 1) := by decide +kernel
theorem dX6_putBack_57 : decode cX6_putBack 57 = .ok (.getfield 10, 3) := by decide +kernel
theorem dX6_putBack_60 : decode cX6_putBack 60 = .ok (.iload_n 1, 1) := by decide +kernel
theorem dX6_putBack_61 : decode cX6_putBack 61 = .ok (.iload_n 2, 1) := by decide +kernel
theorem dX6_putBack_62 : decode cX6_putBack 62 = .ok (.iload_n 3, 1) := by decide +kernel
theorem dX6_putBack_63 : decode cX6_putBack 63 = .ok (.invokevirtual 134, 3) := by decide +kernel
theorem dX6_putBack_66 : decode cX6_putBack 66 = .ok (.ifCond .eq 13, 3) := by decide +kernel
theorem dX6_putBack_69 : decode cX6_putBack 69 = .ok (.new 91, 3) := by decide +kernel
theorem dX6_putBack_72 : decode cX6_putBack 72 = .ok (.dup, 1) := by decide +kernel
theorem dX6_putBack_73 : decode cX6_putBack 73 = .ok (.ldc 138, 2) := by decide +kernel
theorem dX6_putBack_75 : decode cX6_putBack 75 = .ok (.invokespecial 95, 3) := by decide +kernel
theorem dX6_putBack_78 : decode cX6_putBack 78 = .ok (.athrow, 1) := by decide +kernel
theorem dX6_putBack_79 : decode cX6_putBack 79 = .ok (.aload_n 0, 1) := by decide +kernel
theorem dX6_putBack_80 : decode cX6_putBack 80 = .ok (.getfield 10, 3) := by decide +kernel
theorem dX6_putBack_83 : decode cX6_putBack 83 = .ok (.iload_n 1, 1) := by decide +kernel
theorem dX6_putBack_84 : decode cX6_putBack 84 = .ok (.iload_n 2, 1) := by decide +kernel
theorem dX6_putBack_85 : decode cX6_putBack 85 = .ok (.iload_n 3, 1) := by decide +kernel
theorem dX6_putBack_86 : decode cX6_putBack 86 = .ok (.iload 4, 2) := by decide +kernel
theorem dX6_putBack_88 : decode cX6_putBack 88 = .ok (.invokevirtual 140, 3) := by decide +kernel
theorem dX6_putBack_91 : decode cX6_putBack 91 = .ok (.aload_n 0, 1) := by decide +kernel
theorem dX6_putBack_92 : decode cX6_putBack 92 = .ok (.getfield 19, 3) := by decide +kernel
theorem dX6_putBack_95 : decode cX6_putBack 95 = .ok (.aload_n 0, 1) := by decide +kernel
theorem dX6_putBack_96 : decode cX6_putBack 96 = .ok (.getfield 10, 3) := by decide +kernel
theorem dX6_putBack_99 : decode cX6_putBack 99 = .ok (.invokevirtual 118, 3) := by decide +kernel
theorem dX6_putBack_102 : decode cX6_putBack 102 = .ok (.pop, 1) := by decide +kernel
theorem dX6_putBack_103 : decode cX6_putBack 103 = .ok (.aload_n 0, 1) := by decide +kernel
theorem dX6_putBack_104 : decode cX6_putBack 104 = .ok (.getfield 10, 3) := by decide +kernel
theorem dX6_putBack_107 : decode cX6_putBack 107 = .ok (.invokevirtual 103, 3) := by decide +kernel
theorem dX6_putBack_110 : decode cX6_putBack 110 = .ok (.ireturn, 1) := by decide +kernel
theorem dX6_frames_0 : decode cX6_frames 0 = .ok (.aload_n 0, 1) := by decide +kernel
theorem dX6_frames_1 : decode cX6_frames 1 = .ok (.getfield 10, 3) := by decide +kernel
theorem dX6_frames_4 : decode cX6_frames 4 = .ok (.invokevirtual 103, 3) := by decide +kernel
theorem dX6_frames_7 : decode cX6_frames 7 = .ok (.ireturn, 1) := by decide +kernel
theorem dX6_frameAt_0 : decode cX6_frameAt 0 = .ok (.aload_n 0, 1) := by decide +kernel
theorem dX6_frameAt_1 : decode cX6_frameAt 1 = .ok (.iload_n 1, 1) := by decide +kernel
theorem dX6_frameAt_2 : decode cX6_frameAt 2 = .ok (.invokevirtual 100, 3) := by decide +kernel
theorem dX6_frameAt_5 : decode cX6_frameAt 5 = .ok (.aload_n 0, 1) := by decide +kernel
theorem dX6_frameAt_6 : decode cX6_frameAt 6 = .ok (.getfield 10, 3) := by decide +kernel
theorem dX6_frameAt_9 : decode cX6_frameAt 9 = .ok (.iload_n 1, 1) := by decide +kernel
theorem dX6_frameAt_10 : decode cX6_frameAt 10 = .ok (.invokevirtual 144, 3) := by decide +kernel
theorem dX6_frameAt_13 : decode cX6_frameAt 13 = .ok (.istore_n 2, 1) := by decide +kernel
theorem dX6_frameAt_14 : decode cX6_frameAt 14 = .ok (.sipush 1000, 3) := by decide +kernel
theorem dX6_frameAt_17 : decode cX6_frameAt 17 = .ok (.iload_n 2, 1) := by decide +kernel
theorem dX6_frameAt_18 : decode cX6_frameAt 18 = .ok (.sipush 401, 3) := by decide +kernel
theorem dX6_frameAt_21 : decode cX6_frameAt 21 = .ok (.idiv, 1) := by decide +kernel
theorem dX6_frameAt_22 : decode cX6_frameAt 22 = .ok (.imul, 1) := by decide +kernel
theorem dX6_frameAt_23 : decode cX6_frameAt 23 = .ok (.iload_n 2, 1) := by decide +kernel
theorem dX6_frameAt_24 : decode cX6_frameAt 24 = .ok (.sipush 401, 3) := by decide +kernel
theorem dX6_frameAt_27 : decode cX6_frameAt 27 = .ok (.irem, 1) := by decide +kernel
theorem dX6_frameAt_28 : decode cX6_frameAt 28 = .ok (.iadd, 1) := by decide +kernel
theorem dX6_frameAt_29 : decode cX6_frameAt 29 = .ok (.ireturn, 1) := by decide +kernel
theorem dX6_placeOf_0 : decode cX6_placeOf 0 = .ok (.aload_n 0, 1) := by decide +kernel
theorem dX6_placeOf_1 : decode cX6_placeOf 1 = .ok (.iload_n 1, 1) := by decide +kernel
theorem dX6_placeOf_2 : decode cX6_placeOf 2 = .ok (.iload_n 2, 1) := by decide +kernel
theorem dX6_placeOf_3 : decode cX6_placeOf 3 = .ok (.invokevirtual 128, 3) := by decide +kernel
theorem dX6_placeOf_6 : decode cX6_placeOf 6 = .ok (.aload_n 0, 1) := by decide +kernel
theorem dX6_placeOf_7 : decode cX6_placeOf 7 = .ok (.getfield 10, 3) := by decide +kernel
theorem dX6_placeOf_10 : decode cX6_placeOf 10 = .ok (.iload_n 1, 1) := by decide +kernel
theorem dX6_placeOf_11 : decode cX6_placeOf 11 = .ok (.iload_n 2, 1) := by decide +kernel
theorem dX6_placeOf_12 : decode cX6_placeOf 12 = .ok (.invokevirtual 147, 3) := by decide +kernel
theorem dX6_placeOf_15 : decode cX6_placeOf 15 = .ok (.ireturn, 1) := by decide +kernel
theorem dX6_isBoundary_0 : decode cX6_isBoundary 0 = .ok (.aload_n 0, 1) := by decide +kernel
theorem dX6_isBoundary_1 : decode cX6_isBoundary 1 = .ok (.iload_n 1, 1) := by decide +kernel
theorem dX6_isBoundary_2 : decode cX6_isBoundary 2 = .ok (.invokevirtual 100, 3) := by decide +kernel
theorem dX6_isBoundary_5 : decode cX6_isBoundary 5 = .ok (.aload_n 0, 1) := by decide +kernel
theorem dX6_isBoundary_6 : decode cX6_isBoundary 6 = .ok (.getfield 10, 3) := by decide +kernel
theorem dX6_isBoundary_9 : decode cX6_isBoundary 9 = .ok (.iload_n 1, 1) := by decide +kernel
theorem dX6_isBoundary_10 : decode cX6_isBoundary 10 = .ok (.invokevirtual 151, 3) := by decide +kernel
theorem dX6_isBoundary_13 : decode cX6_isBoundary 13 = .ok (.ireturn, 1) := by decide +kernel
theorem dX6_add_0 : decode cX6_add 0 = .ok (.aload_n 0, 1) := by decide +kernel
theorem dX6_add_1 : decode cX6_add 1 = .ok (.iload_n 1, 1) := by decide +kernel
theorem dX6_add_2 : decode cX6_add 2 = .ok (.iload_n 2, 1) := by decide +kernel
theorem dX6_add_3 : decode cX6_add 3 = .ok (.invokevirtual 155, 3) := by decide +kernel
theorem dX6_add_6 : decode cX6_add 6 = .ok (.aload_n 0, 1) := by decide +kernel
theorem dX6_add_7 : decode cX6_add 7 = .ok (.getfield 70, 3) := by decide +kernel
theorem dX6_add_10 : decode cX6_add 10 = .ok (.bipush 16, 2) := by decide +kernel
theorem dX6_add_12 : decode cX6_add 12 = .ok (.if_icmp .lt 13, 3) := by decide +kernel
theorem dX6_add_15 : decode cX6_add 15 = .ok (.new 91, 3) := by decide +kernel
theorem dX6_add_18 : decode cX6_add 18 = .ok (.dup, 1) := by decide +kernel
theorem dX6_add_19 : decode cX6_add 19 = .ok (.ldc 158, 2) := by decide +kernel
theorem dX6_add_21 : decode cX6_add 21 = .ok (.invokespecial 95, 3) := by decide +kernel
theorem dX6_add_24 : decode cX6_add 24 = .ok (.athrow, 1) := by decide +kernel
theorem dX6_add_25 : decode cX6_add 25 = .ok (.aload_n 0, 1) := by decide +kernel
theorem dX6_add_26 : decode cX6_add 26 = .ok (.getfield 70, 3) := by decide +kernel
theorem dX6_add_29 : decode cX6_add 29 = .ok (.istore_n 3, 1) := by decide +kernel
theorem dX6_add_30 : decode cX6_add 30 = .ok (.aload_n 0, 1) := by decide +kernel
theorem dX6_add_31 : decode cX6_add 31 = .ok (.dup, 1) := by decide +kernel
theorem dX6_add_32 : decode cX6_add 32 = .ok (.getfield 70, 3) := by decide +kernel
theorem dX6_add_35 : decode cX6_add 35 = .ok (.iconst 1, 1) := by decide +kernel
theorem dX6_add_36 : decode cX6_add 36 = .ok (.iadd, 1) := by decide +kernel
theorem dX6_add_37 : decode cX6_add 37 = .ok (.putfield 70, 3) := by decide +kernel
theorem dX6_add_40 : decode cX6_add 40 = .ok (.aload_n 0, 1) := by decide +kernel
theorem dX6_add_41 : decode cX6_add 41 = .ok (.getfield 10, 3) := by decide +kernel
theorem dX6_add_44 : decode cX6_add 44 = .ok (.iload_n 3, 1) := by decide +kernel
theorem dX6_add_45 : decode cX6_add 45 = .ok (.iload_n 1, 1) := by decide +kernel
theorem dX6_add_46 : decode cX6_add 46 = .ok (.iload_n 2, 1) := by decide +kernel
theorem dX6_add_47 : decode cX6_add 47 = .ok (.invokevirtual 160, 3) := by decide +kernel
theorem dX6_add_50 : decode cX6_add 50 = .ok (.aload_n 0, 1) := by decide +kernel
theorem dX6_add_51 : decode cX6_add 51 = .ok (.getfield 19, 3) := by decide +kernel
theorem dX6_add_54 : decode cX6_add 54 = .ok (.iload_n 3, 1) := by decide +kernel
theorem dX6_add_55 : decode cX6_add 55 = .ok (.iload_n 1, 1) := by decide +kernel
theorem dX6_add_56 : decode cX6_add 56 = .ok (.iload_n 2, 1) := by decide +kernel
theorem dX6_add_57 : decode cX6_add 57 = .ok (.invokevirtual 163, 3) := by decide +kernel
theorem dX6_add_60 : decode cX6_add 60 = .ok (.iload_n 3, 1) := by decide +kernel
theorem dX6_add_61 : decode cX6_add 61 = .ok (.ireturn, 1) := by decide +kernel
theorem dX6_lay_0 : decode cX6_lay 0 = .ok (.aload_n 0, 1) := by decide +kernel
theorem dX6_lay_1 : decode cX6_lay 1 = .ok (.iload_n 1, 1) := by decide +kernel
theorem dX6_lay_2 : decode cX6_lay 2 = .ok (.invokevirtual 166, 3) := by decide +kernel
theorem dX6_lay_5 : decode cX6_lay 5 = .ok (.aload_n 0, 1) := by decide +kernel
theorem dX6_lay_6 : decode cX6_lay 6 = .ok (.iload_n 2, 1) := by decide +kernel
theorem dX6_lay_7 : decode cX6_lay 7 = .ok (.iload_n 3, 1) := by decide +kernel
theorem dX6_lay_8 : decode cX6_lay 8 = .ok (.invokevirtual 155, 3) := by decide +kernel
theorem dX6_lay_11 : decode cX6_lay 11 = .ok (.aload_n 0, 1) := by decide +kernel
theorem dX6_lay_12 : decode cX6_lay 12 = .ok (.getfield 19, 3) := by decide +kernel
theorem dX6_lay_15 : decode cX6_lay 15 = .ok (.iload_n 1, 1) := by decide +kernel
theorem dX6_lay_16 : decode cX6_lay 16 = .ok (.invokevirtual 169, 3) := by decide +kernel
theorem dX6_lay_19 : decode cX6_lay 19 = .ok (.istore 4, 2) := by decide +kernel
theorem dX6_lay_21 : decode cX6_lay 21 = .ok (.aload_n 0, 1) := by decide +kernel
theorem dX6_lay_22 : decode cX6_lay 22 = .ok (.getfield 10, 3) := by decide +kernel
theorem dX6_lay_25 : decode cX6_lay 25 = .ok (.iload_n 1, 1) := by decide +kernel
theorem dX6_lay_26 : decode cX6_lay 26 = .ok (.invokevirtual 172, 3) := by decide +kernel
theorem dX6_lay_29 : decode cX6_lay 29 = .ok (.aload_n 0, 1) := by decide +kernel
theorem dX6_lay_30 : decode cX6_lay 30 = .ok (.getfield 10, 3) := by decide +kernel
theorem dX6_lay_33 : decode cX6_lay 33 = .ok (.iload_n 1, 1) := by decide +kernel
theorem dX6_lay_34 : decode cX6_lay 34 = .ok (.iload_n 2, 1) := by decide +kernel
theorem dX6_lay_35 : decode cX6_lay 35 = .ok (.iload_n 3, 1) := by decide +kernel
theorem dX6_lay_36 : decode cX6_lay 36 = .ok (.invokevirtual 160, 3) := by decide +kernel
theorem dX6_lay_39 : decode cX6_lay 39 = .ok (.aload_n 0, 1) := by decide +kernel
theorem dX6_lay_40 : decode cX6_lay 40 = .ok (.getfield 19, 3) := by decide +kernel
theorem dX6_lay_43 : decode cX6_lay 43 = .ok (.iload_n 1, 1) := by decide +kernel
theorem dX6_lay_44 : decode cX6_lay 44 = .ok (.iload_n 2, 1) := by decide +kernel
theorem dX6_lay_45 : decode cX6_lay 45 = .ok (.iload_n 3, 1) := by decide +kernel
theorem dX6_lay_46 : decode cX6_lay 46 = .ok (.invokevirtual 163, 3) := by decide +kernel
theorem dX6_lay_49 : decode cX6_lay 49 = .ok (.aload_n 0, 1) := by decide +kernel
theorem dX6_lay_50 : decode cX6_lay 50 = .ok (.iload_n 1, 1) := by decide +kernel
theorem dX6_lay_51 : decode cX6_lay 51 = .ok (.invokevirtual 175, 3) := by decide +kernel
theorem dX6_lay_54 : decode cX6_lay 54 = .ok (.iload 4, 2) := by decide +kernel
theorem dX6_lay_56 : decode cX6_lay 56 = .ok (.ireturn, 1) := by decide +kernel
theorem dX6_setLook_0 : decode cX6_setLook 0 = .ok (.aload_n 0, 1) := by decide +kernel
theorem dX6_setLook_1 : decode cX6_setLook 1 = .ok (.iload_n 1, 1) := by decide +kernel
theorem dX6_setLook_2 : decode cX6_setLook 2 = .ok (.invokevirtual 166, 3) := by decide +kernel
theorem dX6_setLook_5 : decode cX6_setLook 5 = .ok (.iload_n 2, 1) := by decide +kernel
theorem dX6_setLook_6 : decode cX6_setLook 6 = .ok (.ifCond .lt 8, 3) := by decide +kernel
theorem dX6_setLook_9 : decode cX6_setLook 9 = .ok (.iload_n 2, 1) := by decide +kernel
theorem dX6_setLook_10 : decode cX6_setLook 10 = .ok (.iconst 3, 1) := by decide +kernel
theorem dX6_setLook_11 : decode cX6_setLook 11 = .ok (.if_icmp .le 13, 3) := by decide +kernel
theorem dX6_setLook_14 : decode cX6_setLook 14 = .ok (.new 80, 3) := by decide +kernel
theorem dX6_setLook_17 : decode cX6_setLook 17 = .ok (.dup, 1) := by decide +kernel
theorem dX6_setLook_18 : decode cX6_setLook 18 = .ok (.ldc 178, 2) := by decide +kernel
theorem dX6_setLook_20 : decode cX6_setLook 20 = .ok (.invokespecial 84, 3) := by decide +kernel
theorem dX6_setLook_23 : decode cX6_setLook 23 = .ok (.athrow, 1) := by decide +kernel
theorem dX6_setLook_24 : decode cX6_setLook 24 = .ok (.aload_n 0, 1) := by decide +kernel
theorem dX6_setLook_25 : decode cX6_setLook 25 = .ok (.getfield 56, 3) := by decide +kernel
theorem dX6_setLook_28 : decode cX6_setLook 28 = .ok (.iload_n 1, 1) := by decide +kernel
theorem dX6_setLook_29 : decode cX6_setLook 29 = .ok (.invokestatic 180, 3) := by decide +kernel
theorem dX6_setLook_32 : decode cX6_setLook 32 = .ok (.istore_n 3, 1) := by decide +kernel
theorem dX6_setLook_33 : decode cX6_setLook 33 = .ok (.iload_n 2, 1) := by decide +kernel
theorem dX6_setLook_34 : decode cX6_setLook 34 = .ok (.iload_n 3, 1) := by decide +kernel
theorem dX6_setLook_35 : decode cX6_setLook 35 = .ok (.if_icmp .eq 17, 3) := by decide +kernel
theorem dX6_setLook_38 : decode cX6_setLook 38 = .ok (.aload_n 0, 1) := by decide +kernel
theorem dX6_setLook_39 : decode cX6_setLook 39 = .ok (.getfield 56, 3) := by decide +kernel
theorem dX6_setLook_42 : decode cX6_setLook 42 = .ok (.iload_n 1, 1) := by decide +kernel
theorem dX6_setLook_43 : decode cX6_setLook 43 = .ok (.iload_n 2, 1) := by decide +kernel
theorem dX6_setLook_44 : decode cX6_setLook 44 = .ok (.invokestatic 184, 3) := by decide +kernel
theorem dX6_setLook_47 : decode cX6_setLook 47 = .ok (.aload_n 0, 1) := by decide +kernel
theorem dX6_setLook_48 : decode cX6_setLook 48 = .ok (.iload_n 1, 1) := by decide +kernel
theorem dX6_setLook_49 : decode cX6_setLook 49 = .ok (.invokevirtual 175, 3) := by decide +kernel
theorem dX6_setLook_52 : decode cX6_setLook 52 = .ok (.iload_n 3, 1) := by decide +kernel
theorem dX6_setLook_53 : decode cX6_setLook 53 = .ok (.ireturn, 1) := by decide +kernel
theorem dX6_captions_0 : decode cX6_captions 0 = .ok (.aload_n 0, 1) := by decide +kernel
theorem dX6_captions_1 : decode cX6_captions 1 = .ok (.getfield 70, 3) := by decide +kernel
theorem dX6_captions_4 : decode cX6_captions 4 = .ok (.ireturn, 1) := by decide +kernel
theorem dX6_startOf_0 : decode cX6_startOf 0 = .ok (.aload_n 0, 1) := by decide +kernel
theorem dX6_startOf_1 : decode cX6_startOf 1 = .ok (.iload_n 1, 1) := by decide +kernel
theorem dX6_startOf_2 : decode cX6_startOf 2 = .ok (.invokevirtual 166, 3) := by decide +kernel
theorem dX6_startOf_5 : decode cX6_startOf 5 = .ok (.aload_n 0, 1) := by decide +kernel
theorem dX6_startOf_6 : decode cX6_startOf 6 = .ok (.getfield 19, 3) := by decide +kernel
theorem dX6_startOf_9 : decode cX6_startOf 9 = .ok (.iload_n 1, 1) := by decide +kernel
theorem dX6_startOf_10 : decode cX6_startOf 10 = .ok (.invokevirtual 169, 3) := by decide +kernel
theorem dX6_startOf_13 : decode cX6_startOf 13 = .ok (.ireturn, 1) := by decide +kernel
theorem dX6_lengthOf_0 : decode cX6_lengthOf 0 = .ok (.aload_n 0, 1) := by decide +kernel
theorem dX6_lengthOf_1 : decode cX6_lengthOf 1 = .ok (.iload_n 1, 1) := by decide +kernel
theorem dX6_lengthOf_2 : decode cX6_lengthOf 2 = .ok (.invokevirtual 166, 3) := by decide +kernel
theorem dX6_lengthOf_5 : decode cX6_lengthOf 5 = .ok (.aload_n 0, 1) := by decide +kernel
theorem dX6_lengthOf_6 : decode cX6_lengthOf 6 = .ok (.getfield 19, 3) := by decide +kernel
theorem dX6_lengthOf_9 : decode cX6_lengthOf 9 = .ok (.iload_n 1, 1) := by decide +kernel
theorem dX6_lengthOf_10 : decode cX6_lengthOf 10 = .ok (.invokevirtual 188, 3) := by decide +kernel
theorem dX6_lengthOf_13 : decode cX6_lengthOf 13 = .ok (.ireturn, 1) := by decide +kernel
theorem dX6_startByFrames_0 : decode cX6_startByFrames 0 = .ok (.aload_n 0, 1) := by decide +kernel
theorem dX6_startByFrames_1 : decode cX6_startByFrames 1 = .ok (.iload_n 1, 1) := by decide +kernel
theorem dX6_startByFrames_2 : decode cX6_startByFrames 2 = .ok (.invokevirtual 166, 3) := by decide +kernel
theorem dX6_startByFrames_5 : decode cX6_startByFrames 5 = .ok (.iconst (-1), 1) := by decide +kernel
theorem dX6_startByFrames_6 : decode cX6_startByFrames 6 = .ok (.istore_n 2, 1) := by decide +kernel
theorem dX6_startByFrames_7 : decode cX6_startByFrames 7 = .ok (.iconst 0, 1) := by decide +kernel
theorem dX6_startByFrames_8 : decode cX6_startByFrames 8 = .ok (.istore_n 3, 1) := by decide +kernel
theorem dX6_startByFrames_9 : decode cX6_startByFrames 9 = .ok (.iconst 0, 1) := by decide +kernel
theorem dX6_startByFrames_10 : decode cX6_startByFrames 10 = .ok (.istore 4, 2) := by decide +kernel
theorem dX6_startByFrames_12 : decode cX6_startByFrames 12 = .ok (.iconst 0, 1) := by decide +kernel
theorem dX6_startByFrames_13 : decode cX6_startByFrames 13 = .ok (.istore 5, 2) := by decide +kernel
theorem dX6_startByFrames_15 : decode cX6_startByFrames 15 = .ok (.iload 5, 2) := by decide +kernel
theorem dX6_startByFrames_17 : decode cX6_startByFrames 17 = .ok (.aload_n 0, 1) := by decide +kernel
theorem dX6_startByFrames_18 : decode cX6_startByFrames 18 = .ok (.getfield 10, 3) := by decide +kernel
theorem dX6_startByFrames_21 : decode cX6_startByFrames 21 = .ok (.invokevirtual 103, 3) := by decide +kernel
theorem dX6_startByFrames_24 : decode cX6_startByFrames 24 = .ok (.if_icmp .ge 52, 3) := by decide +kernel
theorem dX6_startByFrames_27 : decode cX6_startByFrames 27 = .ok (.aload_n 0, 1) := by decide +kernel
theorem dX6_startByFrames_28 : decode cX6_startByFrames 28 = .ok (.getfield 10, 3) := by decide +kernel
theorem dX6_startByFrames_31 : decode cX6_startByFrames 31 = .ok (.iload 5, 2) := by decide +kernel
theorem dX6_startByFrames_33 : decode cX6_startByFrames 33 = .ok (.invokevirtual 191, 3) := by decide +kernel
theorem dX6_startByFrames_36 : decode cX6_startByFrames 36 = .ok (.iload_n 1, 1) := by decide +kernel
theorem dX6_startByFrames_37 : decode cX6_startByFrames 37 = .ok (.invokestatic 194, 3) := by decide +kernel
theorem dX6_startByFrames_40 : decode cX6_startByFrames 40 = .ok (.ifCond .eq 10, 3) := by decide +kernel
theorem dX6_startByFrames_43 : decode cX6_startByFrames 43 = .ok (.iload 4, 2) := by decide +kernel
theorem dX6_startByFrames_45 : decode cX6_startByFrames 45 = .ok (.iconst 1, 1) := by decide +kernel
theorem dX6_startByFrames_46 : decode cX6_startByFrames 46 = .ok (.iadd, 1) := by decide +kernel
theorem dX6_startByFrames_47 : decode cX6_startByFrames 47 = .ok (.goto 4, 3) := by decide +kernel
theorem dX6_startByFrames_50 : decode cX6_startByFrames 50 = .ok (.iconst 0, 1) := by decide +kernel
theorem dX6_startByFrames_51 : decode cX6_startByFrames 51 = .ok (.istore 4, 2) := by decide +kernel
theorem dX6_startByFrames_53 : decode cX6_startByFrames 53 = .ok (.iload 4, 2) := by decide +kernel
theorem dX6_startByFrames_55 : decode cX6_startByFrames 55 = .ok (.iload_n 3, 1) := by decide +kernel
theorem dX6_startByFrames_56 : decode cX6_startByFrames 56 = .ok (.if_icmp .le 14, 3) := by decide +kernel
theorem dX6_startByFrames_59 : decode cX6_startByFrames 59 = .ok (.iload 4, 2) := by decide +kernel
theorem dX6_startByFrames_61 : decode cX6_startByFrames 61 = .ok (.istore_n 3, 1) := by decide +kernel
theorem dX6_startByFrames_62 : decode cX6_startByFrames 62 = .ok (.iload 5, 2) := by decide +kernel
theorem dX6_startByFrames_64 : decode cX6_startByFrames 64 = .ok (.iconst 1, 1) := by decide +kernel
theorem dX6_startByFrames_65 : decode cX6_startByFrames 65 = .ok (.iadd, 1) := by decide +kernel
theorem dX6_startByFrames_66 : decode cX6_startByFrames 66 = .ok (.iload 4, 2) := by decide +kernel
theorem dX6_startByFrames_68 : decode cX6_startByFrames 68 = .ok (.isub, 1) := by decide +kernel
theorem dX6_startByFrames_69 : decode cX6_startByFrames 69 = .ok (.istore_n 2, 1) := by decide +kernel
theorem dX6_startByFrames_70 : decode cX6_startByFrames 70 = .ok (.iinc 5 1, 3) := by decide +kernel
theorem dX6_startByFrames_73 : decode cX6_startByFrames 73 = .ok (.goto (-58), 3) := by decide +kernel
theorem dX6_startByFrames_76 : decode cX6_startByFrames 76 = .ok (.iload_n 2, 1) := by decide +kernel
theorem dX6_startByFrames_77 : decode cX6_startByFrames 77 = .ok (.ireturn, 1) := by decide +kernel
theorem dX6_inOrder_0 : decode cX6_inOrder 0 = .ok (.iload_n 1, 1) := by decide +kernel
theorem dX6_inOrder_1 : decode cX6_inOrder 1 = .ok (.ifCond .ge 13, 3) := by decide +kernel
theorem dX6_inOrder_4 : decode cX6_inOrder 4 = .ok (.new 80, 3) := by decide +kernel
theorem dX6_inOrder_7 : decode cX6_inOrder 7 = .ok (.dup, 1) := by decide +kernel
theorem dX6_inOrder_8 : decode cX6_inOrder 8 = .ok (.ldc 198, 2) := by decide +kernel
theorem dX6_inOrder_10 : decode cX6_inOrder 10 = .ok (.invokespecial 84, 3) := by decide +kernel
theorem dX6_inOrder_13 : decode cX6_inOrder 13 = .ok (.athrow, 1) := by decide +kernel
theorem dX6_inOrder_14 : decode cX6_inOrder 14 = .ok (.iload_n 1, 1) := by decide +kernel
theorem dX6_inOrder_15 : decode cX6_inOrder 15 = .ok (.aload_n 0, 1) := by decide +kernel
theorem dX6_inOrder_16 : decode cX6_inOrder 16 = .ok (.invokevirtual 200, 3) := by decide +kernel
theorem dX6_inOrder_19 : decode cX6_inOrder 19 = .ok (.if_icmp .ge 14, 3) := by decide +kernel
theorem dX6_inOrder_22 : decode cX6_inOrder 22 = .ok (.aload_n 0, 1) := by decide +kernel
theorem dX6_inOrder_23 : decode cX6_inOrder 23 = .ok (.getfield 67, 3) := by decide +kernel
theorem dX6_inOrder_26 : decode cX6_inOrder 26 = .ok (.iload_n 1, 1) := by decide +kernel
theorem dX6_inOrder_27 : decode cX6_inOrder 27 = .ok (.invokestatic 180, 3) := by decide +kernel
theorem dX6_inOrder_30 : decode cX6_inOrder 30 = .ok (.goto 4, 3) := by decide +kernel
theorem dX6_inOrder_33 : decode cX6_inOrder 33 = .ok (.iconst (-1), 1) := by decide +kernel
theorem dX6_inOrder_34 : decode cX6_inOrder 34 = .ok (.ireturn, 1) := by decide +kernel
theorem dX6_type_0 : decode cX6_type 0 = .ok (.aload_n 0, 1) := by decide +kernel
theorem dX6_type_1 : decode cX6_type 1 = .ok (.iload_n 1, 1) := by decide +kernel
theorem dX6_type_2 : decode cX6_type 2 = .ok (.iload_n 2, 1) := by decide +kernel
theorem dX6_type_3 : decode cX6_type 3 = .ok (.invokevirtual 203, 3) := by decide +kernel
theorem dX6_type_6 : decode cX6_type 6 = .ok (.istore 4, 2) := by decide +kernel
theorem dX6_type_8 : decode cX6_type 8 = .ok (.iload_n 3, 1) := by decide +kernel
theorem dX6_type_9 : decode cX6_type 9 = .ok (.invokestatic 206, 3) := by decide +kernel
theorem dX6_type_12 : decode cX6_type 12 = .ok (.ifCond .ne 13, 3) := by decide +kernel
theorem dX6_type_15 : decode cX6_type 15 = .ok (.new 80, 3) := by decide +kernel
theorem dX6_type_18 : decode cX6_type 18 = .ok (.dup, 1) := by decide +kernel
theorem dX6_type_19 : decode cX6_type 19 = .ok (.ldc 209, 2) := by decide +kernel
theorem dX6_type_21 : decode cX6_type 21 = .ok (.invokespecial 84, 3) := by decide +kernel
theorem dX6_type_24 : decode cX6_type 24 = .ok (.athrow, 1) := by decide +kernel
theorem dX6_type_25 : decode cX6_type 25 = .ok (.aload_n 0, 1) := by decide +kernel
theorem dX6_type_26 : decode cX6_type 26 = .ok (.getfield 26, 3) := by decide +kernel
theorem dX6_type_29 : decode cX6_type 29 = .ok (.iload 4, 2) := by decide +kernel
theorem dX6_type_31 : decode cX6_type 31 = .ok (.invokevirtual 211, 3) := by decide +kernel
theorem dX6_type_34 : decode cX6_type 34 = .ok (.bipush 60, 2) := by decide +kernel
theorem dX6_type_36 : decode cX6_type 36 = .ok (.if_icmp .lt 13, 3) := by decide +kernel
theorem dX6_type_39 : decode cX6_type 39 = .ok (.new 91, 3) := by decide +kernel
theorem dX6_type_42 : decode cX6_type 42 = .ok (.dup, 1) := by decide +kernel
theorem dX6_type_43 : decode cX6_type 43 = .ok (.ldc 213, 2) := by decide +kernel
theorem dX6_type_45 : decode cX6_type 45 = .ok (.invokespecial 95, 3) := by decide +kernel
theorem dX6_type_48 : decode cX6_type 48 = .ok (.athrow, 1) := by decide +kernel
theorem dX6_type_49 : decode cX6_type 49 = .ok (.aload_n 0, 1) := by decide +kernel
theorem dX6_type_50 : decode cX6_type 50 = .ok (.getfield 26, 3) := by decide +kernel
theorem dX6_type_53 : decode cX6_type 53 = .ok (.iload 4, 2) := by decide +kernel
theorem dX6_type_55 : decode cX6_type 55 = .ok (.iload_n 3, 1) := by decide +kernel
theorem dX6_type_56 : decode cX6_type 56 = .ok (.invokevirtual 215, 3) := by decide +kernel
theorem dX6_type_59 : decode cX6_type 59 = .ok (.aload_n 0, 1) := by decide +kernel
theorem dX6_type_60 : decode cX6_type 60 = .ok (.iload_n 1, 1) := by decide +kernel
theorem dX6_type_61 : decode cX6_type 61 = .ok (.iload_n 2, 1) := by decide +kernel
theorem dX6_type_62 : decode cX6_type 62 = .ok (.invokevirtual 218, 3) := by decide +kernel
theorem dX6_type_65 : decode cX6_type 65 = .ok (.aload_n 0, 1) := by decide +kernel
theorem dX6_type_66 : decode cX6_type 66 = .ok (.getfield 26, 3) := by decide +kernel
theorem dX6_type_69 : decode cX6_type 69 = .ok (.iload 4, 2) := by decide +kernel
theorem dX6_type_71 : decode cX6_type 71 = .ok (.invokevirtual 211, 3) := by decide +kernel
theorem dX6_type_74 : decode cX6_type 74 = .ok (.ireturn, 1) := by decide +kernel
theorem dX6_erase_0 : decode cX6_erase 0 = .ok (.aload_n 0, 1) := by decide +kernel
theorem dX6_erase_1 : decode cX6_erase 1 = .ok (.iload_n 1, 1) := by decide +kernel
theorem dX6_erase_2 : decode cX6_erase 2 = .ok (.iload_n 2, 1) := by decide +kernel
theorem dX6_erase_3 : decode cX6_erase 3 = .ok (.invokevirtual 203, 3) := by decide +kernel
theorem dX6_erase_6 : decode cX6_erase 6 = .ok (.istore_n 3, 1) := by decide +kernel
theorem dX6_erase_7 : decode cX6_erase 7 = .ok (.aload_n 0, 1) := by decide +kernel
theorem dX6_erase_8 : decode cX6_erase 8 = .ok (.getfield 26, 3) := by decide +kernel
theorem dX6_erase_11 : decode cX6_erase 11 = .ok (.iload_n 3, 1) := by decide +kernel
theorem dX6_erase_12 : decode cX6_erase 12 = .ok (.invokevirtual 211, 3) := by decide +kernel
theorem dX6_erase_15 : decode cX6_erase 15 = .ok (.ifCond .ne 13, 3) := by decide +kernel
theorem dX6_erase_18 : decode cX6_erase 18 = .ok (.new 91, 3) := by decide +kernel
theorem dX6_erase_21 : decode cX6_erase 21 = .ok (.dup, 1) := by decide +kernel
theorem dX6_erase_22 : decode cX6_erase 22 = .ok (.ldc 221, 2) := by decide +kernel
theorem dX6_erase_24 : decode cX6_erase 24 = .ok (.invokespecial 95, 3) := by decide +kernel
theorem dX6_erase_27 : decode cX6_erase 27 = .ok (.athrow, 1) := by decide +kernel
theorem dX6_erase_28 : decode cX6_erase 28 = .ok (.aload_n 0, 1) := by decide +kernel
theorem dX6_erase_29 : decode cX6_erase 29 = .ok (.getfield 26, 3) := by decide +kernel
theorem dX6_erase_32 : decode cX6_erase 32 = .ok (.iload_n 3, 1) := by decide +kernel
theorem dX6_erase_33 : decode cX6_erase 33 = .ok (.invokevirtual 223, 3) := by decide +kernel
theorem dX6_erase_36 : decode cX6_erase 36 = .ok (.istore 4, 2) := by decide +kernel
theorem dX6_erase_38 : decode cX6_erase 38 = .ok (.aload_n 0, 1) := by decide +kernel
theorem dX6_erase_39 : decode cX6_erase 39 = .ok (.iload_n 1, 1) := by decide +kernel
theorem dX6_erase_40 : decode cX6_erase 40 = .ok (.iload_n 2, 1) := by decide +kernel
theorem dX6_erase_41 : decode cX6_erase 41 = .ok (.invokevirtual 218, 3) := by decide +kernel
theorem dX6_erase_44 : decode cX6_erase 44 = .ok (.iload 4, 2) := by decide +kernel
theorem dX6_erase_46 : decode cX6_erase 46 = .ok (.ireturn, 1) := by decide +kernel
theorem dX6_signs_0 : decode cX6_signs 0 = .ok (.aload_n 0, 1) := by decide +kernel
theorem dX6_signs_1 : decode cX6_signs 1 = .ok (.getfield 26, 3) := by decide +kernel
theorem dX6_signs_4 : decode cX6_signs 4 = .ok (.aload_n 0, 1) := by decide +kernel
theorem dX6_signs_5 : decode cX6_signs 5 = .ok (.iload_n 1, 1) := by decide +kernel
theorem dX6_signs_6 : decode cX6_signs 6 = .ok (.iload_n 2, 1) := by decide +kernel
theorem dX6_signs_7 : decode cX6_signs 7 = .ok (.invokevirtual 203, 3) := by decide +kernel
theorem dX6_signs_10 : decode cX6_signs 10 = .ok (.invokevirtual 211, 3) := by decide +kernel
theorem dX6_signs_13 : decode cX6_signs 13 = .ok (.ireturn, 1) := by decide +kernel
theorem dX6_signAt_0 : decode cX6_signAt 0 = .ok (.aload_n 0, 1) := by decide +kernel
theorem dX6_signAt_1 : decode cX6_signAt 1 = .ok (.iload_n 1, 1) := by decide +kernel
theorem dX6_signAt_2 : decode cX6_signAt 2 = .ok (.iload_n 2, 1) := by decide +kernel
theorem dX6_signAt_3 : decode cX6_signAt 3 = .ok (.invokevirtual 203, 3) := by decide +kernel
theorem dX6_signAt_6 : decode cX6_signAt 6 = .ok (.istore 4, 2) := by decide +kernel
theorem dX6_signAt_8 : decode cX6_signAt 8 = .ok (.iload_n 3, 1) := by decide +kernel
theorem dX6_signAt_9 : decode cX6_signAt 9 = .ok (.ifCond .lt 16, 3) := by decide +kernel
theorem dX6_signAt_12 : decode cX6_signAt 12 = .ok (.iload_n 3, 1) := by decide +kernel
theorem dX6_signAt_13 : decode cX6_signAt 13 = .ok (.aload_n 0, 1) := by decide +kernel
theorem dX6_signAt_14 : decode cX6_signAt 14 = .ok (.getfield 26, 3) := by decide +kernel
theorem dX6_signAt_17 : decode cX6_signAt 17 = .ok (.iload 4, 2) := by decide +kernel
theorem dX6_signAt_19 : decode cX6_signAt 19 = .ok (.invokevirtual 211, 3) := by decide +kernel
theorem dX6_signAt_22 : decode cX6_signAt 22 = .ok (.if_icmp .lt 13, 3) := by decide +kernel
theorem dX6_signAt_25 : decode cX6_signAt 25 = .ok (.new 106, 3) := by decide +kernel
theorem dX6_signAt_28 : decode cX6_signAt 28 = .ok (.dup, 1) := by decide +kernel
theorem dX6_signAt_29 : decode cX6_signAt 29 = .ok (.ldc 226, 2) := by decide +kernel
theorem dX6_signAt_31 : decode cX6_signAt 31 = .ok (.invokespecial 110, 3) := by decide +kernel
theorem dX6_signAt_34 : decode cX6_signAt 34 = .ok (.athrow, 1) := by decide +kernel
theorem dX6_signAt_35 : decode cX6_signAt 35 = .ok (.aload_n 0, 1) := by decide +kernel
theorem dX6_signAt_36 : decode cX6_signAt 36 = .ok (.getfield 26, 3) := by decide +kernel
theorem dX6_signAt_39 : decode cX6_signAt 39 = .ok (.iload 4, 2) := by decide +kernel
theorem dX6_signAt_41 : decode cX6_signAt 41 = .ok (.iload_n 3, 1) := by decide +kernel
theorem dX6_signAt_42 : decode cX6_signAt 42 = .ok (.invokevirtual 228, 3) := by decide +kernel
theorem dX6_signAt_45 : decode cX6_signAt 45 = .ok (.ireturn, 1) := by decide +kernel
theorem dX6_width_0 : decode cX6_width 0 = .ok (.aload_n 0, 1) := by decide +kernel
theorem dX6_width_1 : decode cX6_width 1 = .ok (.aload_n 0, 1) := by decide +kernel
theorem dX6_width_2 : decode cX6_width 2 = .ok (.iload_n 1, 1) := by decide +kernel
theorem dX6_width_3 : decode cX6_width 3 = .ok (.iload_n 2, 1) := by decide +kernel
theorem dX6_width_4 : decode cX6_width 4 = .ok (.invokevirtual 203, 3) := by decide +kernel
theorem dX6_width_7 : decode cX6_width 7 = .ok (.invokevirtual 231, 3) := by decide +kernel
theorem dX6_width_10 : decode cX6_width 10 = .ok (.ireturn, 1) := by decide +kernel
theorem dX6_rows_0 : decode cX6_rows 0 = .ok (.aload_n 0, 1) := by decide +kernel
theorem dX6_rows_1 : decode cX6_rows 1 = .ok (.getfield 45, 3) := by decide +kernel
theorem dX6_rows_4 : decode cX6_rows 4 = .ok (.aload_n 0, 1) := by decide +kernel
theorem dX6_rows_5 : decode cX6_rows 5 = .ok (.getfield 26, 3) := by decide +kernel
theorem dX6_rows_8 : decode cX6_rows 8 = .ok (.aload_n 0, 1) := by decide +kernel
theorem dX6_rows_9 : decode cX6_rows 9 = .ok (.iload_n 1, 1) := by decide +kernel
theorem dX6_rows_10 : decode cX6_rows 10 = .ok (.iload_n 2, 1) := by decide +kernel
theorem dX6_rows_11 : decode cX6_rows 11 = .ok (.invokevirtual 203, 3) := by decide +kernel
theorem dX6_rows_14 : decode cX6_rows 14 = .ok (.aload_n 0, 1) := by decide +kernel
theorem dX6_rows_15 : decode cX6_rows 15 = .ok (.getfield 74, 3) := by decide +kernel
theorem dX6_rows_18 : decode cX6_rows 18 = .ok (.invokevirtual 234, 3) := by decide +kernel
theorem dX6_rows_21 : decode cX6_rows 21 = .ok (.aload_n 0, 1) := by decide +kernel
theorem dX6_rows_22 : decode cX6_rows 22 = .ok (.getfield 45, 3) := by decide +kernel
theorem dX6_rows_25 : decode cX6_rows 25 = .ok (.invokevirtual 238, 3) := by decide +kernel
theorem dX6_rows_28 : decode cX6_rows 28 = .ok (.ireturn, 1) := by decide +kernel
theorem dX6_row_0 : decode cX6_row 0 = .ok (.aload_n 0, 1) := by decide +kernel
theorem dX6_row_1 : decode cX6_row 1 = .ok (.getfield 45, 3) := by decide +kernel
theorem dX6_row_4 : decode cX6_row 4 = .ok (.aload_n 0, 1) := by decide +kernel
theorem dX6_row_5 : decode cX6_row 5 = .ok (.getfield 26, 3) := by decide +kernel
theorem dX6_row_8 : decode cX6_row 8 = .ok (.aload_n 0, 1) := by decide +kernel
theorem dX6_row_9 : decode cX6_row 9 = .ok (.iload_n 1, 1) := by decide +kernel
theorem dX6_row_10 : decode cX6_row 10 = .ok (.iload_n 2, 1) := by decide +kernel
theorem dX6_row_11 : decode cX6_row 11 = .ok (.invokevirtual 203, 3) := by decide +kernel
theorem dX6_row_14 : decode cX6_row 14 = .ok (.aload_n 0, 1) := by decide +kernel
theorem dX6_row_15 : decode cX6_row 15 = .ok (.getfield 74, 3) := by decide +kernel
theorem dX6_row_18 : decode cX6_row 18 = .ok (.invokevirtual 234, 3) := by decide +kernel
theorem dX6_row_21 : decode cX6_row 21 = .ok (.iload_n 3, 1) := by decide +kernel
theorem dX6_row_22 : decode cX6_row 22 = .ok (.ifCond .lt 14, 3) := by decide +kernel
theorem dX6_row_25 : decode cX6_row 25 = .ok (.iload_n 3, 1) := by decide +kernel
theorem dX6_row_26 : decode cX6_row 26 = .ok (.aload_n 0, 1) := by decide +kernel
theorem dX6_row_27 : decode cX6_row 27 = .ok (.getfield 45, 3) := by decide +kernel
theorem dX6_row_30 : decode cX6_row 30 = .ok (.invokevirtual 238, 3) := by decide +kernel
theorem dX6_row_33 : decode cX6_row 33 = .ok (.if_icmp .lt 13, 3) := by decide +kernel
theorem dX6_row_36 : decode cX6_row 36 = .ok (.new 106, 3) := by decide +kernel
theorem dX6_row_39 : decode cX6_row 39 = .ok (.dup, 1) := by decide +kernel
theorem dX6_row_40 : decode cX6_row 40 = .ok (.ldc 241, 2) := by decide +kernel
theorem dX6_row_42 : decode cX6_row 42 = .ok (.invokespecial 110, 3) := by decide +kernel
theorem dX6_row_45 : decode cX6_row 45 = .ok (.athrow, 1) := by decide +kernel
theorem dX6_row_46 : decode cX6_row 46 = .ok (.bipush 100, 2) := by decide +kernel
theorem dX6_row_48 : decode cX6_row 48 = .ok (.aload_n 0, 1) := by decide +kernel
theorem dX6_row_49 : decode cX6_row 49 = .ok (.getfield 45, 3) := by decide +kernel
theorem dX6_row_52 : decode cX6_row 52 = .ok (.iload_n 3, 1) := by decide +kernel
theorem dX6_row_53 : decode cX6_row 53 = .ok (.invokevirtual 243, 3) := by decide +kernel
theorem dX6_row_56 : decode cX6_row 56 = .ok (.imul, 1) := by decide +kernel
theorem dX6_row_57 : decode cX6_row 57 = .ok (.aload_n 0, 1) := by decide +kernel
theorem dX6_row_58 : decode cX6_row 58 = .ok (.getfield 45, 3) := by decide +kernel
theorem dX6_row_61 : decode cX6_row 61 = .ok (.iload_n 3, 1) := by decide +kernel
theorem dX6_row_62 : decode cX6_row 62 = .ok (.invokevirtual 246, 3) := by decide +kernel
theorem dX6_row_65 : decode cX6_row 65 = .ok (.iadd, 1) := by decide +kernel
theorem dX6_row_66 : decode cX6_row 66 = .ok (.ireturn, 1) := by decide +kernel
theorem dX6_setLimits_0 : decode cX6_setLimits 0 = .ok (.iload_n 1, 1) := by decide +kernel
theorem dX6_setLimits_1 : decode cX6_setLimits 1 = .ok (.iconst 5, 1) := by decide +kernel
theorem dX6_setLimits_2 : decode cX6_setLimits 2 = .ok (.if_icmp .lt 20, 3) := by decide +kernel
theorem dX6_setLimits_5 : decode cX6_setLimits 5 = .ok (.iload_n 1, 1) := by decide +kernel
theorem dX6_setLimits_6 : decode cX6_setLimits 6 = .ok (.bipush 60, 2) := by decide +kernel
theorem dX6_setLimits_8 : decode cX6_setLimits 8 = .ok (.if_icmp .gt 14, 3) := by decide +kernel
theorem dX6_setLimits_11 : decode cX6_setLimits 11 = .ok (.iload_n 2, 1) := by decide +kernel
theorem dX6_setLimits_12 : decode cX6_setLimits 12 = .ok (.iconst 5, 1) := by decide +kernel
theorem dX6_setLimits_13 : decode cX6_setLimits 13 = .ok (.if_icmp .lt 9, 3) := by decide +kernel
theorem dX6_setLimits_16 : decode cX6_setLimits 16 = .ok (.iload_n 2, 1) := by decide +kernel
theorem dX6_setLimits_17 : decode cX6_setLimits 17 = .ok (.bipush 50, 2) := by decide +kernel
theorem dX6_setLimits_19 : decode cX6_setLimits 19 = .ok (.if_icmp .le 13, 3) := by decide +kernel
theorem dX6_setLimits_22 : decode cX6_setLimits 22 = .ok (.new 80, 3) := by decide +kernel
theorem dX6_setLimits_25 : decode cX6_setLimits 25 = .ok (.dup, 1) := by decide +kernel
theorem dX6_setLimits_26 : decode cX6_setLimits 26 = .ok (.ldc 249, 2) := by decide +kernel
theorem dX6_setLimits_28 : decode cX6_setLimits 28 = .ok (.invokespecial 84, 3) := by decide +kernel
theorem dX6_setLimits_31 : decode cX6_setLimits 31 = .ok (.athrow, 1) := by decide +kernel
theorem dX6_setLimits_32 : decode cX6_setLimits 32 = .ok (.aload_n 0, 1) := by decide +kernel
theorem dX6_setLimits_33 : decode cX6_setLimits 33 = .ok (.getfield 74, 3) := by decide +kernel
theorem dX6_setLimits_36 : decode cX6_setLimits 36 = .ok (.istore_n 3, 1) := by decide +kernel
theorem dX6_setLimits_37 : decode cX6_setLimits 37 = .ok (.aload_n 0, 1) := by decide +kernel
theorem dX6_setLimits_38 : decode cX6_setLimits 38 = .ok (.iload_n 1, 1) := by decide +kernel
theorem dX6_setLimits_39 : decode cX6_setLimits 39 = .ok (.putfield 74, 3) := by decide +kernel
theorem dX6_setLimits_42 : decode cX6_setLimits 42 = .ok (.aload_n 0, 1) := by decide +kernel
theorem dX6_setLimits_43 : decode cX6_setLimits 43 = .ok (.iload_n 2, 1) := by decide +kernel
theorem dX6_setLimits_44 : decode cX6_setLimits 44 = .ok (.putfield 77, 3) := by decide +kernel
theorem dX6_setLimits_47 : decode cX6_setLimits 47 = .ok (.iload_n 3, 1) := by decide +kernel
theorem dX6_setLimits_48 : decode cX6_setLimits 48 = .ok (.ireturn, 1) := by decide +kernel
theorem dX6_confirm_0 : decode cX6_confirm 0 = .ok (.aload_n 0, 1) := by decide +kernel
theorem dX6_confirm_1 : decode cX6_confirm 1 = .ok (.iload_n 1, 1) := by decide +kernel
theorem dX6_confirm_2 : decode cX6_confirm 2 = .ok (.iload_n 2, 1) := by decide +kernel
theorem dX6_confirm_3 : decode cX6_confirm 3 = .ok (.invokevirtual 203, 3) := by decide +kernel
theorem dX6_confirm_6 : decode cX6_confirm 6 = .ok (.istore_n 3, 1) := by decide +kernel
theorem dX6_confirm_7 : decode cX6_confirm 7 = .ok (.iload_n 2, 1) := by decide +kernel
theorem dX6_confirm_8 : decode cX6_confirm 8 = .ok (.invokestatic 251, 3) := by decide +kernel
theorem dX6_confirm_11 : decode cX6_confirm 11 = .ok (.iload_n 1, 1) := by decide +kernel
theorem dX6_confirm_12 : decode cX6_confirm 12 = .ok (.iconst 0, 1) := by decide +kernel
theorem dX6_confirm_13 : decode cX6_confirm 13 = .ok (.invokestatic 254, 3) := by decide +kernel
theorem dX6_confirm_16 : decode cX6_confirm 16 = .ok (.istore 4, 2) := by decide +kernel
theorem dX6_confirm_18 : decode cX6_confirm 18 = .ok (.aload_n 0, 1) := by decide +kernel
theorem dX6_confirm_19 : decode cX6_confirm 19 = .ok (.getfield 26, 3) := by decide +kernel
theorem dX6_confirm_22 : decode cX6_confirm 22 = .ok (.iload_n 3, 1) := by decide +kernel
theorem dX6_confirm_23 : decode cX6_confirm 23 = .ok (.invokevirtual 211, 3) := by decide +kernel
theorem dX6_confirm_26 : decode cX6_confirm 26 = .ok (.ifCond .eq 15, 3) := by decide +kernel
theorem dX6_confirm_29 : decode cX6_confirm 29 = .ok (.aload_n 0, 1) := by decide +kernel
theorem dX6_confirm_30 : decode cX6_confirm 30 = .ok (.getfield 26, 3) := by decide +kernel
theorem dX6_confirm_33 : decode cX6_confirm 33 = .ok (.iload 4, 2) := by decide +kernel
theorem dX6_confirm_35 : decode cX6_confirm 35 = .ok (.invokevirtual 211, 3) := by decide +kernel
theorem dX6_confirm_38 : decode cX6_confirm 38 = .ok (.ifCond .ne 14, 3) := by decide +kernel
theorem dX6_confirm_41 : decode cX6_confirm 41 = .ok (.new 91, 3) := by decide +kernel
theorem dX6_confirm_44 : decode cX6_confirm 44 = .ok (.dup, 1) := by decide +kernel
theorem dX6_confirm_45 : decode cX6_confirm 45 = .ok (.ldc_w 257, 3) := by decide +kernel
theorem dX6_confirm_48 : decode cX6_confirm 48 = .ok (.invokespecial 95, 3) := by decide +kernel
theorem dX6_confirm_51 : decode cX6_confirm 51 = .ok (.athrow, 1) := by decide +kernel
theorem dX6_confirm_52 : decode cX6_confirm 52 = .ok (.aload_n 0, 1) := by decide +kernel
theorem dX6_confirm_53 : decode cX6_confirm 53 = .ok (.iload_n 2, 1) := by decide +kernel
theorem dX6_confirm_54 : decode cX6_confirm 54 = .ok (.invokevirtual 259, 3) := by decide +kernel
theorem dX6_confirm_57 : decode cX6_confirm 57 = .ok (.astore 5, 2) := by decide +kernel
theorem dX6_confirm_59 : decode cX6_confirm 59 = .ok (.aload 5, 2) := by decide +kernel
theorem dX6_confirm_61 : decode cX6_confirm 61 = .ok (.aload_n 0, 1) := by decide +kernel
theorem dX6_confirm_62 : decode cX6_confirm 62 = .ok (.getfield 26, 3) := by decide +kernel
theorem dX6_confirm_65 : decode cX6_confirm 65 = .ok (.iload 4, 2) := by decide +kernel
theorem dX6_confirm_67 : decode cX6_confirm 67 = .ok (.iload_n 3, 1) := by decide +kernel
theorem dX6_confirm_68 : decode cX6_confirm 68 = .ok (.invokevirtual 263, 3) := by decide +kernel
theorem dX6_confirm_71 : decode cX6_confirm 71 = .ok (.aload_n 0, 1) := by decide +kernel
theorem dX6_confirm_72 : decode cX6_confirm 72 = .ok (.iload_n 3, 1) := by decide +kernel
theorem dX6_confirm_73 : decode cX6_confirm 73 = .ok (.iconst 0, 1) := by decide +kernel
theorem dX6_confirm_74 : decode cX6_confirm 74 = .ok (.invokevirtual 266, 3) := by decide +kernel
theorem dX6_confirm_77 : decode cX6_confirm 77 = .ok (.aload 5, 2) := by decide +kernel
theorem dX6_confirm_79 : decode cX6_confirm 79 = .ok (.invokevirtual 270, 3) := by decide +kernel
theorem dX6_confirm_82 : decode cX6_confirm 82 = .ok (.ireturn, 1) := by decide +kernel
theorem dX6_fill_0 : decode cX6_fill 0 = .ok (.iload_n 1, 1) := by decide +kernel
theorem dX6_fill_1 : decode cX6_fill 1 = .ok (.invokestatic 251, 3) := by decide +kernel
theorem dX6_fill_4 : decode cX6_fill 4 = .ok (.aload_n 0, 1) := by decide +kernel
theorem dX6_fill_5 : decode cX6_fill 5 = .ok (.iload_n 1, 1) := by decide +kernel
theorem dX6_fill_6 : decode cX6_fill 6 = .ok (.invokevirtual 259, 3) := by decide +kernel
theorem dX6_fill_9 : decode cX6_fill 9 = .ok (.astore_n 2, 1) := by decide +kernel
theorem dX6_fill_10 : decode cX6_fill 10 = .ok (.iconst 0, 1) := by decide +kernel
theorem dX6_fill_11 : decode cX6_fill 11 = .ok (.istore_n 3, 1) := by decide +kernel
theorem dX6_fill_12 : decode cX6_fill 12 = .ok (.iconst 0, 1) := by decide +kernel
theorem dX6_fill_13 : decode cX6_fill 13 = .ok (.istore 4, 2) := by decide +kernel
theorem dX6_fill_15 : decode cX6_fill 15 = .ok (.iload 4, 2) := by decide +kernel
theorem dX6_fill_17 : decode cX6_fill 17 = .ok (.aload_n 0, 1) := by decide +kernel
theorem dX6_fill_18 : decode cX6_fill 18 = .ok (.getfield 70, 3) := by decide +kernel
theorem dX6_fill_21 : decode cX6_fill 21 = .ok (.if_icmp .ge 73, 3) := by decide +kernel
theorem dX6_fill_24 : decode cX6_fill 24 = .ok (.iload 4, 2) := by decide +kernel
theorem dX6_fill_26 : decode cX6_fill 26 = .ok (.iload_n 1, 1) := by decide +kernel
theorem dX6_fill_27 : decode cX6_fill 27 = .ok (.invokestatic 254, 3) := by decide +kernel
theorem dX6_fill_30 : decode cX6_fill 30 = .ok (.istore 5, 2) := by decide +kernel
theorem dX6_fill_32 : decode cX6_fill 32 = .ok (.aload_n 0, 1) := by decide +kernel
theorem dX6_fill_33 : decode cX6_fill 33 = .ok (.getfield 26, 3) := by decide +kernel
theorem dX6_fill_36 : decode cX6_fill 36 = .ok (.iload 5, 2) := by decide +kernel
theorem dX6_fill_38 : decode cX6_fill 38 = .ok (.invokevirtual 211, 3) := by decide +kernel
theorem dX6_fill_41 : decode cX6_fill 41 = .ok (.ifCond .eq 12, 3) := by decide +kernel
theorem dX6_fill_44 : decode cX6_fill 44 = .ok (.aload_n 0, 1) := by decide +kernel
theorem dX6_fill_45 : decode cX6_fill 45 = .ok (.iload 5, 2) := by decide +kernel
theorem dX6_fill_47 : decode cX6_fill 47 = .ok (.invokevirtual 271, 3) := by decide +kernel
theorem dX6_fill_50 : decode cX6_fill 50 = .ok (.ifCond .eq 38, 3) := by decide +kernel
theorem dX6_fill_53 : decode cX6_fill 53 = .ok (.aload_n 2, 1) := by decide +kernel
theorem dX6_fill_54 : decode cX6_fill 54 = .ok (.aload_n 0, 1) := by decide +kernel
theorem dX6_fill_55 : decode cX6_fill 55 = .ok (.getfield 26, 3) := by decide +kernel
theorem dX6_fill_58 : decode cX6_fill 58 = .ok (.iload 4, 2) := by decide +kernel
theorem dX6_fill_60 : decode cX6_fill 60 = .ok (.iconst 0, 1) := by decide +kernel
theorem dX6_fill_61 : decode cX6_fill 61 = .ok (.invokestatic 254, 3) := by decide +kernel
theorem dX6_fill_64 : decode cX6_fill 64 = .ok (.iload 5, 2) := by decide +kernel
theorem dX6_fill_66 : decode cX6_fill 66 = .ok (.invokevirtual 274, 3) := by decide +kernel
theorem dX6_fill_69 : decode cX6_fill 69 = .ok (.ifCond .eq 19, 3) := by decide +kernel
theorem dX6_fill_72 : decode cX6_fill 72 = .ok (.aload_n 0, 1) := by decide +kernel
theorem dX6_fill_73 : decode cX6_fill 73 = .ok (.iload 5, 2) := by decide +kernel
theorem dX6_fill_75 : decode cX6_fill 75 = .ok (.iconst 0, 1) := by decide +kernel
theorem dX6_fill_76 : decode cX6_fill 76 = .ok (.invokevirtual 266, 3) := by decide +kernel
theorem dX6_fill_79 : decode cX6_fill 79 = .ok (.aload_n 0, 1) := by decide +kernel
theorem dX6_fill_80 : decode cX6_fill 80 = .ok (.iload 5, 2) := by decide +kernel
theorem dX6_fill_82 : decode cX6_fill 82 = .ok (.invokevirtual 278, 3) := by decide +kernel
theorem dX6_fill_85 : decode cX6_fill 85 = .ok (.iinc 3 1, 3) := by decide +kernel
theorem dX6_fill_88 : decode cX6_fill 88 = .ok (.iinc 4 1, 3) := by decide +kernel
theorem dX6_fill_91 : decode cX6_fill 91 = .ok (.goto (-76), 3) := by decide +kernel
theorem dX6_fill_94 : decode cX6_fill 94 = .ok (.iload_n 3, 1) := by decide +kernel
theorem dX6_fill_95 : decode cX6_fill 95 = .ok (.ireturn, 1) := by decide +kernel
theorem dX6_isStale_0 : decode cX6_isStale 0 = .ok (.aload_n 0, 1) := by decide +kernel
theorem dX6_isStale_1 : decode cX6_isStale 1 = .ok (.aload_n 0, 1) := by decide +kernel
theorem dX6_isStale_2 : decode cX6_isStale 2 = .ok (.iload_n 1, 1) := by decide +kernel
theorem dX6_isStale_3 : decode cX6_isStale 3 = .ok (.iload_n 2, 1) := by decide +kernel
theorem dX6_isStale_4 : decode cX6_isStale 4 = .ok (.invokevirtual 203, 3) := by decide +kernel
theorem dX6_isStale_7 : decode cX6_isStale 7 = .ok (.invokevirtual 281, 3) := by decide +kernel
theorem dX6_isStale_10 : decode cX6_isStale 10 = .ok (.ireturn, 1) := by decide +kernel
theorem dX6_memory_0 : decode cX6_memory 0 = .ok (.iload_n 1, 1) := by decide +kernel
theorem dX6_memory_1 : decode cX6_memory 1 = .ok (.invokestatic 251, 3) := by decide +kernel
theorem dX6_memory_4 : decode cX6_memory 4 = .ok (.aload_n 0, 1) := by decide +kernel
theorem dX6_memory_5 : decode cX6_memory 5 = .ok (.iload_n 1, 1) := by decide +kernel
theorem dX6_memory_6 : decode cX6_memory 6 = .ok (.invokevirtual 259, 3) := by decide +kernel
theorem dX6_memory_9 : decode cX6_memory 9 = .ok (.invokevirtual 270, 3) := by decide +kernel
theorem dX6_memory_12 : decode cX6_memory 12 = .ok (.ireturn, 1) := by decide +kernel
theorem dX6_broken_0 : decode cX6_broken 0 = .ok (.aload_n 0, 1) := by decide +kernel
theorem dX6_broken_1 : decode cX6_broken 1 = .ok (.iload_n 1, 1) := by decide +kernel
theorem dX6_broken_2 : decode cX6_broken 2 = .ok (.iload_n 2, 1) := by decide +kernel
theorem dX6_broken_3 : decode cX6_broken 3 = .ok (.invokevirtual 203, 3) := by decide +kernel
theorem dX6_broken_6 : decode cX6_broken 6 = .ok (.pop, 1) := by decide +kernel
theorem dX6_broken_7 : decode cX6_broken 7 = .ok (.aload_n 0, 1) := by decide +kernel
theorem dX6_broken_8 : decode cX6_broken 8 = .ok (.iload_n 1, 1) := by decide +kernel
theorem dX6_broken_9 : decode cX6_broken 9 = .ok (.iload_n 2, 1) := by decide +kernel
theorem dX6_broken_10 : decode cX6_broken 10 = .ok (.invokevirtual 284, 3) := by decide +kernel
theorem dX6_broken_13 : decode cX6_broken 13 = .ok (.ireturn, 1) := by decide +kernel
theorem dX6_letGo_0 : decode cX6_letGo 0 = .ok (.aload_n 0, 1) := by decide +kernel
theorem dX6_letGo_1 : decode cX6_letGo 1 = .ok (.iload_n 1, 1) := by decide +kernel
theorem dX6_letGo_2 : decode cX6_letGo 2 = .ok (.iload_n 2, 1) := by decide +kernel
theorem dX6_letGo_3 : decode cX6_letGo 3 = .ok (.invokevirtual 203, 3) := by decide +kernel
theorem dX6_letGo_6 : decode cX6_letGo 6 = .ok (.istore 5, 2) := by decide +kernel
theorem dX6_letGo_8 : decode cX6_letGo 8 = .ok (.iload_n 3, 1) := by decide +kernel
theorem dX6_letGo_9 : decode cX6_letGo 9 = .ok (.invokestatic 287, 3) := by decide +kernel
theorem dX6_letGo_12 : decode cX6_letGo 12 = .ok (.iload 4, 2) := by decide +kernel
theorem dX6_letGo_14 : decode cX6_letGo 14 = .ok (.iconst 1, 1) := by decide +kernel
theorem dX6_letGo_15 : decode cX6_letGo 15 = .ok (.if_icmp .lt 10, 3) := by decide +kernel
theorem dX6_letGo_18 : decode cX6_letGo 18 = .ok (.iload 4, 2) := by decide +kernel
theorem dX6_letGo_20 : decode cX6_letGo 20 = .ok (.bipush 99, 2) := by decide +kernel
theorem dX6_letGo_22 : decode cX6_letGo 22 = .ok (.if_icmp .le 14, 3) := by decide +kernel
theorem dX6_letGo_25 : decode cX6_letGo 25 = .ok (.new 80, 3) := by decide +kernel
theorem dX6_letGo_28 : decode cX6_letGo 28 = .ok (.dup, 1) := by decide +kernel
theorem dX6_letGo_29 : decode cX6_letGo 29 = .ok (.ldc_w 290, 3) := by decide +kernel
theorem dX6_letGo_32 : decode cX6_letGo 32 = .ok (.invokespecial 84, 3) := by decide +kernel
theorem dX6_letGo_35 : decode cX6_letGo 35 = .ok (.athrow, 1) := by decide +kernel
theorem dX6_letGo_36 : decode cX6_letGo 36 = .ok (.aload_n 0, 1) := by decide +kernel
theorem dX6_letGo_37 : decode cX6_letGo 37 = .ok (.iload_n 1, 1) := by decide +kernel
theorem dX6_letGo_38 : decode cX6_letGo 38 = .ok (.iload_n 2, 1) := by decide +kernel
theorem dX6_letGo_39 : decode cX6_letGo 39 = .ok (.invokevirtual 284, 3) := by decide +kernel
theorem dX6_letGo_42 : decode cX6_letGo 42 = .ok (.iload_n 3, 1) := by decide +kernel
theorem dX6_letGo_43 : decode cX6_letGo 43 = .ok (.invokestatic 292, 3) := by decide +kernel
theorem dX6_letGo_46 : decode cX6_letGo 46 = .ok (.iand, 1) := by decide +kernel
theorem dX6_letGo_47 : decode cX6_letGo 47 = .ok (.ifCond .ne 14, 3) := by decide +kernel
theorem dX6_letGo_50 : decode cX6_letGo 50 = .ok (.new 91, 3) := by decide +kernel
theorem dX6_letGo_53 : decode cX6_letGo 53 = .ok (.dup, 1) := by decide +kernel
theorem dX6_letGo_54 : decode cX6_letGo 54 = .ok (.ldc_w 295, 3) := by decide +kernel
theorem dX6_letGo_57 : decode cX6_letGo 57 = .ok (.invokespecial 95, 3) := by decide +kernel
theorem dX6_letGo_60 : decode cX6_letGo 60 = .ok (.athrow, 1) := by decide +kernel
theorem dX6_letGo_61 : decode cX6_letGo 61 = .ok (.aload_n 0, 1) := by decide +kernel
theorem dX6_letGo_62 : decode cX6_letGo 62 = .ok (.getfield 60, 3) := by decide +kernel
theorem dX6_letGo_65 : decode cX6_letGo 65 = .ok (.iload 5, 2) := by decide +kernel
theorem dX6_letGo_67 : decode cX6_letGo 67 = .ok (.bipush 8, 2) := by decide +kernel
theorem dX6_letGo_69 : decode cX6_letGo 69 = .ok (.imul, 1) := by decide +kernel
theorem dX6_letGo_70 : decode cX6_letGo 70 = .ok (.iload_n 3, 1) := by decide +kernel
theorem dX6_letGo_71 : decode cX6_letGo 71 = .ok (.iadd, 1) := by decide +kernel
theorem dX6_letGo_72 : decode cX6_letGo 72 = .ok (.invokestatic 180, 3) := by decide +kernel
theorem dX6_letGo_75 : decode cX6_letGo 75 = .ok (.istore 6, 2) := by decide +kernel
theorem dX6_letGo_77 : decode cX6_letGo 77 = .ok (.aload_n 0, 1) := by decide +kernel
theorem dX6_letGo_78 : decode cX6_letGo 78 = .ok (.getfield 60, 3) := by decide +kernel
theorem dX6_letGo_81 : decode cX6_letGo 81 = .ok (.iload 5, 2) := by decide +kernel
theorem dX6_letGo_83 : decode cX6_letGo 83 = .ok (.bipush 8, 2) := by decide +kernel
theorem dX6_letGo_85 : decode cX6_letGo 85 = .ok (.imul, 1) := by decide +kernel
theorem dX6_letGo_86 : decode cX6_letGo 86 = .ok (.iload_n 3, 1) := by decide +kernel
theorem dX6_letGo_87 : decode cX6_letGo 87 = .ok (.iadd, 1) := by decide +kernel
theorem dX6_letGo_88 : decode cX6_letGo 88 = .ok (.iload 4, 2) := by decide +kernel
theorem dX6_letGo_90 : decode cX6_letGo 90 = .ok (.invokestatic 184, 3) := by decide +kernel
theorem dX6_letGo_93 : decode cX6_letGo 93 = .ok (.iload 6, 2) := by decide +kernel
theorem dX6_letGo_95 : decode cX6_letGo 95 = .ok (.ireturn, 1) := by decide +kernel
theorem dX6_nameOf_0 : decode cX6_nameOf 0 = .ok (.aload_n 0, 1) := by decide +kernel
theorem dX6_nameOf_1 : decode cX6_nameOf 1 = .ok (.iload_n 1, 1) := by decide +kernel
theorem dX6_nameOf_2 : decode cX6_nameOf 2 = .ok (.iload_n 2, 1) := by decide +kernel
theorem dX6_nameOf_3 : decode cX6_nameOf 3 = .ok (.invokevirtual 203, 3) := by decide +kernel
theorem dX6_nameOf_6 : decode cX6_nameOf 6 = .ok (.istore 4, 2) := by decide +kernel
theorem dX6_nameOf_8 : decode cX6_nameOf 8 = .ok (.iload_n 3, 1) := by decide +kernel
theorem dX6_nameOf_9 : decode cX6_nameOf 9 = .ok (.invokestatic 287, 3) := by decide +kernel
theorem dX6_nameOf_12 : decode cX6_nameOf 12 = .ok (.aload_n 0, 1) := by decide +kernel
theorem dX6_nameOf_13 : decode cX6_nameOf 13 = .ok (.getfield 60, 3) := by decide +kernel
theorem dX6_nameOf_16 : decode cX6_nameOf 16 = .ok (.iload 4, 2) := by decide +kernel
theorem dX6_nameOf_18 : decode cX6_nameOf 18 = .ok (.bipush 8, 2) := by decide +kernel
theorem dX6_nameOf_20 : decode cX6_nameOf 20 = .ok (.imul, 1) := by decide +kernel
theorem dX6_nameOf_21 : decode cX6_nameOf 21 = .ok (.iload_n 3, 1) := by decide +kernel
theorem dX6_nameOf_22 : decode cX6_nameOf 22 = .ok (.iadd, 1) := by decide +kernel
theorem dX6_nameOf_23 : decode cX6_nameOf 23 = .ok (.invokestatic 180, 3) := by decide +kernel
theorem dX6_nameOf_26 : decode cX6_nameOf 26 = .ok (.ireturn, 1) := by decide +kernel
theorem dX6_faults_0 : decode cX6_faults 0 = .ok (.iload_n 1, 1) := by decide +kernel
theorem dX6_faults_1 : decode cX6_faults 1 = .ok (.invokestatic 297, 3) := by decide +kernel
theorem dX6_faults_4 : decode cX6_faults 4 = .ok (.iconst 0, 1) := by decide +kernel
theorem dX6_faults_5 : decode cX6_faults 5 = .ok (.istore_n 2, 1) := by decide +kernel
theorem dX6_faults_6 : decode cX6_faults 6 = .ok (.iconst 0, 1) := by decide +kernel
theorem dX6_faults_7 : decode cX6_faults 7 = .ok (.istore_n 3, 1) := by decide +kernel
theorem dX6_faults_8 : decode cX6_faults 8 = .ok (.iload_n 3, 1) := by decide +kernel
theorem dX6_faults_9 : decode cX6_faults 9 = .ok (.aload_n 0, 1) := by decide +kernel
theorem dX6_faults_10 : decode cX6_faults 10 = .ok (.getfield 70, 3) := by decide +kernel
theorem dX6_faults_13 : decode cX6_faults 13 = .ok (.if_icmp .ge 37, 3) := by decide +kernel
theorem dX6_faults_16 : decode cX6_faults 16 = .ok (.aload_n 0, 1) := by decide +kernel
theorem dX6_faults_17 : decode cX6_faults 17 = .ok (.iload_n 3, 1) := by decide +kernel
theorem dX6_faults_18 : decode cX6_faults 18 = .ok (.iload_n 1, 1) := by decide +kernel
theorem dX6_faults_19 : decode cX6_faults 19 = .ok (.invokevirtual 284, 3) := by decide +kernel
theorem dX6_faults_22 : decode cX6_faults 22 = .ok (.aload_n 0, 1) := by decide +kernel
theorem dX6_faults_23 : decode cX6_faults 23 = .ok (.iload_n 3, 1) := by decide +kernel
theorem dX6_faults_24 : decode cX6_faults 24 = .ok (.iload_n 1, 1) := by decide +kernel
theorem dX6_faults_25 : decode cX6_faults 25 = .ok (.invokestatic 254, 3) := by decide +kernel
theorem dX6_faults_28 : decode cX6_faults 28 = .ok (.invokevirtual 300, 3) := by decide +kernel
theorem dX6_faults_31 : decode cX6_faults 31 = .ok (.iconst (-1), 1) := by decide +kernel
theorem dX6_faults_32 : decode cX6_faults 32 = .ok (.ixor, 1) := by decide +kernel
theorem dX6_faults_33 : decode cX6_faults 33 = .ok (.iand, 1) := by decide +kernel
theorem dX6_faults_34 : decode cX6_faults 34 = .ok (.istore 4, 2) := by decide +kernel
theorem dX6_faults_36 : decode cX6_faults 36 = .ok (.iload_n 2, 1) := by decide +kernel
theorem dX6_faults_37 : decode cX6_faults 37 = .ok (.iload 4, 2) := by decide +kernel
theorem dX6_faults_39 : decode cX6_faults 39 = .ok (.invokestatic 303, 3) := by decide +kernel
theorem dX6_faults_42 : decode cX6_faults 42 = .ok (.iadd, 1) := by decide +kernel
theorem dX6_faults_43 : decode cX6_faults 43 = .ok (.istore_n 2, 1) := by decide +kernel
theorem dX6_faults_44 : decode cX6_faults 44 = .ok (.iinc 3 1, 3) := by decide +kernel
theorem dX6_faults_47 : decode cX6_faults 47 = .ok (.goto (-39), 3) := by decide +kernel
theorem dX6_faults_50 : decode cX6_faults 50 = .ok (.iload_n 2, 1) := by decide +kernel
theorem dX6_faults_51 : decode cX6_faults 51 = .ok (.ireturn, 1) := by decide +kernel
theorem dX6_written_0 : decode cX6_written 0 = .ok (.iload_n 1, 1) := by decide +kernel
theorem dX6_written_1 : decode cX6_written 1 = .ok (.invokestatic 308, 3) := by decide +kernel
theorem dX6_written_4 : decode cX6_written 4 = .ok (.iload_n 2, 1) := by decide +kernel
theorem dX6_written_5 : decode cX6_written 5 = .ok (.invokestatic 297, 3) := by decide +kernel
theorem dX6_written_8 : decode cX6_written 8 = .ok (.aload_n 0, 1) := by decide +kernel
theorem dX6_written_9 : decode cX6_written 9 = .ok (.iload_n 1, 1) := by decide +kernel
theorem dX6_written_10 : decode cX6_written 10 = .ok (.iload_n 2, 1) := by decide +kernel
theorem dX6_written_11 : decode cX6_written 11 = .ok (.invokevirtual 311, 3) := by decide +kernel
theorem dX6_written_14 : decode cX6_written 14 = .ok (.aload_n 0, 1) := by decide +kernel
theorem dX6_written_15 : decode cX6_written 15 = .ok (.getfield 52, 3) := by decide +kernel
theorem dX6_written_18 : decode cX6_written 18 = .ok (.invokevirtual 314, 3) := by decide +kernel
theorem dX6_written_21 : decode cX6_written 21 = .ok (.ireturn, 1) := by decide +kernel
theorem dX6_writtenChar_0 : decode cX6_writtenChar 0 = .ok (.iload_n 1, 1) := by decide +kernel
theorem dX6_writtenChar_1 : decode cX6_writtenChar 1 = .ok (.invokestatic 308, 3) := by decide +kernel
theorem dX6_writtenChar_4 : decode cX6_writtenChar 4 = .ok (.iload_n 2, 1) := by decide +kernel
theorem dX6_writtenChar_5 : decode cX6_writtenChar 5 = .ok (.invokestatic 297, 3) := by decide +kernel
theorem dX6_writtenChar_8 : decode cX6_writtenChar 8 = .ok (.aload_n 0, 1) := by decide +kernel
theorem dX6_writtenChar_9 : decode cX6_writtenChar 9 = .ok (.iload_n 1, 1) := by decide +kernel
theorem dX6_writtenChar_10 : decode cX6_writtenChar 10 = .ok (.iload_n 2, 1) := by decide +kernel
theorem dX6_writtenChar_11 : decode cX6_writtenChar 11 = .ok (.invokevirtual 311, 3) := by decide +kernel
theorem dX6_writtenChar_14 : decode cX6_writtenChar 14 = .ok (.iload_n 3, 1) := by decide +kernel
theorem dX6_writtenChar_15 : decode cX6_writtenChar 15 = .ok (.ifCond .lt 14, 3) := by decide +kernel
theorem dX6_writtenChar_18 : decode cX6_writtenChar 18 = .ok (.iload_n 3, 1) := by decide +kernel
theorem dX6_writtenChar_19 : decode cX6_writtenChar 19 = .ok (.aload_n 0, 1) := by decide +kernel
theorem dX6_writtenChar_20 : decode cX6_writtenChar 20 = .ok (.getfield 52, 3) := by decide +kernel
theorem dX6_writtenChar_23 : decode cX6_writtenChar 23 = .ok (.invokevirtual 314, 3) := by decide +kernel
theorem dX6_writtenChar_26 : decode cX6_writtenChar 26 = .ok (.if_icmp .lt 14, 3) := by decide +kernel
theorem dX6_writtenChar_29 : decode cX6_writtenChar 29 = .ok (.new 106, 3) := by decide +kernel
theorem dX6_writtenChar_32 : decode cX6_writtenChar 32 = .ok (.dup, 1) := by decide +kernel
theorem dX6_writtenChar_33 : decode cX6_writtenChar 33 = .ok (.ldc_w 316, 3) := by decide +kernel
theorem dX6_writtenChar_36 : decode cX6_writtenChar 36 = .ok (.invokespecial 110, 3) := by decide +kernel
theorem dX6_writtenChar_39 : decode cX6_writtenChar 39 = .ok (.athrow, 1) := by decide +kernel
theorem dX6_writtenChar_40 : decode cX6_writtenChar 40 = .ok (.aload_n 0, 1) := by decide +kernel
theorem dX6_writtenChar_41 : decode cX6_writtenChar 41 = .ok (.getfield 52, 3) := by decide +kernel
theorem dX6_writtenChar_44 : decode cX6_writtenChar 44 = .ok (.iload_n 3, 1) := by decide +kernel
theorem dX6_writtenChar_45 : decode cX6_writtenChar 45 = .ok (.invokevirtual 318, 3) := by decide +kernel
theorem dX6_writtenChar_48 : decode cX6_writtenChar 48 = .ok (.ireturn, 1) := by decide +kernel
theorem dX6_needPlace_0 : decode cX6_needPlace 0 = .ok (.iload_n 1, 1) := by decide +kernel
theorem dX6_needPlace_1 : decode cX6_needPlace 1 = .ok (.ifCond .lt 14, 3) := by decide +kernel
theorem dX6_needPlace_4 : decode cX6_needPlace 4 = .ok (.iload_n 1, 1) := by decide +kernel
theorem dX6_needPlace_5 : decode cX6_needPlace 5 = .ok (.aload_n 0, 1) := by decide +kernel
theorem dX6_needPlace_6 : decode cX6_needPlace 6 = .ok (.getfield 10, 3) := by decide +kernel
theorem dX6_needPlace_9 : decode cX6_needPlace 9 = .ok (.invokevirtual 103, 3) := by decide +kernel
theorem dX6_needPlace_12 : decode cX6_needPlace 12 = .ok (.if_icmp .lt 14, 3) := by decide +kernel
theorem dX6_needPlace_15 : decode cX6_needPlace 15 = .ok (.new 106, 3) := by decide +kernel
theorem dX6_needPlace_18 : decode cX6_needPlace 18 = .ok (.dup, 1) := by decide +kernel
theorem dX6_needPlace_19 : decode cX6_needPlace 19 = .ok (.ldc_w 322, 3) := by decide +kernel
theorem dX6_needPlace_22 : decode cX6_needPlace 22 = .ok (.invokespecial 110, 3) := by decide +kernel
theorem dX6_needPlace_25 : decode cX6_needPlace 25 = .ok (.athrow, 1) := by decide +kernel
theorem dX6_needPlace_26 : decode cX6_needPlace 26 = .ok (.return_, 1) := by decide +kernel
theorem dX6_needFrame_0 : decode cX6_needFrame 0 = .ok (.iload_n 1, 1) := by decide +kernel
theorem dX6_needFrame_1 : decode cX6_needFrame 1 = .ok (.ifCond .lt 30, 3) := by decide +kernel
theorem dX6_needFrame_4 : decode cX6_needFrame 4 = .ok (.iload_n 1, 1) := by decide +kernel
theorem dX6_needFrame_5 : decode cX6_needFrame 5 = .ok (.aload_n 0, 1) := by decide +kernel
theorem dX6_needFrame_6 : decode cX6_needFrame 6 = .ok (.getfield 10, 3) := by decide +kernel
theorem dX6_needFrame_9 : decode cX6_needFrame 9 = .ok (.invokevirtual 87, 3) := by decide +kernel
theorem dX6_needFrame_12 : decode cX6_needFrame 12 = .ok (.if_icmp .ge 19, 3) := by decide +kernel
theorem dX6_needFrame_15 : decode cX6_needFrame 15 = .ok (.iload_n 2, 1) := by decide +kernel
theorem dX6_needFrame_16 : decode cX6_needFrame 16 = .ok (.ifCond .lt 15, 3) := by decide +kernel
theorem dX6_needFrame_19 : decode cX6_needFrame 19 = .ok (.iload_n 2, 1) := by decide +kernel
theorem dX6_needFrame_20 : decode cX6_needFrame 20 = .ok (.aload_n 0, 1) := by decide +kernel
theorem dX6_needFrame_21 : decode cX6_needFrame 21 = .ok (.getfield 10, 3) := by decide +kernel
theorem dX6_needFrame_24 : decode cX6_needFrame 24 = .ok (.iload_n 1, 1) := by decide +kernel
theorem dX6_needFrame_25 : decode cX6_needFrame 25 = .ok (.invokevirtual 131, 3) := by decide +kernel
theorem dX6_needFrame_28 : decode cX6_needFrame 28 = .ok (.if_icmp .lt 14, 3) := by decide +kernel
theorem dX6_needFrame_31 : decode cX6_needFrame 31 = .ok (.new 106, 3) := by decide +kernel
theorem dX6_needFrame_34 : decode cX6_needFrame 34 = .ok (.dup, 1) := by decide +kernel
theorem dX6_needFrame_35 : decode cX6_needFrame 35 = .ok (.ldc_w 324, 3) := by decide +kernel
theorem dX6_needFrame_38 : decode cX6_needFrame 38 = .ok (.invokespecial 110, 3) := by decide +kernel
theorem dX6_needFrame_41 : decode cX6_needFrame 41 = .ok (.athrow, 1) := by decide +kernel
theorem dX6_needFrame_42 : decode cX6_needFrame 42 = .ok (.return_, 1) := by decide +kernel
theorem dX6_needSome_0 : decode cX6_needSome 0 = .ok (.iload_n 0, 1) := by decide +kernel
theorem dX6_needSome_1 : decode cX6_needSome 1 = .ok (.iconst 1, 1) := by decide +kernel
theorem dX6_needSome_2 : decode cX6_needSome 2 = .ok (.if_icmp .ge 14, 3) := by decide +kernel
theorem dX6_needSome_5 : decode cX6_needSome 5 = .ok (.new 80, 3) := by decide +kernel
theorem dX6_needSome_8 : decode cX6_needSome 8 = .ok (.dup, 1) := by decide +kernel
theorem dX6_needSome_9 : decode cX6_needSome 9 = .ok (.ldc_w 326, 3) := by decide +kernel
theorem dX6_needSome_12 : decode cX6_needSome 12 = .ok (.invokespecial 84, 3) := by decide +kernel
theorem dX6_needSome_15 : decode cX6_needSome 15 = .ok (.athrow, 1) := by decide +kernel
theorem dX6_needSome_16 : decode cX6_needSome 16 = .ok (.return_, 1) := by decide +kernel
theorem dX6_needRun_0 : decode cX6_needRun 0 = .ok (.aload_n 0, 1) := by decide +kernel
theorem dX6_needRun_1 : decode cX6_needRun 1 = .ok (.iload_n 1, 1) := by decide +kernel
theorem dX6_needRun_2 : decode cX6_needRun 2 = .ok (.invokevirtual 100, 3) := by decide +kernel
theorem dX6_needRun_5 : decode cX6_needRun 5 = .ok (.iload_n 2, 1) := by decide +kernel
theorem dX6_needRun_6 : decode cX6_needRun 6 = .ok (.sipush 250, 3) := by decide +kernel
theorem dX6_needRun_9 : decode cX6_needRun 9 = .ok (.if_icmp .gt 26, 3) := by decide +kernel
theorem dX6_needRun_12 : decode cX6_needRun 12 = .ok (.iload_n 2, 1) := by decide +kernel
theorem dX6_needRun_13 : decode cX6_needRun 13 = .ok (.aload_n 0, 1) := by decide +kernel
theorem dX6_needRun_14 : decode cX6_needRun 14 = .ok (.getfield 10, 3) := by decide +kernel
theorem dX6_needRun_17 : decode cX6_needRun 17 = .ok (.invokevirtual 103, 3) := by decide +kernel
theorem dX6_needRun_20 : decode cX6_needRun 20 = .ok (.iload_n 1, 1) := by decide +kernel
theorem dX6_needRun_21 : decode cX6_needRun 21 = .ok (.isub, 1) := by decide +kernel
theorem dX6_needRun_22 : decode cX6_needRun 22 = .ok (.if_icmp .le 13, 3) := by decide +kernel
theorem dX6_needRun_25 : decode cX6_needRun 25 = .ok (.new 106, 3) := by decide +kernel
theorem dX6_needRun_28 : decode cX6_needRun 28 = .ok (.dup, 1) := by decide +kernel
theorem dX6_needRun_29 : decode cX6_needRun 29 = .ok (.ldc 108, 2) := by decide +kernel
theorem dX6_needRun_31 : decode cX6_needRun 31 = .ok (.invokespecial 110, 3) := by decide +kernel
theorem dX6_needRun_34 : decode cX6_needRun 34 = .ok (.athrow, 1) := by decide +kernel
theorem dX6_needRun_35 : decode cX6_needRun 35 = .ok (.iload_n 2, 1) := by decide +kernel
theorem dX6_needRun_36 : decode cX6_needRun 36 = .ok (.iconst 1, 1) := by decide +kernel
theorem dX6_needRun_37 : decode cX6_needRun 37 = .ok (.if_icmp .lt 10, 3) := by decide +kernel
theorem dX6_needRun_40 : decode cX6_needRun 40 = .ok (.iload_n 2, 1) := by decide +kernel
theorem dX6_needRun_41 : decode cX6_needRun 41 = .ok (.sipush 250, 3) := by decide +kernel
theorem dX6_needRun_44 : decode cX6_needRun 44 = .ok (.if_icmp .le 14, 3) := by decide +kernel
theorem dX6_needRun_47 : decode cX6_needRun 47 = .ok (.new 80, 3) := by decide +kernel
theorem dX6_needRun_50 : decode cX6_needRun 50 = .ok (.dup, 1) := by decide +kernel
theorem dX6_needRun_51 : decode cX6_needRun 51 = .ok (.ldc_w 328, 3) := by decide +kernel
theorem dX6_needRun_54 : decode cX6_needRun 54 = .ok (.invokespecial 84, 3) := by decide +kernel
theorem dX6_needRun_57 : decode cX6_needRun 57 = .ok (.athrow, 1) := by decide +kernel
theorem dX6_needRun_58 : decode cX6_needRun 58 = .ok (.return_, 1) := by decide +kernel
theorem dX6_needCaption_0 : decode cX6_needCaption 0 = .ok (.iload_n 1, 1) := by decide +kernel
theorem dX6_needCaption_1 : decode cX6_needCaption 1 = .ok (.ifCond .lt 11, 3) := by decide +kernel
theorem dX6_needCaption_4 : decode cX6_needCaption 4 = .ok (.iload_n 1, 1) := by decide +kernel
theorem dX6_needCaption_5 : decode cX6_needCaption 5 = .ok (.aload_n 0, 1) := by decide +kernel
theorem dX6_needCaption_6 : decode cX6_needCaption 6 = .ok (.getfield 70, 3) := by decide +kernel
theorem dX6_needCaption_9 : decode cX6_needCaption 9 = .ok (.if_icmp .lt 14, 3) := by decide +kernel
theorem dX6_needCaption_12 : decode cX6_needCaption 12 = .ok (.new 106, 3) := by decide +kernel
theorem dX6_needCaption_15 : decode cX6_needCaption 15 = .ok (.dup, 1) := by decide +kernel
theorem dX6_needCaption_16 : decode cX6_needCaption 16 = .ok (.ldc_w 330, 3) := by decide +kernel
theorem dX6_needCaption_19 : decode cX6_needCaption 19 = .ok (.invokespecial 110, 3) := by decide +kernel
theorem dX6_needCaption_22 : decode cX6_needCaption 22 = .ok (.athrow, 1) := by decide +kernel
theorem dX6_needCaption_23 : decode cX6_needCaption 23 = .ok (.return_, 1) := by decide +kernel
theorem dX6_needTongue_0 : decode cX6_needTongue 0 = .ok (.iload_n 0, 1) := by decide +kernel
theorem dX6_needTongue_1 : decode cX6_needTongue 1 = .ok (.ifCond .lt 8, 3) := by decide +kernel
theorem dX6_needTongue_4 : decode cX6_needTongue 4 = .ok (.iload_n 0, 1) := by decide +kernel
theorem dX6_needTongue_5 : decode cX6_needTongue 5 = .ok (.iconst 3, 1) := by decide +kernel
theorem dX6_needTongue_6 : decode cX6_needTongue 6 = .ok (.if_icmp .lt 14, 3) := by decide +kernel
theorem dX6_needTongue_9 : decode cX6_needTongue 9 = .ok (.new 106, 3) := by decide +kernel
theorem dX6_needTongue_12 : decode cX6_needTongue 12 = .ok (.dup, 1) := by decide +kernel
theorem dX6_needTongue_13 : decode cX6_needTongue 13 = .ok (.ldc_w 332, 3) := by decide +kernel
theorem dX6_needTongue_16 : decode cX6_needTongue 16 = .ok (.invokespecial 110, 3) := by decide +kernel
theorem dX6_needTongue_19 : decode cX6_needTongue 19 = .ok (.athrow, 1) := by decide +kernel
theorem dX6_needTongue_20 : decode cX6_needTongue 20 = .ok (.return_, 1) := by decide +kernel
theorem dX6_needMadeTongue_0 : decode cX6_needMadeTongue 0 = .ok (.iload_n 0, 1) := by decide +kernel
theorem dX6_needMadeTongue_1 : decode cX6_needMadeTongue 1 = .ok (.iconst 1, 1) := by decide +kernel
theorem dX6_needMadeTongue_2 : decode cX6_needMadeTongue 2 = .ok (.if_icmp .lt 8, 3) := by decide +kernel
theorem dX6_needMadeTongue_5 : decode cX6_needMadeTongue 5 = .ok (.iload_n 0, 1) := by decide +kernel
theorem dX6_needMadeTongue_6 : decode cX6_needMadeTongue 6 = .ok (.iconst 3, 1) := by decide +kernel
theorem dX6_needMadeTongue_7 : decode cX6_needMadeTongue 7 = .ok (.if_icmp .lt 14, 3) := by decide +kernel
theorem dX6_needMadeTongue_10 : decode cX6_needMadeTongue 10 = .ok (.new 106, 3) := by decide +kernel
theorem dX6_needMadeTongue_13 : decode cX6_needMadeTongue 13 = .ok (.dup, 1) := by decide +kernel
theorem dX6_needMadeTongue_14 : decode cX6_needMadeTongue 14 = .ok (.ldc_w 334, 3) := by decide +kernel
theorem dX6_needMadeTongue_17 : decode cX6_needMadeTongue 17 = .ok (.invokespecial 110, 3) := by decide +kernel
theorem dX6_needMadeTongue_20 : decode cX6_needMadeTongue 20 = .ok (.athrow, 1) := by decide +kernel
theorem dX6_needMadeTongue_21 : decode cX6_needMadeTongue 21 = .ok (.return_, 1) := by decide +kernel
theorem dX6_needText_0 : decode cX6_needText 0 = .ok (.aload_n 0, 1) := by decide +kernel
theorem dX6_needText_1 : decode cX6_needText 1 = .ok (.iload_n 1, 1) := by decide +kernel
theorem dX6_needText_2 : decode cX6_needText 2 = .ok (.invokevirtual 166, 3) := by decide +kernel
theorem dX6_needText_5 : decode cX6_needText 5 = .ok (.iload_n 2, 1) := by decide +kernel
theorem dX6_needText_6 : decode cX6_needText 6 = .ok (.invokestatic 297, 3) := by decide +kernel
theorem dX6_needText_9 : decode cX6_needText 9 = .ok (.iload_n 1, 1) := by decide +kernel
theorem dX6_needText_10 : decode cX6_needText 10 = .ok (.iload_n 2, 1) := by decide +kernel
theorem dX6_needText_11 : decode cX6_needText 11 = .ok (.invokestatic 254, 3) := by decide +kernel
theorem dX6_needText_14 : decode cX6_needText 14 = .ok (.ireturn, 1) := by decide +kernel
theorem dX6_needRule_0 : decode cX6_needRule 0 = .ok (.iload_n 0, 1) := by decide +kernel
theorem dX6_needRule_1 : decode cX6_needRule 1 = .ok (.ifCond .lt 9, 3) := by decide +kernel
theorem dX6_needRule_4 : decode cX6_needRule 4 = .ok (.iload_n 0, 1) := by decide +kernel
theorem dX6_needRule_5 : decode cX6_needRule 5 = .ok (.bipush 8, 2) := by decide +kernel
theorem dX6_needRule_7 : decode cX6_needRule 7 = .ok (.if_icmp .lt 14, 3) := by decide +kernel
theorem dX6_needRule_10 : decode cX6_needRule 10 = .ok (.new 106, 3) := by decide +kernel
theorem dX6_needRule_13 : decode cX6_needRule 13 = .ok (.dup, 1) := by decide +kernel
theorem dX6_needRule_14 : decode cX6_needRule 14 = .ok (.ldc_w 336, 3) := by decide +kernel
theorem dX6_needRule_17 : decode cX6_needRule 17 = .ok (.invokespecial 110, 3) := by decide +kernel
theorem dX6_needRule_20 : decode cX6_needRule 20 = .ok (.athrow, 1) := by decide +kernel
theorem dX6_needRule_21 : decode cX6_needRule 21 = .ok (.return_, 1) := by decide +kernel
theorem dX6_needFormat_0 : decode cX6_needFormat 0 = .ok (.iload_n 0, 1) := by decide +kernel
theorem dX6_needFormat_1 : decode cX6_needFormat 1 = .ok (.ifCond .lt 8, 3) := by decide +kernel
theorem dX6_needFormat_4 : decode cX6_needFormat 4 = .ok (.iload_n 0, 1) := by decide +kernel
theorem dX6_needFormat_5 : decode cX6_needFormat 5 = .ok (.iconst 1, 1) := by decide +kernel
theorem dX6_needFormat_6 : decode cX6_needFormat 6 = .ok (.if_icmp .le 14, 3) := by decide +kernel
theorem dX6_needFormat_9 : decode cX6_needFormat 9 = .ok (.new 80, 3) := by decide +kernel
theorem dX6_needFormat_12 : decode cX6_needFormat 12 = .ok (.dup, 1) := by decide +kernel
theorem dX6_needFormat_13 : decode cX6_needFormat 13 = .ok (.ldc_w 338, 3) := by decide +kernel
theorem dX6_needFormat_16 : decode cX6_needFormat 16 = .ok (.invokespecial 84, 3) := by decide +kernel
theorem dX6_needFormat_19 : decode cX6_needFormat 19 = .ok (.athrow, 1) := by decide +kernel
theorem dX6_needFormat_20 : decode cX6_needFormat 20 = .ok (.return_, 1) := by decide +kernel
theorem dX6_item_0 : decode cX6_item 0 = .ok (.iload_n 1, 1) := by decide +kernel
theorem dX6_item_1 : decode cX6_item 1 = .ok (.ifCond .lt 15, 3) := by decide +kernel
theorem dX6_item_4 : decode cX6_item 4 = .ok (.iload_n 1, 1) := by decide +kernel
theorem dX6_item_5 : decode cX6_item 5 = .ok (.aload_n 0, 1) := by decide +kernel
theorem dX6_item_6 : decode cX6_item 6 = .ok (.arraylength, 1) := by decide +kernel
theorem dX6_item_7 : decode cX6_item 7 = .ok (.if_icmp .ge 9, 3) := by decide +kernel
theorem dX6_item_10 : decode cX6_item 10 = .ok (.aload_n 0, 1) := by decide +kernel
theorem dX6_item_11 : decode cX6_item 11 = .ok (.iload_n 1, 1) := by decide +kernel
theorem dX6_item_12 : decode cX6_item 12 = .ok (.iaload, 1) := by decide +kernel
theorem dX6_item_13 : decode cX6_item 13 = .ok (.goto 4, 3) := by decide +kernel
theorem dX6_item_16 : decode cX6_item 16 = .ok (.iconst 0, 1) := by decide +kernel
theorem dX6_item_17 : decode cX6_item 17 = .ok (.ireturn, 1) := by decide +kernel
theorem dX6_store_0 : decode cX6_store 0 = .ok (.iload_n 1, 1) := by decide +kernel
theorem dX6_store_1 : decode cX6_store 1 = .ok (.ifCond .lt 13, 3) := by decide +kernel
theorem dX6_store_4 : decode cX6_store 4 = .ok (.iload_n 1, 1) := by decide +kernel
theorem dX6_store_5 : decode cX6_store 5 = .ok (.aload_n 0, 1) := by decide +kernel
theorem dX6_store_6 : decode cX6_store 6 = .ok (.arraylength, 1) := by decide +kernel
theorem dX6_store_7 : decode cX6_store 7 = .ok (.if_icmp .ge 7, 3) := by decide +kernel
theorem dX6_store_10 : decode cX6_store 10 = .ok (.aload_n 0, 1) := by decide +kernel
theorem dX6_store_11 : decode cX6_store 11 = .ok (.iload_n 1, 1) := by decide +kernel
theorem dX6_store_12 : decode cX6_store 12 = .ok (.iload_n 2, 1) := by decide +kernel
theorem dX6_store_13 : decode cX6_store 13 = .ok (.iastore, 1) := by decide +kernel
theorem dX6_store_14 : decode cX6_store 14 = .ok (.return_, 1) := by decide +kernel
theorem dX6_copyItems_0 : decode cX6_copyItems 0 = .ok (.iload 4, 2) := by decide +kernel
theorem dX6_copyItems_2 : decode cX6_copyItems 2 = .ok (.ifCond .le 38, 3) := by decide +kernel
theorem dX6_copyItems_5 : decode cX6_copyItems 5 = .ok (.iload_n 1, 1) := by decide +kernel
theorem dX6_copyItems_6 : decode cX6_copyItems 6 = .ok (.ifCond .lt 34, 3) := by decide +kernel
theorem dX6_copyItems_9 : decode cX6_copyItems 9 = .ok (.iload_n 1, 1) := by decide +kernel
theorem dX6_copyItems_10 : decode cX6_copyItems 10 = .ok (.aload_n 0, 1) := by decide +kernel
theorem dX6_copyItems_11 : decode cX6_copyItems 11 = .ok (.arraylength, 1) := by decide +kernel
theorem dX6_copyItems_12 : decode cX6_copyItems 12 = .ok (.iload 4, 2) := by decide +kernel
theorem dX6_copyItems_14 : decode cX6_copyItems 14 = .ok (.isub, 1) := by decide +kernel
theorem dX6_copyItems_15 : decode cX6_copyItems 15 = .ok (.if_icmp .gt 25, 3) := by decide +kernel
theorem dX6_copyItems_18 : decode cX6_copyItems 18 = .ok (.iload_n 3, 1) := by decide +kernel
theorem dX6_copyItems_19 : decode cX6_copyItems 19 = .ok (.ifCond .lt 21, 3) := by decide +kernel
theorem dX6_copyItems_22 : decode cX6_copyItems 22 = .ok (.iload_n 3, 1) := by decide +kernel
theorem dX6_copyItems_23 : decode cX6_copyItems 23 = .ok (.aload_n 2, 1) := by decide +kernel
theorem dX6_copyItems_24 : decode cX6_copyItems 24 = .ok (.arraylength, 1) := by decide +kernel
theorem dX6_copyItems_25 : decode cX6_copyItems 25 = .ok (.iload 4, 2) := by decide +kernel
theorem dX6_copyItems_27 : decode cX6_copyItems 27 = .ok (.isub, 1) := by decide +kernel
theorem dX6_copyItems_28 : decode cX6_copyItems 28 = .ok (.if_icmp .gt 12, 3) := by decide +kernel
theorem dX6_copyItems_31 : decode cX6_copyItems 31 = .ok (.aload_n 0, 1) := by decide +kernel
theorem dX6_copyItems_32 : decode cX6_copyItems 32 = .ok (.iload_n 1, 1) := by decide +kernel
theorem dX6_copyItems_33 : decode cX6_copyItems 33 = .ok (.aload_n 2, 1) := by decide +kernel
theorem dX6_copyItems_34 : decode cX6_copyItems 34 = .ok (.iload_n 3, 1) := by decide +kernel
theorem dX6_copyItems_35 : decode cX6_copyItems 35 = .ok (.iload 4, 2) := by decide +kernel
theorem dX6_copyItems_37 : decode cX6_copyItems 37 = .ok (.invokestatic 340, 3) := by decide +kernel
theorem dX6_copyItems_40 : decode cX6_copyItems 40 = .ok (.return_, 1) := by decide +kernel
theorem dX6_bit_0 : decode cX6_bit 0 = .ok (.iconst 1, 1) := by decide +kernel
theorem dX6_bit_1 : decode cX6_bit 1 = .ok (.iload_n 0, 1) := by decide +kernel
theorem dX6_bit_2 : decode cX6_bit 2 = .ok (.ishl, 1) := by decide +kernel
theorem dX6_bit_3 : decode cX6_bit 3 = .ok (.ireturn, 1) := by decide +kernel
theorem dX6_isMarked_0 : decode cX6_isMarked 0 = .ok (.iload_n 0, 1) := by decide +kernel
theorem dX6_isMarked_1 : decode cX6_isMarked 1 = .ok (.iload_n 1, 1) := by decide +kernel
theorem dX6_isMarked_2 : decode cX6_isMarked 2 = .ok (.invokestatic 292, 3) := by decide +kernel
theorem dX6_isMarked_5 : decode cX6_isMarked 5 = .ok (.iand, 1) := by decide +kernel
theorem dX6_isMarked_6 : decode cX6_isMarked 6 = .ok (.ifCond .eq 7, 3) := by decide +kernel
theorem dX6_isMarked_9 : decode cX6_isMarked 9 = .ok (.iconst 1, 1) := by decide +kernel
theorem dX6_isMarked_10 : decode cX6_isMarked 10 = .ok (.goto 4, 3) := by decide +kernel
theorem dX6_isMarked_13 : decode cX6_isMarked 13 = .ok (.iconst 0, 1) := by decide +kernel
theorem dX6_isMarked_14 : decode cX6_isMarked 14 = .ok (.ireturn, 1) := by decide +kernel
theorem dX6_orderCaptions_0 : decode cX6_orderCaptions 0 = .ok (.iconst 0, 1) := by decide +kernel
theorem dX6_orderCaptions_1 : decode cX6_orderCaptions 1 = .ok (.istore_n 1, 1) := by decide +kernel
theorem dX6_orderCaptions_2 : decode cX6_orderCaptions 2 = .ok (.iconst 0, 1) := by decide +kernel
theorem dX6_orderCaptions_3 : decode cX6_orderCaptions 3 = .ok (.istore_n 2, 1) := by decide +kernel
theorem dX6_orderCaptions_4 : decode cX6_orderCaptions 4 = .ok (.iload_n 2, 1) := by decide +kernel
theorem dX6_orderCaptions_5 : decode cX6_orderCaptions 5 = .ok (.aload_n 0, 1) := by decide +kernel
theorem dX6_orderCaptions_6 : decode cX6_orderCaptions 6 = .ok (.getfield 70, 3) := by decide +kernel
theorem dX6_orderCaptions_9 : decode cX6_orderCaptions 9 = .ok (.if_icmp .ge 29, 3) := by decide +kernel
theorem dX6_orderCaptions_12 : decode cX6_orderCaptions 12 = .ok (.aload_n 0, 1) := by decide +kernel
theorem dX6_orderCaptions_13 : decode cX6_orderCaptions 13 = .ok (.getfield 19, 3) := by decide +kernel
theorem dX6_orderCaptions_16 : decode cX6_orderCaptions 16 = .ok (.iload_n 2, 1) := by decide +kernel
theorem dX6_orderCaptions_17 : decode cX6_orderCaptions 17 = .ok (.invokevirtual 346, 3) := by decide +kernel
theorem dX6_orderCaptions_20 : decode cX6_orderCaptions 20 = .ok (.ifCond .eq 12, 3) := by decide +kernel
theorem dX6_orderCaptions_23 : decode cX6_orderCaptions 23 = .ok (.aload_n 0, 1) := by decide +kernel
theorem dX6_orderCaptions_24 : decode cX6_orderCaptions 24 = .ok (.iload_n 2, 1) := by decide +kernel
theorem dX6_orderCaptions_25 : decode cX6_orderCaptions 25 = .ok (.iload_n 1, 1) := by decide +kernel
theorem dX6_orderCaptions_26 : decode cX6_orderCaptions 26 = .ok (.invokevirtual 349, 3) := by decide +kernel
theorem dX6_orderCaptions_29 : decode cX6_orderCaptions 29 = .ok (.iinc 1 1, 3) := by decide +kernel
theorem dX6_orderCaptions_32 : decode cX6_orderCaptions 32 = .ok (.iinc 2 1, 3) := by decide +kernel
theorem dX6_orderCaptions_35 : decode cX6_orderCaptions 35 = .ok (.goto (-31), 3) := by decide +kernel
theorem dX6_orderCaptions_38 : decode cX6_orderCaptions 38 = .ok (.iload_n 1, 1) := by decide +kernel
theorem dX6_orderCaptions_39 : decode cX6_orderCaptions 39 = .ok (.ireturn, 1) := by decide +kernel
theorem dX6_insertCaption_0 : decode cX6_insertCaption 0 = .ok (.iload_n 2, 1) := by decide +kernel
theorem dX6_insertCaption_1 : decode cX6_insertCaption 1 = .ok (.istore_n 3, 1) := by decide +kernel
theorem dX6_insertCaption_2 : decode cX6_insertCaption 2 = .ok (.iload_n 3, 1) := by decide +kernel
theorem dX6_insertCaption_3 : decode cX6_insertCaption 3 = .ok (.ifCond .le 55, 3) := by decide +kernel
theorem dX6_insertCaption_6 : decode cX6_insertCaption 6 = .ok (.aload_n 0, 1) := by decide +kernel
theorem dX6_insertCaption_7 : decode cX6_insertCaption 7 = .ok (.getfield 19, 3) := by decide +kernel
theorem dX6_insertCaption_10 : decode cX6_insertCaption 10 = .ok (.aload_n 0, 1) := by decide +kernel
theorem dX6_insertCaption_11 : decode cX6_insertCaption 11 = .ok (.getfield 67, 3) := by decide +kernel
theorem dX6_insertCaption_14 : decode cX6_insertCaption 14 = .ok (.iload_n 3, 1) := by decide +kernel
theorem dX6_insertCaption_15 : decode cX6_insertCaption 15 = .ok (.iconst 1, 1) := by decide +kernel
theorem dX6_insertCaption_16 : decode cX6_insertCaption 16 = .ok (.isub, 1) := by decide +kernel
theorem dX6_insertCaption_17 : decode cX6_insertCaption 17 = .ok (.invokestatic 180, 3) := by decide +kernel
theorem dX6_insertCaption_20 : decode cX6_insertCaption 20 = .ok (.invokevirtual 169, 3) := by decide +kernel
theorem dX6_insertCaption_23 : decode cX6_insertCaption 23 = .ok (.aload_n 0, 1) := by decide +kernel
theorem dX6_insertCaption_24 : decode cX6_insertCaption 24 = .ok (.getfield 19, 3) := by decide +kernel
theorem dX6_insertCaption_27 : decode cX6_insertCaption 27 = .ok (.iload_n 1, 1) := by decide +kernel
theorem dX6_insertCaption_28 : decode cX6_insertCaption 28 = .ok (.invokevirtual 169, 3) := by decide +kernel
theorem dX6_insertCaption_31 : decode cX6_insertCaption 31 = .ok (.if_icmp .le 27, 3) := by decide +kernel
theorem dX6_insertCaption_34 : decode cX6_insertCaption 34 = .ok (.aload_n 0, 1) := by decide +kernel
theorem dX6_insertCaption_35 : decode cX6_insertCaption 35 = .ok (.getfield 67, 3) := by decide +kernel
theorem dX6_insertCaption_38 : decode cX6_insertCaption 38 = .ok (.iload_n 3, 1) := by decide +kernel
theorem dX6_insertCaption_39 : decode cX6_insertCaption 39 = .ok (.aload_n 0, 1) := by decide +kernel
theorem dX6_insertCaption_40 : decode cX6_insertCaption 40 = .ok (.getfield 67, 3) := by decide +kernel
theorem dX6_insertCaption_43 : decode cX6_insertCaption 43 = .ok (.iload_n 3, 1) := by decide +kernel
theorem dX6_insertCaption_44 : decode cX6_insertCaption 44 = .ok (.iconst 1, 1) := by decide +kernel
theorem dX6_insertCaption_45 : decode cX6_insertCaption 45 = .ok (.isub, 1) := by decide +kernel
theorem dX6_insertCaption_46 : decode cX6_insertCaption 46 = .ok (.invokestatic 180, 3) := by decide +kernel
theorem dX6_insertCaption_49 : decode cX6_insertCaption 49 = .ok (.invokestatic 184, 3) := by decide +kernel
theorem dX6_insertCaption_52 : decode cX6_insertCaption 52 = .ok (.iinc 3 (-1), 3) := by decide +kernel
theorem dX6_insertCaption_55 : decode cX6_insertCaption 55 = .ok (.goto (-53), 3) := by decide +kernel
theorem dX6_insertCaption_58 : decode cX6_insertCaption 58 = .ok (.aload_n 0, 1) := by decide +kernel
theorem dX6_insertCaption_59 : decode cX6_insertCaption 59 = .ok (.getfield 67, 3) := by decide +kernel
theorem dX6_insertCaption_62 : decode cX6_insertCaption 62 = .ok (.iload_n 3, 1) := by decide +kernel
theorem dX6_insertCaption_63 : decode cX6_insertCaption 63 = .ok (.iload_n 1, 1) := by decide +kernel
theorem dX6_insertCaption_64 : decode cX6_insertCaption 64 = .ok (.invokestatic 184, 3) := by decide +kernel
theorem dX6_insertCaption_67 : decode cX6_insertCaption 67 = .ok (.return_, 1) := by decide +kernel
theorem dX6_isSign_0 : decode cX6_isSign 0 = .ok (.iload_n 0, 1) := by decide +kernel
theorem dX6_isSign_1 : decode cX6_isSign 1 = .ok (.bipush 10, 2) := by decide +kernel
theorem dX6_isSign_3 : decode cX6_isSign 3 = .ok (.if_icmp .eq 30, 3) := by decide +kernel
theorem dX6_isSign_6 : decode cX6_isSign 6 = .ok (.iload_n 0, 1) := by decide +kernel
theorem dX6_isSign_7 : decode cX6_isSign 7 = .ok (.bipush 32, 2) := by decide +kernel
theorem dX6_isSign_9 : decode cX6_isSign 9 = .ok (.if_icmp .lt 28, 3) := by decide +kernel
theorem dX6_isSign_12 : decode cX6_isSign 12 = .ok (.iload_n 0, 1) := by decide +kernel
theorem dX6_isSign_13 : decode cX6_isSign 13 = .ok (.ldc_w 352, 3) := by decide +kernel
theorem dX6_isSign_16 : decode cX6_isSign 16 = .ok (.if_icmp .gt 21, 3) := by decide +kernel
theorem dX6_isSign_19 : decode cX6_isSign 19 = .ok (.iload_n 0, 1) := by decide +kernel
theorem dX6_isSign_20 : decode cX6_isSign 20 = .ok (.ldc_w 353, 3) := by decide +kernel
theorem dX6_isSign_23 : decode cX6_isSign 23 = .ok (.if_icmp .lt 10, 3) := by decide +kernel
theorem dX6_isSign_26 : decode cX6_isSign 26 = .ok (.iload_n 0, 1) := by decide +kernel
theorem dX6_isSign_27 : decode cX6_isSign 27 = .ok (.ldc_w 354, 3) := by decide +kernel
theorem dX6_isSign_30 : decode cX6_isSign 30 = .ok (.if_icmp .le 7, 3) := by decide +kernel
theorem dX6_isSign_33 : decode cX6_isSign 33 = .ok (.iconst 1, 1) := by decide +kernel
theorem dX6_isSign_34 : decode cX6_isSign 34 = .ok (.goto 4, 3) := by decide +kernel
theorem dX6_isSign_37 : decode cX6_isSign 37 = .ok (.iconst 0, 1) := by decide +kernel
theorem dX6_isSign_38 : decode cX6_isSign 38 = .ok (.ireturn, 1) := by decide +kernel
theorem dX6_signWidth_0 : decode cX6_signWidth 0 = .ok (.iload_n 0, 1) := by decide +kernel
theorem dX6_signWidth_1 : decode cX6_signWidth 1 = .ok (.bipush 10, 2) := by decide +kernel
theorem dX6_signWidth_3 : decode cX6_signWidth 3 = .ok (.if_icmp .eq 17, 3) := by decide +kernel
theorem dX6_signWidth_6 : decode cX6_signWidth 6 = .ok (.iload_n 0, 1) := by decide +kernel
theorem dX6_signWidth_7 : decode cX6_signWidth 7 = .ok (.sipush 768, 3) := by decide +kernel
theorem dX6_signWidth_10 : decode cX6_signWidth 10 = .ok (.if_icmp .lt 12, 3) := by decide +kernel
theorem dX6_signWidth_13 : decode cX6_signWidth 13 = .ok (.iload_n 0, 1) := by decide +kernel
theorem dX6_signWidth_14 : decode cX6_signWidth 14 = .ok (.sipush 879, 3) := by decide +kernel
theorem dX6_signWidth_17 : decode cX6_signWidth 17 = .ok (.if_icmp .gt 5, 3) := by decide +kernel
theorem dX6_signWidth_20 : decode cX6_signWidth 20 = .ok (.iconst 0, 1) := by decide +kernel
theorem dX6_signWidth_21 : decode cX6_signWidth 21 = .ok (.ireturn, 1) := by decide +kernel
theorem dX6_signWidth_22 : decode cX6_signWidth 22 = .ok (.iload_n 0, 1) := by decide +kernel
theorem dX6_signWidth_23 : decode cX6_signWidth 23 = .ok (.sipush 11904, 3) := by decide +kernel
theorem dX6_signWidth_26 : decode cX6_signWidth 26 = .ok (.if_icmp .lt 10, 3) := by decide +kernel
theorem dX6_signWidth_29 : decode cX6_signWidth 29 = .ok (.iload_n 0, 1) := by decide +kernel
theorem dX6_signWidth_30 : decode cX6_signWidth 30 = .ok (.ldc_w 355, 3) := by decide +kernel
theorem dX6_signWidth_33 : decode cX6_signWidth 33 = .ok (.if_icmp .le 10, 3) := by decide +kernel
theorem dX6_signWidth_36 : decode cX6_signWidth 36 = .ok (.iload_n 0, 1) := by decide +kernel
theorem dX6_signWidth_37 : decode cX6_signWidth 37 = .ok (.ldc_w 356, 3) := by decide +kernel
theorem dX6_signWidth_40 : decode cX6_signWidth 40 = .ok (.if_icmp .lt 7, 3) := by decide +kernel
theorem dX6_signWidth_43 : decode cX6_signWidth 43 = .ok (.iconst 2, 1) := by decide +kernel
theorem dX6_signWidth_44 : decode cX6_signWidth 44 = .ok (.goto 4, 3) := by decide +kernel
theorem dX6_signWidth_47 : decode cX6_signWidth 47 = .ok (.iconst 1, 1) := by decide +kernel
theorem dX6_signWidth_48 : decode cX6_signWidth 48 = .ok (.ireturn, 1) := by decide +kernel
theorem dX6_isStop_0 : decode cX6_isStop 0 = .ok (.iload_n 0, 1) := by decide +kernel
theorem dX6_isStop_1 : decode cX6_isStop 1 = .ok (.bipush 46, 2) := by decide +kernel
theorem dX6_isStop_3 : decode cX6_isStop 3 = .ok (.if_icmp .eq 33, 3) := by decide +kernel
theorem dX6_isStop_6 : decode cX6_isStop 6 = .ok (.iload_n 0, 1) := by decide +kernel
theorem dX6_isStop_7 : decode cX6_isStop 7 = .ok (.bipush 44, 2) := by decide +kernel
theorem dX6_isStop_9 : decode cX6_isStop 9 = .ok (.if_icmp .eq 27, 3) := by decide +kernel
theorem dX6_isStop_12 : decode cX6_isStop 12 = .ok (.iload_n 0, 1) := by decide +kernel
theorem dX6_isStop_13 : decode cX6_isStop 13 = .ok (.bipush 59, 2) := by decide +kernel
theorem dX6_isStop_15 : decode cX6_isStop 15 = .ok (.if_icmp .eq 21, 3) := by decide +kernel
theorem dX6_isStop_18 : decode cX6_isStop 18 = .ok (.iload_n 0, 1) := by decide +kernel
theorem dX6_isStop_19 : decode cX6_isStop 19 = .ok (.bipush 58, 2) := by decide +kernel
theorem dX6_isStop_21 : decode cX6_isStop 21 = .ok (.if_icmp .eq 15, 3) := by decide +kernel
theorem dX6_isStop_24 : decode cX6_isStop 24 = .ok (.iload_n 0, 1) := by decide +kernel
theorem dX6_isStop_25 : decode cX6_isStop 25 = .ok (.bipush 33, 2) := by decide +kernel
theorem dX6_isStop_27 : decode cX6_isStop 27 = .ok (.if_icmp .eq 9, 3) := by decide +kernel
theorem dX6_isStop_30 : decode cX6_isStop 30 = .ok (.iload_n 0, 1) := by decide +kernel
theorem dX6_isStop_31 : decode cX6_isStop 31 = .ok (.bipush 63, 2) := by decide +kernel
theorem dX6_isStop_33 : decode cX6_isStop 33 = .ok (.if_icmp .ne 7, 3) := by decide +kernel
theorem dX6_isStop_36 : decode cX6_isStop 36 = .ok (.iconst 1, 1) := by decide +kernel
theorem dX6_isStop_37 : decode cX6_isStop 37 = .ok (.goto 4, 3) := by decide +kernel
theorem dX6_isStop_40 : decode cX6_isStop 40 = .ok (.iconst 0, 1) := by decide +kernel
theorem dX6_isStop_41 : decode cX6_isStop 41 = .ok (.ireturn, 1) := by decide +kernel
theorem dX6_textOf_0 : decode cX6_textOf 0 = .ok (.iload_n 0, 1) := by decide +kernel
theorem dX6_textOf_1 : decode cX6_textOf 1 = .ok (.iconst 3, 1) := by decide +kernel
theorem dX6_textOf_2 : decode cX6_textOf 2 = .ok (.imul, 1) := by decide +kernel
theorem dX6_textOf_3 : decode cX6_textOf 3 = .ok (.iload_n 1, 1) := by decide +kernel
theorem dX6_textOf_4 : decode cX6_textOf 4 = .ok (.iadd, 1) := by decide +kernel
theorem dX6_textOf_5 : decode cX6_textOf 5 = .ok (.ireturn, 1) := by decide +kernel
theorem dX6_textWidth_0 : decode cX6_textWidth 0 = .ok (.iconst 0, 1) := by decide +kernel
theorem dX6_textWidth_1 : decode cX6_textWidth 1 = .ok (.istore_n 2, 1) := by decide +kernel
theorem dX6_textWidth_2 : decode cX6_textWidth 2 = .ok (.iconst 0, 1) := by decide +kernel
theorem dX6_textWidth_3 : decode cX6_textWidth 3 = .ok (.istore_n 3, 1) := by decide +kernel
theorem dX6_textWidth_4 : decode cX6_textWidth 4 = .ok (.iload_n 3, 1) := by decide +kernel
theorem dX6_textWidth_5 : decode cX6_textWidth 5 = .ok (.aload_n 0, 1) := by decide +kernel
theorem dX6_textWidth_6 : decode cX6_textWidth 6 = .ok (.getfield 26, 3) := by decide +kernel
theorem dX6_textWidth_9 : decode cX6_textWidth 9 = .ok (.iload_n 1, 1) := by decide +kernel
theorem dX6_textWidth_10 : decode cX6_textWidth 10 = .ok (.invokevirtual 211, 3) := by decide +kernel
theorem dX6_textWidth_13 : decode cX6_textWidth 13 = .ok (.if_icmp .ge 24, 3) := by decide +kernel
theorem dX6_textWidth_16 : decode cX6_textWidth 16 = .ok (.iload_n 2, 1) := by decide +kernel
theorem dX6_textWidth_17 : decode cX6_textWidth 17 = .ok (.aload_n 0, 1) := by decide +kernel
theorem dX6_textWidth_18 : decode cX6_textWidth 18 = .ok (.getfield 26, 3) := by decide +kernel
theorem dX6_textWidth_21 : decode cX6_textWidth 21 = .ok (.iload_n 1, 1) := by decide +kernel
theorem dX6_textWidth_22 : decode cX6_textWidth 22 = .ok (.iload_n 3, 1) := by decide +kernel
theorem dX6_textWidth_23 : decode cX6_textWidth 23 = .ok (.invokevirtual 228, 3) := by decide +kernel
theorem dX6_textWidth_26 : decode cX6_textWidth 26 = .ok (.invokestatic 357, 3) := by decide +kernel
theorem dX6_textWidth_29 : decode cX6_textWidth 29 = .ok (.iadd, 1) := by decide +kernel
theorem dX6_textWidth_30 : decode cX6_textWidth 30 = .ok (.istore_n 2, 1) := by decide +kernel
theorem dX6_textWidth_31 : decode cX6_textWidth 31 = .ok (.iinc 3 1, 3) := by decide +kernel
theorem dX6_textWidth_34 : decode cX6_textWidth 34 = .ok (.goto (-30), 3) := by decide +kernel
theorem dX6_textWidth_37 : decode cX6_textWidth 37 = .ok (.iload_n 2, 1) := by decide +kernel
theorem dX6_textWidth_38 : decode cX6_textWidth 38 = .ok (.ireturn, 1) := by decide +kernel
theorem dX6_noteChange_0 : decode cX6_noteChange 0 = .ok (.iload_n 1, 1) := by decide +kernel
theorem dX6_noteChange_1 : decode cX6_noteChange 1 = .ok (.iload_n 2, 1) := by decide +kernel
theorem dX6_noteChange_2 : decode cX6_noteChange 2 = .ok (.invokestatic 254, 3) := by decide +kernel
theorem dX6_noteChange_5 : decode cX6_noteChange 5 = .ok (.istore_n 3, 1) := by decide +kernel
theorem dX6_noteChange_6 : decode cX6_noteChange 6 = .ok (.aload_n 0, 1) := by decide +kernel
theorem dX6_noteChange_7 : decode cX6_noteChange 7 = .ok (.iload_n 3, 1) := by decide +kernel
theorem dX6_noteChange_8 : decode cX6_noteChange 8 = .ok (.iconst 0, 1) := by decide +kernel
theorem dX6_noteChange_9 : decode cX6_noteChange 9 = .ok (.invokevirtual 266, 3) := by decide +kernel
theorem dX6_noteChange_12 : decode cX6_noteChange 12 = .ok (.aload_n 0, 1) := by decide +kernel
theorem dX6_noteChange_13 : decode cX6_noteChange 13 = .ok (.iload_n 3, 1) := by decide +kernel
theorem dX6_noteChange_14 : decode cX6_noteChange 14 = .ok (.invokevirtual 278, 3) := by decide +kernel
theorem dX6_noteChange_17 : decode cX6_noteChange 17 = .ok (.iload_n 2, 1) := by decide +kernel
theorem dX6_noteChange_18 : decode cX6_noteChange 18 = .ok (.ifCond .ne 23, 3) := by decide +kernel
theorem dX6_noteChange_21 : decode cX6_noteChange 21 = .ok (.aload_n 0, 1) := by decide +kernel
theorem dX6_noteChange_22 : decode cX6_noteChange 22 = .ok (.iload_n 1, 1) := by decide +kernel
theorem dX6_noteChange_23 : decode cX6_noteChange 23 = .ok (.iconst 1, 1) := by decide +kernel
theorem dX6_noteChange_24 : decode cX6_noteChange 24 = .ok (.invokestatic 254, 3) := by decide +kernel
theorem dX6_noteChange_27 : decode cX6_noteChange 27 = .ok (.iconst 1, 1) := by decide +kernel
theorem dX6_noteChange_28 : decode cX6_noteChange 28 = .ok (.invokevirtual 266, 3) := by decide +kernel
theorem dX6_noteChange_31 : decode cX6_noteChange 31 = .ok (.aload_n 0, 1) := by decide +kernel
theorem dX6_noteChange_32 : decode cX6_noteChange 32 = .ok (.iload_n 1, 1) := by decide +kernel
theorem dX6_noteChange_33 : decode cX6_noteChange 33 = .ok (.iconst 2, 1) := by decide +kernel
theorem dX6_noteChange_34 : decode cX6_noteChange 34 = .ok (.invokestatic 254, 3) := by decide +kernel
theorem dX6_noteChange_37 : decode cX6_noteChange 37 = .ok (.iconst 1, 1) := by decide +kernel
theorem dX6_noteChange_38 : decode cX6_noteChange 38 = .ok (.invokevirtual 266, 3) := by decide +kernel
theorem dX6_noteChange_41 : decode cX6_noteChange 41 = .ok (.return_, 1) := by decide +kernel
theorem dX6_memoryOf_0 : decode cX6_memoryOf 0 = .ok (.iload_n 1, 1) := by decide +kernel
theorem dX6_memoryOf_1 : decode cX6_memoryOf 1 = .ok (.iconst 1, 1) := by decide +kernel
theorem dX6_memoryOf_2 : decode cX6_memoryOf 2 = .ok (.if_icmp .ne 10, 3) := by decide +kernel
theorem dX6_memoryOf_5 : decode cX6_memoryOf 5 = .ok (.aload_n 0, 1) := by decide +kernel
theorem dX6_memoryOf_6 : decode cX6_memoryOf 6 = .ok (.getfield 35, 3) := by decide +kernel
theorem dX6_memoryOf_9 : decode cX6_memoryOf 9 = .ok (.goto 7, 3) := by decide +kernel
theorem dX6_memoryOf_12 : decode cX6_memoryOf 12 = .ok (.aload_n 0, 1) := by decide +kernel
theorem dX6_memoryOf_13 : decode cX6_memoryOf 13 = .ok (.getfield 39, 3) := by decide +kernel
theorem dX6_memoryOf_16 : decode cX6_memoryOf 16 = .ok (.areturn, 1) := by decide +kernel
theorem dX6_isBehind_0 : decode cX6_isBehind 0 = .ok (.iload_n 1, 1) := by decide +kernel
theorem dX6_isBehind_1 : decode cX6_isBehind 1 = .ok (.ifCond .lt 25, 3) := by decide +kernel
theorem dX6_isBehind_4 : decode cX6_isBehind 4 = .ok (.iload_n 1, 1) := by decide +kernel
theorem dX6_isBehind_5 : decode cX6_isBehind 5 = .ok (.aload_n 0, 1) := by decide +kernel
theorem dX6_isBehind_6 : decode cX6_isBehind 6 = .ok (.getfield 63, 3) := by decide +kernel
theorem dX6_isBehind_9 : decode cX6_isBehind 9 = .ok (.arraylength, 1) := by decide +kernel
theorem dX6_isBehind_10 : decode cX6_isBehind 10 = .ok (.if_icmp .ge 16, 3) := by decide +kernel
theorem dX6_isBehind_13 : decode cX6_isBehind 13 = .ok (.aload_n 0, 1) := by decide +kernel
theorem dX6_isBehind_14 : decode cX6_isBehind 14 = .ok (.getfield 63, 3) := by decide +kernel
theorem dX6_isBehind_17 : decode cX6_isBehind 17 = .ok (.iload_n 1, 1) := by decide +kernel
theorem dX6_isBehind_18 : decode cX6_isBehind 18 = .ok (.baload, 1) := by decide +kernel
theorem dX6_isBehind_19 : decode cX6_isBehind 19 = .ok (.ifCond .eq 7, 3) := by decide +kernel
theorem dX6_isBehind_22 : decode cX6_isBehind 22 = .ok (.iconst 1, 1) := by decide +kernel
theorem dX6_isBehind_23 : decode cX6_isBehind 23 = .ok (.goto 4, 3) := by decide +kernel
theorem dX6_isBehind_26 : decode cX6_isBehind 26 = .ok (.iconst 0, 1) := by decide +kernel
theorem dX6_isBehind_27 : decode cX6_isBehind 27 = .ok (.ireturn, 1) := by decide +kernel
theorem dX6_setBehind_0 : decode cX6_setBehind 0 = .ok (.iload_n 1, 1) := by decide +kernel
theorem dX6_setBehind_1 : decode cX6_setBehind 1 = .ok (.ifCond .lt 19, 3) := by decide +kernel
theorem dX6_setBehind_4 : decode cX6_setBehind 4 = .ok (.iload_n 1, 1) := by decide +kernel
theorem dX6_setBehind_5 : decode cX6_setBehind 5 = .ok (.aload_n 0, 1) := by decide +kernel
theorem dX6_setBehind_6 : decode cX6_setBehind 6 = .ok (.getfield 63, 3) := by decide +kernel
theorem dX6_setBehind_9 : decode cX6_setBehind 9 = .ok (.arraylength, 1) := by decide +kernel
theorem dX6_setBehind_10 : decode cX6_setBehind 10 = .ok (.if_icmp .ge 10, 3) := by decide +kernel
theorem dX6_setBehind_13 : decode cX6_setBehind 13 = .ok (.aload_n 0, 1) := by decide +kernel
theorem dX6_setBehind_14 : decode cX6_setBehind 14 = .ok (.getfield 63, 3) := by decide +kernel
theorem dX6_setBehind_17 : decode cX6_setBehind 17 = .ok (.iload_n 1, 1) := by decide +kernel
theorem dX6_setBehind_18 : decode cX6_setBehind 18 = .ok (.iload_n 2, 1) := by decide +kernel
theorem dX6_setBehind_19 : decode cX6_setBehind 19 = .ok (.bastore, 1) := by decide +kernel
theorem dX6_setBehind_20 : decode cX6_setBehind 20 = .ok (.return_, 1) := by decide +kernel
theorem dX6_isOutdated_0 : decode cX6_isOutdated 0 = .ok (.aload_n 0, 1) := by decide +kernel
theorem dX6_isOutdated_1 : decode cX6_isOutdated 1 = .ok (.iload_n 1, 1) := by decide +kernel
theorem dX6_isOutdated_2 : decode cX6_isOutdated 2 = .ok (.invokevirtual 271, 3) := by decide +kernel
theorem dX6_isOutdated_5 : decode cX6_isOutdated 5 = .ok (.ifCond .eq 18, 3) := by decide +kernel
theorem dX6_isOutdated_8 : decode cX6_isOutdated 8 = .ok (.aload_n 0, 1) := by decide +kernel
theorem dX6_isOutdated_9 : decode cX6_isOutdated 9 = .ok (.getfield 26, 3) := by decide +kernel
theorem dX6_isOutdated_12 : decode cX6_isOutdated 12 = .ok (.iload_n 1, 1) := by decide +kernel
theorem dX6_isOutdated_13 : decode cX6_isOutdated 13 = .ok (.invokevirtual 211, 3) := by decide +kernel
theorem dX6_isOutdated_16 : decode cX6_isOutdated 16 = .ok (.ifCond .le 7, 3) := by decide +kernel
theorem dX6_isOutdated_19 : decode cX6_isOutdated 19 = .ok (.iconst 1, 1) := by decide +kernel
theorem dX6_isOutdated_20 : decode cX6_isOutdated 20 = .ok (.goto 4, 3) := by decide +kernel
theorem dX6_isOutdated_23 : decode cX6_isOutdated 23 = .ok (.iconst 0, 1) := by decide +kernel
theorem dX6_isOutdated_24 : decode cX6_isOutdated 24 = .ok (.ireturn, 1) := by decide +kernel
theorem dX6_brokenRules_0 : decode cX6_brokenRules 0 = .ok (.iload_n 1, 1) := by decide +kernel
theorem dX6_brokenRules_1 : decode cX6_brokenRules 1 = .ok (.iload_n 2, 1) := by decide +kernel
theorem dX6_brokenRules_2 : decode cX6_brokenRules 2 = .ok (.invokestatic 254, 3) := by decide +kernel
theorem dX6_brokenRules_5 : decode cX6_brokenRules 5 = .ok (.istore_n 3, 1) := by decide +kernel
theorem dX6_brokenRules_6 : decode cX6_brokenRules 6 = .ok (.aload_n 0, 1) := by decide +kernel
theorem dX6_brokenRules_7 : decode cX6_brokenRules 7 = .ok (.getfield 19, 3) := by decide +kernel
theorem dX6_brokenRules_10 : decode cX6_brokenRules 10 = .ok (.iload_n 1, 1) := by decide +kernel
theorem dX6_brokenRules_11 : decode cX6_brokenRules 11 = .ok (.invokevirtual 346, 3) := by decide +kernel
theorem dX6_brokenRules_14 : decode cX6_brokenRules 14 = .ok (.istore 4, 2) := by decide +kernel
theorem dX6_brokenRules_16 : decode cX6_brokenRules 16 = .ok (.aload_n 0, 1) := by decide +kernel
theorem dX6_brokenRules_17 : decode cX6_brokenRules 17 = .ok (.getfield 45, 3) := by decide +kernel
theorem dX6_brokenRules_20 : decode cX6_brokenRules 20 = .ok (.aload_n 0, 1) := by decide +kernel
theorem dX6_brokenRules_21 : decode cX6_brokenRules 21 = .ok (.getfield 26, 3) := by decide +kernel
theorem dX6_brokenRules_24 : decode cX6_brokenRules 24 = .ok (.iload_n 3, 1) := by decide +kernel
theorem dX6_brokenRules_25 : decode cX6_brokenRules 25 = .ok (.aload_n 0, 1) := by decide +kernel
theorem dX6_brokenRules_26 : decode cX6_brokenRules 26 = .ok (.getfield 74, 3) := by decide +kernel
theorem dX6_brokenRules_29 : decode cX6_brokenRules 29 = .ok (.invokevirtual 234, 3) := by decide +kernel
theorem dX6_brokenRules_32 : decode cX6_brokenRules 32 = .ok (.aload_n 0, 1) := by decide +kernel
theorem dX6_brokenRules_33 : decode cX6_brokenRules 33 = .ok (.getfield 26, 3) := by decide +kernel
theorem dX6_brokenRules_36 : decode cX6_brokenRules 36 = .ok (.iload_n 3, 1) := by decide +kernel
theorem dX6_brokenRules_37 : decode cX6_brokenRules 37 = .ok (.invokevirtual 211, 3) := by decide +kernel
theorem dX6_brokenRules_40 : decode cX6_brokenRules 40 = .ok (.ifCond .ne 10, 3) := by decide +kernel
theorem dX6_brokenRules_43 : decode cX6_brokenRules 43 = .ok (.iconst 0, 1) := by decide +kernel
theorem dX6_brokenRules_44 : decode cX6_brokenRules 44 = .ok (.invokestatic 292, 3) := by decide +kernel
theorem dX6_brokenRules_47 : decode cX6_brokenRules 47 = .ok (.goto 4, 3) := by decide +kernel
theorem dX6_brokenRules_50 : decode cX6_brokenRules 50 = .ok (.iconst 0, 1) := by decide +kernel
theorem dX6_brokenRules_51 : decode cX6_brokenRules 51 = .ok (.istore 5, 2) := by decide +kernel
theorem dX6_brokenRules_53 : decode cX6_brokenRules 53 = .ok (.iload 5, 2) := by decide +kernel
theorem dX6_brokenRules_55 : decode cX6_brokenRules 55 = .ok (.aload_n 0, 1) := by decide +kernel
theorem dX6_brokenRules_56 : decode cX6_brokenRules 56 = .ok (.getfield 45, 3) := by decide +kernel
theorem dX6_brokenRules_59 : decode cX6_brokenRules 59 = .ok (.invokevirtual 238, 3) := by decide +kernel
theorem dX6_brokenRules_62 : decode cX6_brokenRules 62 = .ok (.iconst 2, 1) := by decide +kernel
theorem dX6_brokenRules_63 : decode cX6_brokenRules 63 = .ok (.if_icmp .gt 17, 3) := by decide +kernel
theorem dX6_brokenRules_66 : decode cX6_brokenRules 66 = .ok (.aload_n 0, 1) := by decide +kernel
theorem dX6_brokenRules_67 : decode cX6_brokenRules 67 = .ok (.getfield 45, 3) := by decide +kernel
theorem dX6_brokenRules_70 : decode cX6_brokenRules 70 = .ok (.invokevirtual 360, 3) := by decide +kernel
theorem dX6_brokenRules_73 : decode cX6_brokenRules 73 = .ok (.aload_n 0, 1) := by decide +kernel
theorem dX6_brokenRules_74 : decode cX6_brokenRules 74 = .ok (.getfield 74, 3) := by decide +kernel
theorem dX6_brokenRules_77 : decode cX6_brokenRules 77 = .ok (.if_icmp .le 10, 3) := by decide +kernel
theorem dX6_brokenRules_80 : decode cX6_brokenRules 80 = .ok (.iconst 1, 1) := by decide +kernel
theorem dX6_brokenRules_81 : decode cX6_brokenRules 81 = .ok (.invokestatic 292, 3) := by decide +kernel
theorem dX6_brokenRules_84 : decode cX6_brokenRules 84 = .ok (.goto 4, 3) := by decide +kernel
theorem dX6_brokenRules_87 : decode cX6_brokenRules 87 = .ok (.iconst 0, 1) := by decide +kernel
theorem dX6_brokenRules_88 : decode cX6_brokenRules 88 = .ok (.ior, 1) := by decide +kernel
theorem dX6_brokenRules_89 : decode cX6_brokenRules 89 = .ok (.istore 5, 2) := by decide +kernel
theorem dX6_brokenRules_91 : decode cX6_brokenRules 91 = .ok (.iload 5, 2) := by decide +kernel
theorem dX6_brokenRules_93 : decode cX6_brokenRules 93 = .ok (.iload 4, 2) := by decide +kernel
theorem dX6_brokenRules_95 : decode cX6_brokenRules 95 = .ok (.ifCond .eq 34, 3) := by decide +kernel
theorem dX6_brokenRules_98 : decode cX6_brokenRules 98 = .ok (.bipush 25, 2) := by decide +kernel
theorem dX6_brokenRules_100 : decode cX6_brokenRules 100 = .ok (.aload_n 0, 1) := by decide +kernel
theorem dX6_brokenRules_101 : decode cX6_brokenRules 101 = .ok (.iload_n 3, 1) := by decide +kernel
theorem dX6_brokenRules_102 : decode cX6_brokenRules 102 = .ok (.invokevirtual 231, 3) := by decide +kernel
theorem dX6_brokenRules_105 : decode cX6_brokenRules 105 = .ok (.imul, 1) := by decide +kernel
theorem dX6_brokenRules_106 : decode cX6_brokenRules 106 = .ok (.aload_n 0, 1) := by decide +kernel
theorem dX6_brokenRules_107 : decode cX6_brokenRules 107 = .ok (.getfield 77, 3) := by decide +kernel
theorem dX6_brokenRules_110 : decode cX6_brokenRules 110 = .ok (.aload_n 0, 1) := by decide +kernel
theorem dX6_brokenRules_111 : decode cX6_brokenRules 111 = .ok (.getfield 19, 3) := by decide +kernel
theorem dX6_brokenRules_114 : decode cX6_brokenRules 114 = .ok (.iload_n 1, 1) := by decide +kernel
theorem dX6_brokenRules_115 : decode cX6_brokenRules 115 = .ok (.invokevirtual 188, 3) := by decide +kernel
theorem dX6_brokenRules_118 : decode cX6_brokenRules 118 = .ok (.imul, 1) := by decide +kernel
theorem dX6_brokenRules_119 : decode cX6_brokenRules 119 = .ok (.if_icmp .le 10, 3) := by decide +kernel
theorem dX6_brokenRules_122 : decode cX6_brokenRules 122 = .ok (.iconst 2, 1) := by decide +kernel
theorem dX6_brokenRules_123 : decode cX6_brokenRules 123 = .ok (.invokestatic 292, 3) := by decide +kernel
theorem dX6_brokenRules_126 : decode cX6_brokenRules 126 = .ok (.goto 4, 3) := by decide +kernel
theorem dX6_brokenRules_129 : decode cX6_brokenRules 129 = .ok (.iconst 0, 1) := by decide +kernel
theorem dX6_brokenRules_130 : decode cX6_brokenRules 130 = .ok (.ior, 1) := by decide +kernel
theorem dX6_brokenRules_131 : decode cX6_brokenRules 131 = .ok (.istore 5, 2) := by decide +kernel
theorem dX6_brokenRules_133 : decode cX6_brokenRules 133 = .ok (.iload 5, 2) := by decide +kernel
theorem dX6_brokenRules_135 : decode cX6_brokenRules 135 = .ok (.iload 4, 2) := by decide +kernel
theorem dX6_brokenRules_137 : decode cX6_brokenRules 137 = .ok (.ifCond .eq 18, 3) := by decide +kernel
theorem dX6_brokenRules_140 : decode cX6_brokenRules 140 = .ok (.aload_n 0, 1) := by decide +kernel
theorem dX6_brokenRules_141 : decode cX6_brokenRules 141 = .ok (.iload_n 1, 1) := by decide +kernel
theorem dX6_brokenRules_142 : decode cX6_brokenRules 142 = .ok (.invokevirtual 363, 3) := by decide +kernel
theorem dX6_brokenRules_145 : decode cX6_brokenRules 145 = .ok (.ifCond .eq 10, 3) := by decide +kernel
theorem dX6_brokenRules_148 : decode cX6_brokenRules 148 = .ok (.iconst 3, 1) := by decide +kernel
theorem dX6_brokenRules_149 : decode cX6_brokenRules 149 = .ok (.invokestatic 292, 3) := by decide +kernel
theorem dX6_brokenRules_152 : decode cX6_brokenRules 152 = .ok (.goto 4, 3) := by decide +kernel
theorem dX6_brokenRules_155 : decode cX6_brokenRules 155 = .ok (.iconst 0, 1) := by decide +kernel
theorem dX6_brokenRules_156 : decode cX6_brokenRules 156 = .ok (.ior, 1) := by decide +kernel
theorem dX6_brokenRules_157 : decode cX6_brokenRules 157 = .ok (.istore 5, 2) := by decide +kernel
theorem dX6_brokenRules_159 : decode cX6_brokenRules 159 = .ok (.iload 5, 2) := by decide +kernel
theorem dX6_brokenRules_161 : decode cX6_brokenRules 161 = .ok (.iload 4, 2) := by decide +kernel
theorem dX6_brokenRules_163 : decode cX6_brokenRules 163 = .ok (.ifCond .eq 18, 3) := by decide +kernel
theorem dX6_brokenRules_166 : decode cX6_brokenRules 166 = .ok (.aload_n 0, 1) := by decide +kernel
theorem dX6_brokenRules_167 : decode cX6_brokenRules 167 = .ok (.iload_n 1, 1) := by decide +kernel
theorem dX6_brokenRules_168 : decode cX6_brokenRules 168 = .ok (.invokevirtual 366, 3) := by decide +kernel
theorem dX6_brokenRules_171 : decode cX6_brokenRules 171 = .ok (.ifCond .eq 10, 3) := by decide +kernel
theorem dX6_brokenRules_174 : decode cX6_brokenRules 174 = .ok (.iconst 4, 1) := by decide +kernel
theorem dX6_brokenRules_175 : decode cX6_brokenRules 175 = .ok (.invokestatic 292, 3) := by decide +kernel
theorem dX6_brokenRules_178 : decode cX6_brokenRules 178 = .ok (.goto 4, 3) := by decide +kernel
theorem dX6_brokenRules_181 : decode cX6_brokenRules 181 = .ok (.iconst 0, 1) := by decide +kernel
theorem dX6_brokenRules_182 : decode cX6_brokenRules 182 = .ok (.ior, 1) := by decide +kernel
theorem dX6_brokenRules_183 : decode cX6_brokenRules 183 = .ok (.istore 5, 2) := by decide +kernel
theorem dX6_brokenRules_185 : decode cX6_brokenRules 185 = .ok (.iload 5, 2) := by decide +kernel
theorem dX6_brokenRules_187 : decode cX6_brokenRules 187 = .ok (.aload_n 0, 1) := by decide +kernel
theorem dX6_brokenRules_188 : decode cX6_brokenRules 188 = .ok (.iload_n 3, 1) := by decide +kernel
theorem dX6_brokenRules_189 : decode cX6_brokenRules 189 = .ok (.invokevirtual 281, 3) := by decide +kernel
theorem dX6_brokenRules_192 : decode cX6_brokenRules 192 = .ok (.ifCond .eq 10, 3) := by decide +kernel
theorem dX6_brokenRules_195 : decode cX6_brokenRules 195 = .ok (.iconst 5, 1) := by decide +kernel
theorem dX6_brokenRules_196 : decode cX6_brokenRules 196 = .ok (.invokestatic 292, 3) := by decide +kernel
theorem dX6_brokenRules_199 : decode cX6_brokenRules 199 = .ok (.goto 4, 3) := by decide +kernel
theorem dX6_brokenRules_202 : decode cX6_brokenRules 202 = .ok (.iconst 0, 1) := by decide +kernel
theorem dX6_brokenRules_203 : decode cX6_brokenRules 203 = .ok (.ior, 1) := by decide +kernel
theorem dX6_brokenRules_204 : decode cX6_brokenRules 204 = .ok (.istore 5, 2) := by decide +kernel
theorem dX6_brokenRules_206 : decode cX6_brokenRules 206 = .ok (.iload 5, 2) := by decide +kernel
theorem dX6_brokenRules_208 : decode cX6_brokenRules 208 = .ok (.iload 4, 2) := by decide +kernel
theorem dX6_brokenRules_210 : decode cX6_brokenRules 210 = .ok (.ifCond .eq 7, 3) := by decide +kernel
theorem dX6_brokenRules_213 : decode cX6_brokenRules 213 = .ok (.iconst 0, 1) := by decide +kernel
theorem dX6_brokenRules_214 : decode cX6_brokenRules 214 = .ok (.goto 8, 3) := by decide +kernel
theorem dX6_brokenRules_217 : decode cX6_brokenRules 217 = .ok (.bipush 6, 2) := by decide +kernel
theorem dX6_brokenRules_219 : decode cX6_brokenRules 219 = .ok (.invokestatic 292, 3) := by decide +kernel
theorem dX6_brokenRules_222 : decode cX6_brokenRules 222 = .ok (.ior, 1) := by decide +kernel
theorem dX6_brokenRules_223 : decode cX6_brokenRules 223 = .ok (.istore 5, 2) := by decide +kernel
theorem dX6_brokenRules_225 : decode cX6_brokenRules 225 = .ok (.iload 5, 2) := by decide +kernel
theorem dX6_brokenRules_227 : decode cX6_brokenRules 227 = .ok (.aload_n 0, 1) := by decide +kernel
theorem dX6_brokenRules_228 : decode cX6_brokenRules 228 = .ok (.getfield 56, 3) := by decide +kernel
theorem dX6_brokenRules_231 : decode cX6_brokenRules 231 = .ok (.iload_n 1, 1) := by decide +kernel
theorem dX6_brokenRules_232 : decode cX6_brokenRules 232 = .ok (.invokestatic 180, 3) := by decide +kernel
theorem dX6_brokenRules_235 : decode cX6_brokenRules 235 = .ok (.iconst 1, 1) := by decide +kernel
theorem dX6_brokenRules_236 : decode cX6_brokenRules 236 = .ok (.if_icmp .ne 19, 3) := by decide +kernel
theorem dX6_brokenRules_239 : decode cX6_brokenRules 239 = .ok (.aload_n 0, 1) := by decide +kernel
theorem dX6_brokenRules_240 : decode cX6_brokenRules 240 = .ok (.iload_n 3, 1) := by decide +kernel
theorem dX6_brokenRules_241 : decode cX6_brokenRules 241 = .ok (.invokevirtual 369, 3) := by decide +kernel
theorem dX6_brokenRules_244 : decode cX6_brokenRules 244 = .ok (.ifCond .eq 11, 3) := by decide +kernel
theorem dX6_brokenRules_247 : decode cX6_brokenRules 247 = .ok (.bipush 7, 2) := by decide +kernel
theorem dX6_brokenRules_249 : decode cX6_brokenRules 249 = .ok (.invokestatic 292, 3) := by decide +kernel
theorem dX6_brokenRules_252 : decode cX6_brokenRules 252 = .ok (.goto 4, 3) := by decide +kernel
theorem dX6_brokenRules_255 : decode cX6_brokenRules 255 = .ok (.iconst 0, 1) := by decide +kernel
theorem dX6_brokenRules_256 : decode cX6_brokenRules 256 = .ok (.ior, 1) := by decide +kernel
theorem dX6_brokenRules_257 : decode cX6_brokenRules 257 = .ok (.istore 5, 2) := by decide +kernel
theorem dX6_brokenRules_259 : decode cX6_brokenRules 259 = .ok (.iload 5, 2) := by decide +kernel
theorem dX6_brokenRules_261 : decode cX6_brokenRules 261 = .ok (.ireturn, 1) := by decide +kernel
theorem dX6_hangs_0 : decode cX6_hangs 0 = .ok (.aload_n 0, 1) := by decide +kernel
theorem dX6_hangs_1 : decode cX6_hangs 1 = .ok (.getfield 19, 3) := by decide +kernel
theorem dX6_hangs_4 : decode cX6_hangs 4 = .ok (.iload_n 1, 1) := by decide +kernel
theorem dX6_hangs_5 : decode cX6_hangs 5 = .ok (.invokevirtual 169, 3) := by decide +kernel
theorem dX6_hangs_8 : decode cX6_hangs 8 = .ok (.istore_n 2, 1) := by decide +kernel
theorem dX6_hangs_9 : decode cX6_hangs 9 = .ok (.aload_n 0, 1) := by decide +kernel
theorem dX6_hangs_10 : decode cX6_hangs 10 = .ok (.getfield 19, 3) := by decide +kernel
theorem dX6_hangs_13 : decode cX6_hangs 13 = .ok (.iload_n 1, 1) := by decide +kernel
theorem dX6_hangs_14 : decode cX6_hangs 14 = .ok (.invokevirtual 372, 3) := by decide +kernel
theorem dX6_hangs_17 : decode cX6_hangs 17 = .ok (.istore_n 3, 1) := by decide +kernel
theorem dX6_hangs_18 : decode cX6_hangs 18 = .ok (.iload_n 2, 1) := by decide +kernel
theorem dX6_hangs_19 : decode cX6_hangs 19 = .ok (.iconst 1, 1) := by decide +kernel
theorem dX6_hangs_20 : decode cX6_hangs 20 = .ok (.iadd, 1) := by decide +kernel
theorem dX6_hangs_21 : decode cX6_hangs 21 = .ok (.istore 4, 2) := by decide +kernel
theorem dX6_hangs_23 : decode cX6_hangs 23 = .ok (.iload 4, 2) := by decide +kernel
theorem dX6_hangs_25 : decode cX6_hangs 25 = .ok (.iload_n 3, 1) := by decide +kernel
theorem dX6_hangs_26 : decode cX6_hangs 26 = .ok (.if_icmp .ge 41, 3) := by decide +kernel
theorem dX6_hangs_29 : decode cX6_hangs 29 = .ok (.iload 4, 2) := by decide +kernel
theorem dX6_hangs_31 : decode cX6_hangs 31 = .ok (.iload_n 2, 1) := by decide +kernel
theorem dX6_hangs_32 : decode cX6_hangs 32 = .ok (.isub, 1) := by decide +kernel
theorem dX6_hangs_33 : decode cX6_hangs 33 = .ok (.bipush 12, 2) := by decide +kernel
theorem dX6_hangs_35 : decode cX6_hangs 35 = .ok (.if_icmp .lt 12, 3) := by decide +kernel
theorem dX6_hangs_38 : decode cX6_hangs 38 = .ok (.iload_n 3, 1) := by decide +kernel
theorem dX6_hangs_39 : decode cX6_hangs 39 = .ok (.iload 4, 2) := by decide +kernel
theorem dX6_hangs_41 : decode cX6_hangs 41 = .ok (.isub, 1) := by decide +kernel
theorem dX6_hangs_42 : decode cX6_hangs 42 = .ok (.bipush 12, 2) := by decide +kernel
theorem dX6_hangs_44 : decode cX6_hangs 44 = .ok (.if_icmp .ge 17, 3) := by decide +kernel
theorem dX6_hangs_47 : decode cX6_hangs 47 = .ok (.aload_n 0, 1) := by decide +kernel
theorem dX6_hangs_48 : decode cX6_hangs 48 = .ok (.getfield 10, 3) := by decide +kernel
theorem dX6_hangs_51 : decode cX6_hangs 51 = .ok (.iload 4, 2) := by decide +kernel
theorem dX6_hangs_53 : decode cX6_hangs 53 = .ok (.invokevirtual 151, 3) := by decide +kernel
theorem dX6_hangs_56 : decode cX6_hangs 56 = .ok (.ifCond .eq 5, 3) := by decide +kernel
theorem dX6_hangs_59 : decode cX6_hangs 59 = .ok (.iconst 1, 1) := by decide +kernel
theorem dX6_hangs_60 : decode cX6_hangs 60 = .ok (.ireturn, 1) := by decide +kernel
theorem dX6_hangs_61 : decode cX6_hangs 61 = .ok (.iinc 4 1, 3) := by decide +kernel
theorem dX6_hangs_64 : decode cX6_hangs 64 = .ok (.goto (-41), 3) := by decide +kernel
theorem dX6_hangs_67 : decode cX6_hangs 67 = .ok (.iconst 0, 1) := by decide +kernel
theorem dX6_hangs_68 : decode cX6_hangs 68 = .ok (.ireturn, 1) := by decide +kernel
theorem dX6_isClose_0 : decode cX6_isClose 0 = .ok (.aload_n 0, 1) := by decide +kernel
theorem dX6_isClose_1 : decode cX6_isClose 1 = .ok (.getfield 56, 3) := by decide +kernel
theorem dX6_isClose_4 : decode cX6_isClose 4 = .ok (.iload_n 1, 1) := by decide +kernel
theorem dX6_isClose_5 : decode cX6_isClose 5 = .ok (.invokestatic 180, 3) := by decide +kernel
theorem dX6_isClose_8 : decode cX6_isClose 8 = .ok (.iconst 3, 1) := by decide +kernel
theorem dX6_isClose_9 : decode cX6_isClose 9 = .ok (.if_icmp .ne 7, 3) := by decide +kernel
theorem dX6_isClose_12 : decode cX6_isClose 12 = .ok (.iconst 1, 1) := by decide +kernel
theorem dX6_isClose_13 : decode cX6_isClose 13 = .ok (.goto 4, 3) := by decide +kernel
theorem dX6_isClose_16 : decode cX6_isClose 16 = .ok (.iconst 0, 1) := by decide +kernel
theorem dX6_isClose_17 : decode cX6_isClose 17 = .ok (.istore_n 2, 1) := by decide +kernel
theorem dX6_isClose_18 : decode cX6_isClose 18 = .ok (.iconst 0, 1) := by decide +kernel
theorem dX6_isClose_19 : decode cX6_isClose 19 = .ok (.istore_n 3, 1) := by decide +kernel
theorem dX6_isClose_20 : decode cX6_isClose 20 = .ok (.iload_n 3, 1) := by decide +kernel
theorem dX6_isClose_21 : decode cX6_isClose 21 = .ok (.aload_n 0, 1) := by decide +kernel
theorem dX6_isClose_22 : decode cX6_isClose 22 = .ok (.getfield 70, 3) := by decide +kernel
theorem dX6_isClose_25 : decode cX6_isClose 25 = .ok (.if_icmp .ge 64, 3) := by decide +kernel
theorem dX6_isClose_28 : decode cX6_isClose 28 = .ok (.aload_n 0, 1) := by decide +kernel
theorem dX6_isClose_29 : decode cX6_isClose 29 = .ok (.getfield 56, 3) := by decide +kernel
theorem dX6_isClose_32 : decode cX6_isClose 32 = .ok (.iload_n 3, 1) := by decide +kernel
theorem dX6_isClose_33 : decode cX6_isClose 33 = .ok (.invokestatic 180, 3) := by decide +kernel
theorem dX6_isClose_36 : decode cX6_isClose 36 = .ok (.iconst 3, 1) := by decide +kernel
theorem dX6_isClose_37 : decode cX6_isClose 37 = .ok (.if_icmp .ne 7, 3) := by decide +kernel
theorem dX6_isClose_40 : decode cX6_isClose 40 = .ok (.iconst 1, 1) := by decide +kernel
theorem dX6_isClose_41 : decode cX6_isClose 41 = .ok (.goto 4, 3) := by decide +kernel
theorem dX6_isClose_44 : decode cX6_isClose 44 = .ok (.iconst 0, 1) := by decide +kernel
theorem dX6_isClose_45 : decode cX6_isClose 45 = .ok (.iload_n 2, 1) := by decide +kernel
theorem dX6_isClose_46 : decode cX6_isClose 46 = .ok (.if_icmp .ne 7, 3) := by decide +kernel
theorem dX6_isClose_49 : decode cX6_isClose 49 = .ok (.iconst 1, 1) := by decide +kernel
theorem dX6_isClose_50 : decode cX6_isClose 50 = .ok (.goto 4, 3) := by decide +kernel
theorem dX6_isClose_53 : decode cX6_isClose 53 = .ok (.iconst 0, 1) := by decide +kernel
theorem dX6_isClose_54 : decode cX6_isClose 54 = .ok (.istore 4, 2) := by decide +kernel
theorem dX6_isClose_56 : decode cX6_isClose 56 = .ok (.iload 4, 2) := by decide +kernel
theorem dX6_isClose_58 : decode cX6_isClose 58 = .ok (.ifCond .eq 25, 3) := by decide +kernel
theorem dX6_isClose_61 : decode cX6_isClose 61 = .ok (.aload_n 0, 1) := by decide +kernel
theorem dX6_isClose_62 : decode cX6_isClose 62 = .ok (.getfield 19, 3) := by decide +kernel
theorem dX6_isClose_65 : decode cX6_isClose 65 = .ok (.iload_n 3, 1) := by decide +kernel
theorem dX6_isClose_66 : decode cX6_isClose 66 = .ok (.invokevirtual 346, 3) := by decide +kernel
theorem dX6_isClose_69 : decode cX6_isClose 69 = .ok (.ifCond .eq 14, 3) := by decide +kernel
theorem dX6_isClose_72 : decode cX6_isClose 72 = .ok (.aload_n 0, 1) := by decide +kernel
theorem dX6_isClose_73 : decode cX6_isClose 73 = .ok (.iload_n 3, 1) := by decide +kernel
theorem dX6_isClose_74 : decode cX6_isClose 74 = .ok (.iload_n 1, 1) := by decide +kernel
theorem dX6_isClose_75 : decode cX6_isClose 75 = .ok (.invokevirtual 373, 3) := by decide +kernel
theorem dX6_isClose_78 : decode cX6_isClose 78 = .ok (.ifCond .eq 5, 3) := by decide +kernel
theorem dX6_isClose_81 : decode cX6_isClose 81 = .ok (.iconst 1, 1) := by decide +kernel
theorem dX6_isClose_82 : decode cX6_isClose 82 = .ok (.ireturn, 1) := by decide +kernel
theorem dX6_isClose_83 : decode cX6_isClose 83 = .ok (.iinc 3 1, 3) := by decide +kernel
theorem dX6_isClose_86 : decode cX6_isClose 86 = .ok (.goto (-66), 3) := by decide +kernel
theorem dX6_isClose_89 : decode cX6_isClose 89 = .ok (.iconst 0, 1) := by decide +kernel
theorem dX6_isClose_90 : decode cX6_isClose 90 = .ok (.ireturn, 1) := by decide +kernel
theorem dX6_followsClosely_0 : decode cX6_followsClosely 0 = .ok (.aload_n 0, 1) := by decide +kernel
theorem dX6_followsClosely_1 : decode cX6_followsClosely 1 = .ok (.getfield 19, 3) := by decide +kernel
theorem dX6_followsClosely_4 : decode cX6_followsClosely 4 = .ok (.iload_n 2, 1) := by decide +kernel
theorem dX6_followsClosely_5 : decode cX6_followsClosely 5 = .ok (.invokevirtual 169, 3) := by decide +kernel
theorem dX6_followsClosely_8 : decode cX6_followsClosely 8 = .ok (.istore_n 3, 1) := by decide +kernel
theorem dX6_followsClosely_9 : decode cX6_followsClosely 9 = .ok (.aload_n 0, 1) := by decide +kernel
theorem dX6_followsClosely_10 : decode cX6_followsClosely 10 = .ok (.getfield 19, 3) := by decide +kernel
theorem dX6_followsClosely_13 : decode cX6_followsClosely 13 = .ok (.iload_n 1, 1) := by decide +kernel
theorem dX6_followsClosely_14 : decode cX6_followsClosely 14 = .ok (.invokevirtual 169, 3) := by decide +kernel
theorem dX6_followsClosely_17 : decode cX6_followsClosely 17 = .ok (.istore 4, 2) := by decide +kernel
theorem dX6_followsClosely_19 : decode cX6_followsClosely 19 = .ok (.iload 4, 2) := by decide +kernel
theorem dX6_followsClosely_21 : decode cX6_followsClosely 21 = .ok (.iload_n 3, 1) := by decide +kernel
theorem dX6_followsClosely_22 : decode cX6_followsClosely 22 = .ok (.if_icmp .ne 14, 3) := by decide +kernel
theorem dX6_followsClosely_25 : decode cX6_followsClosely 25 = .ok (.iload_n 1, 1) := by decide +kernel
theorem dX6_followsClosely_26 : decode cX6_followsClosely 26 = .ok (.iload_n 2, 1) := by decide +kernel
theorem dX6_followsClosely_27 : decode cX6_followsClosely 27 = .ok (.if_icmp .le 7, 3) := by decide +kernel
theorem dX6_followsClosely_30 : decode cX6_followsClosely 30 = .ok (.iconst 1, 1) := by decide +kernel
theorem dX6_followsClosely_31 : decode cX6_followsClosely 31 = .ok (.goto 4, 3) := by decide +kernel
theorem dX6_followsClosely_34 : decode cX6_followsClosely 34 = .ok (.iconst 0, 1) := by decide +kernel
theorem dX6_followsClosely_35 : decode cX6_followsClosely 35 = .ok (.ireturn, 1) := by decide +kernel
theorem dX6_followsClosely_36 : decode cX6_followsClosely 36 = .ok (.iload 4, 2) := by decide +kernel
theorem dX6_followsClosely_38 : decode cX6_followsClosely 38 = .ok (.iload_n 3, 1) := by decide +kernel
theorem dX6_followsClosely_39 : decode cX6_followsClosely 39 = .ok (.if_icmp .le 22, 3) := by decide +kernel
theorem dX6_followsClosely_42 : decode cX6_followsClosely 42 = .ok (.iload 4, 2) := by decide +kernel
theorem dX6_followsClosely_44 : decode cX6_followsClosely 44 = .ok (.aload_n 0, 1) := by decide +kernel
theorem dX6_followsClosely_45 : decode cX6_followsClosely 45 = .ok (.getfield 19, 3) := by decide +kernel
theorem dX6_followsClosely_48 : decode cX6_followsClosely 48 = .ok (.iload_n 2, 1) := by decide +kernel
theorem dX6_followsClosely_49 : decode cX6_followsClosely 49 = .ok (.invokevirtual 372, 3) := by decide +kernel
theorem dX6_followsClosely_52 : decode cX6_followsClosely 52 = .ok (.isub, 1) := by decide +kernel
theorem dX6_followsClosely_53 : decode cX6_followsClosely 53 = .ok (.iconst 2, 1) := by decide +kernel
theorem dX6_followsClosely_54 : decode cX6_followsClosely 54 = .ok (.if_icmp .ge 7, 3) := by decide +kernel
theorem dX6_followsClosely_57 : decode cX6_followsClosely 57 = .ok (.iconst 1, 1) := by decide +kernel
theorem dX6_followsClosely_58 : decode cX6_followsClosely 58 = .ok (.goto 4, 3) := by decide +kernel
theorem dX6_followsClosely_61 : decode cX6_followsClosely 61 = .ok (.iconst 0, 1) := by decide +kernel
theorem dX6_followsClosely_62 : decode cX6_followsClosely 62 = .ok (.ireturn, 1) := by decide +kernel
theorem dX6_lacksVoices_0 : decode cX6_lacksVoices 0 = .ok (.aload_n 0, 1) := by decide +kernel
theorem dX6_lacksVoices_1 : decode cX6_lacksVoices 1 = .ok (.getfield 26, 3) := by decide +kernel
theorem dX6_lacksVoices_4 : decode cX6_lacksVoices 4 = .ok (.iload_n 1, 1) := by decide +kernel
theorem dX6_lacksVoices_5 : decode cX6_lacksVoices 5 = .ok (.invokevirtual 211, 3) := by decide +kernel
theorem dX6_lacksVoices_8 : decode cX6_lacksVoices 8 = .ok (.istore_n 2, 1) := by decide +kernel
theorem dX6_lacksVoices_9 : decode cX6_lacksVoices 9 = .ok (.iconst 1, 1) := by decide +kernel
theorem dX6_lacksVoices_10 : decode cX6_lacksVoices 10 = .ok (.istore_n 3, 1) := by decide +kernel
theorem dX6_lacksVoices_11 : decode cX6_lacksVoices 11 = .ok (.aload_n 0, 1) := by decide +kernel
theorem dX6_lacksVoices_12 : decode cX6_lacksVoices 12 = .ok (.getfield 26, 3) := by decide +kernel
theorem dX6_lacksVoices_15 : decode cX6_lacksVoices 15 = .ok (.iload_n 1, 1) := by decide +kernel
theorem dX6_lacksVoices_16 : decode cX6_lacksVoices 16 = .ok (.iconst 0, 1) := by decide +kernel
theorem dX6_lacksVoices_17 : decode cX6_lacksVoices 17 = .ok (.invokevirtual 228, 3) := by decide +kernel
theorem dX6_lacksVoices_20 : decode cX6_lacksVoices 20 = .ok (.bipush 45, 2) := by decide +kernel
theorem dX6_lacksVoices_22 : decode cX6_lacksVoices 22 = .ok (.if_icmp .ne 7, 3) := by decide +kernel
theorem dX6_lacksVoices_25 : decode cX6_lacksVoices 25 = .ok (.iconst 1, 1) := by decide +kernel
theorem dX6_lacksVoices_26 : decode cX6_lacksVoices 26 = .ok (.goto 4, 3) := by decide +kernel
theorem dX6_lacksVoices_29 : decode cX6_lacksVoices 29 = .ok (.iconst 0, 1) := by decide +kernel
theorem dX6_lacksVoices_30 : decode cX6_lacksVoices 30 = .ok (.istore 4, 2) := by decide +kernel
theorem dX6_lacksVoices_32 : decode cX6_lacksVoices 32 = .ok (.iconst 0, 1) := by decide +kernel
theorem dX6_lacksVoices_33 : decode cX6_lacksVoices 33 = .ok (.istore 5, 2) := by decide +kernel
theorem dX6_lacksVoices_35 : decode cX6_lacksVoices 35 = .ok (.iload 5, 2) := by decide +kernel
theorem dX6_lacksVoices_37 : decode cX6_lacksVoices 37 = .ok (.iload_n 2, 1) := by decide +kernel
theorem dX6_lacksVoices_38 : decode cX6_lacksVoices 38 = .ok (.if_icmp .ge 54, 3) := by decide +kernel
theorem dX6_lacksVoices_41 : decode cX6_lacksVoices 41 = .ok (.aload_n 0, 1) := by decide +kernel
theorem dX6_lacksVoices_42 : decode cX6_lacksVoices 42 = .ok (.getfield 26, 3) := by decide +kernel
theorem dX6_lacksVoices_45 : decode cX6_lacksVoices 45 = .ok (.iload_n 1, 1) := by decide +kernel
theorem dX6_lacksVoices_46 : decode cX6_lacksVoices 46 = .ok (.iload 5, 2) := by decide +kernel
theorem dX6_lacksVoices_48 : decode cX6_lacksVoices 48 = .ok (.invokevirtual 228, 3) := by decide +kernel
theorem dX6_lacksVoices_51 : decode cX6_lacksVoices 51 = .ok (.bipush 10, 2) := by decide +kernel
theorem dX6_lacksVoices_53 : decode cX6_lacksVoices 53 = .ok (.if_icmp .ne 33, 3) := by decide +kernel
theorem dX6_lacksVoices_56 : decode cX6_lacksVoices 56 = .ok (.iinc 3 1, 3) := by decide +kernel
theorem dX6_lacksVoices_59 : decode cX6_lacksVoices 59 = .ok (.iload 4, 2) := by decide +kernel
theorem dX6_lacksVoices_61 : decode cX6_lacksVoices 61 = .ok (.aload_n 0, 1) := by decide +kernel
theorem dX6_lacksVoices_62 : decode cX6_lacksVoices 62 = .ok (.getfield 26, 3) := by decide +kernel
theorem dX6_lacksVoices_65 : decode cX6_lacksVoices 65 = .ok (.iload_n 1, 1) := by decide +kernel
theorem dX6_lacksVoices_66 : decode cX6_lacksVoices 66 = .ok (.iload 5, 2) := by decide +kernel
theorem dX6_lacksVoices_68 : decode cX6_lacksVoices 68 = .ok (.iconst 1, 1) := by decide +kernel
theorem dX6_lacksVoices_69 : decode cX6_lacksVoices 69 = .ok (.iadd, 1) := by decide +kernel
theorem dX6_lacksVoices_70 : decode cX6_lacksVoices 70 = .ok (.invokevirtual 228, 3) := by decide +kernel
theorem dX6_lacksVoices_73 : decode cX6_lacksVoices 73 = .ok (.bipush 45, 2) := by decide +kernel
theorem dX6_lacksVoices_75 : decode cX6_lacksVoices 75 = .ok (.if_icmp .ne 7, 3) := by decide +kernel
theorem dX6_lacksVoices_78 : decode cX6_lacksVoices 78 = .ok (.iconst 1, 1) := by decide +kernel
theorem dX6_lacksVoices_79 : decode cX6_lacksVoices 79 = .ok (.goto 4, 3) := by decide +kernel
theorem dX6_lacksVoices_82 : decode cX6_lacksVoices 82 = .ok (.iconst 0, 1) := by decide +kernel
theorem dX6_lacksVoices_83 : decode cX6_lacksVoices 83 = .ok (.iadd, 1) := by decide +kernel
theorem dX6_lacksVoices_84 : decode cX6_lacksVoices 84 = .ok (.istore 4, 2) := by decide +kernel
theorem dX6_lacksVoices_86 : decode cX6_lacksVoices 86 = .ok (.iinc 5 1, 3) := by decide +kernel
theorem dX6_lacksVoices_89 : decode cX6_lacksVoices 89 = .ok (.goto (-54), 3) := by decide +kernel
theorem dX6_lacksVoices_92 : decode cX6_lacksVoices 92 = .ok (.iload_n 2, 1) := by decide +kernel
theorem dX6_lacksVoices_93 : decode cX6_lacksVoices 93 = .ok (.ifCond .le 18, 3) := by decide +kernel
theorem dX6_lacksVoices_96 : decode cX6_lacksVoices 96 = .ok (.iload_n 3, 1) := by decide +kernel
theorem dX6_lacksVoices_97 : decode cX6_lacksVoices 97 = .ok (.iconst 2, 1) := by decide +kernel
theorem dX6_lacksVoices_98 : decode cX6_lacksVoices 98 = .ok (.if_icmp .ne 9, 3) := by decide +kernel
theorem dX6_lacksVoices_101 : decode cX6_lacksVoices 101 = .ok (.iload 4, 2) := by decide +kernel
theorem dX6_lacksVoices_103 : decode cX6_lacksVoices 103 = .ok (.iconst 2, 1) := by decide +kernel
theorem dX6_lacksVoices_104 : decode cX6_lacksVoices 104 = .ok (.if_icmp .eq 7, 3) := by decide +kernel
theorem dX6_lacksVoices_107 : decode cX6_lacksVoices 107 = .ok (.iconst 1, 1) := by decide +kernel
theorem dX6_lacksVoices_108 : decode cX6_lacksVoices 108 = .ok (.goto 4, 3) := by decide +kernel
theorem dX6_lacksVoices_111 : decode cX6_lacksVoices 111 = .ok (.iconst 0, 1) := by decide +kernel
theorem dX6_lacksVoices_112 : decode cX6_lacksVoices 112 = .ok (.ireturn, 1) := by decide +kernel
theorem dX6_namedRules_0 : decode cX6_namedRules 0 = .ok (.iconst 0, 1) := by decide +kernel
theorem dX6_namedRules_1 : decode cX6_namedRules 1 = .ok (.istore_n 2, 1) := by decide +kernel
theorem dX6_namedRules_2 : decode cX6_namedRules 2 = .ok (.iconst 0, 1) := by decide +kernel
theorem dX6_namedRules_3 : decode cX6_namedRules 3 = .ok (.istore_n 3, 1) := by decide +kernel
theorem dX6_namedRules_4 : decode cX6_namedRules 4 = .ok (.iload_n 3, 1) := by decide +kernel
theorem dX6_namedRules_5 : decode cX6_namedRules 5 = .ok (.bipush 8, 2) := by decide +kernel
theorem dX6_namedRules_7 : decode cX6_namedRules 7 = .ok (.if_icmp .ge 36, 3) := by decide +kernel
theorem dX6_namedRules_10 : decode cX6_namedRules 10 = .ok (.iload_n 2, 1) := by decide +kernel
theorem dX6_namedRules_11 : decode cX6_namedRules 11 = .ok (.aload_n 0, 1) := by decide +kernel
theorem dX6_namedRules_12 : decode cX6_namedRules 12 = .ok (.getfield 60, 3) := by decide +kernel
theorem dX6_namedRules_15 : decode cX6_namedRules 15 = .ok (.iload_n 1, 1) := by decide +kernel
theorem dX6_namedRules_16 : decode cX6_namedRules 16 = .ok (.bipush 8, 2) := by decide +kernel
theorem dX6_namedRules_18 : decode cX6_namedRules 18 = .ok (.imul, 1) := by decide +kernel
theorem dX6_namedRules_19 : decode cX6_namedRules 19 = .ok (.iload_n 3, 1) := by decide +kernel
theorem dX6_namedRules_20 : decode cX6_namedRules 20 = .ok (.iadd, 1) := by decide +kernel
theorem dX6_namedRules_21 : decode cX6_namedRules 21 = .ok (.invokestatic 180, 3) := by decide +kernel
theorem dX6_namedRules_24 : decode cX6_namedRules 24 = .ok (.ifCond .eq 10, 3) := by decide +kernel
theorem dX6_namedRules_27 : decode cX6_namedRules 27 = .ok (.iload_n 3, 1) := by decide +kernel
theorem dX6_namedRules_28 : decode cX6_namedRules 28 = .ok (.invokestatic 292, 3) := by decide +kernel
theorem dX6_namedRules_31 : decode cX6_namedRules 31 = .ok (.goto 4, 3) := by decide +kernel
theorem dX6_namedRules_34 : decode cX6_namedRules 34 = .ok (.iconst 0, 1) := by decide +kernel
theorem dX6_namedRules_35 : decode cX6_namedRules 35 = .ok (.ior, 1) := by decide +kernel
theorem dX6_namedRules_36 : decode cX6_namedRules 36 = .ok (.istore_n 2, 1) := by decide +kernel
theorem dX6_namedRules_37 : decode cX6_namedRules 37 = .ok (.iinc 3 1, 3) := by decide +kernel
theorem dX6_namedRules_40 : decode cX6_namedRules 40 = .ok (.goto (-36), 3) := by decide +kernel
theorem dX6_namedRules_43 : decode cX6_namedRules 43 = .ok (.iload_n 2, 1) := by decide +kernel
theorem dX6_namedRules_44 : decode cX6_namedRules 44 = .ok (.ireturn, 1) := by decide +kernel
theorem dX6_forgetNames_0 : decode cX6_forgetNames 0 = .ok (.iconst 0, 1) := by decide +kernel
theorem dX6_forgetNames_1 : decode cX6_forgetNames 1 = .ok (.istore_n 2, 1) := by decide +kernel
theorem dX6_forgetNames_2 : decode cX6_forgetNames 2 = .ok (.iload_n 2, 1) := by decide +kernel
theorem dX6_forgetNames_3 : decode cX6_forgetNames 3 = .ok (.bipush 8, 2) := by decide +kernel
theorem dX6_forgetNames_5 : decode cX6_forgetNames 5 = .ok (.if_icmp .ge 23, 3) := by decide +kernel
theorem dX6_forgetNames_8 : decode cX6_forgetNames 8 = .ok (.aload_n 0, 1) := by decide +kernel
theorem dX6_forgetNames_9 : decode cX6_forgetNames 9 = .ok (.getfield 60, 3) := by decide +kernel
theorem dX6_forgetNames_12 : decode cX6_forgetNames 12 = .ok (.iload_n 1, 1) := by decide +kernel
theorem dX6_forgetNames_13 : decode cX6_forgetNames 13 = .ok (.bipush 8, 2) := by decide +kernel
theorem dX6_forgetNames_15 : decode cX6_forgetNames 15 = .ok (.imul, 1) := by decide +kernel
theorem dX6_forgetNames_16 : decode cX6_forgetNames 16 = .ok (.iload_n 2, 1) := by decide +kernel
theorem dX6_forgetNames_17 : decode cX6_forgetNames 17 = .ok (.iadd, 1) := by decide +kernel
theorem dX6_forgetNames_18 : decode cX6_forgetNames 18 = .ok (.iconst 0, 1) := by decide +kernel
theorem dX6_forgetNames_19 : decode cX6_forgetNames 19 = .ok (.invokestatic 184, 3) := by decide +kernel
theorem dX6_forgetNames_22 : decode cX6_forgetNames 22 = .ok (.iinc 2 1, 3) := by decide +kernel
theorem dX6_forgetNames_25 : decode cX6_forgetNames 25 = .ok (.goto (-23), 3) := by decide +kernel
theorem dX6_forgetNames_28 : decode cX6_forgetNames 28 = .ok (.return_, 1) := by decide +kernel
theorem dX6_forgetAllNames_0 : decode cX6_forgetAllNames 0 = .ok (.iconst 0, 1) := by decide +kernel
theorem dX6_forgetAllNames_1 : decode cX6_forgetAllNames 1 = .ok (.istore_n 2, 1) := by decide +kernel
theorem dX6_forgetAllNames_2 : decode cX6_forgetAllNames 2 = .ok (.iload_n 2, 1) := by decide +kernel
theorem dX6_forgetAllNames_3 : decode cX6_forgetAllNames 3 = .ok (.iconst 3, 1) := by decide +kernel
theorem dX6_forgetAllNames_4 : decode cX6_forgetAllNames 4 = .ok (.if_icmp .ge 18, 3) := by decide +kernel
theorem dX6_forgetAllNames_7 : decode cX6_forgetAllNames 7 = .ok (.aload_n 0, 1) := by decide +kernel
theorem dX6_forgetAllNames_8 : decode cX6_forgetAllNames 8 = .ok (.iload_n 1, 1) := by decide +kernel
theorem dX6_forgetAllNames_9 : decode cX6_forgetAllNames 9 = .ok (.iload_n 2, 1) := by decide +kernel
theorem dX6_forgetAllNames_10 : decode cX6_forgetAllNames 10 = .ok (.invokestatic 254, 3) := by decide +kernel
theorem dX6_forgetAllNames_13 : decode cX6_forgetAllNames 13 = .ok (.invokevirtual 278, 3) := by decide +kernel
theorem dX6_forgetAllNames_16 : decode cX6_forgetAllNames 16 = .ok (.iinc 2 1, 3) := by decide +kernel
theorem dX6_forgetAllNames_19 : decode cX6_forgetAllNames 19 = .ok (.goto (-17), 3) := by decide +kernel
theorem dX6_forgetAllNames_22 : decode cX6_forgetAllNames 22 = .ok (.return_, 1) := by decide +kernel
theorem dX6_writeAll_0 : decode cX6_writeAll 0 = .ok (.aload_n 0, 1) := by decide +kernel
theorem dX6_writeAll_1 : decode cX6_writeAll 1 = .ok (.invokevirtual 200, 3) := by decide +kernel
theorem dX6_writeAll_4 : decode cX6_writeAll 4 = .ok (.istore_n 3, 1) := by decide +kernel
theorem dX6_writeAll_5 : decode cX6_writeAll 5 = .ok (.iconst 0, 1) := by decide +kernel
theorem dX6_writeAll_6 : decode cX6_writeAll 6 = .ok (.istore 4, 2) := by decide +kernel
theorem dX6_writeAll_8 : decode cX6_writeAll 8 = .ok (.aload_n 0, 1) := by decide +kernel
theorem dX6_writeAll_9 : decode cX6_writeAll 9 = .ok (.getfield 52, 3) := by decide +kernel
theorem dX6_writeAll_12 : decode cX6_writeAll 12 = .ok (.invokevirtual 376, 3) := by decide +kernel
theorem dX6_writeAll_15 : decode cX6_writeAll 15 = .ok (.iconst 0, 1) := by decide +kernel
theorem dX6_writeAll_16 : decode cX6_writeAll 16 = .ok (.istore 5, 2) := by decide +kernel
theorem dX6_writeAll_18 : decode cX6_writeAll 18 = .ok (.iload 5, 2) := by decide +kernel
theorem dX6_writeAll_20 : decode cX6_writeAll 20 = .ok (.iload_n 3, 1) := by decide +kernel
theorem dX6_writeAll_21 : decode cX6_writeAll 21 = .ok (.if_icmp .ge 85, 3) := by decide +kernel
theorem dX6_writeAll_24 : decode cX6_writeAll 24 = .ok (.aload_n 0, 1) := by decide +kernel
theorem dX6_writeAll_25 : decode cX6_writeAll 25 = .ok (.getfield 67, 3) := by decide +kernel
theorem dX6_writeAll_28 : decode cX6_writeAll 28 = .ok (.iload 5, 2) := by decide +kernel
theorem dX6_writeAll_30 : decode cX6_writeAll 30 = .ok (.invokestatic 180, 3) := by decide +kernel
theorem dX6_writeAll_33 : decode cX6_writeAll 33 = .ok (.istore 6, 2) := by decide +kernel
theorem dX6_writeAll_35 : decode cX6_writeAll 35 = .ok (.iload 6, 2) := by decide +kernel
theorem dX6_writeAll_37 : decode cX6_writeAll 37 = .ok (.iload_n 2, 1) := by decide +kernel
theorem dX6_writeAll_38 : decode cX6_writeAll 38 = .ok (.invokestatic 254, 3) := by decide +kernel
theorem dX6_writeAll_41 : decode cX6_writeAll 41 = .ok (.istore 7, 2) := by decide +kernel
theorem dX6_writeAll_43 : decode cX6_writeAll 43 = .ok (.aload_n 0, 1) := by decide +kernel
theorem dX6_writeAll_44 : decode cX6_writeAll 44 = .ok (.getfield 26, 3) := by decide +kernel
theorem dX6_writeAll_47 : decode cX6_writeAll 47 = .ok (.iload 7, 2) := by decide +kernel
theorem dX6_writeAll_49 : decode cX6_writeAll 49 = .ok (.invokevirtual 211, 3) := by decide +kernel
theorem dX6_writeAll_52 : decode cX6_writeAll 52 = .ok (.ifCond .le 48, 3) := by decide +kernel
theorem dX6_writeAll_55 : decode cX6_writeAll 55 = .ok (.iinc 4 1, 3) := by decide +kernel
theorem dX6_writeAll_58 : decode cX6_writeAll 58 = .ok (.aload_n 0, 1) := by decide +kernel
theorem dX6_writeAll_59 : decode cX6_writeAll 59 = .ok (.getfield 45, 3) := by decide +kernel
theorem dX6_writeAll_62 : decode cX6_writeAll 62 = .ok (.aload_n 0, 1) := by decide +kernel
theorem dX6_writeAll_63 : decode cX6_writeAll 63 = .ok (.getfield 26, 3) := by decide +kernel
theorem dX6_writeAll_66 : decode cX6_writeAll 66 = .ok (.iload 7, 2) := by decide +kernel
theorem dX6_writeAll_68 : decode cX6_writeAll 68 = .ok (.aload_n 0, 1) := by decide +kernel
theorem dX6_writeAll_69 : decode cX6_writeAll 69 = .ok (.getfield 74, 3) := by decide +kernel
theorem dX6_writeAll_72 : decode cX6_writeAll 72 = .ok (.invokevirtual 234, 3) := by decide +kernel
theorem dX6_writeAll_75 : decode cX6_writeAll 75 = .ok (.iload_n 1, 1) := by decide +kernel
theorem dX6_writeAll_76 : decode cX6_writeAll 76 = .ok (.ifCond .ne 16, 3) := by decide +kernel
theorem dX6_writeAll_79 : decode cX6_writeAll 79 = .ok (.aload_n 0, 1) := by decide +kernel
theorem dX6_writeAll_80 : decode cX6_writeAll 80 = .ok (.iload 6, 2) := by decide +kernel
theorem dX6_writeAll_82 : decode cX6_writeAll 82 = .ok (.iload 7, 2) := by decide +kernel
theorem dX6_writeAll_84 : decode cX6_writeAll 84 = .ok (.iload 4, 2) := by decide +kernel
theorem dX6_writeAll_86 : decode cX6_writeAll 86 = .ok (.invokevirtual 379, 3) := by decide +kernel
theorem dX6_writeAll_89 : decode cX6_writeAll 89 = .ok (.goto 11, 3) := by decide +kernel
theorem dX6_writeAll_92 : decode cX6_writeAll 92 = .ok (.aload_n 0, 1) := by decide +kernel
theorem dX6_writeAll_93 : decode cX6_writeAll 93 = .ok (.iload 6, 2) := by decide +kernel
theorem dX6_writeAll_95 : decode cX6_writeAll 95 = .ok (.iload 7, 2) := by decide +kernel
theorem dX6_writeAll_97 : decode cX6_writeAll 97 = .ok (.invokevirtual 382, 3) := by decide +kernel
theorem dX6_writeAll_100 : decode cX6_writeAll 100 = .ok (.iinc 5 1, 3) := by decide +kernel
theorem dX6_writeAll_103 : decode cX6_writeAll 103 = .ok (.goto (-85), 3) := by decide +kernel
theorem dX6_writeAll_106 : decode cX6_writeAll 106 = .ok (.return_, 1) := by decide +kernel
theorem dX6_writeNumbered_0 : decode cX6_writeNumbered 0 = .ok (.aload_n 0, 1) := by decide +kernel
theorem dX6_writeNumbered_1 : decode cX6_writeNumbered 1 = .ok (.getfield 56, 3) := by decide +kernel
theorem dX6_writeNumbered_4 : decode cX6_writeNumbered 4 = .ok (.iload_n 1, 1) := by decide +kernel
theorem dX6_writeNumbered_5 : decode cX6_writeNumbered 5 = .ok (.invokestatic 180, 3) := by decide +kernel
theorem dX6_writeNumbered_8 : decode cX6_writeNumbered 8 = .ok (.iconst 2, 1) := by decide +kernel
theorem dX6_writeNumbered_9 : decode cX6_writeNumbered 9 = .ok (.if_icmp .ne 7, 3) := by decide +kernel
theorem dX6_writeNumbered_12 : decode cX6_writeNumbered 12 = .ok (.iconst 1, 1) := by decide +kernel
theorem dX6_writeNumbered_13 : decode cX6_writeNumbered 13 = .ok (.goto 4, 3) := by decide +kernel
theorem dX6_writeNumbered_16 : decode cX6_writeNumbered 16 = .ok (.iconst 0, 1) := by decide +kernel
theorem dX6_writeNumbered_17 : decode cX6_writeNumbered 17 = .ok (.istore 4, 2) := by decide +kernel
theorem dX6_writeNumbered_19 : decode cX6_writeNumbered 19 = .ok (.aload_n 0, 1) := by decide +kernel
theorem dX6_writeNumbered_20 : decode cX6_writeNumbered 20 = .ok (.getfield 52, 3) := by decide +kernel
theorem dX6_writeNumbered_23 : decode cX6_writeNumbered 23 = .ok (.iload_n 3, 1) := by decide +kernel
theorem dX6_writeNumbered_24 : decode cX6_writeNumbered 24 = .ok (.invokevirtual 385, 3) := by decide +kernel
theorem dX6_writeNumbered_27 : decode cX6_writeNumbered 27 = .ok (.aload_n 0, 1) := by decide +kernel
theorem dX6_writeNumbered_28 : decode cX6_writeNumbered 28 = .ok (.getfield 52, 3) := by decide +kernel
theorem dX6_writeNumbered_31 : decode cX6_writeNumbered 31 = .ok (.bipush 10, 2) := by decide +kernel
theorem dX6_writeNumbered_33 : decode cX6_writeNumbered 33 = .ok (.invokevirtual 388, 3) := by decide +kernel
theorem dX6_writeNumbered_36 : decode cX6_writeNumbered 36 = .ok (.aload_n 0, 1) := by decide +kernel
theorem dX6_writeNumbered_37 : decode cX6_writeNumbered 37 = .ok (.aload_n 0, 1) := by decide +kernel
theorem dX6_writeNumbered_38 : decode cX6_writeNumbered 38 = .ok (.getfield 19, 3) := by decide +kernel
theorem dX6_writeNumbered_41 : decode cX6_writeNumbered 41 = .ok (.iload_n 1, 1) := by decide +kernel
theorem dX6_writeNumbered_42 : decode cX6_writeNumbered 42 = .ok (.invokevirtual 169, 3) := by decide +kernel
theorem dX6_writeNumbered_45 : decode cX6_writeNumbered 45 = .ok (.invokevirtual 391, 3) := by decide +kernel
theorem dX6_writeNumbered_48 : decode cX6_writeNumbered 48 = .ok (.aload_n 0, 1) := by decide +kernel
theorem dX6_writeNumbered_49 : decode cX6_writeNumbered 49 = .ok (.getfield 52, 3) := by decide +kernel
theorem dX6_writeNumbered_52 : decode cX6_writeNumbered 52 = .ok (.bipush 32, 2) := by decide +kernel
theorem dX6_writeNumbered_54 : decode cX6_writeNumbered 54 = .ok (.invokevirtual 388, 3) := by decide +kernel
theorem dX6_writeNumbered_57 : decode cX6_writeNumbered 57 = .ok (.aload_n 0, 1) := by decide +kernel
theorem dX6_writeNumbered_58 : decode cX6_writeNumbered 58 = .ok (.getfield 52, 3) := by decide +kernel
theorem dX6_writeNumbered_61 : decode cX6_writeNumbered 61 = .ok (.bipush 62, 2) := by decide +kernel
theorem dX6_writeNumbered_63 : decode cX6_writeNumbered 63 = .ok (.invokevirtual 388, 3) := by decide +kernel
theorem dX6_writeNumbered_66 : decode cX6_writeNumbered 66 = .ok (.aload_n 0, 1) := by decide +kernel
theorem dX6_writeNumbered_67 : decode cX6_writeNumbered 67 = .ok (.getfield 52, 3) := by decide +kernel
theorem dX6_writeNumbered_70 : decode cX6_writeNumbered 70 = .ok (.bipush 32, 2) := by decide +kernel
theorem dX6_writeNumbered_72 : decode cX6_writeNumbered 72 = .ok (.invokevirtual 388, 3) := by decide +kernel
theorem dX6_writeNumbered_75 : decode cX6_writeNumbered 75 = .ok (.aload_n 0, 1) := by decide +kernel
theorem dX6_writeNumbered_76 : decode cX6_writeNumbered 76 = .ok (.aload_n 0, 1) := by decide +kernel
theorem dX6_writeNumbered_77 : decode cX6_writeNumbered 77 = .ok (.getfield 19, 3) := by decide +kernel
theorem dX6_writeNumbered_80 : decode cX6_writeNumbered 80 = .ok (.iload_n 1, 1) := by decide +kernel
theorem dX6_writeNumbered_81 : decode cX6_writeNumbered 81 = .ok (.invokevirtual 372, 3) := by decide +kernel
theorem dX6_writeNumbered_84 : decode cX6_writeNumbered 84 = .ok (.invokevirtual 391, 3) := by decide +kernel
theorem dX6_writeNumbered_87 : decode cX6_writeNumbered 87 = .ok (.aload_n 0, 1) := by decide +kernel
theorem dX6_writeNumbered_88 : decode cX6_writeNumbered 88 = .ok (.getfield 52, 3) := by decide +kernel
theorem dX6_writeNumbered_91 : decode cX6_writeNumbered 91 = .ok (.bipush 10, 2) := by decide +kernel
theorem dX6_writeNumbered_93 : decode cX6_writeNumbered 93 = .ok (.invokevirtual 388, 3) := by decide +kernel
theorem dX6_writeNumbered_96 : decode cX6_writeNumbered 96 = .ok (.iload 4, 2) := by decide +kernel
theorem dX6_writeNumbered_98 : decode cX6_writeNumbered 98 = .ok (.ifCond .eq 22, 3) := by decide +kernel
theorem dX6_writeNumbered_101 : decode cX6_writeNumbered 101 = .ok (.aload_n 0, 1) := by decide +kernel
theorem dX6_writeNumbered_102 : decode cX6_writeNumbered 102 = .ok (.getfield 52, 3) := by decide +kernel
theorem dX6_writeNumbered_105 : decode cX6_writeNumbered 105 = .ok (.sipush 9834, 3) := by decide +kernel
theorem dX6_writeNumbered_108 : decode cX6_writeNumbered 108 = .ok (.invokevirtual 388, 3) := by decide +kernel
theorem dX6_writeNumbered_111 : decode cX6_writeNumbered 111 = .ok (.aload_n 0, 1) := by decide +kernel
theorem dX6_writeNumbered_112 : decode cX6_writeNumbered 112 = .ok (.getfield 52, 3) := by decide +kernel
theorem dX6_writeNumbered_115 : decode cX6_writeNumbered 115 = .ok (.bipush 32, 2) := by decide +kernel
theorem dX6_writeNumbered_117 : decode cX6_writeNumbered 117 = .ok (.invokevirtual 388, 3) := by decide +kernel
theorem dX6_writeNumbered_120 : decode cX6_writeNumbered 120 = .ok (.aload_n 0, 1) := by decide +kernel
theorem dX6_writeNumbered_121 : decode cX6_writeNumbered 121 = .ok (.iload_n 2, 1) := by decide +kernel
theorem dX6_writeNumbered_122 : decode cX6_writeNumbered 122 = .ok (.bipush 10, 2) := by decide +kernel
theorem dX6_writeNumbered_124 : decode cX6_writeNumbered 124 = .ok (.invokevirtual 394, 3) := by decide +kernel
theorem dX6_writeNumbered_127 : decode cX6_writeNumbered 127 = .ok (.iload 4, 2) := by decide +kernel
theorem dX6_writeNumbered_129 : decode cX6_writeNumbered 129 = .ok (.ifCond .eq 22, 3) := by decide +kernel
theorem dX6_writeNumbered_132 : decode cX6_writeNumbered 132 = .ok (.aload_n 0, 1) := by decide +kernel
theorem dX6_writeNumbered_133 : decode cX6_writeNumbered 133 = .ok (.getfield 52, 3) := by decide +kernel
theorem dX6_writeNumbered_136 : decode cX6_writeNumbered 136 = .ok (.bipush 32, 2) := by decide +kernel
theorem dX6_writeNumbered_138 : decode cX6_writeNumbered 138 = .ok (.invokevirtual 388, 3) := by decide +kernel
theorem dX6_writeNumbered_141 : decode cX6_writeNumbered 141 = .ok (.aload_n 0, 1) := by decide +kernel
theorem dX6_writeNumbered_142 : decode cX6_writeNumbered 142 = .ok (.getfield 52, 3) := by decide +kernel
theorem dX6_writeNumbered_145 : decode cX6_writeNumbered 145 = .ok (.sipush 9834, 3) := by decide +kernel
theorem dX6_writeNumbered_148 : decode cX6_writeNumbered 148 = .ok (.invokevirtual 388, 3) := by decide +kernel
theorem dX6_writeNumbered_151 : decode cX6_writeNumbered 151 = .ok (.aload_n 0, 1) := by decide +kernel
theorem dX6_writeNumbered_152 : decode cX6_writeNumbered 152 = .ok (.getfield 52, 3) := by decide +kernel
theorem dX6_writeNumbered_155 : decode cX6_writeNumbered 155 = .ok (.bipush 10, 2) := by decide +kernel
theorem dX6_writeNumbered_157 : decode cX6_writeNumbered 157 = .ok (.invokevirtual 388, 3) := by decide +kernel
theorem dX6_writeNumbered_160 : decode cX6_writeNumbered 160 = .ok (.aload_n 0, 1) := by decide +kernel
theorem dX6_writeNumbered_161 : decode cX6_writeNumbered 161 = .ok (.getfield 52, 3) := by decide +kernel
theorem dX6_writeNumbered_164 : decode cX6_writeNumbered 164 = .ok (.bipush 10, 2) := by decide +kernel
theorem dX6_writeNumbered_166 : decode cX6_writeNumbered 166 = .ok (.invokevirtual 388, 3) := by decide +kernel
theorem dX6_writeNumbered_169 : decode cX6_writeNumbered 169 = .ok (.return_, 1) := by decide +kernel
theorem dX6_writeBraced_0 : decode cX6_writeBraced 0 = .ok (.aload_n 0, 1) := by decide +kernel
theorem dX6_writeBraced_1 : decode cX6_writeBraced 1 = .ok (.getfield 56, 3) := by decide +kernel
theorem dX6_writeBraced_4 : decode cX6_writeBraced 4 = .ok (.iload_n 1, 1) := by decide +kernel
theorem dX6_writeBraced_5 : decode cX6_writeBraced 5 = .ok (.invokestatic 180, 3) := by decide +kernel
theorem dX6_writeBraced_8 : decode cX6_writeBraced 8 = .ok (.istore_n 3, 1) := by decide +kernel
theorem dX6_writeBraced_9 : decode cX6_writeBraced 9 = .ok (.aload_n 0, 1) := by decide +kernel
theorem dX6_writeBraced_10 : decode cX6_writeBraced 10 = .ok (.aload_n 0, 1) := by decide +kernel
theorem dX6_writeBraced_11 : decode cX6_writeBraced 11 = .ok (.getfield 19, 3) := by decide +kernel
theorem dX6_writeBraced_14 : decode cX6_writeBraced 14 = .ok (.iload_n 1, 1) := by decide +kernel
theorem dX6_writeBraced_15 : decode cX6_writeBraced 15 = .ok (.invokevirtual 169, 3) := by decide +kernel
theorem dX6_writeBraced_18 : decode cX6_writeBraced 18 = .ok (.invokevirtual 397, 3) := by decide +kernel
theorem dX6_writeBraced_21 : decode cX6_writeBraced 21 = .ok (.aload_n 0, 1) := by decide +kernel
theorem dX6_writeBraced_22 : decode cX6_writeBraced 22 = .ok (.aload_n 0, 1) := by decide +kernel
theorem dX6_writeBraced_23 : decode cX6_writeBraced 23 = .ok (.getfield 19, 3) := by decide +kernel
theorem dX6_writeBraced_26 : decode cX6_writeBraced 26 = .ok (.iload_n 1, 1) := by decide +kernel
theorem dX6_writeBraced_27 : decode cX6_writeBraced 27 = .ok (.invokevirtual 372, 3) := by decide +kernel
theorem dX6_writeBraced_30 : decode cX6_writeBraced 30 = .ok (.invokevirtual 397, 3) := by decide +kernel
theorem dX6_writeBraced_33 : decode cX6_writeBraced 33 = .ok (.iload_n 3, 1) := by decide +kernel
theorem dX6_writeBraced_34 : decode cX6_writeBraced 34 = .ok (.iconst 2, 1) := by decide +kernel
theorem dX6_writeBraced_35 : decode cX6_writeBraced 35 = .ok (.if_icmp .ne 12, 3) := by decide +kernel
theorem dX6_writeBraced_38 : decode cX6_writeBraced 38 = .ok (.aload_n 0, 1) := by decide +kernel
theorem dX6_writeBraced_39 : decode cX6_writeBraced 39 = .ok (.getfield 52, 3) := by decide +kernel
theorem dX6_writeBraced_42 : decode cX6_writeBraced 42 = .ok (.bipush 47, 2) := by decide +kernel
theorem dX6_writeBraced_44 : decode cX6_writeBraced 44 = .ok (.invokevirtual 388, 3) := by decide +kernel
theorem dX6_writeBraced_47 : decode cX6_writeBraced 47 = .ok (.iload_n 3, 1) := by decide +kernel
theorem dX6_writeBraced_48 : decode cX6_writeBraced 48 = .ok (.iconst 3, 1) := by decide +kernel
theorem dX6_writeBraced_49 : decode cX6_writeBraced 49 = .ok (.if_icmp .ne 12, 3) := by decide +kernel
theorem dX6_writeBraced_52 : decode cX6_writeBraced 52 = .ok (.aload_n 0, 1) := by decide +kernel
theorem dX6_writeBraced_53 : decode cX6_writeBraced 53 = .ok (.getfield 52, 3) := by decide +kernel
theorem dX6_writeBraced_56 : decode cX6_writeBraced 56 = .ok (.bipush 94, 2) := by decide +kernel
theorem dX6_writeBraced_58 : decode cX6_writeBraced 58 = .ok (.invokevirtual 388, 3) := by decide +kernel
theorem dX6_writeBraced_61 : decode cX6_writeBraced 61 = .ok (.aload_n 0, 1) := by decide +kernel
theorem dX6_writeBraced_62 : decode cX6_writeBraced 62 = .ok (.iload_n 2, 1) := by decide +kernel
theorem dX6_writeBraced_63 : decode cX6_writeBraced 63 = .ok (.bipush 124, 2) := by decide +kernel
theorem dX6_writeBraced_65 : decode cX6_writeBraced 65 = .ok (.invokevirtual 394, 3) := by decide +kernel
theorem dX6_writeBraced_68 : decode cX6_writeBraced 68 = .ok (.aload_n 0, 1) := by decide +kernel
theorem dX6_writeBraced_69 : decode cX6_writeBraced 69 = .ok (.getfield 52, 3) := by decide +kernel
theorem dX6_writeBraced_72 : decode cX6_writeBraced 72 = .ok (.bipush 10, 2) := by decide +kernel
theorem dX6_writeBraced_74 : decode cX6_writeBraced 74 = .ok (.invokevirtual 388, 3) := by decide +kernel
theorem dX6_writeBraced_77 : decode cX6_writeBraced 77 = .ok (.return_, 1) := by decide +kernel
theorem dX6_writeInBraces_0 : decode cX6_writeInBraces 0 = .ok (.aload_n 0, 1) := by decide +kernel
theorem dX6_writeInBraces_1 : decode cX6_writeInBraces 1 = .ok (.getfield 52, 3) := by decide +kernel
theorem dX6_writeInBraces_4 : decode cX6_writeInBraces 4 = .ok (.bipush 123, 2) := by decide +kernel
theorem dX6_writeInBraces_6 : decode cX6_writeInBraces 6 = .ok (.invokevirtual 388, 3) := by decide +kernel
theorem dX6_writeInBraces_9 : decode cX6_writeInBraces 9 = .ok (.aload_n 0, 1) := by decide +kernel
theorem dX6_writeInBraces_10 : decode cX6_writeInBraces 10 = .ok (.getfield 52, 3) := by decide +kernel
theorem dX6_writeInBraces_13 : decode cX6_writeInBraces 13 = .ok (.iload_n 1, 1) := by decide +kernel
theorem dX6_writeInBraces_14 : decode cX6_writeInBraces 14 = .ok (.invokevirtual 385, 3) := by decide +kernel
theorem dX6_writeInBraces_17 : decode cX6_writeInBraces 17 = .ok (.aload_n 0, 1) := by decide +kernel
theorem dX6_writeInBraces_18 : decode cX6_writeInBraces 18 = .ok (.getfield 52, 3) := by decide +kernel
theorem dX6_writeInBraces_21 : decode cX6_writeInBraces 21 = .ok (.bipush 125, 2) := by decide +kernel
theorem dX6_writeInBraces_23 : decode cX6_writeInBraces 23 = .ok (.invokevirtual 388, 3) := by decide +kernel
theorem dX6_writeInBraces_26 : decode cX6_writeInBraces 26 = .ok (.return_, 1) := by decide +kernel
theorem dX6_writeTime_0 : decode cX6_writeTime 0 = .ok (.aload_n 0, 1) := by decide +kernel
theorem dX6_writeTime_1 : decode cX6_writeTime 1 = .ok (.getfield 52, 3) := by decide +kernel
theorem dX6_writeTime_4 : decode cX6_writeTime 4 = .ok (.iload_n 1, 1) := by decide +kernel
theorem dX6_writeTime_5 : decode cX6_writeTime 5 = .ok (.sipush 1500, 3) := by decide +kernel
theorem dX6_writeTime_8 : decode cX6_writeTime 8 = .ok (.idiv, 1) := by decide +kernel
theorem dX6_writeTime_9 : decode cX6_writeTime 9 = .ok (.invokevirtual 385, 3) := by decide +kernel
theorem dX6_writeTime_12 : decode cX6_writeTime 12 = .ok (.aload_n 0, 1) := by decide +kernel
theorem dX6_writeTime_13 : decode cX6_writeTime 13 = .ok (.getfield 52, 3) := by decide +kernel
theorem dX6_writeTime_16 : decode cX6_writeTime 16 = .ok (.bipush 58, 2) := by decide +kernel
theorem dX6_writeTime_18 : decode cX6_writeTime 18 = .ok (.invokevirtual 388, 3) := by decide +kernel
theorem dX6_writeTime_21 : decode cX6_writeTime 21 = .ok (.aload_n 0, 1) := by decide +kernel
theorem dX6_writeTime_22 : decode cX6_writeTime 22 = .ok (.getfield 52, 3) := by decide +kernel
theorem dX6_writeTime_25 : decode cX6_writeTime 25 = .ok (.iload_n 1, 1) := by decide +kernel
theorem dX6_writeTime_26 : decode cX6_writeTime 26 = .ok (.bipush 25, 2) := by decide +kernel
theorem dX6_writeTime_28 : decode cX6_writeTime 28 = .ok (.idiv, 1) := by decide +kernel
theorem dX6_writeTime_29 : decode cX6_writeTime 29 = .ok (.bipush 60, 2) := by decide +kernel
theorem dX6_writeTime_31 : decode cX6_writeTime 31 = .ok (.irem, 1) := by decide +kernel
theorem dX6_writeTime_32 : decode cX6_writeTime 32 = .ok (.invokevirtual 400, 3) := by decide +kernel
theorem dX6_writeTime_35 : decode cX6_writeTime 35 = .ok (.aload_n 0, 1) := by decide +kernel
theorem dX6_writeTime_36 : decode cX6_writeTime 36 = .ok (.getfield 52, 3) := by decide +kernel
theorem dX6_writeTime_39 : decode cX6_writeTime 39 = .ok (.bipush 58, 2) := by decide +kernel
theorem dX6_writeTime_41 : decode cX6_writeTime 41 = .ok (.invokevirtual 388, 3) := by decide +kernel
theorem dX6_writeTime_44 : decode cX6_writeTime 44 = .ok (.aload_n 0, 1) := by decide +kernel
theorem dX6_writeTime_45 : decode cX6_writeTime 45 = .ok (.getfield 52, 3) := by decide +kernel
theorem dX6_writeTime_48 : decode cX6_writeTime 48 = .ok (.iload_n 1, 1) := by decide +kernel
theorem dX6_writeTime_49 : decode cX6_writeTime 49 = .ok (.bipush 25, 2) := by decide +kernel
theorem dX6_writeTime_51 : decode cX6_writeTime 51 = .ok (.irem, 1) := by decide +kernel
theorem dX6_writeTime_52 : decode cX6_writeTime 52 = .ok (.invokevirtual 400, 3) := by decide +kernel
theorem dX6_writeTime_55 : decode cX6_writeTime 55 = .ok (.return_, 1) := by decide +kernel
theorem dX6_writeRows_0 : decode cX6_writeRows 0 = .ok (.iconst 0, 1) := by decide +kernel
theorem dX6_writeRows_1 : decode cX6_writeRows 1 = .ok (.istore_n 3, 1) := by decide +kernel
theorem dX6_writeRows_2 : decode cX6_writeRows 2 = .ok (.iload_n 3, 1) := by decide +kernel
theorem dX6_writeRows_3 : decode cX6_writeRows 3 = .ok (.aload_n 0, 1) := by decide +kernel
theorem dX6_writeRows_4 : decode cX6_writeRows 4 = .ok (.getfield 45, 3) := by decide +kernel
theorem dX6_writeRows_7 : decode cX6_writeRows 7 = .ok (.invokevirtual 238, 3) := by decide +kernel
theorem dX6_writeRows_10 : decode cX6_writeRows 10 = .ok (.if_icmp .ge 67, 3) := by decide +kernel
theorem dX6_writeRows_13 : decode cX6_writeRows 13 = .ok (.iload_n 3, 1) := by decide +kernel
theorem dX6_writeRows_14 : decode cX6_writeRows 14 = .ok (.ifCond .le 11, 3) := by decide +kernel
theorem dX6_writeRows_17 : decode cX6_writeRows 17 = .ok (.aload_n 0, 1) := by decide +kernel
theorem dX6_writeRows_18 : decode cX6_writeRows 18 = .ok (.getfield 52, 3) := by decide +kernel
theorem dX6_writeRows_21 : decode cX6_writeRows 21 = .ok (.iload_n 2, 1) := by decide +kernel
theorem dX6_writeRows_22 : decode cX6_writeRows 22 = .ok (.invokevirtual 388, 3) := by decide +kernel
theorem dX6_writeRows_25 : decode cX6_writeRows 25 = .ok (.aload_n 0, 1) := by decide +kernel
theorem dX6_writeRows_26 : decode cX6_writeRows 26 = .ok (.getfield 45, 3) := by decide +kernel
theorem dX6_writeRows_29 : decode cX6_writeRows 29 = .ok (.iload_n 3, 1) := by decide +kernel
theorem dX6_writeRows_30 : decode cX6_writeRows 30 = .ok (.invokevirtual 243, 3) := by decide +kernel
theorem dX6_writeRows_33 : decode cX6_writeRows 33 = .ok (.istore 4, 2) := by decide +kernel
theorem dX6_writeRows_35 : decode cX6_writeRows 35 = .ok (.iload 4, 2) := by decide +kernel
theorem dX6_writeRows_37 : decode cX6_writeRows 37 = .ok (.aload_n 0, 1) := by decide +kernel
theorem dX6_writeRows_38 : decode cX6_writeRows 38 = .ok (.getfield 45, 3) := by decide +kernel
theorem dX6_writeRows_41 : decode cX6_writeRows 41 = .ok (.iload_n 3, 1) := by decide +kernel
theorem dX6_writeRows_42 : decode cX6_writeRows 42 = .ok (.invokevirtual 246, 3) := by decide +kernel
theorem dX6_writeRows_45 : decode cX6_writeRows 45 = .ok (.if_icmp .ge 26, 3) := by decide +kernel
theorem dX6_writeRows_48 : decode cX6_writeRows 48 = .ok (.aload_n 0, 1) := by decide +kernel
theorem dX6_writeRows_49 : decode cX6_writeRows 49 = .ok (.getfield 52, 3) := by decide +kernel
theorem dX6_writeRows_52 : decode cX6_writeRows 52 = .ok (.aload_n 0, 1) := by decide +kernel
theorem dX6_writeRows_53 : decode cX6_writeRows 53 = .ok (.getfield 26, 3) := by decide +kernel
theorem dX6_writeRows_56 : decode cX6_writeRows 56 = .ok (.iload_n 1, 1) := by decide +kernel
theorem dX6_writeRows_57 : decode cX6_writeRows 57 = .ok (.iload 4, 2) := by decide +kernel
theorem dX6_writeRows_59 : decode cX6_writeRows 59 = .ok (.invokevirtual 228, 3) := by decide +kernel
theorem dX6_writeRows_62 : decode cX6_writeRows 62 = .ok (.invokevirtual 388, 3) := by decide +kernel
theorem dX6_writeRows_65 : decode cX6_writeRows 65 = .ok (.iinc 4 1, 3) := by decide +kernel
theorem dX6_writeRows_68 : decode cX6_writeRows 68 = .ok (.goto (-33), 3) := by decide +kernel
theorem dX6_writeRows_71 : decode cX6_writeRows 71 = .ok (.iinc 3 1, 3) := by decide +kernel
theorem dX6_writeRows_74 : decode cX6_writeRows 74 = .ok (.goto (-72), 3) := by decide +kernel
theorem dX6_writeRows_77 : decode cX6_writeRows 77 = .ok (.return_, 1) := by decide +kernel
theorem dJ6_bitCount_0f7a4_0 : decode cJ6_bitCount_0f7a4 0 = .ok (.iload_n 0, 1) := by decide +kernel
theorem dJ6_bitCount_0f7a4_1 : decode cJ6_bitCount_0f7a4 1 = .ok (.iload_n 0, 1) := by decide +kernel
theorem dJ6_bitCount_0f7a4_2 : decode cJ6_bitCount_0f7a4 2 = .ok (.iconst 1, 1) := by decide +kernel
theorem dJ6_bitCount_0f7a4_3 : decode cJ6_bitCount_0f7a4 3 = .ok (.iushr, 1) := by decide +kernel
theorem dJ6_bitCount_0f7a4_4 : decode cJ6_bitCount_0f7a4 4 = .ok (.ldc_w 265, 3) := by decide +kernel
theorem dJ6_bitCount_0f7a4_7 : decode cJ6_bitCount_0f7a4 7 = .ok (.iand, 1) := by decide +kernel
theorem dJ6_bitCount_0f7a4_8 : decode cJ6_bitCount_0f7a4 8 = .ok (.isub, 1) := by decide +kernel
theorem dJ6_bitCount_0f7a4_9 : decode cJ6_bitCount_0f7a4 9 = .ok (.istore_n 0, 1) := by decide +kernel
theorem dJ6_bitCount_0f7a4_10 : decode cJ6_bitCount_0f7a4 10 = .ok (.iload_n 0, 1) := by decide +kernel
theorem dJ6_bitCount_0f7a4_11 : decode cJ6_bitCount_0f7a4 11 = .ok (.ldc_w 266, 3) := by decide +kernel
theorem dJ6_bitCount_0f7a4_14 : decode cJ6_bitCount_0f7a4 14 = .ok (.iand, 1) := by decide +kernel
theorem dJ6_bitCount_0f7a4_15 : decode cJ6_bitCount_0f7a4 15 = .ok (.iload_n 0, 1) := by decide +kernel
theorem dJ6_bitCount_0f7a4_16 : decode cJ6_bitCount_0f7a4 16 = .ok (.iconst 2, 1) := by decide +kernel
theorem dJ6_bitCount_0f7a4_17 : decode cJ6_bitCount_0f7a4 17 = .ok (.iushr, 1) := by decide +kernel
theorem dJ6_bitCount_0f7a4_18 : decode cJ6_bitCount_0f7a4 18 = .ok (.ldc_w 266, 3) := by decide +kernel
theorem dJ6_bitCount_0f7a4_21 : decode cJ6_bitCount_0f7a4 21 = .ok (.iand, 1) := by decide +kernel
theorem dJ6_bitCount_0f7a4_22 : decode cJ6_bitCount_0f7a4 22 = .ok (.iadd, 1) := by decide +kernel
theorem dJ6_bitCount_0f7a4_23 : decode cJ6_bitCount_0f7a4 23 = .ok (.istore_n 0, 1) := by decide +kernel
theorem dJ6_bitCount_0f7a4_24 : decode cJ6_bitCount_0f7a4 24 = .ok (.iload_n 0, 1) := by decide +kernel
theorem dJ6_bitCount_0f7a4_25 : decode cJ6_bitCount_0f7a4 25 = .ok (.iload_n 0, 1) := by decide +kernel
theorem dJ6_bitCount_0f7a4_26 : decode cJ6_bitCount_0f7a4 26 = .ok (.iconst 4, 1) := by decide +kernel
theorem dJ6_bitCount_0f7a4_27 : decode cJ6_bitCount_0f7a4 27 = .ok (.iushr, 1) := by decide +kernel
theorem dJ6_bitCount_0f7a4_28 : decode cJ6_bitCount_0f7a4 28 = .ok (.iadd, 1) := by decide +kernel
theorem dJ6_bitCount_0f7a4_29 : decode cJ6_bitCount_0f7a4 29 = .ok (.ldc_w 267, 3) := by decide +kernel
theorem dJ6_bitCount_0f7a4_32 : decode cJ6_bitCount_0f7a4 32 = .ok (.iand, 1) := by decide +kernel
theorem dJ6_bitCount_0f7a4_33 : decode cJ6_bitCount_0f7a4 33 = .ok (.istore_n 0, 1) := by decide +kernel
theorem dJ6_bitCount_0f7a4_34 : decode cJ6_bitCount_0f7a4 34 = .ok (.iload_n 0, 1) := by decide +kernel
theorem dJ6_bitCount_0f7a4_35 : decode cJ6_bitCount_0f7a4 35 = .ok (.iload_n 0, 1) := by decide +kernel
theorem dJ6_bitCount_0f7a4_36 : decode cJ6_bitCount_0f7a4 36 = .ok (.bipush 8, 2) := by decide +kernel
theorem dJ6_bitCount_0f7a4_38 : decode cJ6_bitCount_0f7a4 38 = .ok (.iushr, 1) := by decide +kernel
theorem dJ6_bitCount_0f7a4_39 : decode cJ6_bitCount_0f7a4 39 = .ok (.iadd, 1) := by decide +kernel
theorem dJ6_bitCount_0f7a4_40 : decode cJ6_bitCount_0f7a4 40 = .ok (.istore_n 0, 1) := by decide +kernel
theorem dJ6_bitCount_0f7a4_41 : decode cJ6_bitCount_0f7a4 41 = .ok (.iload_n 0, 1) := by decide +kernel
theorem dJ6_bitCount_0f7a4_42 : decode cJ6_bitCount_0f7a4 42 = .ok (.iload_n 0, 1) := by decide +kernel
theorem dJ6_bitCount_0f7a4_43 : decode cJ6_bitCount_0f7a4 43 = .ok (.bipush 16, 2) := by decide +kernel
theorem dJ6_bitCount_0f7a4_45 : decode cJ6_bitCount_0f7a4 45 = .ok (.iushr, 1) := by decide +kernel
theorem dJ6_bitCount_0f7a4_46 : decode cJ6_bitCount_0f7a4 46 = .ok (.iadd, 1) := by decide +kernel
theorem dJ6_bitCount_0f7a4_47 : decode cJ6_bitCount_0f7a4 47 = .ok (.istore_n 0, 1) := by decide +kernel
theorem dJ6_bitCount_0f7a4_48 : decode cJ6_bitCount_0f7a4 48 = .ok (.iload_n 0, 1) := by decide +kernel
theorem dJ6_bitCount_0f7a4_49 : decode cJ6_bitCount_0f7a4 49 = .ok (.bipush 63, 2) := by decide +kernel
theorem dJ6_bitCount_0f7a4_51 : decode cJ6_bitCount_0f7a4 51 = .ok (.iand, 1) := by decide +kernel
theorem dJ6_bitCount_0f7a4_52 : decode cJ6_bitCount_0f7a4 52 = .ok (.ireturn, 1) := by decide +kernel
theorem dJ9_abs_0f7a4_0 : decode cJ9_abs_0f7a4 0 = .ok (.iload_n 0, 1) := by decide +kernel
theorem dJ9_abs_0f7a4_1 : decode cJ9_abs_0f7a4 1 = .ok (.ifCond .ge 8, 3) := by decide +kernel
theorem dJ9_abs_0f7a4_4 : decode cJ9_abs_0f7a4 4 = .ok (.iload_n 0, 1) := by decide +kernel
theorem dJ9_abs_0f7a4_5 : decode cJ9_abs_0f7a4 5 = .ok (.ineg, 1) := by decide +kernel
theorem dJ9_abs_0f7a4_6 : decode cJ9_abs_0f7a4 6 = .ok (.goto 4, 3) := by decide +kernel
theorem dJ9_abs_0f7a4_9 : decode cJ9_abs_0f7a4 9 = .ok (.iload_n 0, 1) := by decide +kernel
theorem dJ9_abs_0f7a4_10 : decode cJ9_abs_0f7a4 10 = .ok (.ireturn, 1) := by decide +kernel
theorem dJ9_max_7cf53_0 : decode cJ9_max_7cf53 0 = .ok (.iload_n 0, 1) := by decide +kernel
theorem dJ9_max_7cf53_1 : decode cJ9_max_7cf53 1 = .ok (.iload_n 1, 1) := by decide +kernel
theorem dJ9_max_7cf53_2 : decode cJ9_max_7cf53 2 = .ok (.if_icmp .lt 7, 3) := by decide +kernel
theorem dJ9_max_7cf53_5 : decode cJ9_max_7cf53 5 = .ok (.iload_n 0, 1) := by decide +kernel
theorem dJ9_max_7cf53_6 : decode cJ9_max_7cf53 6 = .ok (.goto 4, 3) := by decide +kernel
theorem dJ9_max_7cf53_9 : decode cJ9_max_7cf53 9 = .ok (.iload_n 1, 1) := by decide +kernel
theorem dJ9_max_7cf53_10 : decode cJ9_max_7cf53 10 = .ok (.ireturn, 1) := by decide +kernel
theorem dJ9_min_7cf53_0 : decode cJ9_min_7cf53 0 = .ok (.iload_n 0, 1) := by decide +kernel
theorem dJ9_min_7cf53_1 : decode cJ9_min_7cf53 1 = .ok (.iload_n 1, 1) := by decide +kernel
theorem dJ9_min_7cf53_2 : decode cJ9_min_7cf53 2 = .ok (.if_icmp .gt 7, 3) := by decide +kernel
theorem dJ9_min_7cf53_5 : decode cJ9_min_7cf53 5 = .ok (.iload_n 0, 1) := by decide +kernel
theorem dJ9_min_7cf53_6 : decode cJ9_min_7cf53 6 = .ok (.goto 4, 3) := by decide +kernel
theorem dJ9_min_7cf53_9 : decode cJ9_min_7cf53 9 = .ok (.iload_n 1, 1) := by decide +kernel
theorem dJ9_min_7cf53_10 : decode cJ9_min_7cf53 10 = .ok (.ireturn, 1) := by decide +kernel
theorem dJ7_fill_53178_0 : decode cJ7_fill_53178 0 = .ok (.iconst 0, 1) := by decide +kernel
theorem dJ7_fill_53178_1 : decode cJ7_fill_53178 1 = .ok (.istore_n 2, 1) := by decide +kernel
theorem dJ7_fill_53178_2 : decode cJ7_fill_53178 2 = .ok (.aload_n 0, 1) := by decide +kernel
theorem dJ7_fill_53178_3 : decode cJ7_fill_53178 3 = .ok (.arraylength, 1) := by decide +kernel
theorem dJ7_fill_53178_4 : decode cJ7_fill_53178 4 = .ok (.istore_n 3, 1) := by decide +kernel
theorem dJ7_fill_53178_5 : decode cJ7_fill_53178 5 = .ok (.iload_n 2, 1) := by decide +kernel
theorem dJ7_fill_53178_6 : decode cJ7_fill_53178 6 = .ok (.iload_n 3, 1) := by decide +kernel
theorem dJ7_fill_53178_7 : decode cJ7_fill_53178 7 = .ok (.if_icmp .ge 13, 3) := by decide +kernel
theorem dJ7_fill_53178_10 : decode cJ7_fill_53178 10 = .ok (.aload_n 0, 1) := by decide +kernel
theorem dJ7_fill_53178_11 : decode cJ7_fill_53178 11 = .ok (.iload_n 2, 1) := by decide +kernel
theorem dJ7_fill_53178_12 : decode cJ7_fill_53178 12 = .ok (.iload_n 1, 1) := by decide +kernel
theorem dJ7_fill_53178_13 : decode cJ7_fill_53178 13 = .ok (.iastore, 1) := by decide +kernel
theorem dJ7_fill_53178_14 : decode cJ7_fill_53178 14 = .ok (.iinc 2 1, 3) := by decide +kernel
theorem dJ7_fill_53178_17 : decode cJ7_fill_53178 17 = .ok (.goto (-12), 3) := by decide +kernel
theorem dJ7_fill_53178_20 : decode cJ7_fill_53178 20 = .ok (.return_, 1) := by decide +kernel
