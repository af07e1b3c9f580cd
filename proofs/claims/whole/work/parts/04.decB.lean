theorem d_X11_init_0 : decode cX11_init 0 = .ok (.aload_n 0, 1) := by decide +kernel
theorem d_X11_init_1 : decode cX11_init 1 = .ok (.invokespecial 1, 3) := by decide +kernel
theorem d_X11_init_4 : decode cX11_init 4 = .ok (.aload_n 0, 1) := by decide +kernel
theorem d_X11_init_5 : decode cX11_init 5 = .ok (.new 7, 3) := by decide +kernel
theorem d_X11_init_8 : decode cX11_init 8 = .ok (.dup, 1) := by decide +kernel
theorem d_X11_init_9 : decode cX11_init 9 = .ok (.invokespecial 9, 3) := by decide +kernel
theorem d_X11_init_12 : decode cX11_init 12 = .ok (.putfield 10, 3) := by decide +kernel
theorem d_X11_init_15 : decode cX11_init 15 = .ok (.aload_n 0, 1) := by decide +kernel
theorem d_X11_init_16 : decode cX11_init 16 = .ok (.aconst_null, 1) := by decide +kernel
theorem d_X11_init_17 : decode cX11_init 17 = .ok (.putfield 16, 3) := by decide +kernel
theorem d_X11_init_20 : decode cX11_init 20 = .ok (.aload_n 0, 1) := by decide +kernel
theorem d_X11_init_21 : decode cX11_init 21 = .ok (.iconst 0, 1) := by decide +kernel
theorem d_X11_init_22 : decode cX11_init 22 = .ok (.putfield 19, 3) := by decide +kernel
theorem d_X11_init_25 : decode cX11_init 25 = .ok (.aload_n 0, 1) := by decide +kernel
theorem d_X11_init_26 : decode cX11_init 26 = .ok (.iconst 0, 1) := by decide +kernel
theorem d_X11_init_27 : decode cX11_init 27 = .ok (.putfield 23, 3) := by decide +kernel
theorem d_X11_init_30 : decode cX11_init 30 = .ok (.aload_n 0, 1) := by decide +kernel
theorem d_X11_init_31 : decode cX11_init 31 = .ok (.iconst 4, 1) := by decide +kernel
theorem d_X11_init_32 : decode cX11_init 32 = .ok (.anewarray 26, 3) := by decide +kernel
theorem d_X11_init_35 : decode cX11_init 35 = .ok (.putfield 28, 3) := by decide +kernel
theorem d_X11_init_38 : decode cX11_init 38 = .ok (.aload_n 0, 1) := by decide +kernel
theorem d_X11_init_39 : decode cX11_init 39 = .ok (.new 32, 3) := by decide +kernel
theorem d_X11_init_42 : decode cX11_init 42 = .ok (.dup, 1) := by decide +kernel
theorem d_X11_init_43 : decode cX11_init 43 = .ok (.invokespecial 34, 3) := by decide +kernel
theorem d_X11_init_46 : decode cX11_init 46 = .ok (.putfield 35, 3) := by decide +kernel
theorem d_X11_init_49 : decode cX11_init 49 = .ok (.aload_n 0, 1) := by decide +kernel
theorem d_X11_init_50 : decode cX11_init 50 = .ok (.new 39, 3) := by decide +kernel
theorem d_X11_init_53 : decode cX11_init 53 = .ok (.dup, 1) := by decide +kernel
theorem d_X11_init_54 : decode cX11_init 54 = .ok (.invokespecial 41, 3) := by decide +kernel
theorem d_X11_init_57 : decode cX11_init 57 = .ok (.putfield 42, 3) := by decide +kernel
theorem d_X11_init_60 : decode cX11_init 60 = .ok (.aload_n 0, 1) := by decide +kernel
theorem d_X11_init_61 : decode cX11_init 61 = .ok (.bipush 12, 2) := by decide +kernel
theorem d_X11_init_63 : decode cX11_init 63 = .ok (.newarray .int, 2) := by decide +kernel
theorem d_X11_init_65 : decode cX11_init 65 = .ok (.putfield 46, 3) := by decide +kernel
theorem d_X11_init_68 : decode cX11_init 68 = .ok (.iconst 0, 1) := by decide +kernel
theorem d_X11_init_69 : decode cX11_init 69 = .ok (.istore_n 1, 1) := by decide +kernel
theorem d_X11_init_70 : decode cX11_init 70 = .ok (.iload_n 1, 1) := by decide +kernel
theorem d_X11_init_71 : decode cX11_init 71 = .ok (.iconst 4, 1) := by decide +kernel
theorem d_X11_init_72 : decode cX11_init 72 = .ok (.if_icmp .ge 22, 3) := by decide +kernel
theorem d_X11_init_75 : decode cX11_init 75 = .ok (.aload_n 0, 1) := by decide +kernel
theorem d_X11_init_76 : decode cX11_init 76 = .ok (.getfield 28, 3) := by decide +kernel
theorem d_X11_init_79 : decode cX11_init 79 = .ok (.iload_n 1, 1) := by decide +kernel
theorem d_X11_init_80 : decode cX11_init 80 = .ok (.new 26, 3) := by decide +kernel
theorem d_X11_init_83 : decode cX11_init 83 = .ok (.dup, 1) := by decide +kernel
theorem d_X11_init_84 : decode cX11_init 84 = .ok (.invokespecial 50, 3) := by decide +kernel
theorem d_X11_init_87 : decode cX11_init 87 = .ok (.aastore, 1) := by decide +kernel
theorem d_X11_init_88 : decode cX11_init 88 = .ok (.iinc 1 1, 3) := by decide +kernel
theorem d_X11_init_91 : decode cX11_init 91 = .ok (.goto (-21), 3) := by decide +kernel
theorem d_X11_init_94 : decode cX11_init 94 = .ok (.return_, 1) := by decide +kernel
theorem d_X11_stretch_0 : decode cX11_stretch 0 = .ok (.iload_n 1, 1) := by decide +kernel
theorem d_X11_stretch_1 : decode cX11_stretch 1 = .ok (.iconst 0, 1) := by decide +kernel
theorem d_X11_stretch_2 : decode cX11_stretch 2 = .ok (.iconst 5, 1) := by decide +kernel
theorem d_X11_stretch_3 : decode cX11_stretch 3 = .ok (.invokestatic 51, 3) := by decide +kernel
theorem d_X11_stretch_6 : decode cX11_stretch 6 = .ok (.ifCond .eq 23, 3) := by decide +kernel
theorem d_X11_stretch_9 : decode cX11_stretch 9 = .ok (.iload_n 2, 1) := by decide +kernel
theorem d_X11_stretch_10 : decode cX11_stretch 10 = .ok (.iconst 1, 1) := by decide +kernel
theorem d_X11_stretch_11 : decode cX11_stretch 11 = .ok (.bipush 20, 2) := by decide +kernel
theorem d_X11_stretch_13 : decode cX11_stretch 13 = .ok (.invokestatic 51, 3) := by decide +kernel
theorem d_X11_stretch_16 : decode cX11_stretch 16 = .ok (.ifCond .eq 13, 3) := by decide +kernel
theorem d_X11_stretch_19 : decode cX11_stretch 19 = .ok (.iload_n 3, 1) := by decide +kernel
theorem d_X11_stretch_20 : decode cX11_stretch 20 = .ok (.iconst 0, 1) := by decide +kernel
theorem d_X11_stretch_21 : decode cX11_stretch 21 = .ok (.bipush 99, 2) := by decide +kernel
theorem d_X11_stretch_23 : decode cX11_stretch 23 = .ok (.invokestatic 51, 3) := by decide +kernel
theorem d_X11_stretch_26 : decode cX11_stretch 26 = .ok (.ifCond .ne 9, 3) := by decide +kernel
theorem d_X11_stretch_29 : decode cX11_stretch 29 = .ok (.aload_n 0, 1) := by decide +kernel
theorem d_X11_stretch_30 : decode cX11_stretch 30 = .ok (.iconst 1, 1) := by decide +kernel
theorem d_X11_stretch_31 : decode cX11_stretch 31 = .ok (.invokevirtual 55, 3) := by decide +kernel
theorem d_X11_stretch_34 : decode cX11_stretch 34 = .ok (.ireturn, 1) := by decide +kernel
theorem d_X11_stretch_35 : decode cX11_stretch 35 = .ok (.aload_n 0, 1) := by decide +kernel
theorem d_X11_stretch_36 : decode cX11_stretch 36 = .ok (.getfield 10, 3) := by decide +kernel
theorem d_X11_stretch_39 : decode cX11_stretch 39 = .ok (.getfield 59, 3) := by decide +kernel
theorem d_X11_stretch_42 : decode cX11_stretch 42 = .ok (.bipush 10, 2) := by decide +kernel
theorem d_X11_stretch_44 : decode cX11_stretch 44 = .ok (.if_icmp .lt 9, 3) := by decide +kernel
theorem d_X11_stretch_47 : decode cX11_stretch 47 = .ok (.aload_n 0, 1) := by decide +kernel
theorem d_X11_stretch_48 : decode cX11_stretch 48 = .ok (.iconst 2, 1) := by decide +kernel
theorem d_X11_stretch_49 : decode cX11_stretch 49 = .ok (.invokevirtual 55, 3) := by decide +kernel
theorem d_X11_stretch_52 : decode cX11_stretch 52 = .ok (.ireturn, 1) := by decide +kernel
theorem d_X11_stretch_53 : decode cX11_stretch 53 = .ok (.aload_n 0, 1) := by decide +kernel
theorem d_X11_stretch_54 : decode cX11_stretch 54 = .ok (.getfield 10, 3) := by decide +kernel
theorem d_X11_stretch_57 : decode cX11_stretch 57 = .ok (.dup, 1) := by decide +kernel
theorem d_X11_stretch_58 : decode cX11_stretch 58 = .ok (.getfield 59, 3) := by decide +kernel
theorem d_X11_stretch_61 : decode cX11_stretch 61 = .ok (.dup_x1, 1) := by decide +kernel
theorem d_X11_stretch_62 : decode cX11_stretch 62 = .ok (.iconst 1, 1) := by decide +kernel
theorem d_X11_stretch_63 : decode cX11_stretch 63 = .ok (.iadd, 1) := by decide +kernel
theorem d_X11_stretch_64 : decode cX11_stretch 64 = .ok (.putfield 59, 3) := by decide +kernel
theorem d_X11_stretch_67 : decode cX11_stretch 67 = .ok (.istore 4, 2) := by decide +kernel
theorem d_X11_stretch_69 : decode cX11_stretch 69 = .ok (.aload_n 0, 1) := by decide +kernel
theorem d_X11_stretch_70 : decode cX11_stretch 70 = .ok (.getfield 10, 3) := by decide +kernel
theorem d_X11_stretch_73 : decode cX11_stretch 73 = .ok (.getfield 62, 3) := by decide +kernel
theorem d_X11_stretch_76 : decode cX11_stretch 76 = .ok (.iload 4, 2) := by decide +kernel
theorem d_X11_stretch_78 : decode cX11_stretch 78 = .ok (.aaload, 1) := by decide +kernel
theorem d_X11_stretch_79 : decode cX11_stretch 79 = .ok (.iload 4, 2) := by decide +kernel
theorem d_X11_stretch_81 : decode cX11_stretch 81 = .ok (.iload_n 1, 1) := by decide +kernel
theorem d_X11_stretch_82 : decode cX11_stretch 82 = .ok (.iload_n 2, 1) := by decide +kernel
theorem d_X11_stretch_83 : decode cX11_stretch 83 = .ok (.iload_n 3, 1) := by decide +kernel
theorem d_X11_stretch_84 : decode cX11_stretch 84 = .ok (.invokevirtual 66, 3) := by decide +kernel
theorem d_X11_stretch_87 : decode cX11_stretch 87 = .ok (.aload_n 0, 1) := by decide +kernel
theorem d_X11_stretch_88 : decode cX11_stretch 88 = .ok (.iload 4, 2) := by decide +kernel
theorem d_X11_stretch_90 : decode cX11_stretch 90 = .ok (.invokevirtual 72, 3) := by decide +kernel
theorem d_X11_stretch_93 : decode cX11_stretch 93 = .ok (.ireturn, 1) := by decide +kernel
theorem d_X11_gauge_0 : decode cX11_gauge 0 = .ok (.iload_n 1, 1) := by decide +kernel
theorem d_X11_gauge_1 : decode cX11_gauge 1 = .ok (.invokestatic 75, 3) := by decide +kernel
theorem d_X11_gauge_4 : decode cX11_gauge 4 = .ok (.ifCond .eq 14, 3) := by decide +kernel
theorem d_X11_gauge_7 : decode cX11_gauge 7 = .ok (.iload_n 2, 1) := by decide +kernel
theorem d_X11_gauge_8 : decode cX11_gauge 8 = .ok (.bipush (-20), 2) := by decide +kernel
theorem d_X11_gauge_10 : decode cX11_gauge 10 = .ok (.bipush 40, 2) := by decide +kernel
theorem d_X11_gauge_12 : decode cX11_gauge 12 = .ok (.invokestatic 51, 3) := by decide +kernel
theorem d_X11_gauge_15 : decode cX11_gauge 15 = .ok (.ifCond .ne 9, 3) := by decide +kernel
theorem d_X11_gauge_18 : decode cX11_gauge 18 = .ok (.aload_n 0, 1) := by decide +kernel
theorem d_X11_gauge_19 : decode cX11_gauge 19 = .ok (.iconst 1, 1) := by decide +kernel
theorem d_X11_gauge_20 : decode cX11_gauge 20 = .ok (.invokevirtual 55, 3) := by decide +kernel
theorem d_X11_gauge_23 : decode cX11_gauge 23 = .ok (.ireturn, 1) := by decide +kernel
theorem d_X11_gauge_24 : decode cX11_gauge 24 = .ok (.aload_n 0, 1) := by decide +kernel
theorem d_X11_gauge_25 : decode cX11_gauge 25 = .ok (.getfield 10, 3) := by decide +kernel
theorem d_X11_gauge_28 : decode cX11_gauge 28 = .ok (.iload_n 1, 1) := by decide +kernel
theorem d_X11_gauge_29 : decode cX11_gauge 29 = .ok (.iload_n 2, 1) := by decide +kernel
theorem d_X11_gauge_30 : decode cX11_gauge 30 = .ok (.invokevirtual 79, 3) := by decide +kernel
theorem d_X11_gauge_33 : decode cX11_gauge 33 = .ok (.aload_n 0, 1) := by decide +kernel
theorem d_X11_gauge_34 : decode cX11_gauge 34 = .ok (.aload_n 0, 1) := by decide +kernel
theorem d_X11_gauge_35 : decode cX11_gauge 35 = .ok (.getfield 10, 3) := by decide +kernel
theorem d_X11_gauge_38 : decode cX11_gauge 38 = .ok (.getfield 83, 3) := by decide +kernel
theorem d_X11_gauge_41 : decode cX11_gauge 41 = .ok (.invokevirtual 72, 3) := by decide +kernel
theorem d_X11_gauge_44 : decode cX11_gauge 44 = .ok (.ireturn, 1) := by decide +kernel
theorem d_X11_shift_0 : decode cX11_shift 0 = .ok (.aload_n 0, 1) := by decide +kernel
theorem d_X11_shift_1 : decode cX11_shift 1 = .ok (.getfield 10, 3) := by decide +kernel
theorem d_X11_shift_4 : decode cX11_shift 4 = .ok (.iload_n 1, 1) := by decide +kernel
theorem d_X11_shift_5 : decode cX11_shift 5 = .ok (.invokevirtual 86, 3) := by decide +kernel
theorem d_X11_shift_8 : decode cX11_shift 8 = .ok (.ifCond .eq 21, 3) := by decide +kernel
theorem d_X11_shift_11 : decode cX11_shift 11 = .ok (.iload_n 2, 1) := by decide +kernel
theorem d_X11_shift_12 : decode cX11_shift 12 = .ok (.invokestatic 75, 3) := by decide +kernel
theorem d_X11_shift_15 : decode cX11_shift 15 = .ok (.ifCond .eq 14, 3) := by decide +kernel
theorem d_X11_shift_18 : decode cX11_shift 18 = .ok (.iload_n 3, 1) := by decide +kernel
theorem d_X11_shift_19 : decode cX11_shift 19 = .ok (.bipush (-20), 2) := by decide +kernel
theorem d_X11_shift_21 : decode cX11_shift 21 = .ok (.bipush 20, 2) := by decide +kernel
theorem d_X11_shift_23 : decode cX11_shift 23 = .ok (.invokestatic 51, 3) := by decide +kernel
theorem d_X11_shift_26 : decode cX11_shift 26 = .ok (.ifCond .ne 9, 3) := by decide +kernel
theorem d_X11_shift_29 : decode cX11_shift 29 = .ok (.aload_n 0, 1) := by decide +kernel
theorem d_X11_shift_30 : decode cX11_shift 30 = .ok (.iconst 1, 1) := by decide +kernel
theorem d_X11_shift_31 : decode cX11_shift 31 = .ok (.invokevirtual 55, 3) := by decide +kernel
theorem d_X11_shift_34 : decode cX11_shift 34 = .ok (.ireturn, 1) := by decide +kernel
theorem d_X11_shift_35 : decode cX11_shift 35 = .ok (.aload_n 0, 1) := by decide +kernel
theorem d_X11_shift_36 : decode cX11_shift 36 = .ok (.getfield 10, 3) := by decide +kernel
theorem d_X11_shift_39 : decode cX11_shift 39 = .ok (.getfield 62, 3) := by decide +kernel
theorem d_X11_shift_42 : decode cX11_shift 42 = .ok (.iload_n 1, 1) := by decide +kernel
theorem d_X11_shift_43 : decode cX11_shift 43 = .ok (.aaload, 1) := by decide +kernel
theorem d_X11_shift_44 : decode cX11_shift 44 = .ok (.astore 4, 2) := by decide +kernel
theorem d_X11_shift_46 : decode cX11_shift 46 = .ok (.aload 4, 2) := by decide +kernel
theorem d_X11_shift_48 : decode cX11_shift 48 = .ok (.getfield 89, 3) := by decide +kernel
theorem d_X11_shift_51 : decode cX11_shift 51 = .ok (.iconst 1, 1) := by decide +kernel
theorem d_X11_shift_52 : decode cX11_shift 52 = .ok (.invokestatic 92, 3) := by decide +kernel
theorem d_X11_shift_55 : decode cX11_shift 55 = .ok (.ifCond .ne 9, 3) := by decide +kernel
theorem d_X11_shift_58 : decode cX11_shift 58 = .ok (.aload_n 0, 1) := by decide +kernel
theorem d_X11_shift_59 : decode cX11_shift 59 = .ok (.iconst 3, 1) := by decide +kernel
theorem d_X11_shift_60 : decode cX11_shift 60 = .ok (.invokevirtual 55, 3) := by decide +kernel
theorem d_X11_shift_63 : decode cX11_shift 63 = .ok (.ireturn, 1) := by decide +kernel
theorem d_X11_shift_64 : decode cX11_shift 64 = .ok (.aload 4, 2) := by decide +kernel
theorem d_X11_shift_66 : decode cX11_shift 66 = .ok (.getfield 96, 3) := by decide +kernel
theorem d_X11_shift_69 : decode cX11_shift 69 = .ok (.iload_n 2, 1) := by decide +kernel
theorem d_X11_shift_70 : decode cX11_shift 70 = .ok (.iload_n 3, 1) := by decide +kernel
theorem d_X11_shift_71 : decode cX11_shift 71 = .ok (.iastore, 1) := by decide +kernel
theorem d_X11_shift_72 : decode cX11_shift 72 = .ok (.aload_n 0, 1) := by decide +kernel
theorem d_X11_shift_73 : decode cX11_shift 73 = .ok (.iconst 1, 1) := by decide +kernel
theorem d_X11_shift_74 : decode cX11_shift 74 = .ok (.invokevirtual 72, 3) := by decide +kernel
theorem d_X11_shift_77 : decode cX11_shift 77 = .ok (.ireturn, 1) := by decide +kernel
theorem d_X11_cold_0 : decode cX11_cold 0 = .ok (.iload_n 1, 1) := by decide +kernel
theorem d_X11_cold_1 : decode cX11_cold 1 = .ok (.invokestatic 75, 3) := by decide +kernel
theorem d_X11_cold_4 : decode cX11_cold 4 = .ok (.ifCond .ne 9, 3) := by decide +kernel
theorem d_X11_cold_7 : decode cX11_cold 7 = .ok (.aload_n 0, 1) := by decide +kernel
theorem d_X11_cold_8 : decode cX11_cold 8 = .ok (.iconst 1, 1) := by decide +kernel
theorem d_X11_cold_9 : decode cX11_cold 9 = .ok (.invokevirtual 55, 3) := by decide +kernel
theorem d_X11_cold_12 : decode cX11_cold 12 = .ok (.ireturn, 1) := by decide +kernel
theorem d_X11_cold_13 : decode cX11_cold 13 = .ok (.aload_n 0, 1) := by decide +kernel
theorem d_X11_cold_14 : decode cX11_cold 14 = .ok (.getfield 10, 3) := by decide +kernel
theorem d_X11_cold_17 : decode cX11_cold 17 = .ok (.getfield 99, 3) := by decide +kernel
theorem d_X11_cold_20 : decode cX11_cold 20 = .ok (.iload_n 1, 1) := by decide +kernel
theorem d_X11_cold_21 : decode cX11_cold 21 = .ok (.baload, 1) := by decide +kernel
theorem d_X11_cold_22 : decode cX11_cold 22 = .ok (.iload_n 2, 1) := by decide +kernel
theorem d_X11_cold_23 : decode cX11_cold 23 = .ok (.if_icmp .ne 7, 3) := by decide +kernel
theorem d_X11_cold_26 : decode cX11_cold 26 = .ok (.iconst 0, 1) := by decide +kernel
theorem d_X11_cold_27 : decode cX11_cold 27 = .ok (.goto 4, 3) := by decide +kernel
theorem d_X11_cold_30 : decode cX11_cold 30 = .ok (.iconst 1, 1) := by decide +kernel
theorem d_X11_cold_31 : decode cX11_cold 31 = .ok (.istore_n 3, 1) := by decide +kernel
theorem d_X11_cold_32 : decode cX11_cold 32 = .ok (.aload_n 0, 1) := by decide +kernel
theorem d_X11_cold_33 : decode cX11_cold 33 = .ok (.getfield 10, 3) := by decide +kernel
theorem d_X11_cold_36 : decode cX11_cold 36 = .ok (.getfield 99, 3) := by decide +kernel
theorem d_X11_cold_39 : decode cX11_cold 39 = .ok (.iload_n 1, 1) := by decide +kernel
theorem d_X11_cold_40 : decode cX11_cold 40 = .ok (.iload_n 2, 1) := by decide +kernel
theorem d_X11_cold_41 : decode cX11_cold 41 = .ok (.bastore, 1) := by decide +kernel
theorem d_X11_cold_42 : decode cX11_cold 42 = .ok (.aload_n 0, 1) := by decide +kernel
theorem d_X11_cold_43 : decode cX11_cold 43 = .ok (.iload_n 3, 1) := by decide +kernel
theorem d_X11_cold_44 : decode cX11_cold 44 = .ok (.invokevirtual 72, 3) := by decide +kernel
theorem d_X11_cold_47 : decode cX11_cold 47 = .ok (.ireturn, 1) := by decide +kernel
theorem d_X11_light_0 : decode cX11_light 0 = .ok (.aload_n 0, 1) := by decide +kernel
theorem d_X11_light_1 : decode cX11_light 1 = .ok (.getfield 10, 3) := by decide +kernel
theorem d_X11_light_4 : decode cX11_light 4 = .ok (.iload_n 1, 1) := by decide +kernel
theorem d_X11_light_5 : decode cX11_light 5 = .ok (.invokevirtual 86, 3) := by decide +kernel
theorem d_X11_light_8 : decode cX11_light 8 = .ok (.ifCond .ne 9, 3) := by decide +kernel
theorem d_X11_light_11 : decode cX11_light 11 = .ok (.aload_n 0, 1) := by decide +kernel
theorem d_X11_light_12 : decode cX11_light 12 = .ok (.iconst 1, 1) := by decide +kernel
theorem d_X11_light_13 : decode cX11_light 13 = .ok (.invokevirtual 55, 3) := by decide +kernel
theorem d_X11_light_16 : decode cX11_light 16 = .ok (.ireturn, 1) := by decide +kernel
theorem d_X11_light_17 : decode cX11_light 17 = .ok (.aload_n 0, 1) := by decide +kernel
theorem d_X11_light_18 : decode cX11_light 18 = .ok (.getfield 10, 3) := by decide +kernel
theorem d_X11_light_21 : decode cX11_light 21 = .ok (.getfield 62, 3) := by decide +kernel
theorem d_X11_light_24 : decode cX11_light 24 = .ok (.iload_n 1, 1) := by decide +kernel
theorem d_X11_light_25 : decode cX11_light 25 = .ok (.aaload, 1) := by decide +kernel
theorem d_X11_light_26 : decode cX11_light 26 = .ok (.astore_n 3, 1) := by decide +kernel
theorem d_X11_light_27 : decode cX11_light 27 = .ok (.aload_n 3, 1) := by decide +kernel
theorem d_X11_light_28 : decode cX11_light 28 = .ok (.getfield 89, 3) := by decide +kernel
theorem d_X11_light_31 : decode cX11_light 31 = .ok (.iconst 3, 1) := by decide +kernel
theorem d_X11_light_32 : decode cX11_light 32 = .ok (.if_icmp .eq 9, 3) := by decide +kernel
theorem d_X11_light_35 : decode cX11_light 35 = .ok (.aload_n 0, 1) := by decide +kernel
theorem d_X11_light_36 : decode cX11_light 36 = .ok (.iconst 3, 1) := by decide +kernel
theorem d_X11_light_37 : decode cX11_light 37 = .ok (.invokevirtual 55, 3) := by decide +kernel
theorem d_X11_light_40 : decode cX11_light 40 = .ok (.ireturn, 1) := by decide +kernel
theorem d_X11_light_41 : decode cX11_light 41 = .ok (.aload_n 3, 1) := by decide +kernel
theorem d_X11_light_42 : decode cX11_light 42 = .ok (.getfield 103, 3) := by decide +kernel
theorem d_X11_light_45 : decode cX11_light 45 = .ok (.iload_n 2, 1) := by decide +kernel
theorem d_X11_light_46 : decode cX11_light 46 = .ok (.if_icmp .ne 7, 3) := by decide +kernel
theorem d_X11_light_49 : decode cX11_light 49 = .ok (.iconst 0, 1) := by decide +kernel
theorem d_X11_light_50 : decode cX11_light 50 = .ok (.goto 4, 3) := by decide +kernel
theorem d_X11_light_53 : decode cX11_light 53 = .ok (.iconst 1, 1) := by decide +kernel
theorem d_X11_light_54 : decode cX11_light 54 = .ok (.istore 4, 2) := by decide +kernel
theorem d_X11_light_56 : decode cX11_light 56 = .ok (.aload_n 3, 1) := by decide +kernel
theorem d_X11_light_57 : decode cX11_light 57 = .ok (.iload_n 2, 1) := by decide +kernel
theorem d_X11_light_58 : decode cX11_light 58 = .ok (.putfield 103, 3) := by decide +kernel
theorem d_X11_light_61 : decode cX11_light 61 = .ok (.aload_n 0, 1) := by decide +kernel
theorem d_X11_light_62 : decode cX11_light 62 = .ok (.iload 4, 2) := by decide +kernel
theorem d_X11_light_64 : decode cX11_light 64 = .ok (.invokevirtual 72, 3) := by decide +kernel
theorem d_X11_light_67 : decode cX11_light 67 = .ok (.ireturn, 1) := by decide +kernel
theorem d_X11_boat_0 : decode cX11_boat 0 = .ok (.aload_n 0, 1) := by decide +kernel
theorem d_X11_boat_1 : decode cX11_boat 1 = .ok (.getfield 10, 3) := by decide +kernel
theorem d_X11_boat_4 : decode cX11_boat 4 = .ok (.iload_n 1, 1) := by decide +kernel
theorem d_X11_boat_5 : decode cX11_boat 5 = .ok (.invokevirtual 107, 3) := by decide +kernel
theorem d_X11_boat_8 : decode cX11_boat 8 = .ok (.ifCond .eq 35, 3) := by decide +kernel
theorem d_X11_boat_11 : decode cX11_boat 11 = .ok (.iload_n 2, 1) := by decide +kernel
theorem d_X11_boat_12 : decode cX11_boat 12 = .ok (.iconst 1, 1) := by decide +kernel
theorem d_X11_boat_13 : decode cX11_boat 13 = .ok (.bipush 30, 2) := by decide +kernel
theorem d_X11_boat_15 : decode cX11_boat 15 = .ok (.invokestatic 51, 3) := by decide +kernel
theorem d_X11_boat_18 : decode cX11_boat 18 = .ok (.ifCond .eq 25, 3) := by decide +kernel
theorem d_X11_boat_21 : decode cX11_boat 21 = .ok (.iload_n 3, 1) := by decide +kernel
theorem d_X11_boat_22 : decode cX11_boat 22 = .ok (.iconst 1, 1) := by decide +kernel
theorem d_X11_boat_23 : decode cX11_boat 23 = .ok (.sipush 999, 3) := by decide +kernel
theorem d_X11_boat_26 : decode cX11_boat 26 = .ok (.invokestatic 51, 3) := by decide +kernel
theorem d_X11_boat_29 : decode cX11_boat 29 = .ok (.ifCond .eq 14, 3) := by decide +kernel
theorem d_X11_boat_32 : decode cX11_boat 32 = .ok (.iload 4, 2) := by decide +kernel
theorem d_X11_boat_34 : decode cX11_boat 34 = .ok (.iconst 1, 1) := by decide +kernel
theorem d_X11_boat_35 : decode cX11_boat 35 = .ok (.bipush 99, 2) := by decide +kernel
theorem d_X11_boat_37 : decode cX11_boat 37 = .ok (.invokestatic 51, 3) := by decide +kernel
theorem d_X11_boat_40 : decode cX11_boat 40 = .ok (.ifCond .ne 9, 3) := by decide +kernel
theorem d_X11_boat_43 : decode cX11_boat 43 = .ok (.aload_n 0, 1) := by decide +kernel
theorem d_X11_boat_44 : decode cX11_boat 44 = .ok (.iconst 1, 1) := by decide +kernel
theorem d_X11_boat_45 : decode cX11_boat 45 = .ok (.invokevirtual 55, 3) := by decide +kernel
theorem d_X11_boat_48 : decode cX11_boat 48 = .ok (.ireturn, 1) := by decide +kernel
theorem d_X11_boat_49 : decode cX11_boat 49 = .ok (.aload_n 0, 1) := by decide +kernel
theorem d_X11_boat_50 : decode cX11_boat 50 = .ok (.getfield 10, 3) := by decide +kernel
theorem d_X11_boat_53 : decode cX11_boat 53 = .ok (.getfield 110, 3) := by decide +kernel
theorem d_X11_boat_56 : decode cX11_boat 56 = .ok (.iconst 5, 1) := by decide +kernel
theorem d_X11_boat_57 : decode cX11_boat 57 = .ok (.if_icmp .lt 9, 3) := by decide +kernel
theorem d_X11_boat_60 : decode cX11_boat 60 = .ok (.aload_n 0, 1) := by decide +kernel
theorem d_X11_boat_61 : decode cX11_boat 61 = .ok (.iconst 2, 1) := by decide +kernel
theorem d_X11_boat_62 : decode cX11_boat 62 = .ok (.invokevirtual 55, 3) := by decide +kernel
theorem d_X11_boat_65 : decode cX11_boat 65 = .ok (.ireturn, 1) := by decide +kernel
theorem d_X11_boat_66 : decode cX11_boat 66 = .ok (.aload_n 0, 1) := by decide +kernel
theorem d_X11_boat_67 : decode cX11_boat 67 = .ok (.getfield 10, 3) := by decide +kernel
theorem d_X11_boat_70 : decode cX11_boat 70 = .ok (.dup, 1) := by decide +kernel
theorem d_X11_boat_71 : decode cX11_boat 71 = .ok (.getfield 110, 3) := by decide +kernel
theorem d_X11_boat_74 : decode cX11_boat 74 = .ok (.dup_x1, 1) := by decide +kernel
theorem d_X11_boat_75 : decode cX11_boat 75 = .ok (.iconst 1, 1) := by decide +kernel
theorem d_X11_boat_76 : decode cX11_boat 76 = .ok (.iadd, 1) := by decide +kernel
theorem d_X11_boat_77 : decode cX11_boat 77 = .ok (.putfield 110, 3) := by decide +kernel
theorem d_X11_boat_80 : decode cX11_boat 80 = .ok (.istore 5, 2) := by decide +kernel
theorem d_X11_boat_82 : decode cX11_boat 82 = .ok (.aload_n 0, 1) := by decide +kernel
theorem d_X11_boat_83 : decode cX11_boat 83 = .ok (.getfield 10, 3) := by decide +kernel
theorem d_X11_boat_86 : decode cX11_boat 86 = .ok (.getfield 113, 3) := by decide +kernel
theorem d_X11_boat_89 : decode cX11_boat 89 = .ok (.iload 5, 2) := by decide +kernel
theorem d_X11_boat_91 : decode cX11_boat 91 = .ok (.aaload, 1) := by decide +kernel
theorem d_X11_boat_92 : decode cX11_boat 92 = .ok (.iload_n 1, 1) := by decide +kernel
theorem d_X11_boat_93 : decode cX11_boat 93 = .ok (.iload_n 2, 1) := by decide +kernel
theorem d_X11_boat_94 : decode cX11_boat 94 = .ok (.iload_n 3, 1) := by decide +kernel
theorem d_X11_boat_95 : decode cX11_boat 95 = .ok (.iload 4, 2) := by decide +kernel
theorem d_X11_boat_97 : decode cX11_boat 97 = .ok (.invokevirtual 117, 3) := by decide +kernel
theorem d_X11_boat_100 : decode cX11_boat 100 = .ok (.aload_n 0, 1) := by decide +kernel
theorem d_X11_boat_101 : decode cX11_boat 101 = .ok (.iload 5, 2) := by decide +kernel
theorem d_X11_boat_103 : decode cX11_boat 103 = .ok (.invokevirtual 72, 3) := by decide +kernel
theorem d_X11_boat_106 : decode cX11_boat 106 = .ok (.ireturn, 1) := by decide +kernel
theorem d_X11_bale_0 : decode cX11_bale 0 = .ok (.aload_n 0, 1) := by decide +kernel
theorem d_X11_bale_1 : decode cX11_bale 1 = .ok (.getfield 10, 3) := by decide +kernel
theorem d_X11_bale_4 : decode cX11_bale 4 = .ok (.iload_n 1, 1) := by decide +kernel
theorem d_X11_bale_5 : decode cX11_bale 5 = .ok (.iload_n 2, 1) := by decide +kernel
theorem d_X11_bale_6 : decode cX11_bale 6 = .ok (.invokevirtual 120, 3) := by decide +kernel
theorem d_X11_bale_9 : decode cX11_bale 9 = .ok (.ifCond .eq 26, 3) := by decide +kernel
theorem d_X11_bale_12 : decode cX11_bale 12 = .ok (.iload_n 3, 1) := by decide +kernel
theorem d_X11_bale_13 : decode cX11_bale 13 = .ok (.iconst 1, 1) := by decide +kernel
theorem d_X11_bale_14 : decode cX11_bale 14 = .ok (.sipush 200, 3) := by decide +kernel
theorem d_X11_bale_17 : decode cX11_bale 17 = .ok (.invokestatic 51, 3) := by decide +kernel
theorem d_X11_bale_20 : decode cX11_bale 20 = .ok (.ifCond .eq 15, 3) := by decide +kernel
theorem d_X11_bale_23 : decode cX11_bale 23 = .ok (.iload 4, 2) := by decide +kernel
theorem d_X11_bale_25 : decode cX11_bale 25 = .ok (.iconst 0, 1) := by decide +kernel
theorem d_X11_bale_26 : decode cX11_bale 26 = .ok (.sipush 999, 3) := by decide +kernel
theorem d_X11_bale_29 : decode cX11_bale 29 = .ok (.invokestatic 51, 3) := by decide +kernel
theorem d_X11_bale_32 : decode cX11_bale 32 = .ok (.ifCond .ne 9, 3) := by decide +kernel
theorem d_X11_bale_35 : decode cX11_bale 35 = .ok (.aload_n 0, 1) := by decide +kernel
theorem d_X11_bale_36 : decode cX11_bale 36 = .ok (.iconst 1, 1) := by decide +kernel
theorem d_X11_bale_37 : decode cX11_bale 37 = .ok (.invokevirtual 55, 3) := by decide +kernel
theorem d_X11_bale_40 : decode cX11_bale 40 = .ok (.ireturn, 1) := by decide +kernel
theorem d_X11_bale_41 : decode cX11_bale 41 = .ok (.aload_n 0, 1) := by decide +kernel
theorem d_X11_bale_42 : decode cX11_bale 42 = .ok (.getfield 10, 3) := by decide +kernel
theorem d_X11_bale_45 : decode cX11_bale 45 = .ok (.getfield 123, 3) := by decide +kernel
theorem d_X11_bale_48 : decode cX11_bale 48 = .ok (.bipush 12, 2) := by decide +kernel
theorem d_X11_bale_50 : decode cX11_bale 50 = .ok (.if_icmp .lt 9, 3) := by decide +kernel
theorem d_X11_bale_53 : decode cX11_bale 53 = .ok (.aload_n 0, 1) := by decide +kernel
theorem d_X11_bale_54 : decode cX11_bale 54 = .ok (.iconst 2, 1) := by decide +kernel
theorem d_X11_bale_55 : decode cX11_bale 55 = .ok (.invokevirtual 55, 3) := by decide +kernel
theorem d_X11_bale_58 : decode cX11_bale 58 = .ok (.ireturn, 1) := by decide +kernel
theorem d_X11_bale_59 : decode cX11_bale 59 = .ok (.aload_n 0, 1) := by decide +kernel
theorem d_X11_bale_60 : decode cX11_bale 60 = .ok (.getfield 10, 3) := by decide +kernel
theorem d_X11_bale_63 : decode cX11_bale 63 = .ok (.dup, 1) := by decide +kernel
theorem d_X11_bale_64 : decode cX11_bale 64 = .ok (.getfield 123, 3) := by decide +kernel
theorem d_X11_bale_67 : decode cX11_bale 67 = .ok (.dup_x1, 1) := by decide +kernel
theorem d_X11_bale_68 : decode cX11_bale 68 = .ok (.iconst 1, 1) := by decide +kernel
theorem d_X11_bale_69 : decode cX11_bale 69 = .ok (.iadd, 1) := by decide +kernel
theorem d_X11_bale_70 : decode cX11_bale 70 = .ok (.putfield 123, 3) := by decide +kernel
theorem d_X11_bale_73 : decode cX11_bale 73 = .ok (.istore 5, 2) := by decide +kernel
theorem d_X11_bale_75 : decode cX11_bale 75 = .ok (.aload_n 0, 1) := by decide +kernel
theorem d_X11_bale_76 : decode cX11_bale 76 = .ok (.getfield 10, 3) := by decide +kernel
theorem d_X11_bale_79 : decode cX11_bale 79 = .ok (.getfield 126, 3) := by decide +kernel
theorem d_X11_bale_82 : decode cX11_bale 82 = .ok (.iload 5, 2) := by decide +kernel
theorem d_X11_bale_84 : decode cX11_bale 84 = .ok (.aaload, 1) := by decide +kernel
theorem d_X11_bale_85 : decode cX11_bale 85 = .ok (.iload_n 1, 1) := by decide +kernel
theorem d_X11_bale_86 : decode cX11_bale 86 = .ok (.iload_n 2, 1) := by decide +kernel
theorem d_X11_bale_87 : decode cX11_bale 87 = .ok (.iload_n 3, 1) := by decide +kernel
theorem d_X11_bale_88 : decode cX11_bale 88 = .ok (.iload 4, 2) := by decide +kernel
theorem d_X11_bale_90 : decode cX11_bale 90 = .ok (.invokevirtual 130, 3) := by decide +kernel
theorem d_X11_bale_93 : decode cX11_bale 93 = .ok (.aload_n 0, 1) := by decide +kernel
theorem d_X11_bale_94 : decode cX11_bale 94 = .ok (.iload 5, 2) := by decide +kernel
theorem d_X11_bale_96 : decode cX11_bale 96 = .ok (.invokevirtual 72, 3) := by decide +kernel
theorem d_X11_bale_99 : decode cX11_bale 99 = .ok (.ireturn, 1) := by decide +kernel
theorem d_X11_lade_0 : decode cX11_lade 0 = .ok (.aload_n 0, 1) := by decide +kernel
theorem d_X11_lade_1 : decode cX11_lade 1 = .ok (.getfield 10, 3) := by decide +kernel
theorem d_X11_lade_4 : decode cX11_lade 4 = .ok (.iload_n 1, 1) := by decide +kernel
theorem d_X11_lade_5 : decode cX11_lade 5 = .ok (.invokevirtual 133, 3) := by decide +kernel
theorem d_X11_lade_8 : decode cX11_lade 8 = .ok (.ifCond .eq 14, 3) := by decide +kernel
theorem d_X11_lade_11 : decode cX11_lade 11 = .ok (.aload_n 0, 1) := by decide +kernel
theorem d_X11_lade_12 : decode cX11_lade 12 = .ok (.getfield 10, 3) := by decide +kernel
theorem d_X11_lade_15 : decode cX11_lade 15 = .ok (.iload_n 2, 1) := by decide +kernel
theorem d_X11_lade_16 : decode cX11_lade 16 = .ok (.invokevirtual 136, 3) := by decide +kernel
theorem d_X11_lade_19 : decode cX11_lade 19 = .ok (.ifCond .ne 9, 3) := by decide +kernel
theorem d_X11_lade_22 : decode cX11_lade 22 = .ok (.aload_n 0, 1) := by decide +kernel
theorem d_X11_lade_23 : decode cX11_lade 23 = .ok (.iconst 1, 1) := by decide +kernel
theorem d_X11_lade_24 : decode cX11_lade 24 = .ok (.invokevirtual 55, 3) := by decide +kernel
theorem d_X11_lade_27 : decode cX11_lade 27 = .ok (.ireturn, 1) := by decide +kernel
theorem d_X11_lade_28 : decode cX11_lade 28 = .ok (.aload_n 0, 1) := by decide +kernel
theorem d_X11_lade_29 : decode cX11_lade 29 = .ok (.getfield 10, 3) := by decide +kernel
theorem d_X11_lade_32 : decode cX11_lade 32 = .ok (.getfield 126, 3) := by decide +kernel
theorem d_X11_lade_35 : decode cX11_lade 35 = .ok (.iload_n 1, 1) := by decide +kernel
theorem d_X11_lade_36 : decode cX11_lade 36 = .ok (.aaload, 1) := by decide +kernel
theorem d_X11_lade_37 : decode cX11_lade 37 = .ok (.astore_n 3, 1) := by decide +kernel
theorem d_X11_lade_38 : decode cX11_lade 38 = .ok (.aload_n 0, 1) := by decide +kernel
theorem d_X11_lade_39 : decode cX11_lade 39 = .ok (.getfield 10, 3) := by decide +kernel
theorem d_X11_lade_42 : decode cX11_lade 42 = .ok (.getfield 113, 3) := by decide +kernel
theorem d_X11_lade_45 : decode cX11_lade 45 = .ok (.iload_n 2, 1) := by decide +kernel
theorem d_X11_lade_46 : decode cX11_lade 46 = .ok (.aaload, 1) := by decide +kernel
theorem d_X11_lade_47 : decode cX11_lade 47 = .ok (.astore 4, 2) := by decide +kernel
theorem d_X11_lade_49 : decode cX11_lade 49 = .ok (.aload_n 3, 1) := by decide +kernel
theorem d_X11_lade_50 : decode cX11_lade 50 = .ok (.getfield 139, 3) := by decide +kernel
theorem d_X11_lade_53 : decode cX11_lade 53 = .ok (.ifCond .ne 27, 3) := by decide +kernel
theorem d_X11_lade_56 : decode cX11_lade 56 = .ok (.aload 4, 2) := by decide +kernel
theorem d_X11_lade_58 : decode cX11_lade 58 = .ok (.getfield 142, 3) := by decide +kernel
theorem d_X11_lade_61 : decode cX11_lade 61 = .ok (.ifCond .ne 19, 3) := by decide +kernel
theorem d_X11_lade_64 : decode cX11_lade 64 = .ok (.aload_n 3, 1) := by decide +kernel
theorem d_X11_lade_65 : decode cX11_lade 65 = .ok (.getfield 143, 3) := by decide +kernel
theorem d_X11_lade_68 : decode cX11_lade 68 = .ok (.aload 4, 2) := by decide +kernel
theorem d_X11_lade_70 : decode cX11_lade 70 = .ok (.getfield 146, 3) := by decide +kernel
theorem d_X11_lade_73 : decode cX11_lade 73 = .ok (.if_icmp .ne 7, 3) := by decide +kernel
theorem d_X11_lade_76 : decode cX11_lade 76 = .ok (.iconst 1, 1) := by decide +kernel
theorem d_X11_lade_77 : decode cX11_lade 77 = .ok (.goto 4, 3) := by decide +kernel
theorem d_X11_lade_80 : decode cX11_lade 80 = .ok (.iconst 0, 1) := by decide +kernel
theorem d_X11_lade_81 : decode cX11_lade 81 = .ok (.istore 5, 2) := by decide +kernel
theorem d_X11_lade_83 : decode cX11_lade 83 = .ok (.iload 5, 2) := by decide +kernel
theorem d_X11_lade_85 : decode cX11_lade 85 = .ok (.ifCond .eq 21, 3) := by decide +kernel
theorem d_X11_lade_88 : decode cX11_lade 88 = .ok (.aload 4, 2) := by decide +kernel
theorem d_X11_lade_90 : decode cX11_lade 90 = .ok (.getfield 147, 3) := by decide +kernel
theorem d_X11_lade_93 : decode cX11_lade 93 = .ok (.aload_n 3, 1) := by decide +kernel
theorem d_X11_lade_94 : decode cX11_lade 94 = .ok (.getfield 150, 3) := by decide +kernel
theorem d_X11_lade_97 : decode cX11_lade 97 = .ok (.iadd, 1) := by decide +kernel
theorem d_X11_lade_98 : decode cX11_lade 98 = .ok (.aload 4, 2) := by decide +kernel
theorem d_X11_lade_100 : decode cX11_lade 100 = .ok (.getfield 153, 3) := by decide +kernel
theorem d_X11_lade_103 : decode cX11_lade 103 = .ok (.if_icmp .le 9, 3) := by decide +kernel
theorem d_X11_lade_106 : decode cX11_lade 106 = .ok (.aload_n 0, 1) := by decide +kernel
theorem d_X11_lade_107 : decode cX11_lade 107 = .ok (.iconst 3, 1) := by decide +kernel
theorem d_X11_lade_108 : decode cX11_lade 108 = .ok (.invokevirtual 55, 3) := by decide +kernel
theorem d_X11_lade_111 : decode cX11_lade 111 = .ok (.ireturn, 1) := by decide +kernel
theorem d_X11_lade_112 : decode cX11_lade 112 = .ok (.aload_n 3, 1) := by decide +kernel
theorem d_X11_lade_113 : decode cX11_lade 113 = .ok (.iconst 1, 1) := by decide +kernel
theorem d_X11_lade_114 : decode cX11_lade 114 = .ok (.putfield 139, 3) := by decide +kernel
theorem d_X11_lade_117 : decode cX11_lade 117 = .ok (.aload_n 3, 1) := by decide +kernel
theorem d_X11_lade_118 : decode cX11_lade 118 = .ok (.iload_n 2, 1) := by decide +kernel
theorem d_X11_lade_119 : decode cX11_lade 119 = .ok (.putfield 143, 3) := by decide +kernel
theorem d_X11_lade_122 : decode cX11_lade 122 = .ok (.aload 4, 2) := by decide +kernel
theorem d_X11_lade_124 : decode cX11_lade 124 = .ok (.dup, 1) := by decide +kernel
theorem d_X11_lade_125 : decode cX11_lade 125 = .ok (.getfield 147, 3) := by decide +kernel
theorem d_X11_lade_128 : decode cX11_lade 128 = .ok (.aload_n 3, 1) := by decide +kernel
theorem d_X11_lade_129 : decode cX11_lade 129 = .ok (.getfield 150, 3) := by decide +kernel
theorem d_X11_lade_132 : decode cX11_lade 132 = .ok (.iadd, 1) := by decide +kernel
theorem d_X11_lade_133 : decode cX11_lade 133 = .ok (.putfield 147, 3) := by decide +kernel
theorem d_X11_lade_136 : decode cX11_lade 136 = .ok (.aload_n 0, 1) := by decide +kernel
theorem d_X11_lade_137 : decode cX11_lade 137 = .ok (.aload 4, 2) := by decide +kernel
theorem d_X11_lade_139 : decode cX11_lade 139 = .ok (.invokevirtual 156, 3) := by decide +kernel
theorem d_X11_lade_142 : decode cX11_lade 142 = .ok (.invokevirtual 72, 3) := by decide +kernel
theorem d_X11_lade_145 : decode cX11_lade 145 = .ok (.ireturn, 1) := by decide +kernel
theorem d_X11_land_0 : decode cX11_land 0 = .ok (.aload_n 0, 1) := by decide +kernel
theorem d_X11_land_1 : decode cX11_land 1 = .ok (.getfield 10, 3) := by decide +kernel
theorem d_X11_land_4 : decode cX11_land 4 = .ok (.iload_n 1, 1) := by decide +kernel
theorem d_X11_land_5 : decode cX11_land 5 = .ok (.invokevirtual 133, 3) := by decide +kernel
theorem d_X11_land_8 : decode cX11_land 8 = .ok (.ifCond .ne 9, 3) := by decide +kernel
theorem d_X11_land_11 : decode cX11_land 11 = .ok (.aload_n 0, 1) := by decide +kernel
theorem d_X11_land_12 : decode cX11_land 12 = .ok (.iconst 1, 1) := by decide +kernel
theorem d_X11_land_13 : decode cX11_land 13 = .ok (.invokevirtual 55, 3) := by decide +kernel
theorem d_X11_land_16 : decode cX11_land 16 = .ok (.ireturn, 1) := by decide +kernel
theorem d_X11_land_17 : decode cX11_land 17 = .ok (.aload_n 0, 1) := by decide +kernel
theorem d_X11_land_18 : decode cX11_land 18 = .ok (.getfield 10, 3) := by decide +kernel
theorem d_X11_land_21 : decode cX11_land 21 = .ok (.getfield 126, 3) := by decide +kernel
theorem d_X11_land_24 : decode cX11_land 24 = .ok (.iload_n 1, 1) := by decide +kernel
theorem d_X11_land_25 : decode cX11_land 25 = .ok (.aaload, 1) := by decide +kernel
theorem d_X11_land_26 : decode cX11_land 26 = .ok (.astore_n 2, 1) := by decide +kernel
theorem d_X11_land_27 : decode cX11_land 27 = .ok (.aload_n 0, 1) := by decide +kernel
theorem d_X11_land_28 : decode cX11_land 28 = .ok (.getfield 10, 3) := by decide +kernel
theorem d_X11_land_31 : decode cX11_land 31 = .ok (.aload_n 2, 1) := by decide +kernel
theorem d_X11_land_32 : decode cX11_land 32 = .ok (.invokevirtual 160, 3) := by decide +kernel
theorem d_X11_land_35 : decode cX11_land 35 = .ok (.astore_n 3, 1) := by decide +kernel
theorem d_X11_land_36 : decode cX11_land 36 = .ok (.aload_n 3, 1) := by decide +kernel
theorem d_X11_land_37 : decode cX11_land 37 = .ok (.ifnull 10, 3) := by decide +kernel
theorem d_X11_land_40 : decode cX11_land 40 = .ok (.aload_n 3, 1) := by decide +kernel
theorem d_X11_land_41 : decode cX11_land 41 = .ok (.getfield 142, 3) := by decide +kernel
theorem d_X11_land_44 : decode cX11_land 44 = .ok (.ifCond .eq 9, 3) := by decide +kernel
theorem d_X11_land_47 : decode cX11_land 47 = .ok (.aload_n 0, 1) := by decide +kernel
theorem d_X11_land_48 : decode cX11_land 48 = .ok (.iconst 3, 1) := by decide +kernel
theorem d_X11_land_49 : decode cX11_land 49 = .ok (.invokevirtual 55, 3) := by decide +kernel
theorem d_X11_land_52 : decode cX11_land 52 = .ok (.ireturn, 1) := by decide +kernel
theorem d_X11_land_53 : decode cX11_land 53 = .ok (.aload_n 3, 1) := by decide +kernel
theorem d_X11_land_54 : decode cX11_land 54 = .ok (.dup, 1) := by decide +kernel
theorem d_X11_land_55 : decode cX11_land 55 = .ok (.getfield 147, 3) := by decide +kernel
theorem d_X11_land_58 : decode cX11_land 58 = .ok (.aload_n 2, 1) := by decide +kernel
theorem d_X11_land_59 : decode cX11_land 59 = .ok (.getfield 150, 3) := by decide +kernel
theorem d_X11_land_62 : decode cX11_land 62 = .ok (.isub, 1) := by decide +kernel
theorem d_X11_land_63 : decode cX11_land 63 = .ok (.putfield 147, 3) := by decide +kernel
theorem d_X11_land_66 : decode cX11_land 66 = .ok (.aload_n 2, 1) := by decide +kernel
theorem d_X11_land_67 : decode cX11_land 67 = .ok (.aload_n 3, 1) := by decide +kernel
theorem d_X11_land_68 : decode cX11_land 68 = .ok (.getfield 146, 3) := by decide +kernel
theorem d_X11_land_71 : decode cX11_land 71 = .ok (.putfield 143, 3) := by decide +kernel
theorem d_X11_land_74 : decode cX11_land 74 = .ok (.aload_n 2, 1) := by decide +kernel
theorem d_X11_land_75 : decode cX11_land 75 = .ok (.iconst 0, 1) := by decide +kernel
theorem d_X11_land_76 : decode cX11_land 76 = .ok (.putfield 139, 3) := by decide +kernel
theorem d_X11_land_79 : decode cX11_land 79 = .ok (.aload_n 2, 1) := by decide +kernel
theorem d_X11_land_80 : decode cX11_land 80 = .ok (.getfield 143, 3) := by decide +kernel
theorem d_X11_land_83 : decode cX11_land 83 = .ok (.aload_n 2, 1) := by decide +kernel
theorem d_X11_land_84 : decode cX11_land 84 = .ok (.getfield 164, 3) := by decide +kernel
theorem d_X11_land_87 : decode cX11_land 87 = .ok (.if_icmp .ne 24, 3) := by decide +kernel
theorem d_X11_land_90 : decode cX11_land 90 = .ok (.aload_n 2, 1) := by decide +kernel
theorem d_X11_land_91 : decode cX11_land 91 = .ok (.iconst 2, 1) := by decide +kernel
theorem d_X11_land_92 : decode cX11_land 92 = .ok (.putfield 139, 3) := by decide +kernel
theorem d_X11_land_95 : decode cX11_land 95 = .ok (.aload_n 0, 1) := by decide +kernel
theorem d_X11_land_96 : decode cX11_land 96 = .ok (.getfield 10, 3) := by decide +kernel
theorem d_X11_land_99 : decode cX11_land 99 = .ok (.dup, 1) := by decide +kernel
theorem d_X11_land_100 : decode cX11_land 100 = .ok (.getfield 167, 3) := by decide +kernel
theorem d_X11_land_103 : decode cX11_land 103 = .ok (.aload_n 2, 1) := by decide +kernel
theorem d_X11_land_104 : decode cX11_land 104 = .ok (.getfield 170, 3) := by decide +kernel
theorem d_X11_land_107 : decode cX11_land 107 = .ok (.iadd, 1) := by decide +kernel
theorem d_X11_land_108 : decode cX11_land 108 = .ok (.putfield 167, 3) := by decide +kernel
theorem d_X11_land_111 : decode cX11_land 111 = .ok (.aload_n 0, 1) := by decide +kernel
theorem d_X11_land_112 : decode cX11_land 112 = .ok (.aload_n 2, 1) := by decide +kernel
theorem d_X11_land_113 : decode cX11_land 113 = .ok (.getfield 143, 3) := by decide +kernel
theorem d_X11_land_116 : decode cX11_land 116 = .ok (.invokevirtual 72, 3) := by decide +kernel
theorem d_X11_land_119 : decode cX11_land 119 = .ok (.ireturn, 1) := by decide +kernel
theorem d_X11_lose_0 : decode cX11_lose 0 = .ok (.aload_n 0, 1) := by decide +kernel
theorem d_X11_lose_1 : decode cX11_lose 1 = .ok (.getfield 10, 3) := by decide +kernel
theorem d_X11_lose_4 : decode cX11_lose 4 = .ok (.iload_n 1, 1) := by decide +kernel
theorem d_X11_lose_5 : decode cX11_lose 5 = .ok (.invokevirtual 133, 3) := by decide +kernel
theorem d_X11_lose_8 : decode cX11_lose 8 = .ok (.ifCond .ne 9, 3) := by decide +kernel
theorem d_X11_lose_11 : decode cX11_lose 11 = .ok (.aload_n 0, 1) := by decide +kernel
theorem d_X11_lose_12 : decode cX11_lose 12 = .ok (.iconst 1, 1) := by decide +kernel
theorem d_X11_lose_13 : decode cX11_lose 13 = .ok (.invokevirtual 55, 3) := by decide +kernel
theorem d_X11_lose_16 : decode cX11_lose 16 = .ok (.ireturn, 1) := by decide +kernel
theorem d_X11_lose_17 : decode cX11_lose 17 = .ok (.aload_n 0, 1) := by decide +kernel
theorem d_X11_lose_18 : decode cX11_lose 18 = .ok (.getfield 10, 3) := by decide +kernel
theorem d_X11_lose_21 : decode cX11_lose 21 = .ok (.getfield 126, 3) := by decide +kernel
theorem d_X11_lose_24 : decode cX11_lose 24 = .ok (.iload_n 1, 1) := by decide +kernel
theorem d_X11_lose_25 : decode cX11_lose 25 = .ok (.aaload, 1) := by decide +kernel
theorem d_X11_lose_26 : decode cX11_lose 26 = .ok (.astore_n 2, 1) := by decide +kernel
theorem d_X11_lose_27 : decode cX11_lose 27 = .ok (.aload_n 0, 1) := by decide +kernel
theorem d_X11_lose_28 : decode cX11_lose 28 = .ok (.getfield 10, 3) := by decide +kernel
theorem d_X11_lose_31 : decode cX11_lose 31 = .ok (.aload_n 2, 1) := by decide +kernel
theorem d_X11_lose_32 : decode cX11_lose 32 = .ok (.invokevirtual 160, 3) := by decide +kernel
theorem d_X11_lose_35 : decode cX11_lose 35 = .ok (.astore_n 3, 1) := by decide +kernel
theorem d_X11_lose_36 : decode cX11_lose 36 = .ok (.aload_n 3, 1) := by decide +kernel
theorem d_X11_lose_37 : decode cX11_lose 37 = .ok (.ifnonnull 9, 3) := by decide +kernel
theorem d_X11_lose_40 : decode cX11_lose 40 = .ok (.aload_n 0, 1) := by decide +kernel
theorem d_X11_lose_41 : decode cX11_lose 41 = .ok (.iconst 3, 1) := by decide +kernel
theorem d_X11_lose_42 : decode cX11_lose 42 = .ok (.invokevirtual 55, 3) := by decide +kernel
theorem d_X11_lose_45 : decode cX11_lose 45 = .ok (.ireturn, 1) := by decide +kernel
theorem d_X11_lose_46 : decode cX11_lose 46 = .ok (.aload_n 3, 1) := by decide +kernel
theorem d_X11_lose_47 : decode cX11_lose 47 = .ok (.dup, 1) := by decide +kernel
theorem d_X11_lose_48 : decode cX11_lose 48 = .ok (.getfield 147, 3) := by decide +kernel
theorem d_X11_lose_51 : decode cX11_lose 51 = .ok (.aload_n 2, 1) := by decide +kernel
theorem d_X11_lose_52 : decode cX11_lose 52 = .ok (.getfield 150, 3) := by decide +kernel
theorem d_X11_lose_55 : decode cX11_lose 55 = .ok (.isub, 1) := by decide +kernel
theorem d_X11_lose_56 : decode cX11_lose 56 = .ok (.putfield 147, 3) := by decide +kernel
theorem d_X11_lose_59 : decode cX11_lose 59 = .ok (.aload_n 2, 1) := by decide +kernel
theorem d_X11_lose_60 : decode cX11_lose 60 = .ok (.iconst 3, 1) := by decide +kernel
theorem d_X11_lose_61 : decode cX11_lose 61 = .ok (.putfield 139, 3) := by decide +kernel
theorem d_X11_lose_64 : decode cX11_lose 64 = .ok (.aload_n 2, 1) := by decide +kernel
theorem d_X11_lose_65 : decode cX11_lose 65 = .ok (.iconst (-1), 1) := by decide +kernel
theorem d_X11_lose_66 : decode cX11_lose 66 = .ok (.putfield 143, 3) := by decide +kernel
theorem d_X11_lose_69 : decode cX11_lose 69 = .ok (.aload_n 0, 1) := by decide +kernel
theorem d_X11_lose_70 : decode cX11_lose 70 = .ok (.iconst 1, 1) := by decide +kernel
theorem d_X11_lose_71 : decode cX11_lose 71 = .ok (.invokevirtual 72, 3) := by decide +kernel
theorem d_X11_lose_74 : decode cX11_lose 74 = .ok (.ireturn, 1) := by decide +kernel
theorem d_X11_leave_0 : decode cX11_leave 0 = .ok (.aload_n 0, 1) := by decide +kernel
theorem d_X11_leave_1 : decode cX11_leave 1 = .ok (.getfield 10, 3) := by decide +kernel
theorem d_X11_leave_4 : decode cX11_leave 4 = .ok (.iload_n 1, 1) := by decide +kernel
theorem d_X11_leave_5 : decode cX11_leave 5 = .ok (.invokevirtual 136, 3) := by decide +kernel
theorem d_X11_leave_8 : decode cX11_leave 8 = .ok (.ifCond .ne 9, 3) := by decide +kernel
theorem d_X11_leave_11 : decode cX11_leave 11 = .ok (.aload_n 0, 1) := by decide +kernel
theorem d_X11_leave_12 : decode cX11_leave 12 = .ok (.iconst 1, 1) := by decide +kernel
theorem d_X11_leave_13 : decode cX11_leave 13 = .ok (.invokevirtual 55, 3) := by decide +kernel
theorem d_X11_leave_16 : decode cX11_leave 16 = .ok (.ireturn, 1) := by decide +kernel
theorem d_X11_leave_17 : decode cX11_leave 17 = .ok (.aload_n 0, 1) := by decide +kernel
theorem d_X11_leave_18 : decode cX11_leave 18 = .ok (.getfield 10, 3) := by decide +kernel
theorem d_X11_leave_21 : decode cX11_leave 21 = .ok (.getfield 113, 3) := by decide +kernel
theorem d_X11_leave_24 : decode cX11_leave 24 = .ok (.iload_n 1, 1) := by decide +kernel
theorem d_X11_leave_25 : decode cX11_leave 25 = .ok (.aaload, 1) := by decide +kernel
theorem d_X11_leave_26 : decode cX11_leave 26 = .ok (.astore_n 3, 1) := by decide +kernel
theorem d_X11_leave_27 : decode cX11_leave 27 = .ok (.aload_n 0, 1) := by decide +kernel
theorem d_X11_leave_28 : decode cX11_leave 28 = .ok (.getfield 10, 3) := by decide +kernel
theorem d_X11_leave_31 : decode cX11_leave 31 = .ok (.aload_n 3, 1) := by decide +kernel
theorem d_X11_leave_32 : decode cX11_leave 32 = .ok (.iload_n 2, 1) := by decide +kernel
theorem d_X11_leave_33 : decode cX11_leave 33 = .ok (.invokevirtual 173, 3) := by decide +kernel
theorem d_X11_leave_36 : decode cX11_leave 36 = .ok (.istore 4, 2) := by decide +kernel
theorem d_X11_leave_38 : decode cX11_leave 38 = .ok (.iload 4, 2) := by decide +kernel
theorem d_X11_leave_40 : decode cX11_leave 40 = .ok (.ifCond .eq 13, 3) := by decide +kernel
theorem d_X11_leave_43 : decode cX11_leave 43 = .ok (.aload_n 0, 1) := by decide +kernel
theorem d_X11_leave_44 : decode cX11_leave 44 = .ok (.bipush 20, 2) := by decide +kernel
theorem d_X11_leave_46 : decode cX11_leave 46 = .ok (.iload 4, 2) := by decide +kernel
theorem d_X11_leave_48 : decode cX11_leave 48 = .ok (.iadd, 1) := by decide +kernel
theorem d_X11_leave_49 : decode cX11_leave 49 = .ok (.invokevirtual 55, 3) := by decide +kernel
theorem d_X11_leave_52 : decode cX11_leave 52 = .ok (.ireturn, 1) := by decide +kernel
theorem d_X11_leave_53 : decode cX11_leave 53 = .ok (.aload_n 0, 1) := by decide +kernel
theorem d_X11_leave_54 : decode cX11_leave 54 = .ok (.aload_n 0, 1) := by decide +kernel
theorem d_X11_leave_55 : decode cX11_leave 55 = .ok (.getfield 10, 3) := by decide +kernel
theorem d_X11_leave_58 : decode cX11_leave 58 = .ok (.aload_n 3, 1) := by decide +kernel
theorem d_X11_leave_59 : decode cX11_leave 59 = .ok (.iload_n 2, 1) := by decide +kernel
theorem d_X11_leave_60 : decode cX11_leave 60 = .ok (.invokevirtual 177, 3) := by decide +kernel
theorem d_X11_leave_63 : decode cX11_leave 63 = .ok (.invokevirtual 72, 3) := by decide +kernel
theorem d_X11_leave_66 : decode cX11_leave 66 = .ok (.ireturn, 1) := by decide +kernel
theorem d_X11_off_0 : decode cX11_off 0 = .ok (.aload_n 0, 1) := by decide +kernel
theorem d_X11_off_1 : decode cX11_off 1 = .ok (.getfield 10, 3) := by decide +kernel
theorem d_X11_off_4 : decode cX11_off 4 = .ok (.iload_n 1, 1) := by decide +kernel
theorem d_X11_off_5 : decode cX11_off 5 = .ok (.invokevirtual 136, 3) := by decide +kernel
theorem d_X11_off_8 : decode cX11_off 8 = .ok (.ifCond .ne 9, 3) := by decide +kernel
theorem d_X11_off_11 : decode cX11_off 11 = .ok (.aload_n 0, 1) := by decide +kernel
theorem d_X11_off_12 : decode cX11_off 12 = .ok (.iconst 1, 1) := by decide +kernel
theorem d_X11_off_13 : decode cX11_off 13 = .ok (.invokevirtual 55, 3) := by decide +kernel
theorem d_X11_off_16 : decode cX11_off 16 = .ok (.ireturn, 1) := by decide +kernel
theorem d_X11_off_17 : decode cX11_off 17 = .ok (.aload_n 0, 1) := by decide +kernel
theorem d_X11_off_18 : decode cX11_off 18 = .ok (.getfield 10, 3) := by decide +kernel
theorem d_X11_off_21 : decode cX11_off 21 = .ok (.getfield 113, 3) := by decide +kernel
theorem d_X11_off_24 : decode cX11_off 24 = .ok (.iload_n 1, 1) := by decide +kernel
theorem d_X11_off_25 : decode cX11_off 25 = .ok (.aaload, 1) := by decide +kernel
theorem d_X11_off_26 : decode cX11_off 26 = .ok (.astore_n 2, 1) := by decide +kernel
theorem d_X11_off_27 : decode cX11_off 27 = .ok (.aload_n 2, 1) := by decide +kernel
theorem d_X11_off_28 : decode cX11_off 28 = .ok (.getfield 142, 3) := by decide +kernel
theorem d_X11_off_31 : decode cX11_off 31 = .ok (.iconst 3, 1) := by decide +kernel
theorem d_X11_off_32 : decode cX11_off 32 = .ok (.if_icmp .ne 28, 3) := by decide +kernel
theorem d_X11_off_35 : decode cX11_off 35 = .ok (.aload_n 2, 1) := by decide +kernel
theorem d_X11_off_36 : decode cX11_off 36 = .ok (.invokevirtual 156, 3) := by decide +kernel
theorem d_X11_off_39 : decode cX11_off 39 = .ok (.aload_n 0, 1) := by decide +kernel
theorem d_X11_off_40 : decode cX11_off 40 = .ok (.getfield 10, 3) := by decide +kernel
theorem d_X11_off_43 : decode cX11_off 43 = .ok (.aload_n 2, 1) := by decide +kernel
theorem d_X11_off_44 : decode cX11_off 44 = .ok (.getfield 146, 3) := by decide +kernel
theorem d_X11_off_47 : decode cX11_off 47 = .ok (.aload_n 0, 1) := by decide +kernel
theorem d_X11_off_48 : decode cX11_off 48 = .ok (.getfield 10, 3) := by decide +kernel
theorem d_X11_off_51 : decode cX11_off 51 = .ok (.invokevirtual 180, 3) := by decide +kernel
theorem d_X11_off_54 : decode cX11_off 54 = .ok (.invokevirtual 183, 3) := by decide +kernel
theorem d_X11_off_57 : decode cX11_off 57 = .ok (.if_icmp .le 9, 3) := by decide +kernel
theorem d_X11_off_60 : decode cX11_off 60 = .ok (.aload_n 0, 1) := by decide +kernel
theorem d_X11_off_61 : decode cX11_off 61 = .ok (.iconst 3, 1) := by decide +kernel
theorem d_X11_off_62 : decode cX11_off 62 = .ok (.invokevirtual 55, 3) := by decide +kernel
theorem d_X11_off_65 : decode cX11_off 65 = .ok (.ireturn, 1) := by decide +kernel
theorem d_X11_off_66 : decode cX11_off 66 = .ok (.aload_n 0, 1) := by decide +kernel
theorem d_X11_off_67 : decode cX11_off 67 = .ok (.getfield 10, 3) := by decide +kernel
theorem d_X11_off_70 : decode cX11_off 70 = .ok (.aload_n 2, 1) := by decide +kernel
theorem d_X11_off_71 : decode cX11_off 71 = .ok (.aload_n 2, 1) := by decide +kernel
theorem d_X11_off_72 : decode cX11_off 72 = .ok (.getfield 187, 3) := by decide +kernel
theorem d_X11_off_75 : decode cX11_off 75 = .ok (.invokevirtual 190, 3) := by decide +kernel
theorem d_X11_off_78 : decode cX11_off 78 = .ok (.aload_n 0, 1) := by decide +kernel
theorem d_X11_off_79 : decode cX11_off 79 = .ok (.aload_n 2, 1) := by decide +kernel
theorem d_X11_off_80 : decode cX11_off 80 = .ok (.getfield 146, 3) := by decide +kernel
theorem d_X11_off_83 : decode cX11_off 83 = .ok (.invokevirtual 72, 3) := by decide +kernel
theorem d_X11_off_86 : decode cX11_off 86 = .ok (.ireturn, 1) := by decide +kernel
theorem d_X11_go_0 : decode cX11_go 0 = .ok (.iload_n 1, 1) := by decide +kernel
theorem d_X11_go_1 : decode cX11_go 1 = .ok (.iconst 1, 1) := by decide +kernel
theorem d_X11_go_2 : decode cX11_go 2 = .ok (.sipush 200, 3) := by decide +kernel
theorem d_X11_go_5 : decode cX11_go 5 = .ok (.invokestatic 51, 3) := by decide +kernel
theorem d_X11_go_8 : decode cX11_go 8 = .ok (.ifCond .ne 9, 3) := by decide +kernel
theorem d_X11_go_11 : decode cX11_go 11 = .ok (.aload_n 0, 1) := by decide +kernel
theorem d_X11_go_12 : decode cX11_go 12 = .ok (.iconst 1, 1) := by decide +kernel
theorem d_X11_go_13 : decode cX11_go 13 = .ok (.invokevirtual 55, 3) := by decide +kernel
theorem d_X11_go_16 : decode cX11_go 16 = .ok (.ireturn, 1) := by decide +kernel
theorem d_X11_go_17 : decode cX11_go 17 = .ok (.aload_n 0, 1) := by decide +kernel
theorem d_X11_go_18 : decode cX11_go 18 = .ok (.getfield 10, 3) := by decide +kernel
theorem d_X11_go_21 : decode cX11_go 21 = .ok (.getfield 194, 3) := by decide +kernel
theorem d_X11_go_24 : decode cX11_go 24 = .ok (.iload_n 1, 1) := by decide +kernel
theorem d_X11_go_25 : decode cX11_go 25 = .ok (.iadd, 1) := by decide +kernel
theorem d_X11_go_26 : decode cX11_go 26 = .ok (.sipush 9599, 3) := by decide +kernel
theorem d_X11_go_29 : decode cX11_go 29 = .ok (.if_icmp .le 9, 3) := by decide +kernel
theorem d_X11_go_32 : decode cX11_go 32 = .ok (.aload_n 0, 1) := by decide +kernel
theorem d_X11_go_33 : decode cX11_go 33 = .ok (.iconst 2, 1) := by decide +kernel
theorem d_X11_go_34 : decode cX11_go 34 = .ok (.invokevirtual 55, 3) := by decide +kernel
theorem d_X11_go_37 : decode cX11_go 37 = .ok (.ireturn, 1) := by decide +kernel
theorem d_X11_go_38 : decode cX11_go 38 = .ok (.iconst 0, 1) := by decide +kernel
theorem d_X11_go_39 : decode cX11_go 39 = .ok (.istore_n 2, 1) := by decide +kernel
theorem d_X11_go_40 : decode cX11_go 40 = .ok (.iload_n 2, 1) := by decide +kernel
theorem d_X11_go_41 : decode cX11_go 41 = .ok (.iload_n 1, 1) := by decide +kernel
theorem d_X11_go_42 : decode cX11_go 42 = .ok (.if_icmp .ge 16, 3) := by decide +kernel
theorem d_X11_go_45 : decode cX11_go 45 = .ok (.aload_n 0, 1) := by decide +kernel
theorem d_X11_go_46 : decode cX11_go 46 = .ok (.getfield 10, 3) := by decide +kernel
theorem d_X11_go_49 : decode cX11_go 49 = .ok (.invokevirtual 197, 3) := by decide +kernel
theorem d_X11_go_52 : decode cX11_go 52 = .ok (.iinc 2 1, 3) := by decide +kernel
theorem d_X11_go_55 : decode cX11_go 55 = .ok (.goto (-15), 3) := by decide +kernel
theorem d_X11_go_58 : decode cX11_go 58 = .ok (.aload_n 0, 1) := by decide +kernel
theorem d_X11_go_59 : decode cX11_go 59 = .ok (.aload_n 0, 1) := by decide +kernel
theorem d_X11_go_60 : decode cX11_go 60 = .ok (.getfield 10, 3) := by decide +kernel
theorem d_X11_go_63 : decode cX11_go 63 = .ok (.getfield 194, 3) := by decide +kernel
theorem d_X11_go_66 : decode cX11_go 66 = .ok (.invokevirtual 72, 3) := by decide +kernel
theorem d_X11_go_69 : decode cX11_go 69 = .ok (.ireturn, 1) := by decide +kernel
theorem d_X11_yard_0 : decode cX11_yard 0 = .ok (.aload_n 0, 1) := by decide +kernel
theorem d_X11_yard_1 : decode cX11_yard 1 = .ok (.getfield 10, 3) := by decide +kernel
theorem d_X11_yard_4 : decode cX11_yard 4 = .ok (.iload_n 1, 1) := by decide +kernel
theorem d_X11_yard_5 : decode cX11_yard 5 = .ok (.invokevirtual 107, 3) := by decide +kernel
theorem d_X11_yard_8 : decode cX11_yard 8 = .ok (.ifCond .eq 13, 3) := by decide +kernel
theorem d_X11_yard_11 : decode cX11_yard 11 = .ok (.iload_n 2, 1) := by decide +kernel
theorem d_X11_yard_12 : decode cX11_yard 12 = .ok (.iconst 0, 1) := by decide +kernel
theorem d_X11_yard_13 : decode cX11_yard 13 = .ok (.bipush 99, 2) := by decide +kernel
theorem d_X11_yard_15 : decode cX11_yard 15 = .ok (.invokestatic 51, 3) := by decide +kernel
theorem d_X11_yard_18 : decode cX11_yard 18 = .ok (.ifCond .ne 9, 3) := by decide +kernel
theorem d_X11_yard_21 : decode cX11_yard 21 = .ok (.aload_n 0, 1) := by decide +kernel
theorem d_X11_yard_22 : decode cX11_yard 22 = .ok (.iconst 1, 1) := by decide +kernel
theorem d_X11_yard_23 : decode cX11_yard 23 = .ok (.invokevirtual 55, 3) := by decide +kernel
theorem d_X11_yard_26 : decode cX11_yard 26 = .ok (.ireturn, 1) := by decide +kernel
theorem d_X11_yard_27 : decode cX11_yard 27 = .ok (.aload_n 0, 1) := by decide +kernel
theorem d_X11_yard_28 : decode cX11_yard 28 = .ok (.getfield 10, 3) := by decide +kernel
theorem d_X11_yard_31 : decode cX11_yard 31 = .ok (.getfield 200, 3) := by decide +kernel
theorem d_X11_yard_34 : decode cX11_yard 34 = .ok (.iload_n 1, 1) := by decide +kernel
theorem d_X11_yard_35 : decode cX11_yard 35 = .ok (.aaload, 1) := by decide +kernel
theorem d_X11_yard_36 : decode cX11_yard 36 = .ok (.astore_n 3, 1) := by decide +kernel
theorem d_X11_yard_37 : decode cX11_yard 37 = .ok (.aload_n 3, 1) := by decide +kernel
theorem d_X11_yard_38 : decode cX11_yard 38 = .ok (.getfield 204, 3) := by decide +kernel
theorem d_X11_yard_41 : decode cX11_yard 41 = .ok (.istore 4, 2) := by decide +kernel
theorem d_X11_yard_43 : decode cX11_yard 43 = .ok (.aload_n 3, 1) := by decide +kernel
theorem d_X11_yard_44 : decode cX11_yard 44 = .ok (.iload_n 2, 1) := by decide +kernel
theorem d_X11_yard_45 : decode cX11_yard 45 = .ok (.putfield 204, 3) := by decide +kernel
theorem d_X11_yard_48 : decode cX11_yard 48 = .ok (.aload_n 0, 1) := by decide +kernel
theorem d_X11_yard_49 : decode cX11_yard 49 = .ok (.iload 4, 2) := by decide +kernel
theorem d_X11_yard_51 : decode cX11_yard 51 = .ok (.invokevirtual 72, 3) := by decide +kernel
theorem d_X11_yard_54 : decode cX11_yard 54 = .ok (.ireturn, 1) := by decide +kernel
theorem d_X11_wood_0 : decode cX11_wood 0 = .ok (.aload_n 0, 1) := by decide +kernel
theorem d_X11_wood_1 : decode cX11_wood 1 = .ok (.getfield 10, 3) := by decide +kernel
theorem d_X11_wood_4 : decode cX11_wood 4 = .ok (.iload_n 1, 1) := by decide +kernel
theorem d_X11_wood_5 : decode cX11_wood 5 = .ok (.invokevirtual 136, 3) := by decide +kernel
theorem d_X11_wood_8 : decode cX11_wood 8 = .ok (.ifCond .eq 13, 3) := by decide +kernel
theorem d_X11_wood_11 : decode cX11_wood 11 = .ok (.iload_n 2, 1) := by decide +kernel
theorem d_X11_wood_12 : decode cX11_wood 12 = .ok (.iconst 1, 1) := by decide +kernel
theorem d_X11_wood_13 : decode cX11_wood 13 = .ok (.bipush 99, 2) := by decide +kernel
theorem d_X11_wood_15 : decode cX11_wood 15 = .ok (.invokestatic 51, 3) := by decide +kernel
theorem d_X11_wood_18 : decode cX11_wood 18 = .ok (.ifCond .ne 9, 3) := by decide +kernel
theorem d_X11_wood_21 : decode cX11_wood 21 = .ok (.aload_n 0, 1) := by decide +kernel
theorem d_X11_wood_22 : decode cX11_wood 22 = .ok (.iconst 1, 1) := by decide +kernel
theorem d_X11_wood_23 : decode cX11_wood 23 = .ok (.invokevirtual 55, 3) := by decide +kernel
theorem d_X11_wood_26 : decode cX11_wood 26 = .ok (.ireturn, 1) := by decide +kernel
theorem d_X11_wood_27 : decode cX11_wood 27 = .ok (.aload_n 0, 1) := by decide +kernel
theorem d_X11_wood_28 : decode cX11_wood 28 = .ok (.getfield 10, 3) := by decide +kernel
theorem d_X11_wood_31 : decode cX11_wood 31 = .ok (.getfield 113, 3) := by decide +kernel
theorem d_X11_wood_34 : decode cX11_wood 34 = .ok (.iload_n 1, 1) := by decide +kernel
theorem d_X11_wood_35 : decode cX11_wood 35 = .ok (.aaload, 1) := by decide +kernel
theorem d_X11_wood_36 : decode cX11_wood 36 = .ok (.astore_n 3, 1) := by decide +kernel
theorem d_X11_wood_37 : decode cX11_wood 37 = .ok (.aload_n 3, 1) := by decide +kernel
theorem d_X11_wood_38 : decode cX11_wood 38 = .ok (.getfield 142, 3) := by decide +kernel
theorem d_X11_wood_41 : decode cX11_wood 41 = .ok (.ifCond .ne 25, 3) := by decide +kernel
theorem d_X11_wood_44 : decode cX11_wood 44 = .ok (.aload_n 0, 1) := by decide +kernel
theorem d_X11_wood_45 : decode cX11_wood 45 = .ok (.getfield 10, 3) := by decide +kernel
theorem d_X11_wood_48 : decode cX11_wood 48 = .ok (.getfield 200, 3) := by decide +kernel
theorem d_X11_wood_51 : decode cX11_wood 51 = .ok (.aload_n 3, 1) := by decide +kernel
theorem d_X11_wood_52 : decode cX11_wood 52 = .ok (.getfield 146, 3) := by decide +kernel
theorem d_X11_wood_55 : decode cX11_wood 55 = .ok (.aaload, 1) := by decide +kernel
theorem d_X11_wood_56 : decode cX11_wood 56 = .ok (.getfield 204, 3) := by decide +kernel
theorem d_X11_wood_59 : decode cX11_wood 59 = .ok (.ifCond .le 7, 3) := by decide +kernel
theorem d_X11_wood_62 : decode cX11_wood 62 = .ok (.iconst 1, 1) := by decide +kernel
theorem d_X11_wood_63 : decode cX11_wood 63 = .ok (.goto 4, 3) := by decide +kernel
theorem d_X11_wood_66 : decode cX11_wood 66 = .ok (.iconst 0, 1) := by decide +kernel
theorem d_X11_wood_67 : decode cX11_wood 67 = .ok (.istore 4, 2) := by decide +kernel
theorem d_X11_wood_69 : decode cX11_wood 69 = .ok (.iload 4, 2) := by decide +kernel
theorem d_X11_wood_71 : decode cX11_wood 71 = .ok (.ifCond .eq 16, 3) := by decide +kernel
theorem d_X11_wood_74 : decode cX11_wood 74 = .ok (.aload_n 3, 1) := by decide +kernel
theorem d_X11_wood_75 : decode cX11_wood 75 = .ok (.getfield 209, 3) := by decide +kernel
theorem d_X11_wood_78 : decode cX11_wood 78 = .ok (.iload_n 2, 1) := by decide +kernel
theorem d_X11_wood_79 : decode cX11_wood 79 = .ok (.iadd, 1) := by decide +kernel
theorem d_X11_wood_80 : decode cX11_wood 80 = .ok (.aload_n 3, 1) := by decide +kernel
theorem d_X11_wood_81 : decode cX11_wood 81 = .ok (.getfield 212, 3) := by decide +kernel
theorem d_X11_wood_84 : decode cX11_wood 84 = .ok (.if_icmp .le 9, 3) := by decide +kernel
theorem d_X11_wood_87 : decode cX11_wood 87 = .ok (.aload_n 0, 1) := by decide +kernel
theorem d_X11_wood_88 : decode cX11_wood 88 = .ok (.iconst 3, 1) := by decide +kernel
theorem d_X11_wood_89 : decode cX11_wood 89 = .ok (.invokevirtual 55, 3) := by decide +kernel
theorem d_X11_wood_92 : decode cX11_wood 92 = .ok (.ireturn, 1) := by decide +kernel
theorem d_X11_wood_93 : decode cX11_wood 93 = .ok (.aload_n 3, 1) := by decide +kernel
theorem d_X11_wood_94 : decode cX11_wood 94 = .ok (.dup, 1) := by decide +kernel
theorem d_X11_wood_95 : decode cX11_wood 95 = .ok (.getfield 209, 3) := by decide +kernel
theorem d_X11_wood_98 : decode cX11_wood 98 = .ok (.iload_n 2, 1) := by decide +kernel
theorem d_X11_wood_99 : decode cX11_wood 99 = .ok (.iadd, 1) := by decide +kernel
theorem d_X11_wood_100 : decode cX11_wood 100 = .ok (.putfield 209, 3) := by decide +kernel
theorem d_X11_wood_103 : decode cX11_wood 103 = .ok (.aload_n 0, 1) := by decide +kernel
theorem d_X11_wood_104 : decode cX11_wood 104 = .ok (.aload_n 3, 1) := by decide +kernel
theorem d_X11_wood_105 : decode cX11_wood 105 = .ok (.getfield 209, 3) := by decide +kernel
theorem d_X11_wood_108 : decode cX11_wood 108 = .ok (.invokevirtual 72, 3) := by decide +kernel
theorem d_X11_wood_111 : decode cX11_wood 111 = .ok (.ireturn, 1) := by decide +kernel
theorem d_X11_trip_0 : decode cX11_trip 0 = .ok (.aload_n 0, 1) := by decide +kernel
theorem d_X11_trip_1 : decode cX11_trip 1 = .ok (.getfield 10, 3) := by decide +kernel
theorem d_X11_trip_4 : decode cX11_trip 4 = .ok (.iload_n 1, 1) := by decide +kernel
theorem d_X11_trip_5 : decode cX11_trip 5 = .ok (.iload_n 2, 1) := by decide +kernel
theorem d_X11_trip_6 : decode cX11_trip 6 = .ok (.invokevirtual 120, 3) := by decide +kernel
theorem d_X11_trip_9 : decode cX11_trip 9 = .ok (.ifCond .eq 13, 3) := by decide +kernel
theorem d_X11_trip_12 : decode cX11_trip 12 = .ok (.iload_n 3, 1) := by decide +kernel
theorem d_X11_trip_13 : decode cX11_trip 13 = .ok (.iconst 0, 1) := by decide +kernel
theorem d_X11_trip_14 : decode cX11_trip 14 = .ok (.bipush 9, 2) := by decide +kernel
theorem d_X11_trip_16 : decode cX11_trip 16 = .ok (.invokestatic 51, 3) := by decide +kernel
theorem d_X11_trip_19 : decode cX11_trip 19 = .ok (.ifCond .ne 9, 3) := by decide +kernel
theorem d_X11_trip_22 : decode cX11_trip 22 = .ok (.aload_n 0, 1) := by decide +kernel
theorem d_X11_trip_23 : decode cX11_trip 23 = .ok (.iconst 1, 1) := by decide +kernel
theorem d_X11_trip_24 : decode cX11_trip 24 = .ok (.invokevirtual 55, 3) := by decide +kernel
theorem d_X11_trip_27 : decode cX11_trip 27 = .ok (.ireturn, 1) := by decide +kernel
theorem d_X11_trip_28 : decode cX11_trip 28 = .ok (.aload_n 0, 1) := by decide +kernel
theorem d_X11_trip_29 : decode cX11_trip 29 = .ok (.getfield 10, 3) := by decide +kernel
theorem d_X11_trip_32 : decode cX11_trip 32 = .ok (.getfield 215, 3) := by decide +kernel
theorem d_X11_trip_35 : decode cX11_trip 35 = .ok (.bipush 6, 2) := by decide +kernel
theorem d_X11_trip_37 : decode cX11_trip 37 = .ok (.if_icmp .lt 9, 3) := by decide +kernel
theorem d_X11_trip_40 : decode cX11_trip 40 = .ok (.aload_n 0, 1) := by decide +kernel
theorem d_X11_trip_41 : decode cX11_trip 41 = .ok (.iconst 2, 1) := by decide +kernel
theorem d_X11_trip_42 : decode cX11_trip 42 = .ok (.invokevirtual 55, 3) := by decide +kernel
theorem d_X11_trip_45 : decode cX11_trip 45 = .ok (.ireturn, 1) := by decide +kernel
theorem d_X11_trip_46 : decode cX11_trip 46 = .ok (.aload_n 0, 1) := by decide +kernel
theorem d_X11_trip_47 : decode cX11_trip 47 = .ok (.getfield 10, 3) := by decide +kernel
theorem d_X11_trip_50 : decode cX11_trip 50 = .ok (.dup, 1) := by decide +kernel
theorem d_X11_trip_51 : decode cX11_trip 51 = .ok (.getfield 215, 3) := by decide +kernel
theorem d_X11_trip_54 : decode cX11_trip 54 = .ok (.dup_x1, 1) := by decide +kernel
theorem d_X11_trip_55 : decode cX11_trip 55 = .ok (.iconst 1, 1) := by decide +kernel
theorem d_X11_trip_56 : decode cX11_trip 56 = .ok (.iadd, 1) := by decide +kernel
theorem d_X11_trip_57 : decode cX11_trip 57 = .ok (.putfield 215, 3) := by decide +kernel
theorem d_X11_trip_60 : decode cX11_trip 60 = .ok (.istore 4, 2) := by decide +kernel
theorem d_X11_trip_62 : decode cX11_trip 62 = .ok (.aload_n 0, 1) := by decide +kernel
theorem d_X11_trip_63 : decode cX11_trip 63 = .ok (.getfield 10, 3) := by decide +kernel
theorem d_X11_trip_66 : decode cX11_trip 66 = .ok (.getfield 218, 3) := by decide +kernel
theorem d_X11_trip_69 : decode cX11_trip 69 = .ok (.iload 4, 2) := by decide +kernel
theorem d_X11_trip_71 : decode cX11_trip 71 = .ok (.aaload, 1) := by decide +kernel
theorem d_X11_trip_72 : decode cX11_trip 72 = .ok (.iload_n 1, 1) := by decide +kernel
theorem d_X11_trip_73 : decode cX11_trip 73 = .ok (.iload_n 2, 1) := by decide +kernel
theorem d_X11_trip_74 : decode cX11_trip 74 = .ok (.iload_n 3, 1) := by decide +kernel
theorem d_X11_trip_75 : decode cX11_trip 75 = .ok (.invokevirtual 222, 3) := by decide +kernel
theorem d_X11_trip_78 : decode cX11_trip 78 = .ok (.aload_n 0, 1) := by decide +kernel
theorem d_X11_trip_79 : decode cX11_trip 79 = .ok (.iload 4, 2) := by decide +kernel
theorem d_X11_trip_81 : decode cX11_trip 81 = .ok (.invokevirtual 72, 3) := by decide +kernel
theorem d_X11_trip_84 : decode cX11_trip 84 = .ok (.ireturn, 1) := by decide +kernel
theorem d_X11_rule_0 : decode cX11_rule 0 = .ok (.iload_n 1, 1) := by decide +kernel
theorem d_X11_rule_1 : decode cX11_rule 1 = .ok (.iconst 0, 1) := by decide +kernel
theorem d_X11_rule_2 : decode cX11_rule 2 = .ok (.iconst 5, 1) := by decide +kernel
theorem d_X11_rule_3 : decode cX11_rule 3 = .ok (.invokestatic 51, 3) := by decide +kernel
theorem d_X11_rule_6 : decode cX11_rule 6 = .ok (.ifCond .eq 16, 3) := by decide +kernel
theorem d_X11_rule_9 : decode cX11_rule 9 = .ok (.iload_n 2, 1) := by decide +kernel
theorem d_X11_rule_10 : decode cX11_rule 10 = .ok (.iconst 0, 1) := by decide +kernel
theorem d_X11_rule_11 : decode cX11_rule 11 = .ok (.iconst 2, 1) := by decide +kernel
theorem d_X11_rule_12 : decode cX11_rule 12 = .ok (.invokestatic 51, 3) := by decide +kernel
theorem d_X11_rule_15 : decode cX11_rule 15 = .ok (.ifCond .eq 7, 3) := by decide +kernel
theorem d_X11_rule_18 : decode cX11_rule 18 = .ok (.iconst 1, 1) := by decide +kernel
theorem d_X11_rule_19 : decode cX11_rule 19 = .ok (.goto 4, 3) := by decide +kernel
theorem d_X11_rule_22 : decode cX11_rule 22 = .ok (.iconst 0, 1) := by decide +kernel
theorem d_X11_rule_23 : decode cX11_rule 23 = .ok (.istore 4, 2) := by decide +kernel
theorem d_X11_rule_25 : decode cX11_rule 25 = .ok (.iload 4, 2) := by decide +kernel
theorem d_X11_rule_27 : decode cX11_rule 27 = .ok (.ifCond .eq 25, 3) := by decide +kernel
theorem d_X11_rule_30 : decode cX11_rule 30 = .ok (.iload_n 3, 1) := by decide +kernel
theorem d_X11_rule_31 : decode cX11_rule 31 = .ok (.iconst 0, 1) := by decide +kernel
theorem d_X11_rule_32 : decode cX11_rule 32 = .ok (.sipush 9999, 3) := by decide +kernel
theorem d_X11_rule_35 : decode cX11_rule 35 = .ok (.invokestatic 51, 3) := by decide +kernel
theorem d_X11_rule_38 : decode cX11_rule 38 = .ok (.ifCond .eq 14, 3) := by decide +kernel
theorem d_X11_rule_41 : decode cX11_rule 41 = .ok (.iload_n 3, 1) := by decide +kernel
theorem d_X11_rule_42 : decode cX11_rule 42 = .ok (.bipush 100, 2) := by decide +kernel
theorem d_X11_rule_44 : decode cX11_rule 44 = .ok (.irem, 1) := by decide +kernel
theorem d_X11_rule_45 : decode cX11_rule 45 = .ok (.iload_n 3, 1) := by decide +kernel
theorem d_X11_rule_46 : decode cX11_rule 46 = .ok (.bipush 100, 2) := by decide +kernel
theorem d_X11_rule_48 : decode cX11_rule 48 = .ok (.idiv, 1) := by decide +kernel
theorem d_X11_rule_49 : decode cX11_rule 49 = .ok (.if_icmp .ge 9, 3) := by decide +kernel
theorem d_X11_rule_52 : decode cX11_rule 52 = .ok (.aload_n 0, 1) := by decide +kernel
theorem d_X11_rule_53 : decode cX11_rule 53 = .ok (.iconst 1, 1) := by decide +kernel
theorem d_X11_rule_54 : decode cX11_rule 54 = .ok (.invokevirtual 55, 3) := by decide +kernel
theorem d_X11_rule_57 : decode cX11_rule 57 = .ok (.ireturn, 1) := by decide +kernel
theorem d_X11_rule_58 : decode cX11_rule 58 = .ok (.aload_n 0, 1) := by decide +kernel
theorem d_X11_rule_59 : decode cX11_rule 59 = .ok (.getfield 10, 3) := by decide +kernel
theorem d_X11_rule_62 : decode cX11_rule 62 = .ok (.getfield 227, 3) := by decide +kernel
theorem d_X11_rule_65 : decode cX11_rule 65 = .ok (.bipush 8, 2) := by decide +kernel
theorem d_X11_rule_67 : decode cX11_rule 67 = .ok (.if_icmp .lt 9, 3) := by decide +kernel
theorem d_X11_rule_70 : decode cX11_rule 70 = .ok (.aload_n 0, 1) := by decide +kernel
theorem d_X11_rule_71 : decode cX11_rule 71 = .ok (.iconst 2, 1) := by decide +kernel
theorem d_X11_rule_72 : decode cX11_rule 72 = .ok (.invokevirtual 55, 3) := by decide +kernel
theorem d_X11_rule_75 : decode cX11_rule 75 = .ok (.ireturn, 1) := by decide +kernel
theorem d_X11_rule_76 : decode cX11_rule 76 = .ok (.aload_n 0, 1) := by decide +kernel
theorem d_X11_rule_77 : decode cX11_rule 77 = .ok (.getfield 10, 3) := by decide +kernel
theorem d_X11_rule_80 : decode cX11_rule 80 = .ok (.dup, 1) := by decide +kernel
theorem d_X11_rule_81 : decode cX11_rule 81 = .ok (.getfield 227, 3) := by decide +kernel
theorem d_X11_rule_84 : decode cX11_rule 84 = .ok (.dup_x1, 1) := by decide +kernel
theorem d_X11_rule_85 : decode cX11_rule 85 = .ok (.iconst 1, 1) := by decide +kernel
theorem d_X11_rule_86 : decode cX11_rule 86 = .ok (.iadd, 1) := by decide +kernel
theorem d_X11_rule_87 : decode cX11_rule 87 = .ok (.putfield 227, 3) := by decide +kernel
theorem d_X11_rule_90 : decode cX11_rule 90 = .ok (.istore 5, 2) := by decide +kernel
theorem d_X11_rule_92 : decode cX11_rule 92 = .ok (.aload_n 0, 1) := by decide +kernel
theorem d_X11_rule_93 : decode cX11_rule 93 = .ok (.getfield 10, 3) := by decide +kernel
theorem d_X11_rule_96 : decode cX11_rule 96 = .ok (.getfield 230, 3) := by decide +kernel
theorem d_X11_rule_99 : decode cX11_rule 99 = .ok (.iload 5, 2) := by decide +kernel
theorem d_X11_rule_101 : decode cX11_rule 101 = .ok (.aaload, 1) := by decide +kernel
theorem d_X11_rule_102 : decode cX11_rule 102 = .ok (.iload_n 1, 1) := by decide +kernel
theorem d_X11_rule_103 : decode cX11_rule 103 = .ok (.iload_n 2, 1) := by decide +kernel
theorem d_X11_rule_104 : decode cX11_rule 104 = .ok (.iload_n 3, 1) := by decide +kernel
theorem d_X11_rule_105 : decode cX11_rule 105 = .ok (.bipush 100, 2) := by decide +kernel
theorem d_X11_rule_107 : decode cX11_rule 107 = .ok (.idiv, 1) := by decide +kernel
theorem d_X11_rule_108 : decode cX11_rule 108 = .ok (.iload_n 3, 1) := by decide +kernel
theorem d_X11_rule_109 : decode cX11_rule 109 = .ok (.bipush 100, 2) := by decide +kernel
theorem d_X11_rule_111 : decode cX11_rule 111 = .ok (.irem, 1) := by decide +kernel
theorem d_X11_rule_112 : decode cX11_rule 112 = .ok (.invokevirtual 234, 3) := by decide +kernel
theorem d_X11_rule_115 : decode cX11_rule 115 = .ok (.aload_n 0, 1) := by decide +kernel
theorem d_X11_rule_116 : decode cX11_rule 116 = .ok (.iload 5, 2) := by decide +kernel
theorem d_X11_rule_118 : decode cX11_rule 118 = .ok (.invokevirtual 72, 3) := by decide +kernel
theorem d_X11_rule_121 : decode cX11_rule 121 = .ok (.ireturn, 1) := by decide +kernel
theorem d_X11_image_0 : decode cX11_image 0 = .ok (.aload_n 0, 1) := by decide +kernel
theorem d_X11_image_1 : decode cX11_image 1 = .ok (.getfield 16, 3) := by decide +kernel
theorem d_X11_image_4 : decode cX11_image 4 = .ok (.ifnonnull 14, 3) := by decide +kernel
theorem d_X11_image_7 : decode cX11_image 7 = .ok (.aload_n 0, 1) := by decide +kernel
theorem d_X11_image_8 : decode cX11_image 8 = .ok (.new 7, 3) := by decide +kernel
theorem d_X11_image_11 : decode cX11_image 11 = .ok (.dup, 1) := by decide +kernel
theorem d_X11_image_12 : decode cX11_image 12 = .ok (.invokespecial 9, 3) := by decide +kernel
theorem d_X11_image_15 : decode cX11_image 15 = .ok (.putfield 16, 3) := by decide +kernel
theorem d_X11_image_18 : decode cX11_image 18 = .ok (.aload_n 0, 1) := by decide +kernel
theorem d_X11_image_19 : decode cX11_image 19 = .ok (.getfield 16, 3) := by decide +kernel
theorem d_X11_image_22 : decode cX11_image 22 = .ok (.aload_n 0, 1) := by decide +kernel
theorem d_X11_image_23 : decode cX11_image 23 = .ok (.getfield 10, 3) := by decide +kernel
theorem d_X11_image_26 : decode cX11_image 26 = .ok (.invokevirtual 237, 3) := by decide +kernel
theorem d_X11_image_29 : decode cX11_image 29 = .ok (.aload_n 0, 1) := by decide +kernel
theorem d_X11_image_30 : decode cX11_image 30 = .ok (.iconst 1, 1) := by decide +kernel
theorem d_X11_image_31 : decode cX11_image 31 = .ok (.invokevirtual 72, 3) := by decide +kernel
theorem d_X11_image_34 : decode cX11_image 34 = .ok (.ireturn, 1) := by decide +kernel
theorem d_X11_back_0 : decode cX11_back 0 = .ok (.aload_n 0, 1) := by decide +kernel
theorem d_X11_back_1 : decode cX11_back 1 = .ok (.getfield 19, 3) := by decide +kernel
theorem d_X11_back_4 : decode cX11_back 4 = .ok (.bipush 10, 2) := by decide +kernel
theorem d_X11_back_6 : decode cX11_back 6 = .ok (.if_icmp .lt 9, 3) := by decide +kernel
theorem d_X11_back_9 : decode cX11_back 9 = .ok (.aload_n 0, 1) := by decide +kernel
theorem d_X11_back_10 : decode cX11_back 10 = .ok (.iconst 2, 1) := by decide +kernel
theorem d_X11_back_11 : decode cX11_back 11 = .ok (.invokevirtual 55, 3) := by decide +kernel
theorem d_X11_back_14 : decode cX11_back 14 = .ok (.ireturn, 1) := by decide +kernel
theorem d_X11_back_15 : decode cX11_back 15 = .ok (.aload_n 0, 1) := by decide +kernel
theorem d_X11_back_16 : decode cX11_back 16 = .ok (.getfield 16, 3) := by decide +kernel
theorem d_X11_back_19 : decode cX11_back 19 = .ok (.ifnonnull 9, 3) := by decide +kernel
theorem d_X11_back_22 : decode cX11_back 22 = .ok (.aload_n 0, 1) := by decide +kernel
theorem d_X11_back_23 : decode cX11_back 23 = .ok (.iconst 3, 1) := by decide +kernel
theorem d_X11_back_24 : decode cX11_back 24 = .ok (.invokevirtual 55, 3) := by decide +kernel
theorem d_X11_back_27 : decode cX11_back 27 = .ok (.ireturn, 1) := by decide +kernel
theorem d_X11_back_28 : decode cX11_back 28 = .ok (.aload_n 0, 1) := by decide +kernel
theorem d_X11_back_29 : decode cX11_back 29 = .ok (.dup, 1) := by decide +kernel
theorem d_X11_back_30 : decode cX11_back 30 = .ok (.getfield 19, 3) := by decide +kernel
theorem d_X11_back_33 : decode cX11_back 33 = .ok (.iconst 1, 1) := by decide +kernel
theorem d_X11_back_34 : decode cX11_back 34 = .ok (.iadd, 1) := by decide +kernel
theorem d_X11_back_35 : decode cX11_back 35 = .ok (.putfield 19, 3) := by decide +kernel
theorem d_X11_back_38 : decode cX11_back 38 = .ok (.aload_n 0, 1) := by decide +kernel
theorem d_X11_back_39 : decode cX11_back 39 = .ok (.getfield 10, 3) := by decide +kernel
theorem d_X11_back_42 : decode cX11_back 42 = .ok (.aload_n 0, 1) := by decide +kernel
theorem d_X11_back_43 : decode cX11_back 43 = .ok (.getfield 16, 3) := by decide +kernel
theorem d_X11_back_46 : decode cX11_back 46 = .ok (.invokevirtual 237, 3) := by decide +kernel
theorem d_X11_back_49 : decode cX11_back 49 = .ok (.aload_n 0, 1) := by decide +kernel
theorem d_X11_back_50 : decode cX11_back 50 = .ok (.aload_n 0, 1) := by decide +kernel
theorem d_X11_back_51 : decode cX11_back 51 = .ok (.getfield 10, 3) := by decide +kernel
theorem d_X11_back_54 : decode cX11_back 54 = .ok (.getfield 194, 3) := by decide +kernel
theorem d_X11_back_57 : decode cX11_back 57 = .ok (.invokevirtual 72, 3) := by decide +kernel
theorem d_X11_back_60 : decode cX11_back 60 = .ok (.ireturn, 1) := by decide +kernel
theorem d_X11_height_0 : decode cX11_height 0 = .ok (.iload_n 1, 1) := by decide +kernel
theorem d_X11_height_1 : decode cX11_height 1 = .ok (.invokestatic 75, 3) := by decide +kernel
theorem d_X11_height_4 : decode cX11_height 4 = .ok (.ifCond .eq 14, 3) := by decide +kernel
theorem d_X11_height_7 : decode cX11_height 7 = .ok (.aload_n 0, 1) := by decide +kernel
theorem d_X11_height_8 : decode cX11_height 8 = .ok (.getfield 10, 3) := by decide +kernel
theorem d_X11_height_11 : decode cX11_height 11 = .ok (.iload_n 1, 1) := by decide +kernel
theorem d_X11_height_12 : decode cX11_height 12 = .ok (.invokevirtual 241, 3) := by decide +kernel
theorem d_X11_height_15 : decode cX11_height 15 = .ok (.goto 6, 3) := by decide +kernel
theorem d_X11_height_18 : decode cX11_height 18 = .ok (.sipush (-1000), 3) := by decide +kernel
theorem d_X11_height_21 : decode cX11_height 21 = .ok (.ireturn, 1) := by decide +kernel
theorem d_X11_stretchTold_0 : decode cX11_stretchTold 0 = .ok (.aload_n 0, 1) := by decide +kernel
theorem d_X11_stretchTold_1 : decode cX11_stretchTold 1 = .ok (.getfield 10, 3) := by decide +kernel
theorem d_X11_stretchTold_4 : decode cX11_stretchTold 4 = .ok (.iload_n 1, 1) := by decide +kernel
theorem d_X11_stretchTold_5 : decode cX11_stretchTold 5 = .ok (.invokevirtual 86, 3) := by decide +kernel
theorem d_X11_stretchTold_8 : decode cX11_stretchTold 8 = .ok (.ifCond .ne 7, 3) := by decide +kernel
theorem d_X11_stretchTold_11 : decode cX11_stretchTold 11 = .ok (.sipush (-1000), 3) := by decide +kernel
theorem d_X11_stretchTold_14 : decode cX11_stretchTold 14 = .ok (.ireturn, 1) := by decide +kernel
theorem d_X11_stretchTold_15 : decode cX11_stretchTold 15 = .ok (.aload_n 0, 1) := by decide +kernel
theorem d_X11_stretchTold_16 : decode cX11_stretchTold 16 = .ok (.getfield 10, 3) := by decide +kernel
theorem d_X11_stretchTold_19 : decode cX11_stretchTold 19 = .ok (.getfield 62, 3) := by decide +kernel
theorem d_X11_stretchTold_22 : decode cX11_stretchTold 22 = .ok (.iload_n 1, 1) := by decide +kernel
theorem d_X11_stretchTold_23 : decode cX11_stretchTold 23 = .ok (.aaload, 1) := by decide +kernel
theorem d_X11_stretchTold_24 : decode cX11_stretchTold 24 = .ok (.astore_n 3, 1) := by decide +kernel
theorem d_X11_stretchTold_25 : decode cX11_stretchTold 25 = .ok (.iload_n 2, 1) := by decide +kernel
theorem d_X11_stretchTold_26 : decode cX11_stretchTold 26 = .ok (.tableswitch 87 0 5 #[38, 43, 48, 53, 66, 78], 38) := by decide +kernel
theorem d_X11_stretchTold_64 : decode cX11_stretchTold 64 = .ok (.aload_n 3, 1) := by decide +kernel
theorem d_X11_stretchTold_65 : decode cX11_stretchTold 65 = .ok (.getfield 89, 3) := by decide +kernel
theorem d_X11_stretchTold_68 : decode cX11_stretchTold 68 = .ok (.ireturn, 1) := by decide +kernel
theorem d_X11_stretchTold_69 : decode cX11_stretchTold 69 = .ok (.aload_n 3, 1) := by decide +kernel
theorem d_X11_stretchTold_70 : decode cX11_stretchTold 70 = .ok (.getfield 244, 3) := by decide +kernel
theorem d_X11_stretchTold_73 : decode cX11_stretchTold 73 = .ok (.ireturn, 1) := by decide +kernel
theorem d_X11_stretchTold_74 : decode cX11_stretchTold 74 = .ok (.aload_n 3, 1) := by decide +kernel
theorem d_X11_stretchTold_75 : decode cX11_stretchTold 75 = .ok (.getfield 247, 3) := by decide +kernel
theorem d_X11_stretchTold_78 : decode cX11_stretchTold 78 = .ok (.ireturn, 1) := by decide +kernel
theorem d_X11_stretchTold_79 : decode cX11_stretchTold 79 = .ok (.aload_n 3, 1) := by decide +kernel
theorem d_X11_stretchTold_80 : decode cX11_stretchTold 80 = .ok (.getfield 103, 3) := by decide +kernel
theorem d_X11_stretchTold_83 : decode cX11_stretchTold 83 = .ok (.ifCond .eq 7, 3) := by decide +kernel
theorem d_X11_stretchTold_86 : decode cX11_stretchTold 86 = .ok (.iconst 1, 1) := by decide +kernel
theorem d_X11_stretchTold_87 : decode cX11_stretchTold 87 = .ok (.goto 4, 3) := by decide +kernel
theorem d_X11_stretchTold_90 : decode cX11_stretchTold 90 = .ok (.iconst 0, 1) := by decide +kernel
theorem d_X11_stretchTold_91 : decode cX11_stretchTold 91 = .ok (.ireturn, 1) := by decide +kernel
theorem d_X11_stretchTold_92 : decode cX11_stretchTold 92 = .ok (.aload_n 3, 1) := by decide +kernel
theorem d_X11_stretchTold_93 : decode cX11_stretchTold 93 = .ok (.aload_n 0, 1) := by decide +kernel
theorem d_X11_stretchTold_94 : decode cX11_stretchTold 94 = .ok (.getfield 10, 3) := by decide +kernel
theorem d_X11_stretchTold_97 : decode cX11_stretchTold 97 = .ok (.invokevirtual 180, 3) := by decide +kernel
theorem d_X11_stretchTold_100 : decode cX11_stretchTold 100 = .ok (.invokevirtual 250, 3) := by decide +kernel
theorem d_X11_stretchTold_103 : decode cX11_stretchTold 103 = .ok (.ireturn, 1) := by decide +kernel
theorem d_X11_stretchTold_104 : decode cX11_stretchTold 104 = .ok (.aload_n 0, 1) := by decide +kernel
theorem d_X11_stretchTold_105 : decode cX11_stretchTold 105 = .ok (.getfield 10, 3) := by decide +kernel
theorem d_X11_stretchTold_108 : decode cX11_stretchTold 108 = .ok (.iload_n 1, 1) := by decide +kernel
theorem d_X11_stretchTold_109 : decode cX11_stretchTold 109 = .ok (.invokevirtual 253, 3) := by decide +kernel
theorem d_X11_stretchTold_112 : decode cX11_stretchTold 112 = .ok (.ireturn, 1) := by decide +kernel
theorem d_X11_stretchTold_113 : decode cX11_stretchTold 113 = .ok (.sipush (-1000), 3) := by decide +kernel
theorem d_X11_stretchTold_116 : decode cX11_stretchTold 116 = .ok (.ireturn, 1) := by decide +kernel
theorem d_X11_water_0 : decode cX11_water 0 = .ok (.aload_n 0, 1) := by decide +kernel
theorem d_X11_water_1 : decode cX11_water 1 = .ok (.getfield 10, 3) := by decide +kernel
theorem d_X11_water_4 : decode cX11_water 4 = .ok (.iload_n 1, 1) := by decide +kernel
theorem d_X11_water_5 : decode cX11_water 5 = .ok (.invokevirtual 86, 3) := by decide +kernel
theorem d_X11_water_8 : decode cX11_water 8 = .ok (.ifCond .eq 22, 3) := by decide +kernel
theorem d_X11_water_11 : decode cX11_water 11 = .ok (.iload_n 2, 1) := by decide +kernel
theorem d_X11_water_12 : decode cX11_water 12 = .ok (.invokestatic 75, 3) := by decide +kernel
theorem d_X11_water_15 : decode cX11_water 15 = .ok (.ifCond .eq 15, 3) := by decide +kernel
theorem d_X11_water_18 : decode cX11_water 18 = .ok (.aload_n 0, 1) := by decide +kernel
theorem d_X11_water_19 : decode cX11_water 19 = .ok (.getfield 10, 3) := by decide +kernel
theorem d_X11_water_22 : decode cX11_water 22 = .ok (.iload_n 1, 1) := by decide +kernel
theorem d_X11_water_23 : decode cX11_water 23 = .ok (.iload_n 2, 1) := by decide +kernel
theorem d_X11_water_24 : decode cX11_water 24 = .ok (.invokevirtual 183, 3) := by decide +kernel
theorem d_X11_water_27 : decode cX11_water 27 = .ok (.goto 6, 3) := by decide +kernel
theorem d_X11_water_30 : decode cX11_water 30 = .ok (.sipush (-1000), 3) := by decide +kernel
theorem d_X11_water_33 : decode cX11_water 33 = .ok (.ireturn, 1) := by decide +kernel
theorem d_X11_boatTold_0 : decode cX11_boatTold 0 = .ok (.aload_n 0, 1) := by decide +kernel
theorem d_X11_boatTold_1 : decode cX11_boatTold 1 = .ok (.getfield 10, 3) := by decide +kernel
theorem d_X11_boatTold_4 : decode cX11_boatTold 4 = .ok (.iload_n 1, 1) := by decide +kernel
theorem d_X11_boatTold_5 : decode cX11_boatTold 5 = .ok (.invokevirtual 136, 3) := by decide +kernel
theorem d_X11_boatTold_8 : decode cX11_boatTold 8 = .ok (.ifCond .ne 5, 3) := by decide +kernel
theorem d_X11_boatTold_11 : decode cX11_boatTold 11 = .ok (.iconst (-1), 1) := by decide +kernel
theorem d_X11_boatTold_12 : decode cX11_boatTold 12 = .ok (.ireturn, 1) := by decide +kernel
theorem d_X11_boatTold_13 : decode cX11_boatTold 13 = .ok (.aload_n 0, 1) := by decide +kernel
theorem d_X11_boatTold_14 : decode cX11_boatTold 14 = .ok (.getfield 10, 3) := by decide +kernel
theorem d_X11_boatTold_17 : decode cX11_boatTold 17 = .ok (.getfield 113, 3) := by decide +kernel
theorem d_X11_boatTold_20 : decode cX11_boatTold 20 = .ok (.iload_n 1, 1) := by decide +kernel
theorem d_X11_boatTold_21 : decode cX11_boatTold 21 = .ok (.aaload, 1) := by decide +kernel
theorem d_X11_boatTold_22 : decode cX11_boatTold 22 = .ok (.astore_n 3, 1) := by decide +kernel
theorem d_X11_boatTold_23 : decode cX11_boatTold 23 = .ok (.iload_n 2, 1) := by decide +kernel
theorem d_X11_boatTold_24 : decode cX11_boatTold 24 = .ok (.tableswitch 81 0 5 #[40, 45, 50, 66, 71, 76], 40) := by decide +kernel
theorem d_X11_boatTold_64 : decode cX11_boatTold 64 = .ok (.aload_n 3, 1) := by decide +kernel
theorem d_X11_boatTold_65 : decode cX11_boatTold 65 = .ok (.getfield 142, 3) := by decide +kernel
theorem d_X11_boatTold_68 : decode cX11_boatTold 68 = .ok (.ireturn, 1) := by decide +kernel
theorem d_X11_boatTold_69 : decode cX11_boatTold 69 = .ok (.aload_n 3, 1) := by decide +kernel
theorem d_X11_boatTold_70 : decode cX11_boatTold 70 = .ok (.getfield 146, 3) := by decide +kernel
theorem d_X11_boatTold_73 : decode cX11_boatTold 73 = .ok (.ireturn, 1) := by decide +kernel
theorem d_X11_boatTold_74 : decode cX11_boatTold 74 = .ok (.aload_n 3, 1) := by decide +kernel
theorem d_X11_boatTold_75 : decode cX11_boatTold 75 = .ok (.invokevirtual 256, 3) := by decide +kernel
theorem d_X11_boatTold_78 : decode cX11_boatTold 78 = .ok (.ifCond .eq 10, 3) := by decide +kernel
theorem d_X11_boatTold_81 : decode cX11_boatTold 81 = .ok (.aload_n 3, 1) := by decide +kernel
theorem d_X11_boatTold_82 : decode cX11_boatTold 82 = .ok (.getfield 260, 3) := by decide +kernel
theorem d_X11_boatTold_85 : decode cX11_boatTold 85 = .ok (.goto 4, 3) := by decide +kernel
theorem d_X11_boatTold_88 : decode cX11_boatTold 88 = .ok (.iconst 0, 1) := by decide +kernel
theorem d_X11_boatTold_89 : decode cX11_boatTold 89 = .ok (.ireturn, 1) := by decide +kernel
theorem d_X11_boatTold_90 : decode cX11_boatTold 90 = .ok (.aload_n 3, 1) := by decide +kernel
theorem d_X11_boatTold_91 : decode cX11_boatTold 91 = .ok (.getfield 147, 3) := by decide +kernel
theorem d_X11_boatTold_94 : decode cX11_boatTold 94 = .ok (.ireturn, 1) := by decide +kernel
theorem d_X11_boatTold_95 : decode cX11_boatTold 95 = .ok (.aload_n 3, 1) := by decide +kernel
theorem d_X11_boatTold_96 : decode cX11_boatTold 96 = .ok (.invokevirtual 156, 3) := by decide +kernel
theorem d_X11_boatTold_99 : decode cX11_boatTold 99 = .ok (.ireturn, 1) := by decide +kernel
theorem d_X11_boatTold_100 : decode cX11_boatTold 100 = .ok (.aload_n 3, 1) := by decide +kernel
theorem d_X11_boatTold_101 : decode cX11_boatTold 101 = .ok (.getfield 209, 3) := by decide +kernel
theorem d_X11_boatTold_104 : decode cX11_boatTold 104 = .ok (.ireturn, 1) := by decide +kernel
theorem d_X11_boatTold_105 : decode cX11_boatTold 105 = .ok (.iconst (-1), 1) := by decide +kernel
theorem d_X11_boatTold_106 : decode cX11_boatTold 106 = .ok (.ireturn, 1) := by decide +kernel
theorem d_X11_baleTold_0 : decode cX11_baleTold 0 = .ok (.aload_n 0, 1) := by decide +kernel
theorem d_X11_baleTold_1 : decode cX11_baleTold 1 = .ok (.getfield 10, 3) := by decide +kernel
theorem d_X11_baleTold_4 : decode cX11_baleTold 4 = .ok (.iload_n 1, 1) := by decide +kernel
theorem d_X11_baleTold_5 : decode cX11_baleTold 5 = .ok (.invokevirtual 133, 3) := by decide +kernel
theorem d_X11_baleTold_8 : decode cX11_baleTold 8 = .ok (.ifCond .ne 5, 3) := by decide +kernel
theorem d_X11_baleTold_11 : decode cX11_baleTold 11 = .ok (.iconst (-1), 1) := by decide +kernel
theorem d_X11_baleTold_12 : decode cX11_baleTold 12 = .ok (.ireturn, 1) := by decide +kernel
theorem d_X11_baleTold_13 : decode cX11_baleTold 13 = .ok (.aload_n 0, 1) := by decide +kernel
theorem d_X11_baleTold_14 : decode cX11_baleTold 14 = .ok (.getfield 10, 3) := by decide +kernel
theorem d_X11_baleTold_17 : decode cX11_baleTold 17 = .ok (.getfield 126, 3) := by decide +kernel
theorem d_X11_baleTold_20 : decode cX11_baleTold 20 = .ok (.iload_n 1, 1) := by decide +kernel
theorem d_X11_baleTold_21 : decode cX11_baleTold 21 = .ok (.aaload, 1) := by decide +kernel
theorem d_X11_baleTold_22 : decode cX11_baleTold 22 = .ok (.astore_n 3, 1) := by decide +kernel
theorem d_X11_baleTold_23 : decode cX11_baleTold 23 = .ok (.iload_n 2, 1) := by decide +kernel
theorem d_X11_baleTold_24 : decode cX11_baleTold 24 = .ok (.tableswitch 61 0 4 #[36, 41, 46, 51, 56], 36) := by decide +kernel
theorem d_X11_baleTold_60 : decode cX11_baleTold 60 = .ok (.aload_n 3, 1) := by decide +kernel
theorem d_X11_baleTold_61 : decode cX11_baleTold 61 = .ok (.getfield 139, 3) := by decide +kernel
theorem d_X11_baleTold_64 : decode cX11_baleTold 64 = .ok (.ireturn, 1) := by decide +kernel
theorem d_X11_baleTold_65 : decode cX11_baleTold 65 = .ok (.aload_n 3, 1) := by decide +kernel
theorem d_X11_baleTold_66 : decode cX11_baleTold 66 = .ok (.getfield 143, 3) := by decide +kernel
theorem d_X11_baleTold_69 : decode cX11_baleTold 69 = .ok (.ireturn, 1) := by decide +kernel
theorem d_X11_baleTold_70 : decode cX11_baleTold 70 = .ok (.aload_n 3, 1) := by decide +kernel
theorem d_X11_baleTold_71 : decode cX11_baleTold 71 = .ok (.getfield 164, 3) := by decide +kernel
theorem d_X11_baleTold_74 : decode cX11_baleTold 74 = .ok (.ireturn, 1) := by decide +kernel
theorem d_X11_baleTold_75 : decode cX11_baleTold 75 = .ok (.aload_n 3, 1) := by decide +kernel
theorem d_X11_baleTold_76 : decode cX11_baleTold 76 = .ok (.getfield 150, 3) := by decide +kernel
theorem d_X11_baleTold_79 : decode cX11_baleTold 79 = .ok (.ireturn, 1) := by decide +kernel
theorem d_X11_baleTold_80 : decode cX11_baleTold 80 = .ok (.aload_n 3, 1) := by decide +kernel
theorem d_X11_baleTold_81 : decode cX11_baleTold 81 = .ok (.getfield 170, 3) := by decide +kernel
theorem d_X11_baleTold_84 : decode cX11_baleTold 84 = .ok (.ireturn, 1) := by decide +kernel
theorem d_X11_baleTold_85 : decode cX11_baleTold 85 = .ok (.iconst (-1), 1) := by decide +kernel
theorem d_X11_baleTold_86 : decode cX11_baleTold 86 = .ok (.ireturn, 1) := by decide +kernel
theorem d_X11_why_0 : decode cX11_why 0 = .ok (.aload_n 0, 1) := by decide +kernel
theorem d_X11_why_1 : decode cX11_why 1 = .ok (.getfield 10, 3) := by decide +kernel
theorem d_X11_why_4 : decode cX11_why 4 = .ok (.iload_n 1, 1) := by decide +kernel
theorem d_X11_why_5 : decode cX11_why 5 = .ok (.invokevirtual 136, 3) := by decide +kernel
theorem d_X11_why_8 : decode cX11_why 8 = .ok (.ifCond .eq 23, 3) := by decide +kernel
theorem d_X11_why_11 : decode cX11_why 11 = .ok (.aload_n 0, 1) := by decide +kernel
theorem d_X11_why_12 : decode cX11_why 12 = .ok (.getfield 10, 3) := by decide +kernel
theorem d_X11_why_15 : decode cX11_why 15 = .ok (.aload_n 0, 1) := by decide +kernel
theorem d_X11_why_16 : decode cX11_why 16 = .ok (.getfield 10, 3) := by decide +kernel
theorem d_X11_why_19 : decode cX11_why 19 = .ok (.getfield 113, 3) := by decide +kernel
theorem d_X11_why_22 : decode cX11_why 22 = .ok (.iload_n 1, 1) := by decide +kernel
theorem d_X11_why_23 : decode cX11_why 23 = .ok (.aaload, 1) := by decide +kernel
theorem d_X11_why_24 : decode cX11_why 24 = .ok (.iload_n 2, 1) := by decide +kernel
theorem d_X11_why_25 : decode cX11_why 25 = .ok (.invokevirtual 173, 3) := by decide +kernel
theorem d_X11_why_28 : decode cX11_why 28 = .ok (.goto 4, 3) := by decide +kernel
theorem d_X11_why_31 : decode cX11_why 31 = .ok (.iconst (-1), 1) := by decide +kernel
theorem d_X11_why_32 : decode cX11_why 32 = .ok (.ireturn, 1) := by decide +kernel
theorem d_X11_knows_0 : decode cX11_knows 0 = .ok (.aload_n 0, 1) := by decide +kernel
theorem d_X11_knows_1 : decode cX11_knows 1 = .ok (.getfield 10, 3) := by decide +kernel
theorem d_X11_knows_4 : decode cX11_knows 4 = .ok (.iload_n 1, 1) := by decide +kernel
theorem d_X11_knows_5 : decode cX11_knows 5 = .ok (.invokevirtual 136, 3) := by decide +kernel
theorem d_X11_knows_8 : decode cX11_knows 8 = .ok (.ifCond .eq 14, 3) := by decide +kernel
theorem d_X11_knows_11 : decode cX11_knows 11 = .ok (.aload_n 0, 1) := by decide +kernel
theorem d_X11_knows_12 : decode cX11_knows 12 = .ok (.getfield 10, 3) := by decide +kernel
theorem d_X11_knows_15 : decode cX11_knows 15 = .ok (.iload_n 2, 1) := by decide +kernel
theorem d_X11_knows_16 : decode cX11_knows 16 = .ok (.invokevirtual 86, 3) := by decide +kernel
theorem d_X11_knows_19 : decode cX11_knows 19 = .ok (.ifCond .ne 7, 3) := by decide +kernel
theorem d_X11_knows_22 : decode cX11_knows 22 = .ok (.sipush (-1000), 3) := by decide +kernel
theorem d_X11_knows_25 : decode cX11_knows 25 = .ok (.ireturn, 1) := by decide +kernel
theorem d_X11_knows_26 : decode cX11_knows 26 = .ok (.aload_n 0, 1) := by decide +kernel
theorem d_X11_knows_27 : decode cX11_knows 27 = .ok (.getfield 10, 3) := by decide +kernel
theorem d_X11_knows_30 : decode cX11_knows 30 = .ok (.getfield 113, 3) := by decide +kernel
theorem d_X11_knows_33 : decode cX11_knows 33 = .ok (.iload_n 1, 1) := by decide +kernel
theorem d_X11_knows_34 : decode cX11_knows 34 = .ok (.aaload, 1) := by decide +kernel
theorem d_X11_knows_35 : decode cX11_knows 35 = .ok (.getfield 263, 3) := by decide +kernel
theorem d_X11_knows_38 : decode cX11_knows 38 = .ok (.iload_n 2, 1) := by decide +kernel
theorem d_X11_knows_39 : decode cX11_knows 39 = .ok (.iload_n 3, 1) := by decide +kernel
theorem d_X11_knows_40 : decode cX11_knows 40 = .ok (.invokevirtual 267, 3) := by decide +kernel
theorem d_X11_knows_43 : decode cX11_knows 43 = .ok (.ireturn, 1) := by decide +kernel
theorem d_X11_box_0 : decode cX11_box 0 = .ok (.aload_n 0, 1) := by decide +kernel
theorem d_X11_box_1 : decode cX11_box 1 = .ok (.getfield 10, 3) := by decide +kernel
theorem d_X11_box_4 : decode cX11_box 4 = .ok (.iload_n 1, 1) := by decide +kernel
theorem d_X11_box_5 : decode cX11_box 5 = .ok (.invokevirtual 107, 3) := by decide +kernel
theorem d_X11_box_8 : decode cX11_box 8 = .ok (.ifCond .eq 14, 3) := by decide +kernel
theorem d_X11_box_11 : decode cX11_box 11 = .ok (.aload_n 0, 1) := by decide +kernel
theorem d_X11_box_12 : decode cX11_box 12 = .ok (.getfield 10, 3) := by decide +kernel
theorem d_X11_box_15 : decode cX11_box 15 = .ok (.iload_n 2, 1) := by decide +kernel
theorem d_X11_box_16 : decode cX11_box 16 = .ok (.invokevirtual 86, 3) := by decide +kernel
theorem d_X11_box_19 : decode cX11_box 19 = .ok (.ifCond .ne 7, 3) := by decide +kernel
theorem d_X11_box_22 : decode cX11_box 22 = .ok (.sipush (-1000), 3) := by decide +kernel
theorem d_X11_box_25 : decode cX11_box 25 = .ok (.ireturn, 1) := by decide +kernel
theorem d_X11_box_26 : decode cX11_box 26 = .ok (.aload_n 0, 1) := by decide +kernel
theorem d_X11_box_27 : decode cX11_box 27 = .ok (.getfield 10, 3) := by decide +kernel
theorem d_X11_box_30 : decode cX11_box 30 = .ok (.getfield 200, 3) := by decide +kernel
theorem d_X11_box_33 : decode cX11_box 33 = .ok (.iload_n 1, 1) := by decide +kernel
theorem d_X11_box_34 : decode cX11_box 34 = .ok (.aaload, 1) := by decide +kernel
theorem d_X11_box_35 : decode cX11_box 35 = .ok (.getfield 272, 3) := by decide +kernel
theorem d_X11_box_38 : decode cX11_box 38 = .ok (.iload_n 2, 1) := by decide +kernel
theorem d_X11_box_39 : decode cX11_box 39 = .ok (.iload_n 3, 1) := by decide +kernel
theorem d_X11_box_40 : decode cX11_box 40 = .ok (.invokevirtual 267, 3) := by decide +kernel
theorem d_X11_box_43 : decode cX11_box 43 = .ok (.ireturn, 1) := by decide +kernel
theorem d_X11_lading_0 : decode cX11_lading 0 = .ok (.aload_n 0, 1) := by decide +kernel
theorem d_X11_lading_1 : decode cX11_lading 1 = .ok (.getfield 10, 3) := by decide +kernel
theorem d_X11_lading_4 : decode cX11_lading 4 = .ok (.iload_n 1, 1) := by decide +kernel
theorem d_X11_lading_5 : decode cX11_lading 5 = .ok (.invokevirtual 136, 3) := by decide +kernel
theorem d_X11_lading_8 : decode cX11_lading 8 = .ok (.ifCond .ne 5, 3) := by decide +kernel
theorem d_X11_lading_11 : decode cX11_lading 11 = .ok (.iconst (-1), 1) := by decide +kernel
theorem d_X11_lading_12 : decode cX11_lading 12 = .ok (.ireturn, 1) := by decide +kernel
theorem d_X11_lading_13 : decode cX11_lading 13 = .ok (.aload_n 0, 1) := by decide +kernel
theorem d_X11_lading_14 : decode cX11_lading 14 = .ok (.getfield 10, 3) := by decide +kernel
theorem d_X11_lading_17 : decode cX11_lading 17 = .ok (.getfield 113, 3) := by decide +kernel
theorem d_X11_lading_20 : decode cX11_lading 20 = .ok (.iload_n 1, 1) := by decide +kernel
theorem d_X11_lading_21 : decode cX11_lading 21 = .ok (.aaload, 1) := by decide +kernel
theorem d_X11_lading_22 : decode cX11_lading 22 = .ok (.astore_n 3, 1) := by decide +kernel
theorem d_X11_lading_23 : decode cX11_lading 23 = .ok (.aload_n 3, 1) := by decide +kernel
theorem d_X11_lading_24 : decode cX11_lading 24 = .ok (.getfield 142, 3) := by decide +kernel
theorem d_X11_lading_27 : decode cX11_lading 27 = .ok (.ifCond .ne 11, 3) := by decide +kernel
theorem d_X11_lading_30 : decode cX11_lading 30 = .ok (.aload_n 3, 1) := by decide +kernel
theorem d_X11_lading_31 : decode cX11_lading 31 = .ok (.invokevirtual 156, 3) := by decide +kernel
theorem d_X11_lading_34 : decode cX11_lading 34 = .ok (.iload_n 2, 1) := by decide +kernel
theorem d_X11_lading_35 : decode cX11_lading 35 = .ok (.if_icmp .le 5, 3) := by decide +kernel
theorem d_X11_lading_38 : decode cX11_lading 38 = .ok (.iconst (-1), 1) := by decide +kernel
theorem d_X11_lading_39 : decode cX11_lading 39 = .ok (.ireturn, 1) := by decide +kernel
theorem d_X11_lading_40 : decode cX11_lading 40 = .ok (.aload_n 0, 1) := by decide +kernel
theorem d_X11_lading_41 : decode cX11_lading 41 = .ok (.aload_n 3, 1) := by decide +kernel
theorem d_X11_lading_42 : decode cX11_lading 42 = .ok (.iload_n 2, 1) := by decide +kernel
theorem d_X11_lading_43 : decode cX11_lading 43 = .ok (.aload_n 0, 1) := by decide +kernel
theorem d_X11_lading_44 : decode cX11_lading 44 = .ok (.aload_n 3, 1) := by decide +kernel
theorem d_X11_lading_45 : decode cX11_lading 45 = .ok (.getfield 146, 3) := by decide +kernel
theorem d_X11_lading_48 : decode cX11_lading 48 = .ok (.invokevirtual 273, 3) := by decide +kernel
theorem d_X11_lading_51 : decode cX11_lading 51 = .ok (.invokevirtual 276, 3) := by decide +kernel
theorem d_X11_lading_54 : decode cX11_lading 54 = .ok (.ireturn, 1) := by decide +kernel
theorem d_X11_wooding_0 : decode cX11_wooding 0 = .ok (.aload_n 0, 1) := by decide +kernel
theorem d_X11_wooding_1 : decode cX11_wooding 1 = .ok (.getfield 10, 3) := by decide +kernel
theorem d_X11_wooding_4 : decode cX11_wooding 4 = .ok (.iload_n 1, 1) := by decide +kernel
theorem d_X11_wooding_5 : decode cX11_wooding 5 = .ok (.invokevirtual 136, 3) := by decide +kernel
theorem d_X11_wooding_8 : decode cX11_wooding 8 = .ok (.ifCond .eq 25, 3) := by decide +kernel
theorem d_X11_wooding_11 : decode cX11_wooding 11 = .ok (.aload_n 0, 1) := by decide +kernel
theorem d_X11_wooding_12 : decode cX11_wooding 12 = .ok (.getfield 10, 3) := by decide +kernel
theorem d_X11_wooding_15 : decode cX11_wooding 15 = .ok (.iload_n 2, 1) := by decide +kernel
theorem d_X11_wooding_16 : decode cX11_wooding 16 = .ok (.invokevirtual 107, 3) := by decide +kernel
theorem d_X11_wooding_19 : decode cX11_wooding 19 = .ok (.ifCond .eq 14, 3) := by decide +kernel
theorem d_X11_wooding_22 : decode cX11_wooding 22 = .ok (.aload_n 0, 1) := by decide +kernel
theorem d_X11_wooding_23 : decode cX11_wooding 23 = .ok (.getfield 10, 3) := by decide +kernel
theorem d_X11_wooding_26 : decode cX11_wooding 26 = .ok (.iload_n 3, 1) := by decide +kernel
theorem d_X11_wooding_27 : decode cX11_wooding 27 = .ok (.invokevirtual 107, 3) := by decide +kernel
theorem d_X11_wooding_30 : decode cX11_wooding 30 = .ok (.ifCond .ne 5, 3) := by decide +kernel
theorem d_X11_wooding_33 : decode cX11_wooding 33 = .ok (.iconst (-1), 1) := by decide +kernel
theorem d_X11_wooding_34 : decode cX11_wooding 34 = .ok (.ireturn, 1) := by decide +kernel
theorem d_X11_wooding_35 : decode cX11_wooding 35 = .ok (.aload_n 0, 1) := by decide +kernel
theorem d_X11_wooding_36 : decode cX11_wooding 36 = .ok (.getfield 42, 3) := by decide +kernel
theorem d_X11_wooding_39 : decode cX11_wooding 39 = .ok (.aload_n 0, 1) := by decide +kernel
theorem d_X11_wooding_40 : decode cX11_wooding 40 = .ok (.getfield 10, 3) := by decide +kernel
theorem d_X11_wooding_43 : decode cX11_wooding 43 = .ok (.aload_n 0, 1) := by decide +kernel
theorem d_X11_wooding_44 : decode cX11_wooding 44 = .ok (.getfield 10, 3) := by decide +kernel
theorem d_X11_wooding_47 : decode cX11_wooding 47 = .ok (.getfield 113, 3) := by decide +kernel
theorem d_X11_wooding_50 : decode cX11_wooding 50 = .ok (.iload_n 1, 1) := by decide +kernel
theorem d_X11_wooding_51 : decode cX11_wooding 51 = .ok (.aaload, 1) := by decide +kernel
theorem d_X11_wooding_52 : decode cX11_wooding 52 = .ok (.getfield 212, 3) := by decide +kernel
theorem d_X11_wooding_55 : decode cX11_wooding 55 = .ok (.iload_n 2, 1) := by decide +kernel
theorem d_X11_wooding_56 : decode cX11_wooding 56 = .ok (.iload_n 3, 1) := by decide +kernel
theorem d_X11_wooding_57 : decode cX11_wooding 57 = .ok (.invokevirtual 280, 3) := by decide +kernel
theorem d_X11_wooding_60 : decode cX11_wooding 60 = .ok (.aload_n 0, 1) := by decide +kernel
theorem d_X11_wooding_61 : decode cX11_wooding 61 = .ok (.getfield 42, 3) := by decide +kernel
theorem d_X11_wooding_64 : decode cX11_wooding 64 = .ok (.invokevirtual 284, 3) := by decide +kernel
theorem d_X11_wooding_67 : decode cX11_wooding 67 = .ok (.ireturn, 1) := by decide +kernel
theorem d_X11_bought_0 : decode cX11_bought 0 = .ok (.aload_n 0, 1) := by decide +kernel
theorem d_X11_bought_1 : decode cX11_bought 1 = .ok (.getfield 10, 3) := by decide +kernel
theorem d_X11_bought_4 : decode cX11_bought 4 = .ok (.iload_n 1, 1) := by decide +kernel
theorem d_X11_bought_5 : decode cX11_bought 5 = .ok (.invokevirtual 136, 3) := by decide +kernel
theorem d_X11_bought_8 : decode cX11_bought 8 = .ok (.ifCond .eq 25, 3) := by decide +kernel
theorem d_X11_bought_11 : decode cX11_bought 11 = .ok (.aload_n 0, 1) := by decide +kernel
theorem d_X11_bought_12 : decode cX11_bought 12 = .ok (.getfield 10, 3) := by decide +kernel
theorem d_X11_bought_15 : decode cX11_bought 15 = .ok (.iload_n 2, 1) := by decide +kernel
theorem d_X11_bought_16 : decode cX11_bought 16 = .ok (.invokevirtual 107, 3) := by decide +kernel
theorem d_X11_bought_19 : decode cX11_bought 19 = .ok (.ifCond .eq 14, 3) := by decide +kernel
theorem d_X11_bought_22 : decode cX11_bought 22 = .ok (.aload_n 0, 1) := by decide +kernel
theorem d_X11_bought_23 : decode cX11_bought 23 = .ok (.getfield 10, 3) := by decide +kernel
theorem d_X11_bought_26 : decode cX11_bought 26 = .ok (.iload_n 3, 1) := by decide +kernel
theorem d_X11_bought_27 : decode cX11_bought 27 = .ok (.invokevirtual 107, 3) := by decide +kernel
theorem d_X11_bought_30 : decode cX11_bought 30 = .ok (.ifCond .ne 5, 3) := by decide +kernel
theorem d_X11_bought_33 : decode cX11_bought 33 = .ok (.iconst (-1), 1) := by decide +kernel
theorem d_X11_bought_34 : decode cX11_bought 34 = .ok (.ireturn, 1) := by decide +kernel
theorem d_X11_bought_35 : decode cX11_bought 35 = .ok (.aload_n 0, 1) := by decide +kernel
theorem d_X11_bought_36 : decode cX11_bought 36 = .ok (.getfield 42, 3) := by decide +kernel
theorem d_X11_bought_39 : decode cX11_bought 39 = .ok (.aload_n 0, 1) := by decide +kernel
theorem d_X11_bought_40 : decode cX11_bought 40 = .ok (.getfield 10, 3) := by decide +kernel
theorem d_X11_bought_43 : decode cX11_bought 43 = .ok (.aload_n 0, 1) := by decide +kernel
theorem d_X11_bought_44 : decode cX11_bought 44 = .ok (.getfield 10, 3) := by decide +kernel
theorem d_X11_bought_47 : decode cX11_bought 47 = .ok (.getfield 113, 3) := by decide +kernel
theorem d_X11_bought_50 : decode cX11_bought 50 = .ok (.iload_n 1, 1) := by decide +kernel
theorem d_X11_bought_51 : decode cX11_bought 51 = .ok (.aaload, 1) := by decide +kernel
theorem d_X11_bought_52 : decode cX11_bought 52 = .ok (.getfield 212, 3) := by decide +kernel
theorem d_X11_bought_55 : decode cX11_bought 55 = .ok (.iload_n 2, 1) := by decide +kernel
theorem d_X11_bought_56 : decode cX11_bought 56 = .ok (.iload_n 3, 1) := by decide +kernel
theorem d_X11_bought_57 : decode cX11_bought 57 = .ok (.invokevirtual 280, 3) := by decide +kernel
theorem d_X11_bought_60 : decode cX11_bought 60 = .ok (.aload_n 0, 1) := by decide +kernel
theorem d_X11_bought_61 : decode cX11_bought 61 = .ok (.getfield 42, 3) := by decide +kernel
theorem d_X11_bought_64 : decode cX11_bought 64 = .ok (.iload 4, 2) := by decide +kernel
theorem d_X11_bought_66 : decode cX11_bought 66 = .ok (.invokevirtual 287, 3) := by decide +kernel
theorem d_X11_bought_69 : decode cX11_bought 69 = .ok (.ireturn, 1) := by decide +kernel
theorem d_X11_lights_0 : decode cX11_lights 0 = .ok (.aload_n 0, 1) := by decide +kernel
theorem d_X11_lights_1 : decode cX11_lights 1 = .ok (.getfield 10, 3) := by decide +kernel
theorem d_X11_lights_4 : decode cX11_lights 4 = .ok (.invokevirtual 290, 3) := by decide +kernel
theorem d_X11_lights_7 : decode cX11_lights 7 = .ok (.istore_n 1, 1) := by decide +kernel
theorem d_X11_lights_8 : decode cX11_lights 8 = .ok (.iload_n 1, 1) := by decide +kernel
theorem d_X11_lights_9 : decode cX11_lights 9 = .ok (.istore_n 2, 1) := by decide +kernel
theorem d_X11_lights_10 : decode cX11_lights 10 = .ok (.iconst 0, 1) := by decide +kernel
theorem d_X11_lights_11 : decode cX11_lights 11 = .ok (.istore_n 3, 1) := by decide +kernel
theorem d_X11_lights_12 : decode cX11_lights 12 = .ok (.iload_n 3, 1) := by decide +kernel
theorem d_X11_lights_13 : decode cX11_lights 13 = .ok (.iload_n 1, 1) := by decide +kernel
theorem d_X11_lights_14 : decode cX11_lights 14 = .ok (.if_icmp .ge 57, 3) := by decide +kernel
theorem d_X11_lights_17 : decode cX11_lights 17 = .ok (.iload_n 3, 1) := by decide +kernel
theorem d_X11_lights_18 : decode cX11_lights 18 = .ok (.iload_n 1, 1) := by decide +kernel
theorem d_X11_lights_19 : decode cX11_lights 19 = .ok (.iconst (-1), 1) := by decide +kernel
theorem d_X11_lights_20 : decode cX11_lights 20 = .ok (.ixor, 1) := by decide +kernel
theorem d_X11_lights_21 : decode cX11_lights 21 = .ok (.iand, 1) := by decide +kernel
theorem d_X11_lights_22 : decode cX11_lights 22 = .ok (.ifCond .ne 18, 3) := by decide +kernel
theorem d_X11_lights_25 : decode cX11_lights 25 = .ok (.iload_n 3, 1) := by decide +kernel
theorem d_X11_lights_26 : decode cX11_lights 26 = .ok (.invokestatic 293, 3) := by decide +kernel
theorem d_X11_lights_29 : decode cX11_lights 29 = .ok (.iload_n 2, 1) := by decide +kernel
theorem d_X11_lights_30 : decode cX11_lights 30 = .ok (.invokestatic 293, 3) := by decide +kernel
theorem d_X11_lights_33 : decode cX11_lights 33 = .ok (.if_icmp .ge 7, 3) := by decide +kernel
theorem d_X11_lights_36 : decode cX11_lights 36 = .ok (.iconst 1, 1) := by decide +kernel
theorem d_X11_lights_37 : decode cX11_lights 37 = .ok (.goto 4, 3) := by decide +kernel
theorem d_X11_lights_40 : decode cX11_lights 40 = .ok (.iconst 0, 1) := by decide +kernel
theorem d_X11_lights_41 : decode cX11_lights 41 = .ok (.istore 4, 2) := by decide +kernel
theorem d_X11_lights_43 : decode cX11_lights 43 = .ok (.iload 4, 2) := by decide +kernel
theorem d_X11_lights_45 : decode cX11_lights 45 = .ok (.ifCond .eq 20, 3) := by decide +kernel
theorem d_X11_lights_48 : decode cX11_lights 48 = .ok (.aload_n 0, 1) := by decide +kernel
theorem d_X11_lights_49 : decode cX11_lights 49 = .ok (.getfield 10, 3) := by decide +kernel
theorem d_X11_lights_52 : decode cX11_lights 52 = .ok (.iload_n 1, 1) := by decide +kernel
theorem d_X11_lights_53 : decode cX11_lights 53 = .ok (.iload_n 3, 1) := by decide +kernel
theorem d_X11_lights_54 : decode cX11_lights 54 = .ok (.iconst (-1), 1) := by decide +kernel
theorem d_X11_lights_55 : decode cX11_lights 55 = .ok (.ixor, 1) := by decide +kernel
theorem d_X11_lights_56 : decode cX11_lights 56 = .ok (.iand, 1) := by decide +kernel
theorem d_X11_lights_57 : decode cX11_lights 57 = .ok (.invokevirtual 298, 3) := by decide +kernel
theorem d_X11_lights_60 : decode cX11_lights 60 = .ok (.ifCond .eq 5, 3) := by decide +kernel
theorem d_X11_lights_63 : decode cX11_lights 63 = .ok (.iload_n 3, 1) := by decide +kernel
theorem d_X11_lights_64 : decode cX11_lights 64 = .ok (.istore_n 2, 1) := by decide +kernel
theorem d_X11_lights_65 : decode cX11_lights 65 = .ok (.iinc 3 1, 3) := by decide +kernel
theorem d_X11_lights_68 : decode cX11_lights 68 = .ok (.goto (-56), 3) := by decide +kernel
theorem d_X11_lights_71 : decode cX11_lights 71 = .ok (.iload_n 2, 1) := by decide +kernel
theorem d_X11_lights_72 : decode cX11_lights 72 = .ok (.ireturn, 1) := by decide +kernel
theorem d_X11_gives_0 : decode cX11_gives 0 = .ok (.aload_n 0, 1) := by decide +kernel
theorem d_X11_gives_1 : decode cX11_gives 1 = .ok (.getfield 10, 3) := by decide +kernel
theorem d_X11_gives_4 : decode cX11_gives 4 = .ok (.iload_n 1, 1) := by decide +kernel
theorem d_X11_gives_5 : decode cX11_gives 5 = .ok (.invokevirtual 136, 3) := by decide +kernel
theorem d_X11_gives_8 : decode cX11_gives 8 = .ok (.ifCond .eq 30, 3) := by decide +kernel
theorem d_X11_gives_11 : decode cX11_gives 11 = .ok (.aload_n 0, 1) := by decide +kernel
theorem d_X11_gives_12 : decode cX11_gives 12 = .ok (.getfield 10, 3) := by decide +kernel
theorem d_X11_gives_15 : decode cX11_gives 15 = .ok (.iload_n 2, 1) := by decide +kernel
theorem d_X11_gives_16 : decode cX11_gives 16 = .ok (.invokevirtual 136, 3) := by decide +kernel
theorem d_X11_gives_19 : decode cX11_gives 19 = .ok (.ifCond .eq 19, 3) := by decide +kernel
theorem d_X11_gives_22 : decode cX11_gives 22 = .ok (.iload_n 1, 1) := by decide +kernel
theorem d_X11_gives_23 : decode cX11_gives 23 = .ok (.iload_n 2, 1) := by decide +kernel
theorem d_X11_gives_24 : decode cX11_gives 24 = .ok (.if_icmp .eq 14, 3) := by decide +kernel
theorem d_X11_gives_27 : decode cX11_gives 27 = .ok (.aload_n 0, 1) := by decide +kernel
theorem d_X11_gives_28 : decode cX11_gives 28 = .ok (.getfield 10, 3) := by decide +kernel
theorem d_X11_gives_31 : decode cX11_gives 31 = .ok (.iload_n 3, 1) := by decide +kernel
theorem d_X11_gives_32 : decode cX11_gives 32 = .ok (.invokevirtual 86, 3) := by decide +kernel
theorem d_X11_gives_35 : decode cX11_gives 35 = .ok (.ifCond .ne 5, 3) := by decide +kernel
theorem d_X11_gives_38 : decode cX11_gives 38 = .ok (.iconst (-1), 1) := by decide +kernel
theorem d_X11_gives_39 : decode cX11_gives 39 = .ok (.ireturn, 1) := by decide +kernel
theorem d_X11_gives_40 : decode cX11_gives 40 = .ok (.aload_n 0, 1) := by decide +kernel
theorem d_X11_gives_41 : decode cX11_gives 41 = .ok (.getfield 10, 3) := by decide +kernel
theorem d_X11_gives_44 : decode cX11_gives 44 = .ok (.getfield 62, 3) := by decide +kernel
theorem d_X11_gives_47 : decode cX11_gives 47 = .ok (.iload_n 3, 1) := by decide +kernel
theorem d_X11_gives_48 : decode cX11_gives 48 = .ok (.aaload, 1) := by decide +kernel
theorem d_X11_gives_49 : decode cX11_gives 49 = .ok (.getfield 89, 3) := by decide +kernel
theorem d_X11_gives_52 : decode cX11_gives 52 = .ok (.istore 6, 2) := by decide +kernel
theorem d_X11_gives_54 : decode cX11_gives 54 = .ok (.iconst (-1), 1) := by decide +kernel
theorem d_X11_gives_55 : decode cX11_gives 55 = .ok (.istore 7, 2) := by decide +kernel
theorem d_X11_gives_57 : decode cX11_gives 57 = .ok (.iconst 0, 1) := by decide +kernel
theorem d_X11_gives_58 : decode cX11_gives 58 = .ok (.istore 8, 2) := by decide +kernel
theorem d_X11_gives_60 : decode cX11_gives 60 = .ok (.iload 8, 2) := by decide +kernel
theorem d_X11_gives_62 : decode cX11_gives 62 = .ok (.aload_n 0, 1) := by decide +kernel
theorem d_X11_gives_63 : decode cX11_gives 63 = .ok (.getfield 10, 3) := by decide +kernel
theorem d_X11_gives_66 : decode cX11_gives 66 = .ok (.getfield 227, 3) := by decide +kernel
theorem d_X11_gives_69 : decode cX11_gives 69 = .ok (.if_icmp .ge 72, 3) := by decide +kernel
theorem d_X11_gives_72 : decode cX11_gives 72 = .ok (.iload 7, 2) := by decide +kernel
theorem d_X11_gives_74 : decode cX11_gives 74 = .ok (.iconst (-1), 1) := by decide +kernel
theorem d_X11_gives_75 : decode cX11_gives 75 = .ok (.if_icmp .ne 66, 3) := by decide +kernel
theorem d_X11_gives_78 : decode cX11_gives 78 = .ok (.aload_n 0, 1) := by decide +kernel
theorem d_X11_gives_79 : decode cX11_gives 79 = .ok (.getfield 10, 3) := by decide +kernel
theorem d_X11_gives_82 : decode cX11_gives 82 = .ok (.getfield 230, 3) := by decide +kernel
theorem d_X11_gives_85 : decode cX11_gives 85 = .ok (.iload 8, 2) := by decide +kernel
theorem d_X11_gives_87 : decode cX11_gives 87 = .ok (.aaload, 1) := by decide +kernel
theorem d_X11_gives_88 : decode cX11_gives 88 = .ok (.astore 9, 2) := by decide +kernel
theorem d_X11_gives_90 : decode cX11_gives 90 = .ok (.aload 9, 2) := by decide +kernel
theorem d_X11_gives_92 : decode cX11_gives 92 = .ok (.aload_n 0, 1) := by decide +kernel
theorem d_X11_gives_93 : decode cX11_gives 93 = .ok (.getfield 10, 3) := by decide +kernel
theorem d_X11_gives_96 : decode cX11_gives 96 = .ok (.invokevirtual 180, 3) := by decide +kernel
theorem d_X11_gives_99 : decode cX11_gives 99 = .ok (.invokevirtual 301, 3) := by decide +kernel
theorem d_X11_gives_102 : decode cX11_gives 102 = .ok (.ifCond .eq 33, 3) := by decide +kernel
theorem d_X11_gives_105 : decode cX11_gives 105 = .ok (.iload 6, 2) := by decide +kernel
theorem d_X11_gives_107 : decode cX11_gives 107 = .ok (.aload 9, 2) := by decide +kernel
theorem d_X11_gives_109 : decode cX11_gives 109 = .ok (.getfield 304, 3) := by decide +kernel
theorem d_X11_gives_112 : decode cX11_gives 112 = .ok (.invokestatic 92, 3) := by decide +kernel
theorem d_X11_gives_115 : decode cX11_gives 115 = .ok (.ifCond .eq 20, 3) := by decide +kernel
theorem d_X11_gives_118 : decode cX11_gives 118 = .ok (.aload_n 0, 1) := by decide +kernel
theorem d_X11_gives_119 : decode cX11_gives 119 = .ok (.aload 9, 2) := by decide +kernel
theorem d_X11_gives_121 : decode cX11_gives 121 = .ok (.getfield 305, 3) := by decide +kernel
theorem d_X11_gives_124 : decode cX11_gives 124 = .ok (.iload_n 1, 1) := by decide +kernel
theorem d_X11_gives_125 : decode cX11_gives 125 = .ok (.iload_n 2, 1) := by decide +kernel
theorem d_X11_gives_126 : decode cX11_gives 126 = .ok (.iload 4, 2) := by decide +kernel
theorem d_X11_gives_128 : decode cX11_gives 128 = .ok (.iload 5, 2) := by decide +kernel
theorem d_X11_gives_130 : decode cX11_gives 130 = .ok (.invokevirtual 306, 3) := by decide +kernel
theorem d_X11_gives_133 : decode cX11_gives 133 = .ok (.istore 7, 2) := by decide +kernel
theorem d_X11_gives_135 : decode cX11_gives 135 = .ok (.iinc 8 1, 3) := by decide +kernel
theorem d_X11_gives_138 : decode cX11_gives 138 = .ok (.goto (-78), 3) := by decide +kernel
theorem d_X11_gives_141 : decode cX11_gives 141 = .ok (.iload 7, 2) := by decide +kernel
theorem d_X11_gives_143 : decode cX11_gives 143 = .ok (.ireturn, 1) := by decide +kernel
theorem d_X11_count_0 : decode cX11_count 0 = .ok (.iload_n 1, 1) := by decide +kernel
theorem d_X11_count_1 : decode cX11_count 1 = .ok (.tableswitch 143 0 9 #[55, 63, 71, 79, 87, 95, 103, 111, 119, 135], 55) := by decide +kernel
theorem d_X11_count_56 : decode cX11_count 56 = .ok (.aload_n 0, 1) := by decide +kernel
theorem d_X11_count_57 : decode cX11_count 57 = .ok (.getfield 10, 3) := by decide +kernel
theorem d_X11_count_60 : decode cX11_count 60 = .ok (.getfield 59, 3) := by decide +kernel
theorem d_X11_count_63 : decode cX11_count 63 = .ok (.ireturn, 1) := by decide +kernel
theorem d_X11_count_64 : decode cX11_count 64 = .ok (.aload_n 0, 1) := by decide +kernel
theorem d_X11_count_65 : decode cX11_count 65 = .ok (.getfield 10, 3) := by decide +kernel
theorem d_X11_count_68 : decode cX11_count 68 = .ok (.getfield 110, 3) := by decide +kernel
theorem d_X11_count_71 : decode cX11_count 71 = .ok (.ireturn, 1) := by decide +kernel
theorem d_X11_count_72 : decode cX11_count 72 = .ok (.aload_n 0, 1) := by decide +kernel
theorem d_X11_count_73 : decode cX11_count 73 = .ok (.getfield 10, 3) := by decide +kernel
theorem d_X11_count_76 : decode cX11_count 76 = .ok (.getfield 123, 3) := by decide +kernel
theorem d_X11_count_79 : decode cX11_count 79 = .ok (.ireturn, 1) := by decide +kernel
theorem d_X11_count_80 : decode cX11_count 80 = .ok (.aload_n 0, 1) := by decide +kernel
theorem d_X11_count_81 : decode cX11_count 81 = .ok (.getfield 10, 3) := by decide +kernel
theorem d_X11_count_84 : decode cX11_count 84 = .ok (.getfield 215, 3) := by decide +kernel
theorem d_X11_count_87 : decode cX11_count 87 = .ok (.ireturn, 1) := by decide +kernel
theorem d_X11_count_88 : decode cX11_count 88 = .ok (.aload_n 0, 1) := by decide +kernel
theorem d_X11_count_89 : decode cX11_count 89 = .ok (.getfield 10, 3) := by decide +kernel
theorem d_X11_count_92 : decode cX11_count 92 = .ok (.getfield 227, 3) := by decide +kernel
theorem d_X11_count_95 : decode cX11_count 95 = .ok (.ireturn, 1) := by decide +kernel
theorem d_X11_count_96 : decode cX11_count 96 = .ok (.aload_n 0, 1) := by decide +kernel
theorem d_X11_count_97 : decode cX11_count 97 = .ok (.getfield 10, 3) := by decide +kernel
theorem d_X11_count_100 : decode cX11_count 100 = .ok (.getfield 194, 3) := by decide +kernel
theorem d_X11_count_103 : decode cX11_count 103 = .ok (.ireturn, 1) := by decide +kernel
theorem d_X11_count_104 : decode cX11_count 104 = .ok (.aload_n 0, 1) := by decide +kernel
theorem d_X11_count_105 : decode cX11_count 105 = .ok (.getfield 10, 3) := by decide +kernel
theorem d_X11_count_108 : decode cX11_count 108 = .ok (.getfield 167, 3) := by decide +kernel
theorem d_X11_count_111 : decode cX11_count 111 = .ok (.ireturn, 1) := by decide +kernel
theorem d_X11_count_112 : decode cX11_count 112 = .ok (.aload_n 0, 1) := by decide +kernel
theorem d_X11_count_113 : decode cX11_count 113 = .ok (.getfield 10, 3) := by decide +kernel
theorem d_X11_count_116 : decode cX11_count 116 = .ok (.invokevirtual 310, 3) := by decide +kernel
theorem d_X11_count_119 : decode cX11_count 119 = .ok (.ireturn, 1) := by decide +kernel
theorem d_X11_count_120 : decode cX11_count 120 = .ok (.aload_n 0, 1) := by decide +kernel
theorem d_X11_count_121 : decode cX11_count 121 = .ok (.getfield 10, 3) := by decide +kernel
theorem d_X11_count_124 : decode cX11_count 124 = .ok (.invokevirtual 313, 3) := by decide +kernel
theorem d_X11_count_127 : decode cX11_count 127 = .ok (.ifCond .eq 7, 3) := by decide +kernel
theorem d_X11_count_130 : decode cX11_count 130 = .ok (.iconst 1, 1) := by decide +kernel
theorem d_X11_count_131 : decode cX11_count 131 = .ok (.goto 4, 3) := by decide +kernel
theorem d_X11_count_134 : decode cX11_count 134 = .ok (.iconst 0, 1) := by decide +kernel
theorem d_X11_count_135 : decode cX11_count 135 = .ok (.ireturn, 1) := by decide +kernel
theorem d_X11_count_136 : decode cX11_count 136 = .ok (.aload_n 0, 1) := by decide +kernel
theorem d_X11_count_137 : decode cX11_count 137 = .ok (.getfield 35, 3) := by decide +kernel
theorem d_X11_count_140 : decode cX11_count 140 = .ok (.getfield 316, 3) := by decide +kernel
theorem d_X11_count_143 : decode cX11_count 143 = .ok (.ireturn, 1) := by decide +kernel
theorem d_X11_count_144 : decode cX11_count 144 = .ok (.iconst (-1), 1) := by decide +kernel
theorem d_X11_count_145 : decode cX11_count 145 = .ok (.ireturn, 1) := by decide +kernel
theorem d_X11_act_0 : decode cX11_act 0 = .ok (.aload_n 0, 1) := by decide +kernel
theorem d_X11_act_1 : decode cX11_act 1 = .ok (.getfield 10, 3) := by decide +kernel
theorem d_X11_act_4 : decode cX11_act 4 = .ok (.iload_n 1, 1) := by decide +kernel
theorem d_X11_act_5 : decode cX11_act 5 = .ok (.invokevirtual 86, 3) := by decide +kernel
theorem d_X11_act_8 : decode cX11_act 8 = .ok (.ifCond .eq 12, 3) := by decide +kernel
theorem d_X11_act_11 : decode cX11_act 11 = .ok (.iload_n 2, 1) := by decide +kernel
theorem d_X11_act_12 : decode cX11_act 12 = .ok (.iconst 0, 1) := by decide +kernel
theorem d_X11_act_13 : decode cX11_act 13 = .ok (.iconst 3, 1) := by decide +kernel
theorem d_X11_act_14 : decode cX11_act 14 = .ok (.invokestatic 51, 3) := by decide +kernel
theorem d_X11_act_17 : decode cX11_act 17 = .ok (.ifCond .ne 9, 3) := by decide +kernel
theorem d_X11_act_20 : decode cX11_act 20 = .ok (.aload_n 0, 1) := by decide +kernel
theorem d_X11_act_21 : decode cX11_act 21 = .ok (.iconst 1, 1) := by decide +kernel
theorem d_X11_act_22 : decode cX11_act 22 = .ok (.invokevirtual 55, 3) := by decide +kernel
theorem d_X11_act_25 : decode cX11_act 25 = .ok (.ireturn, 1) := by decide +kernel
theorem d_X11_act_26 : decode cX11_act 26 = .ok (.aload_n 0, 1) := by decide +kernel
theorem d_X11_act_27 : decode cX11_act 27 = .ok (.aload_n 0, 1) := by decide +kernel
theorem d_X11_act_28 : decode cX11_act 28 = .ok (.getfield 35, 3) := by decide +kernel
theorem d_X11_act_31 : decode cX11_act 31 = .ok (.aload_n 0, 1) := by decide +kernel
theorem d_X11_act_32 : decode cX11_act 32 = .ok (.getfield 10, 3) := by decide +kernel
theorem d_X11_act_35 : decode cX11_act 35 = .ok (.getfield 62, 3) := by decide +kernel
theorem d_X11_act_38 : decode cX11_act 38 = .ok (.iload_n 1, 1) := by decide +kernel
theorem d_X11_act_39 : decode cX11_act 39 = .ok (.aaload, 1) := by decide +kernel
theorem d_X11_act_40 : decode cX11_act 40 = .ok (.iload_n 2, 1) := by decide +kernel
theorem d_X11_act_41 : decode cX11_act 41 = .ok (.iload_n 3, 1) := by decide +kernel
theorem d_X11_act_42 : decode cX11_act 42 = .ok (.invokevirtual 319, 3) := by decide +kernel
theorem d_X11_act_45 : decode cX11_act 45 = .ok (.invokevirtual 72, 3) := by decide +kernel
theorem d_X11_act_48 : decode cX11_act 48 = .ok (.ireturn, 1) := by decide +kernel
theorem d_X11_trace_0 : decode cX11_trace 0 = .ok (.iload_n 1, 1) := by decide +kernel
theorem d_X11_trace_1 : decode cX11_trace 1 = .ok (.iconst 0, 1) := by decide +kernel
theorem d_X11_trace_2 : decode cX11_trace 2 = .ok (.aload_n 0, 1) := by decide +kernel
theorem d_X11_trace_3 : decode cX11_trace 3 = .ok (.getfield 35, 3) := by decide +kernel
theorem d_X11_trace_6 : decode cX11_trace 6 = .ok (.getfield 316, 3) := by decide +kernel
theorem d_X11_trace_9 : decode cX11_trace 9 = .ok (.iconst 1, 1) := by decide +kernel
theorem d_X11_trace_10 : decode cX11_trace 10 = .ok (.isub, 1) := by decide +kernel
theorem d_X11_trace_11 : decode cX11_trace 11 = .ok (.invokestatic 51, 3) := by decide +kernel
theorem d_X11_trace_14 : decode cX11_trace 14 = .ok (.ifCond .eq 15, 3) := by decide +kernel
theorem d_X11_trace_17 : decode cX11_trace 17 = .ok (.aload_n 0, 1) := by decide +kernel
theorem d_X11_trace_18 : decode cX11_trace 18 = .ok (.getfield 35, 3) := by decide +kernel
theorem d_X11_trace_21 : decode cX11_trace 21 = .ok (.getfield 322, 3) := by decide +kernel
theorem d_X11_trace_24 : decode cX11_trace 24 = .ok (.iload_n 1, 1) := by decide +kernel
theorem d_X11_trace_25 : decode cX11_trace 25 = .ok (.iaload, 1) := by decide +kernel
theorem d_X11_trace_26 : decode cX11_trace 26 = .ok (.goto 4, 3) := by decide +kernel
theorem d_X11_trace_29 : decode cX11_trace 29 = .ok (.iconst (-1), 1) := by decide +kernel
theorem d_X11_trace_30 : decode cX11_trace 30 = .ok (.ireturn, 1) := by decide +kernel
theorem d_X11_sheet_0 : decode cX11_sheet 0 = .ok (.iload_n 2, 1) := by decide +kernel
theorem d_X11_sheet_1 : decode cX11_sheet 1 = .ok (.iconst (-1), 1) := by decide +kernel
theorem d_X11_sheet_2 : decode cX11_sheet 2 = .ok (.if_icmp .ne 7, 3) := by decide +kernel
theorem d_X11_sheet_5 : decode cX11_sheet 5 = .ok (.iconst 1, 1) := by decide +kernel
theorem d_X11_sheet_6 : decode cX11_sheet 6 = .ok (.goto 4, 3) := by decide +kernel
theorem d_X11_sheet_9 : decode cX11_sheet 9 = .ok (.iconst 0, 1) := by decide +kernel
theorem d_X11_sheet_10 : decode cX11_sheet 10 = .ok (.istore 4, 2) := by decide +kernel
theorem d_X11_sheet_12 : decode cX11_sheet 12 = .ok (.iload_n 2, 1) := by decide +kernel
theorem d_X11_sheet_13 : decode cX11_sheet 13 = .ok (.iconst 0, 1) := by decide +kernel
theorem d_X11_sheet_14 : decode cX11_sheet 14 = .ok (.iconst 2, 1) := by decide +kernel
theorem d_X11_sheet_15 : decode cX11_sheet 15 = .ok (.invokestatic 51, 3) := by decide +kernel
theorem d_X11_sheet_18 : decode cX11_sheet 18 = .ok (.ifCond .eq 17, 3) := by decide +kernel
theorem d_X11_sheet_21 : decode cX11_sheet 21 = .ok (.iload_n 3, 1) := by decide +kernel
theorem d_X11_sheet_22 : decode cX11_sheet 22 = .ok (.iconst 0, 1) := by decide +kernel
theorem d_X11_sheet_23 : decode cX11_sheet 23 = .ok (.bipush 40, 2) := by decide +kernel
theorem d_X11_sheet_25 : decode cX11_sheet 25 = .ok (.invokestatic 51, 3) := by decide +kernel
theorem d_X11_sheet_28 : decode cX11_sheet 28 = .ok (.ifCond .eq 7, 3) := by decide +kernel
theorem d_X11_sheet_31 : decode cX11_sheet 31 = .ok (.iconst 1, 1) := by decide +kernel
theorem d_X11_sheet_32 : decode cX11_sheet 32 = .ok (.goto 4, 3) := by decide +kernel
theorem d_X11_sheet_35 : decode cX11_sheet 35 = .ok (.iconst 0, 1) := by decide +kernel
theorem d_X11_sheet_36 : decode cX11_sheet 36 = .ok (.istore 5, 2) := by decide +kernel
theorem d_X11_sheet_38 : decode cX11_sheet 38 = .ok (.iload_n 1, 1) := by decide +kernel
theorem d_X11_sheet_39 : decode cX11_sheet 39 = .ok (.invokestatic 325, 3) := by decide +kernel
theorem d_X11_sheet_42 : decode cX11_sheet 42 = .ok (.ifCond .eq 13, 3) := by decide +kernel
theorem d_X11_sheet_45 : decode cX11_sheet 45 = .ok (.iload 4, 2) := by decide +kernel
theorem d_X11_sheet_47 : decode cX11_sheet 47 = .ok (.ifCond .ne 14, 3) := by decide +kernel
theorem d_X11_sheet_50 : decode cX11_sheet 50 = .ok (.iload 5, 2) := by decide +kernel
theorem d_X11_sheet_52 : decode cX11_sheet 52 = .ok (.ifCond .ne 9, 3) := by decide +kernel
theorem d_X11_sheet_55 : decode cX11_sheet 55 = .ok (.aload_n 0, 1) := by decide +kernel
theorem d_X11_sheet_56 : decode cX11_sheet 56 = .ok (.iconst 1, 1) := by decide +kernel
theorem d_X11_sheet_57 : decode cX11_sheet 57 = .ok (.invokevirtual 55, 3) := by decide +kernel
theorem d_X11_sheet_60 : decode cX11_sheet 60 = .ok (.ireturn, 1) := by decide +kernel
theorem d_X11_sheet_61 : decode cX11_sheet 61 = .ok (.aload_n 0, 1) := by decide +kernel
theorem d_X11_sheet_62 : decode cX11_sheet 62 = .ok (.getfield 28, 3) := by decide +kernel
theorem d_X11_sheet_65 : decode cX11_sheet 65 = .ok (.iload_n 1, 1) := by decide +kernel
theorem d_X11_sheet_66 : decode cX11_sheet 66 = .ok (.aaload, 1) := by decide +kernel
theorem d_X11_sheet_67 : decode cX11_sheet 67 = .ok (.iload_n 2, 1) := by decide +kernel
theorem d_X11_sheet_68 : decode cX11_sheet 68 = .ok (.iload 4, 2) := by decide +kernel
theorem d_X11_sheet_70 : decode cX11_sheet 70 = .ok (.ifCond .eq 7, 3) := by decide +kernel
theorem d_X11_sheet_73 : decode cX11_sheet 73 = .ok (.iconst 0, 1) := by decide +kernel
theorem d_X11_sheet_74 : decode cX11_sheet 74 = .ok (.goto 4, 3) := by decide +kernel
theorem d_X11_sheet_77 : decode cX11_sheet 77 = .ok (.iload_n 3, 1) := by decide +kernel
theorem d_X11_sheet_78 : decode cX11_sheet 78 = .ok (.invokevirtual 328, 3) := by decide +kernel
theorem d_X11_sheet_81 : decode cX11_sheet 81 = .ok (.aload_n 0, 1) := by decide +kernel
theorem d_X11_sheet_82 : decode cX11_sheet 82 = .ok (.iconst 1, 1) := by decide +kernel
theorem d_X11_sheet_83 : decode cX11_sheet 83 = .ok (.invokevirtual 72, 3) := by decide +kernel
theorem d_X11_sheet_86 : decode cX11_sheet 86 = .ok (.ireturn, 1) := by decide +kernel
theorem d_X11_cell_0 : decode cX11_cell 0 = .ok (.iload_n 1, 1) := by decide +kernel
theorem d_X11_cell_1 : decode cX11_cell 1 = .ok (.invokestatic 325, 3) := by decide +kernel
theorem d_X11_cell_4 : decode cX11_cell 4 = .ok (.ifCond .eq 16, 3) := by decide +kernel
theorem d_X11_cell_7 : decode cX11_cell 7 = .ok (.iload_n 3, 1) := by decide +kernel
theorem d_X11_cell_8 : decode cX11_cell 8 = .ok (.sipush (-1000), 3) := by decide +kernel
theorem d_X11_cell_11 : decode cX11_cell 11 = .ok (.sipush 1000, 3) := by decide +kernel
theorem d_X11_cell_14 : decode cX11_cell 14 = .ok (.invokestatic 51, 3) := by decide +kernel
theorem d_X11_cell_17 : decode cX11_cell 17 = .ok (.ifCond .ne 9, 3) := by decide +kernel
theorem d_X11_cell_20 : decode cX11_cell 20 = .ok (.aload_n 0, 1) := by decide +kernel
theorem d_X11_cell_21 : decode cX11_cell 21 = .ok (.iconst 1, 1) := by decide +kernel
theorem d_X11_cell_22 : decode cX11_cell 22 = .ok (.invokevirtual 55, 3) := by decide +kernel
theorem d_X11_cell_25 : decode cX11_cell 25 = .ok (.ireturn, 1) := by decide +kernel
theorem d_X11_cell_26 : decode cX11_cell 26 = .ok (.aload_n 0, 1) := by decide +kernel
theorem d_X11_cell_27 : decode cX11_cell 27 = .ok (.getfield 28, 3) := by decide +kernel
theorem d_X11_cell_30 : decode cX11_cell 30 = .ok (.iload_n 1, 1) := by decide +kernel
theorem d_X11_cell_31 : decode cX11_cell 31 = .ok (.aaload, 1) := by decide +kernel
theorem d_X11_cell_32 : decode cX11_cell 32 = .ok (.astore 4, 2) := by decide +kernel
theorem d_X11_cell_34 : decode cX11_cell 34 = .ok (.aload 4, 2) := by decide +kernel
theorem d_X11_cell_36 : decode cX11_cell 36 = .ok (.invokevirtual 330, 3) := by decide +kernel
theorem d_X11_cell_39 : decode cX11_cell 39 = .ok (.ifCond .eq 10, 3) := by decide +kernel
theorem d_X11_cell_42 : decode cX11_cell 42 = .ok (.aload_n 0, 1) := by decide +kernel
theorem d_X11_cell_43 : decode cX11_cell 43 = .ok (.bipush 10, 2) := by decide +kernel
theorem d_X11_cell_45 : decode cX11_cell 45 = .ok (.invokevirtual 55, 3) := by decide +kernel
theorem d_X11_cell_48 : decode cX11_cell 48 = .ok (.ireturn, 1) := by decide +kernel
theorem d_X11_cell_49 : decode cX11_cell 49 = .ok (.aload 4, 2) := by decide +kernel
theorem d_X11_cell_51 : decode cX11_cell 51 = .ok (.iload_n 2, 1) := by decide +kernel
theorem d_X11_cell_52 : decode cX11_cell 52 = .ok (.invokevirtual 333, 3) := by decide +kernel
theorem d_X11_cell_55 : decode cX11_cell 55 = .ok (.ifCond .ne 10, 3) := by decide +kernel
theorem d_X11_cell_58 : decode cX11_cell 58 = .ok (.aload_n 0, 1) := by decide +kernel
theorem d_X11_cell_59 : decode cX11_cell 59 = .ok (.bipush 12, 2) := by decide +kernel
theorem d_X11_cell_61 : decode cX11_cell 61 = .ok (.invokevirtual 55, 3) := by decide +kernel
theorem d_X11_cell_64 : decode cX11_cell 64 = .ok (.ireturn, 1) := by decide +kernel
theorem d_X11_cell_65 : decode cX11_cell 65 = .ok (.aload 4, 2) := by decide +kernel
theorem d_X11_cell_67 : decode cX11_cell 67 = .ok (.iload_n 2, 1) := by decide +kernel
theorem d_X11_cell_68 : decode cX11_cell 68 = .ok (.iload_n 3, 1) := by decide +kernel
theorem d_X11_cell_69 : decode cX11_cell 69 = .ok (.invokevirtual 336, 3) := by decide +kernel
theorem d_X11_cell_72 : decode cX11_cell 72 = .ok (.aload_n 0, 1) := by decide +kernel
theorem d_X11_cell_73 : decode cX11_cell 73 = .ok (.iconst 1, 1) := by decide +kernel
theorem d_X11_cell_74 : decode cX11_cell 74 = .ok (.invokevirtual 72, 3) := by decide +kernel
theorem d_X11_cell_77 : decode cX11_cell 77 = .ok (.ireturn, 1) := by decide +kernel
theorem d_X11_none_0 : decode cX11_none 0 = .ok (.iload_n 1, 1) := by decide +kernel
theorem d_X11_none_1 : decode cX11_none 1 = .ok (.invokestatic 325, 3) := by decide +kernel
theorem d_X11_none_4 : decode cX11_none 4 = .ok (.ifCond .ne 9, 3) := by decide +kernel
theorem d_X11_none_7 : decode cX11_none 7 = .ok (.aload_n 0, 1) := by decide +kernel
theorem d_X11_none_8 : decode cX11_none 8 = .ok (.iconst 1, 1) := by decide +kernel
theorem d_X11_none_9 : decode cX11_none 9 = .ok (.invokevirtual 55, 3) := by decide +kernel
theorem d_X11_none_12 : decode cX11_none 12 = .ok (.ireturn, 1) := by decide +kernel
theorem d_X11_none_13 : decode cX11_none 13 = .ok (.aload_n 0, 1) := by decide +kernel
theorem d_X11_none_14 : decode cX11_none 14 = .ok (.getfield 28, 3) := by decide +kernel
theorem d_X11_none_17 : decode cX11_none 17 = .ok (.iload_n 1, 1) := by decide +kernel
theorem d_X11_none_18 : decode cX11_none 18 = .ok (.aaload, 1) := by decide +kernel
theorem d_X11_none_19 : decode cX11_none 19 = .ok (.astore_n 3, 1) := by decide +kernel
theorem d_X11_none_20 : decode cX11_none 20 = .ok (.aload_n 3, 1) := by decide +kernel
theorem d_X11_none_21 : decode cX11_none 21 = .ok (.iconst 2, 1) := by decide +kernel
theorem d_X11_none_22 : decode cX11_none 22 = .ok (.invokevirtual 339, 3) := by decide +kernel
theorem d_X11_none_25 : decode cX11_none 25 = .ok (.istore 4, 2) := by decide +kernel
theorem d_X11_none_27 : decode cX11_none 27 = .ok (.iload 4, 2) := by decide +kernel
theorem d_X11_none_29 : decode cX11_none 29 = .ok (.ifCond .eq 10, 3) := by decide +kernel
theorem d_X11_none_32 : decode cX11_none 32 = .ok (.aload_n 0, 1) := by decide +kernel
theorem d_X11_none_33 : decode cX11_none 33 = .ok (.iload 4, 2) := by decide +kernel
theorem d_X11_none_35 : decode cX11_none 35 = .ok (.invokevirtual 55, 3) := by decide +kernel
theorem d_X11_none_38 : decode cX11_none 38 = .ok (.ireturn, 1) := by decide +kernel
theorem d_X11_none_39 : decode cX11_none 39 = .ok (.aload_n 3, 1) := by decide +kernel
theorem d_X11_none_40 : decode cX11_none 40 = .ok (.iload_n 2, 1) := by decide +kernel
theorem d_X11_none_41 : decode cX11_none 41 = .ok (.invokevirtual 333, 3) := by decide +kernel
theorem d_X11_none_44 : decode cX11_none 44 = .ok (.ifCond .ne 10, 3) := by decide +kernel
theorem d_X11_none_47 : decode cX11_none 47 = .ok (.aload_n 0, 1) := by decide +kernel
theorem d_X11_none_48 : decode cX11_none 48 = .ok (.bipush 12, 2) := by decide +kernel
theorem d_X11_none_50 : decode cX11_none 50 = .ok (.invokevirtual 55, 3) := by decide +kernel
theorem d_X11_none_53 : decode cX11_none 53 = .ok (.ireturn, 1) := by decide +kernel
theorem d_X11_none_54 : decode cX11_none 54 = .ok (.aload_n 3, 1) := by decide +kernel
theorem d_X11_none_55 : decode cX11_none 55 = .ok (.getfield 342, 3) := by decide +kernel
theorem d_X11_none_58 : decode cX11_none 58 = .ok (.iload_n 2, 1) := by decide +kernel
theorem d_X11_none_59 : decode cX11_none 59 = .ok (.sipush (-9999), 3) := by decide +kernel
theorem d_X11_none_62 : decode cX11_none 62 = .ok (.iastore, 1) := by decide +kernel
theorem d_X11_none_63 : decode cX11_none 63 = .ok (.aload_n 0, 1) := by decide +kernel
theorem d_X11_none_64 : decode cX11_none 64 = .ok (.iconst 1, 1) := by decide +kernel
theorem d_X11_none_65 : decode cX11_none 65 = .ok (.invokevirtual 72, 3) := by decide +kernel
theorem d_X11_none_68 : decode cX11_none 68 = .ok (.ireturn, 1) := by decide +kernel
theorem d_X11_gauges_0 : decode cX11_gauges 0 = .ok (.iload_n 1, 1) := by decide +kernel
theorem d_X11_gauges_1 : decode cX11_gauges 1 = .ok (.invokestatic 75, 3) := by decide +kernel
theorem d_X11_gauges_4 : decode cX11_gauges 4 = .ok (.ifCond .eq 25, 3) := by decide +kernel
theorem d_X11_gauges_7 : decode cX11_gauges 7 = .ok (.iload_n 2, 1) := by decide +kernel
theorem d_X11_gauges_8 : decode cX11_gauges 8 = .ok (.invokestatic 325, 3) := by decide +kernel
theorem d_X11_gauges_11 : decode cX11_gauges 11 = .ok (.ifCond .eq 18, 3) := by decide +kernel
theorem d_X11_gauges_14 : decode cX11_gauges 14 = .ok (.iload 4, 2) := by decide +kernel
theorem d_X11_gauges_16 : decode cX11_gauges 16 = .ok (.iconst 0, 1) := by decide +kernel
theorem d_X11_gauges_17 : decode cX11_gauges 17 = .ok (.bipush 40, 2) := by decide +kernel
theorem d_X11_gauges_19 : decode cX11_gauges 19 = .ok (.invokestatic 51, 3) := by decide +kernel
theorem d_X11_gauges_22 : decode cX11_gauges 22 = .ok (.ifCond .eq 7, 3) := by decide +kernel
theorem d_X11_gauges_25 : decode cX11_gauges 25 = .ok (.iconst 1, 1) := by decide +kernel
theorem d_X11_gauges_26 : decode cX11_gauges 26 = .ok (.goto 4, 3) := by decide +kernel
theorem d_X11_gauges_29 : decode cX11_gauges 29 = .ok (.iconst 0, 1) := by decide +kernel
theorem d_X11_gauges_30 : decode cX11_gauges 30 = .ok (.istore 5, 2) := by decide +kernel
theorem d_X11_gauges_32 : decode cX11_gauges 32 = .ok (.iload 5, 2) := by decide +kernel
theorem d_X11_gauges_34 : decode cX11_gauges 34 = .ok (.ifCond .eq 12, 3) := by decide +kernel
theorem d_X11_gauges_37 : decode cX11_gauges 37 = .ok (.iload_n 1, 1) := by decide +kernel
theorem d_X11_gauges_38 : decode cX11_gauges 38 = .ok (.iload 4, 2) := by decide +kernel
theorem d_X11_gauges_40 : decode cX11_gauges 40 = .ok (.iadd, 1) := by decide +kernel
theorem d_X11_gauges_41 : decode cX11_gauges 41 = .ok (.bipush 100, 2) := by decide +kernel
theorem d_X11_gauges_43 : decode cX11_gauges 43 = .ok (.if_icmp .le 9, 3) := by decide +kernel
theorem d_X11_gauges_46 : decode cX11_gauges 46 = .ok (.aload_n 0, 1) := by decide +kernel
theorem d_X11_gauges_47 : decode cX11_gauges 47 = .ok (.iconst 1, 1) := by decide +kernel
theorem d_X11_gauges_48 : decode cX11_gauges 48 = .ok (.invokevirtual 55, 3) := by decide +kernel
theorem d_X11_gauges_51 : decode cX11_gauges 51 = .ok (.ireturn, 1) := by decide +kernel
theorem d_X11_gauges_52 : decode cX11_gauges 52 = .ok (.aload_n 0, 1) := by decide +kernel
theorem d_X11_gauges_53 : decode cX11_gauges 53 = .ok (.getfield 28, 3) := by decide +kernel
theorem d_X11_gauges_56 : decode cX11_gauges 56 = .ok (.iload_n 2, 1) := by decide +kernel
theorem d_X11_gauges_57 : decode cX11_gauges 57 = .ok (.aaload, 1) := by decide +kernel
theorem d_X11_gauges_58 : decode cX11_gauges 58 = .ok (.astore 6, 2) := by decide +kernel
theorem d_X11_gauges_60 : decode cX11_gauges 60 = .ok (.aload 6, 2) := by decide +kernel
theorem d_X11_gauges_62 : decode cX11_gauges 62 = .ok (.iconst 2, 1) := by decide +kernel
theorem d_X11_gauges_63 : decode cX11_gauges 63 = .ok (.invokevirtual 339, 3) := by decide +kernel
theorem d_X11_gauges_66 : decode cX11_gauges 66 = .ok (.istore 7, 2) := by decide +kernel
theorem d_X11_gauges_68 : decode cX11_gauges 68 = .ok (.iload 7, 2) := by decide +kernel
theorem d_X11_gauges_70 : decode cX11_gauges 70 = .ok (.ifCond .eq 10, 3) := by decide +kernel
theorem d_X11_gauges_73 : decode cX11_gauges 73 = .ok (.aload_n 0, 1) := by decide +kernel
theorem d_X11_gauges_74 : decode cX11_gauges 74 = .ok (.iload 7, 2) := by decide +kernel
theorem d_X11_gauges_76 : decode cX11_gauges 76 = .ok (.invokevirtual 55, 3) := by decide +kernel
theorem d_X11_gauges_79 : decode cX11_gauges 79 = .ok (.ireturn, 1) := by decide +kernel
theorem d_X11_gauges_80 : decode cX11_gauges 80 = .ok (.iconst 0, 1) := by decide +kernel
theorem d_X11_gauges_81 : decode cX11_gauges 81 = .ok (.istore 8, 2) := by decide +kernel
theorem d_X11_gauges_83 : decode cX11_gauges 83 = .ok (.iload 8, 2) := by decide +kernel
theorem d_X11_gauges_85 : decode cX11_gauges 85 = .ok (.iload 4, 2) := by decide +kernel
theorem d_X11_gauges_87 : decode cX11_gauges 87 = .ok (.if_icmp .ge 46, 3) := by decide +kernel
theorem d_X11_gauges_90 : decode cX11_gauges 90 = .ok (.aload 6, 2) := by decide +kernel
theorem d_X11_gauges_92 : decode cX11_gauges 92 = .ok (.iload_n 3, 1) := by decide +kernel
theorem d_X11_gauges_93 : decode cX11_gauges 93 = .ok (.iload 8, 2) := by decide +kernel
theorem d_X11_gauges_95 : decode cX11_gauges 95 = .ok (.iadd, 1) := by decide +kernel
theorem d_X11_gauges_96 : decode cX11_gauges 96 = .ok (.invokevirtual 333, 3) := by decide +kernel
theorem d_X11_gauges_99 : decode cX11_gauges 99 = .ok (.ifCond .ne 10, 3) := by decide +kernel
theorem d_X11_gauges_102 : decode cX11_gauges 102 = .ok (.aload_n 0, 1) := by decide +kernel
theorem d_X11_gauges_103 : decode cX11_gauges 103 = .ok (.bipush 12, 2) := by decide +kernel
theorem d_X11_gauges_105 : decode cX11_gauges 105 = .ok (.invokevirtual 55, 3) := by decide +kernel
theorem d_X11_gauges_108 : decode cX11_gauges 108 = .ok (.ireturn, 1) := by decide +kernel
theorem d_X11_gauges_109 : decode cX11_gauges 109 = .ok (.aload_n 0, 1) := by decide +kernel
theorem d_X11_gauges_110 : decode cX11_gauges 110 = .ok (.iload_n 1, 1) := by decide +kernel
theorem d_X11_gauges_111 : decode cX11_gauges 111 = .ok (.iload 8, 2) := by decide +kernel
theorem d_X11_gauges_113 : decode cX11_gauges 113 = .ok (.iadd, 1) := by decide +kernel
theorem d_X11_gauges_114 : decode cX11_gauges 114 = .ok (.aload 6, 2) := by decide +kernel
theorem d_X11_gauges_116 : decode cX11_gauges 116 = .ok (.getfield 342, 3) := by decide +kernel
theorem d_X11_gauges_119 : decode cX11_gauges 119 = .ok (.iload_n 3, 1) := by decide +kernel
theorem d_X11_gauges_120 : decode cX11_gauges 120 = .ok (.iload 8, 2) := by decide +kernel
theorem d_X11_gauges_122 : decode cX11_gauges 122 = .ok (.iadd, 1) := by decide +kernel
theorem d_X11_gauges_123 : decode cX11_gauges 123 = .ok (.iaload, 1) := by decide +kernel
theorem d_X11_gauges_124 : decode cX11_gauges 124 = .ok (.invokevirtual 345, 3) := by decide +kernel
theorem d_X11_gauges_127 : decode cX11_gauges 127 = .ok (.iinc 8 1, 3) := by decide +kernel
theorem d_X11_gauges_130 : decode cX11_gauges 130 = .ok (.goto (-47), 3) := by decide +kernel
theorem d_X11_gauges_133 : decode cX11_gauges 133 = .ok (.aload_n 0, 1) := by decide +kernel
theorem d_X11_gauges_134 : decode cX11_gauges 134 = .ok (.aload_n 0, 1) := by decide +kernel
theorem d_X11_gauges_135 : decode cX11_gauges 135 = .ok (.getfield 10, 3) := by decide +kernel
theorem d_X11_gauges_138 : decode cX11_gauges 138 = .ok (.getfield 83, 3) := by decide +kernel
theorem d_X11_gauges_141 : decode cX11_gauges 141 = .ok (.invokevirtual 72, 3) := by decide +kernel
theorem d_X11_gauges_144 : decode cX11_gauges 144 = .ok (.ireturn, 1) := by decide +kernel
theorem d_X11_forge_0 : decode cX11_forge 0 = .ok (.iload_n 2, 1) := by decide +kernel
theorem d_X11_forge_1 : decode cX11_forge 1 = .ok (.bipush (-100), 2) := by decide +kernel
theorem d_X11_forge_3 : decode cX11_forge 3 = .ok (.bipush 100, 2) := by decide +kernel
theorem d_X11_forge_5 : decode cX11_forge 5 = .ok (.invokestatic 51, 3) := by decide +kernel
theorem d_X11_forge_8 : decode cX11_forge 8 = .ok (.ifCond .eq 14, 3) := by decide +kernel
theorem d_X11_forge_11 : decode cX11_forge 11 = .ok (.iload_n 3, 1) := by decide +kernel
theorem d_X11_forge_12 : decode cX11_forge 12 = .ok (.bipush (-100), 2) := by decide +kernel
theorem d_X11_forge_14 : decode cX11_forge 14 = .ok (.bipush 100, 2) := by decide +kernel
theorem d_X11_forge_16 : decode cX11_forge 16 = .ok (.invokestatic 51, 3) := by decide +kernel
theorem d_X11_forge_19 : decode cX11_forge 19 = .ok (.ifCond .ne 9, 3) := by decide +kernel
theorem d_X11_forge_22 : decode cX11_forge 22 = .ok (.aload_n 0, 1) := by decide +kernel
theorem d_X11_forge_23 : decode cX11_forge 23 = .ok (.iconst 1, 1) := by decide +kernel
theorem d_X11_forge_24 : decode cX11_forge 24 = .ok (.invokevirtual 55, 3) := by decide +kernel
theorem d_X11_forge_27 : decode cX11_forge 27 = .ok (.ireturn, 1) := by decide +kernel
theorem d_X11_forge_28 : decode cX11_forge 28 = .ok (.iload_n 1, 1) := by decide +kernel
theorem d_X11_forge_29 : decode cX11_forge 29 = .ok (.tableswitch 168 0 6 #[43, 60, 79, 95, 111, 122, 145], 43) := by decide +kernel
theorem d_X11_forge_72 : decode cX11_forge 72 = .ok (.aload_n 0, 1) := by decide +kernel
theorem d_X11_forge_73 : decode cX11_forge 73 = .ok (.iload_n 2, 1) := by decide +kernel
theorem d_X11_forge_74 : decode cX11_forge 74 = .ok (.bipush 6, 2) := by decide +kernel
theorem d_X11_forge_76 : decode cX11_forge 76 = .ok (.invokestatic 348, 3) := by decide +kernel
theorem d_X11_forge_79 : decode cX11_forge 79 = .ok (.iload_n 3, 1) := by decide +kernel
theorem d_X11_forge_80 : decode cX11_forge 80 = .ok (.bipush 10, 2) := by decide +kernel
theorem d_X11_forge_82 : decode cX11_forge 82 = .ok (.invokestatic 348, 3) := by decide +kernel
theorem d_X11_forge_85 : decode cX11_forge 85 = .ok (.invokevirtual 353, 3) := by decide +kernel
theorem d_X11_forge_88 : decode cX11_forge 88 = .ok (.ireturn, 1) := by decide +kernel
theorem d_X11_forge_89 : decode cX11_forge 89 = .ok (.iload_n 2, 1) := by decide +kernel
theorem d_X11_forge_90 : decode cX11_forge 90 = .ok (.ifCond .ge 12, 3) := by decide +kernel
theorem d_X11_forge_93 : decode cX11_forge 93 = .ok (.aload_n 0, 1) := by decide +kernel
theorem d_X11_forge_94 : decode cX11_forge 94 = .ok (.bipush 13, 2) := by decide +kernel
theorem d_X11_forge_96 : decode cX11_forge 96 = .ok (.invokevirtual 55, 3) := by decide +kernel
theorem d_X11_forge_99 : decode cX11_forge 99 = .ok (.goto 8, 3) := by decide +kernel
theorem d_X11_forge_102 : decode cX11_forge 102 = .ok (.aload_n 0, 1) := by decide +kernel
theorem d_X11_forge_103 : decode cX11_forge 103 = .ok (.iload_n 2, 1) := by decide +kernel
theorem d_X11_forge_104 : decode cX11_forge 104 = .ok (.invokevirtual 72, 3) := by decide +kernel
theorem d_X11_forge_107 : decode cX11_forge 107 = .ok (.ireturn, 1) := by decide +kernel
theorem d_X11_forge_108 : decode cX11_forge 108 = .ok (.aload_n 0, 1) := by decide +kernel
theorem d_X11_forge_109 : decode cX11_forge 109 = .ok (.aload_n 0, 1) := by decide +kernel
theorem d_X11_forge_110 : decode cX11_forge 110 = .ok (.getfield 28, 3) := by decide +kernel
theorem d_X11_forge_113 : decode cX11_forge 113 = .ok (.iload_n 3, 1) := by decide +kernel
theorem d_X11_forge_114 : decode cX11_forge 114 = .ok (.iconst 4, 1) := by decide +kernel
theorem d_X11_forge_115 : decode cX11_forge 115 = .ok (.invokestatic 348, 3) := by decide +kernel
theorem d_X11_forge_118 : decode cX11_forge 118 = .ok (.aaload, 1) := by decide +kernel
theorem d_X11_forge_119 : decode cX11_forge 119 = .ok (.iload_n 2, 1) := by decide +kernel
theorem d_X11_forge_120 : decode cX11_forge 120 = .ok (.invokevirtual 356, 3) := by decide +kernel
theorem d_X11_forge_123 : decode cX11_forge 123 = .ok (.ireturn, 1) := by decide +kernel
theorem d_X11_forge_124 : decode cX11_forge 124 = .ok (.aload_n 0, 1) := by decide +kernel
theorem d_X11_forge_125 : decode cX11_forge 125 = .ok (.aload_n 0, 1) := by decide +kernel
theorem d_X11_forge_126 : decode cX11_forge 126 = .ok (.getfield 28, 3) := by decide +kernel
theorem d_X11_forge_129 : decode cX11_forge 129 = .ok (.iload_n 3, 1) := by decide +kernel
theorem d_X11_forge_130 : decode cX11_forge 130 = .ok (.iconst 4, 1) := by decide +kernel
theorem d_X11_forge_131 : decode cX11_forge 131 = .ok (.invokestatic 348, 3) := by decide +kernel
theorem d_X11_forge_134 : decode cX11_forge 134 = .ok (.aaload, 1) := by decide +kernel
theorem d_X11_forge_135 : decode cX11_forge 135 = .ok (.iload_n 2, 1) := by decide +kernel
theorem d_X11_forge_136 : decode cX11_forge 136 = .ok (.invokevirtual 360, 3) := by decide +kernel
theorem d_X11_forge_139 : decode cX11_forge 139 = .ok (.ireturn, 1) := by decide +kernel
theorem d_X11_forge_140 : decode cX11_forge 140 = .ok (.aload_n 0, 1) := by decide +kernel
theorem d_X11_forge_141 : decode cX11_forge 141 = .ok (.iload_n 3, 1) := by decide +kernel
theorem d_X11_forge_142 : decode cX11_forge 142 = .ok (.bipush 10, 2) := by decide +kernel
theorem d_X11_forge_144 : decode cX11_forge 144 = .ok (.invokestatic 348, 3) := by decide +kernel
theorem d_X11_forge_147 : decode cX11_forge 147 = .ok (.invokevirtual 363, 3) := by decide +kernel
theorem d_X11_forge_150 : decode cX11_forge 150 = .ok (.ireturn, 1) := by decide +kernel
theorem d_X11_forge_151 : decode cX11_forge 151 = .ok (.iload_n 2, 1) := by decide +kernel
theorem d_X11_forge_152 : decode cX11_forge 152 = .ok (.ifCond .ne 12, 3) := by decide +kernel
theorem d_X11_forge_155 : decode cX11_forge 155 = .ok (.aload_n 0, 1) := by decide +kernel
theorem d_X11_forge_156 : decode cX11_forge 156 = .ok (.bipush 15, 2) := by decide +kernel
theorem d_X11_forge_158 : decode cX11_forge 158 = .ok (.invokevirtual 55, 3) := by decide +kernel
theorem d_X11_forge_161 : decode cX11_forge 161 = .ok (.goto 12, 3) := by decide +kernel
theorem d_X11_forge_164 : decode cX11_forge 164 = .ok (.aload_n 0, 1) := by decide +kernel
theorem d_X11_forge_165 : decode cX11_forge 165 = .ok (.sipush 1000, 3) := by decide +kernel
theorem d_X11_forge_168 : decode cX11_forge 168 = .ok (.iload_n 2, 1) := by decide +kernel
theorem d_X11_forge_169 : decode cX11_forge 169 = .ok (.idiv, 1) := by decide +kernel
theorem d_X11_forge_170 : decode cX11_forge 170 = .ok (.invokevirtual 72, 3) := by decide +kernel
theorem d_X11_forge_173 : decode cX11_forge 173 = .ok (.ireturn, 1) := by decide +kernel
theorem d_X11_forge_174 : decode cX11_forge 174 = .ok (.iload_n 2, 1) := by decide +kernel
theorem d_X11_forge_175 : decode cX11_forge 175 = .ok (.iconst 2, 1) := by decide +kernel
theorem d_X11_forge_176 : decode cX11_forge 176 = .ok (.invokestatic 348, 3) := by decide +kernel
theorem d_X11_forge_179 : decode cX11_forge 179 = .ok (.ifCond .ne 12, 3) := by decide +kernel
theorem d_X11_forge_182 : decode cX11_forge 182 = .ok (.aload_n 0, 1) := by decide +kernel
theorem d_X11_forge_183 : decode cX11_forge 183 = .ok (.bipush 10, 2) := by decide +kernel
theorem d_X11_forge_185 : decode cX11_forge 185 = .ok (.invokevirtual 55, 3) := by decide +kernel
theorem d_X11_forge_188 : decode cX11_forge 188 = .ok (.goto 8, 3) := by decide +kernel
theorem d_X11_forge_191 : decode cX11_forge 191 = .ok (.aload_n 0, 1) := by decide +kernel
theorem d_X11_forge_192 : decode cX11_forge 192 = .ok (.iconst 1, 1) := by decide +kernel
theorem d_X11_forge_193 : decode cX11_forge 193 = .ok (.invokevirtual 72, 3) := by decide +kernel
theorem d_X11_forge_196 : decode cX11_forge 196 = .ok (.ireturn, 1) := by decide +kernel
theorem d_X11_forge_197 : decode cX11_forge 197 = .ok (.aload_n 0, 1) := by decide +kernel
theorem d_X11_forge_198 : decode cX11_forge 198 = .ok (.iconst 1, 1) := by decide +kernel
theorem d_X11_forge_199 : decode cX11_forge 199 = .ok (.invokevirtual 55, 3) := by decide +kernel
theorem d_X11_forge_202 : decode cX11_forge 202 = .ok (.ireturn, 1) := by decide +kernel
theorem d_X11_status_0 : decode cX11_status 0 = .ok (.aload_n 0, 1) := by decide +kernel
theorem d_X11_status_1 : decode cX11_status 1 = .ok (.getfield 23, 3) := by decide +kernel
theorem d_X11_status_4 : decode cX11_status 4 = .ok (.ireturn, 1) := by decide +kernel
theorem d_X11_done_0 : decode cX11_done 0 = .ok (.aload_n 0, 1) := by decide +kernel
theorem d_X11_done_1 : decode cX11_done 1 = .ok (.iconst 0, 1) := by decide +kernel
theorem d_X11_done_2 : decode cX11_done 2 = .ok (.putfield 23, 3) := by decide +kernel
theorem d_X11_done_5 : decode cX11_done 5 = .ok (.iload_n 1, 1) := by decide +kernel
theorem d_X11_done_6 : decode cX11_done 6 = .ok (.ireturn, 1) := by decide +kernel
theorem d_X11_refused_0 : decode cX11_refused 0 = .ok (.aload_n 0, 1) := by decide +kernel
theorem d_X11_refused_1 : decode cX11_refused 1 = .ok (.iload_n 1, 1) := by decide +kernel
theorem d_X11_refused_2 : decode cX11_refused 2 = .ok (.putfield 23, 3) := by decide +kernel
theorem d_X11_refused_5 : decode cX11_refused 5 = .ok (.iconst (-1), 1) := by decide +kernel
theorem d_X11_refused_6 : decode cX11_refused 6 = .ok (.ireturn, 1) := by decide +kernel
theorem d_X11_isWithin_0 : decode cX11_isWithin 0 = .ok (.iload_n 0, 1) := by decide +kernel
theorem d_X11_isWithin_1 : decode cX11_isWithin 1 = .ok (.iload_n 1, 1) := by decide +kernel
theorem d_X11_isWithin_2 : decode cX11_isWithin 2 = .ok (.if_icmp .lt 12, 3) := by decide +kernel
theorem d_X11_isWithin_5 : decode cX11_isWithin 5 = .ok (.iload_n 0, 1) := by decide +kernel
theorem d_X11_isWithin_6 : decode cX11_isWithin 6 = .ok (.iload_n 2, 1) := by decide +kernel
theorem d_X11_isWithin_7 : decode cX11_isWithin 7 = .ok (.if_icmp .gt 7, 3) := by decide +kernel
theorem d_X11_isWithin_10 : decode cX11_isWithin 10 = .ok (.iconst 1, 1) := by decide +kernel
theorem d_X11_isWithin_11 : decode cX11_isWithin 11 = .ok (.goto 4, 3) := by decide +kernel
theorem d_X11_isWithin_14 : decode cX11_isWithin 14 = .ok (.iconst 0, 1) := by decide +kernel
theorem d_X11_isWithin_15 : decode cX11_isWithin 15 = .ok (.ireturn, 1) := by decide +kernel
theorem d_X11_isDay_0 : decode cX11_isDay 0 = .ok (.iload_n 0, 1) := by decide +kernel
theorem d_X11_isDay_1 : decode cX11_isDay 1 = .ok (.iconst 0, 1) := by decide +kernel
theorem d_X11_isDay_2 : decode cX11_isDay 2 = .ok (.bipush 99, 2) := by decide +kernel
theorem d_X11_isDay_4 : decode cX11_isDay 4 = .ok (.invokestatic 51, 3) := by decide +kernel
theorem d_X11_isDay_7 : decode cX11_isDay 7 = .ok (.ireturn, 1) := by decide +kernel
theorem d_X11_isSheet_0 : decode cX11_isSheet 0 = .ok (.iload_n 0, 1) := by decide +kernel
theorem d_X11_isSheet_1 : decode cX11_isSheet 1 = .ok (.iconst 0, 1) := by decide +kernel
theorem d_X11_isSheet_2 : decode cX11_isSheet 2 = .ok (.iconst 3, 1) := by decide +kernel
theorem d_X11_isSheet_3 : decode cX11_isSheet 3 = .ok (.invokestatic 51, 3) := by decide +kernel
theorem d_X11_isSheet_6 : decode cX11_isSheet 6 = .ok (.ireturn, 1) := by decide +kernel
theorem d_X11_isUnder_0 : decode cX11_isUnder 0 = .ok (.iload_n 0, 1) := by decide +kernel
theorem d_X11_isUnder_1 : decode cX11_isUnder 1 = .ok (.istore_n 2, 1) := by decide +kernel
theorem d_X11_isUnder_2 : decode cX11_isUnder 2 = .ok (.iconst 0, 1) := by decide +kernel
theorem d_X11_isUnder_3 : decode cX11_isUnder 3 = .ok (.istore_n 3, 1) := by decide +kernel
theorem d_X11_isUnder_4 : decode cX11_isUnder 4 = .ok (.iload_n 3, 1) := by decide +kernel
theorem d_X11_isUnder_5 : decode cX11_isUnder 5 = .ok (.bipush 6, 2) := by decide +kernel
theorem d_X11_isUnder_7 : decode cX11_isUnder 7 = .ok (.if_icmp .ge 25, 3) := by decide +kernel
theorem d_X11_isUnder_10 : decode cX11_isUnder 10 = .ok (.iload_n 2, 1) := by decide +kernel
theorem d_X11_isUnder_11 : decode cX11_isUnder 11 = .ok (.iload_n 1, 1) := by decide +kernel
theorem d_X11_isUnder_12 : decode cX11_isUnder 12 = .ok (.if_icmp .eq 20, 3) := by decide +kernel
theorem d_X11_isUnder_15 : decode cX11_isUnder 15 = .ok (.iload_n 2, 1) := by decide +kernel
theorem d_X11_isUnder_16 : decode cX11_isUnder 16 = .ok (.iconst (-1), 1) := by decide +kernel
theorem d_X11_isUnder_17 : decode cX11_isUnder 17 = .ok (.if_icmp .eq 15, 3) := by decide +kernel
theorem d_X11_isUnder_20 : decode cX11_isUnder 20 = .ok (.getstatic 366, 3) := by decide +kernel
theorem d_X11_isUnder_23 : decode cX11_isUnder 23 = .ok (.iload_n 2, 1) := by decide +kernel
theorem d_X11_isUnder_24 : decode cX11_isUnder 24 = .ok (.iaload, 1) := by decide +kernel
theorem d_X11_isUnder_25 : decode cX11_isUnder 25 = .ok (.istore_n 2, 1) := by decide +kernel
theorem d_X11_isUnder_26 : decode cX11_isUnder 26 = .ok (.iinc 3 1, 3) := by decide +kernel
theorem d_X11_isUnder_29 : decode cX11_isUnder 29 = .ok (.goto (-25), 3) := by decide +kernel
theorem d_X11_isUnder_32 : decode cX11_isUnder 32 = .ok (.iload_n 2, 1) := by decide +kernel
theorem d_X11_isUnder_33 : decode cX11_isUnder 33 = .ok (.iload_n 1, 1) := by decide +kernel
theorem d_X11_isUnder_34 : decode cX11_isUnder 34 = .ok (.if_icmp .ne 7, 3) := by decide +kernel
theorem d_X11_isUnder_37 : decode cX11_isUnder 37 = .ok (.iconst 1, 1) := by decide +kernel
theorem d_X11_isUnder_38 : decode cX11_isUnder 38 = .ok (.goto 4, 3) := by decide +kernel
theorem d_X11_isUnder_41 : decode cX11_isUnder 41 = .ok (.iconst 0, 1) := by decide +kernel
theorem d_X11_isUnder_42 : decode cX11_isUnder 42 = .ok (.ireturn, 1) := by decide +kernel
theorem d_X11_listBalesAt_0 : decode cX11_listBalesAt 0 = .ok (.iconst 0, 1) := by decide +kernel
theorem d_X11_listBalesAt_1 : decode cX11_listBalesAt 1 = .ok (.istore_n 2, 1) := by decide +kernel
theorem d_X11_listBalesAt_2 : decode cX11_listBalesAt 2 = .ok (.iconst 0, 1) := by decide +kernel
theorem d_X11_listBalesAt_3 : decode cX11_listBalesAt 3 = .ok (.istore_n 3, 1) := by decide +kernel
theorem d_X11_listBalesAt_4 : decode cX11_listBalesAt 4 = .ok (.iload_n 3, 1) := by decide +kernel
theorem d_X11_listBalesAt_5 : decode cX11_listBalesAt 5 = .ok (.aload_n 0, 1) := by decide +kernel
theorem d_X11_listBalesAt_6 : decode cX11_listBalesAt 6 = .ok (.getfield 10, 3) := by decide +kernel
theorem d_X11_listBalesAt_9 : decode cX11_listBalesAt 9 = .ok (.getfield 123, 3) := by decide +kernel
theorem d_X11_listBalesAt_12 : decode cX11_listBalesAt 12 = .ok (.if_icmp .ge 47, 3) := by decide +kernel
theorem d_X11_listBalesAt_15 : decode cX11_listBalesAt 15 = .ok (.aload_n 0, 1) := by decide +kernel
theorem d_X11_listBalesAt_16 : decode cX11_listBalesAt 16 = .ok (.getfield 10, 3) := by decide +kernel
theorem d_X11_listBalesAt_19 : decode cX11_listBalesAt 19 = .ok (.getfield 126, 3) := by decide +kernel
theorem d_X11_listBalesAt_22 : decode cX11_listBalesAt 22 = .ok (.iload_n 3, 1) := by decide +kernel
theorem d_X11_listBalesAt_23 : decode cX11_listBalesAt 23 = .ok (.aaload, 1) := by decide +kernel
theorem d_X11_listBalesAt_24 : decode cX11_listBalesAt 24 = .ok (.astore 4, 2) := by decide +kernel
theorem d_X11_listBalesAt_26 : decode cX11_listBalesAt 26 = .ok (.aload 4, 2) := by decide +kernel
theorem d_X11_listBalesAt_28 : decode cX11_listBalesAt 28 = .ok (.getfield 139, 3) := by decide +kernel
theorem d_X11_listBalesAt_31 : decode cX11_listBalesAt 31 = .ok (.ifCond .ne 22, 3) := by decide +kernel
theorem d_X11_listBalesAt_34 : decode cX11_listBalesAt 34 = .ok (.aload 4, 2) := by decide +kernel
theorem d_X11_listBalesAt_36 : decode cX11_listBalesAt 36 = .ok (.getfield 143, 3) := by decide +kernel
theorem d_X11_listBalesAt_39 : decode cX11_listBalesAt 39 = .ok (.iload_n 1, 1) := by decide +kernel
theorem d_X11_listBalesAt_40 : decode cX11_listBalesAt 40 = .ok (.if_icmp .ne 13, 3) := by decide +kernel
theorem d_X11_listBalesAt_43 : decode cX11_listBalesAt 43 = .ok (.aload_n 0, 1) := by decide +kernel
theorem d_X11_listBalesAt_44 : decode cX11_listBalesAt 44 = .ok (.getfield 46, 3) := by decide +kernel
theorem d_X11_listBalesAt_47 : decode cX11_listBalesAt 47 = .ok (.iload_n 2, 1) := by decide +kernel
theorem d_X11_listBalesAt_48 : decode cX11_listBalesAt 48 = .ok (.iload_n 3, 1) := by decide +kernel
theorem d_X11_listBalesAt_49 : decode cX11_listBalesAt 49 = .ok (.iastore, 1) := by decide +kernel
theorem d_X11_listBalesAt_50 : decode cX11_listBalesAt 50 = .ok (.iinc 2 1, 3) := by decide +kernel
theorem d_X11_listBalesAt_53 : decode cX11_listBalesAt 53 = .ok (.iinc 3 1, 3) := by decide +kernel
theorem d_X11_listBalesAt_56 : decode cX11_listBalesAt 56 = .ok (.goto (-52), 3) := by decide +kernel
theorem d_X11_listBalesAt_59 : decode cX11_listBalesAt 59 = .ok (.iload_n 2, 1) := by decide +kernel
theorem d_X11_listBalesAt_60 : decode cX11_listBalesAt 60 = .ok (.ireturn, 1) := by decide +kernel
theorem d_X11_bestSet_0 : decode cX11_bestSet 0 = .ok (.iconst 0, 1) := by decide +kernel
theorem d_X11_bestSet_1 : decode cX11_bestSet 1 = .ok (.istore 4, 2) := by decide +kernel
theorem d_X11_bestSet_3 : decode cX11_bestSet 3 = .ok (.iconst 0, 1) := by decide +kernel
theorem d_X11_bestSet_4 : decode cX11_bestSet 4 = .ok (.istore 5, 2) := by decide +kernel
theorem d_X11_bestSet_6 : decode cX11_bestSet 6 = .ok (.iconst 0, 1) := by decide +kernel
theorem d_X11_bestSet_7 : decode cX11_bestSet 7 = .ok (.istore 6, 2) := by decide +kernel
theorem d_X11_bestSet_9 : decode cX11_bestSet 9 = .ok (.iconst 0, 1) := by decide +kernel
theorem d_X11_bestSet_10 : decode cX11_bestSet 10 = .ok (.istore 7, 2) := by decide +kernel
theorem d_X11_bestSet_12 : decode cX11_bestSet 12 = .ok (.iconst 0, 1) := by decide +kernel
theorem d_X11_bestSet_13 : decode cX11_bestSet 13 = .ok (.istore 8, 2) := by decide +kernel
theorem d_X11_bestSet_15 : decode cX11_bestSet 15 = .ok (.iconst 0, 1) := by decide +kernel
theorem d_X11_bestSet_16 : decode cX11_bestSet 16 = .ok (.istore 9, 2) := by decide +kernel
theorem d_X11_bestSet_18 : decode cX11_bestSet 18 = .ok (.iconst 1, 1) := by decide +kernel
theorem d_X11_bestSet_19 : decode cX11_bestSet 19 = .ok (.istore 10, 2) := by decide +kernel
theorem d_X11_bestSet_21 : decode cX11_bestSet 21 = .ok (.iload 10, 2) := by decide +kernel
theorem d_X11_bestSet_23 : decode cX11_bestSet 23 = .ok (.iconst 1, 1) := by decide +kernel
theorem d_X11_bestSet_24 : decode cX11_bestSet 24 = .ok (.iload_n 3, 1) := by decide +kernel
theorem d_X11_bestSet_25 : decode cX11_bestSet 25 = .ok (.ishl, 1) := by decide +kernel
theorem d_X11_bestSet_26 : decode cX11_bestSet 26 = .ok (.if_icmp .ge 196, 3) := by decide +kernel
theorem d_X11_bestSet_29 : decode cX11_bestSet 29 = .ok (.iload 10, 2) := by decide +kernel
theorem d_X11_bestSet_31 : decode cX11_bestSet 31 = .ok (.iload 10, 2) := by decide +kernel
theorem d_X11_bestSet_33 : decode cX11_bestSet 33 = .ok (.iconst 1, 1) := by decide +kernel
theorem d_X11_bestSet_34 : decode cX11_bestSet 34 = .ok (.isub, 1) := by decide +kernel
theorem d_X11_bestSet_35 : decode cX11_bestSet 35 = .ok (.ixor, 1) := by decide +kernel
theorem d_X11_bestSet_36 : decode cX11_bestSet 36 = .ok (.istore 11, 2) := by decide +kernel
theorem d_X11_bestSet_38 : decode cX11_bestSet 38 = .ok (.iconst 0, 1) := by decide +kernel
theorem d_X11_bestSet_39 : decode cX11_bestSet 39 = .ok (.istore 12, 2) := by decide +kernel
theorem d_X11_bestSet_41 : decode cX11_bestSet 41 = .ok (.iload 12, 2) := by decide +kernel
theorem d_X11_bestSet_43 : decode cX11_bestSet 43 = .ok (.iload_n 3, 1) := by decide +kernel
theorem d_X11_bestSet_44 : decode cX11_bestSet 44 = .ok (.if_icmp .ge 117, 3) := by decide +kernel
theorem d_X11_bestSet_47 : decode cX11_bestSet 47 = .ok (.iload 11, 2) := by decide +kernel
theorem d_X11_bestSet_49 : decode cX11_bestSet 49 = .ok (.iload 12, 2) := by decide +kernel
theorem d_X11_bestSet_51 : decode cX11_bestSet 51 = .ok (.ishr, 1) := by decide +kernel
theorem d_X11_bestSet_52 : decode cX11_bestSet 52 = .ok (.iconst 1, 1) := by decide +kernel
theorem d_X11_bestSet_53 : decode cX11_bestSet 53 = .ok (.iand, 1) := by decide +kernel
theorem d_X11_bestSet_54 : decode cX11_bestSet 54 = .ok (.iconst 1, 1) := by decide +kernel
theorem d_X11_bestSet_55 : decode cX11_bestSet 55 = .ok (.if_icmp .ne 106, 3) := by decide +kernel
theorem d_X11_bestSet_58 : decode cX11_bestSet 58 = .ok (.aload_n 0, 1) := by decide +kernel
theorem d_X11_bestSet_59 : decode cX11_bestSet 59 = .ok (.getfield 10, 3) := by decide +kernel
theorem d_X11_bestSet_62 : decode cX11_bestSet 62 = .ok (.getfield 126, 3) := by decide +kernel
theorem d_X11_bestSet_65 : decode cX11_bestSet 65 = .ok (.aload_n 0, 1) := by decide +kernel
theorem d_X11_bestSet_66 : decode cX11_bestSet 66 = .ok (.getfield 46, 3) := by decide +kernel
theorem d_X11_bestSet_69 : decode cX11_bestSet 69 = .ok (.iload 12, 2) := by decide +kernel
theorem d_X11_bestSet_71 : decode cX11_bestSet 71 = .ok (.iaload, 1) := by decide +kernel
theorem d_X11_bestSet_72 : decode cX11_bestSet 72 = .ok (.aaload, 1) := by decide +kernel
theorem d_X11_bestSet_73 : decode cX11_bestSet 73 = .ok (.astore 13, 2) := by decide +kernel
theorem d_X11_bestSet_75 : decode cX11_bestSet 75 = .ok (.iload 10, 2) := by decide +kernel
theorem d_X11_bestSet_77 : decode cX11_bestSet 77 = .ok (.iload 12, 2) := by decide +kernel
theorem d_X11_bestSet_79 : decode cX11_bestSet 79 = .ok (.ishr, 1) := by decide +kernel
theorem d_X11_bestSet_80 : decode cX11_bestSet 80 = .ok (.iconst 1, 1) := by decide +kernel
theorem d_X11_bestSet_81 : decode cX11_bestSet 81 = .ok (.iand, 1) := by decide +kernel
theorem d_X11_bestSet_82 : decode cX11_bestSet 82 = .ok (.iconst 1, 1) := by decide +kernel
theorem d_X11_bestSet_83 : decode cX11_bestSet 83 = .ok (.if_icmp .ne 7, 3) := by decide +kernel
theorem d_X11_bestSet_86 : decode cX11_bestSet 86 = .ok (.iconst 1, 1) := by decide +kernel
theorem d_X11_bestSet_87 : decode cX11_bestSet 87 = .ok (.goto 4, 3) := by decide +kernel
theorem d_X11_bestSet_90 : decode cX11_bestSet 90 = .ok (.iconst 0, 1) := by decide +kernel
theorem d_X11_bestSet_91 : decode cX11_bestSet 91 = .ok (.istore 14, 2) := by decide +kernel
theorem d_X11_bestSet_93 : decode cX11_bestSet 93 = .ok (.iload 7, 2) := by decide +kernel
theorem d_X11_bestSet_95 : decode cX11_bestSet 95 = .ok (.iload 14, 2) := by decide +kernel
theorem d_X11_bestSet_97 : decode cX11_bestSet 97 = .ok (.ifCond .eq 11, 3) := by decide +kernel
theorem d_X11_bestSet_100 : decode cX11_bestSet 100 = .ok (.aload 13, 2) := by decide +kernel
theorem d_X11_bestSet_102 : decode cX11_bestSet 102 = .ok (.getfield 170, 3) := by decide +kernel
theorem d_X11_bestSet_105 : decode cX11_bestSet 105 = .ok (.goto 9, 3) := by decide +kernel
theorem d_X11_bestSet_108 : decode cX11_bestSet 108 = .ok (.aload 13, 2) := by decide +kernel
theorem d_X11_bestSet_110 : decode cX11_bestSet 110 = .ok (.getfield 170, 3) := by decide +kernel
theorem d_X11_bestSet_113 : decode cX11_bestSet 113 = .ok (.ineg, 1) := by decide +kernel
theorem d_X11_bestSet_114 : decode cX11_bestSet 114 = .ok (.iadd, 1) := by decide +kernel
theorem d_X11_bestSet_115 : decode cX11_bestSet 115 = .ok (.istore 7, 2) := by decide +kernel
theorem d_X11_bestSet_117 : decode cX11_bestSet 117 = .ok (.iload 8, 2) := by decide +kernel
theorem d_X11_bestSet_119 : decode cX11_bestSet 119 = .ok (.iload 14, 2) := by decide +kernel
theorem d_X11_bestSet_121 : decode cX11_bestSet 121 = .ok (.ifCond .eq 11, 3) := by decide +kernel
theorem d_X11_bestSet_124 : decode cX11_bestSet 124 = .ok (.aload 13, 2) := by decide +kernel
theorem d_X11_bestSet_126 : decode cX11_bestSet 126 = .ok (.getfield 150, 3) := by decide +kernel
theorem d_X11_bestSet_129 : decode cX11_bestSet 129 = .ok (.goto 9, 3) := by decide +kernel
theorem d_X11_bestSet_132 : decode cX11_bestSet 132 = .ok (.aload 13, 2) := by decide +kernel
theorem d_X11_bestSet_134 : decode cX11_bestSet 134 = .ok (.getfield 150, 3) := by decide +kernel
theorem d_X11_bestSet_137 : decode cX11_bestSet 137 = .ok (.ineg, 1) := by decide +kernel
theorem d_X11_bestSet_138 : decode cX11_bestSet 138 = .ok (.iadd, 1) := by decide +kernel
theorem d_X11_bestSet_139 : decode cX11_bestSet 139 = .ok (.istore 8, 2) := by decide +kernel
theorem d_X11_bestSet_141 : decode cX11_bestSet 141 = .ok (.iload 9, 2) := by decide +kernel
theorem d_X11_bestSet_143 : decode cX11_bestSet 143 = .ok (.iconst 1, 1) := by decide +kernel
theorem d_X11_bestSet_144 : decode cX11_bestSet 144 = .ok (.aload_n 0, 1) := by decide +kernel
theorem d_X11_bestSet_145 : decode cX11_bestSet 145 = .ok (.getfield 46, 3) := by decide +kernel
theorem d_X11_bestSet_148 : decode cX11_bestSet 148 = .ok (.iload 12, 2) := by decide +kernel
theorem d_X11_bestSet_150 : decode cX11_bestSet 150 = .ok (.iaload, 1) := by decide +kernel
theorem d_X11_bestSet_151 : decode cX11_bestSet 151 = .ok (.ishl, 1) := by decide +kernel
theorem d_X11_bestSet_152 : decode cX11_bestSet 152 = .ok (.ixor, 1) := by decide +kernel
theorem d_X11_bestSet_153 : decode cX11_bestSet 153 = .ok (.istore 9, 2) := by decide +kernel
theorem d_X11_bestSet_155 : decode cX11_bestSet 155 = .ok (.iinc 12 1, 3) := by decide +kernel
theorem d_X11_bestSet_158 : decode cX11_bestSet 158 = .ok (.goto (-117), 3) := by decide +kernel
theorem d_X11_bestSet_161 : decode cX11_bestSet 161 = .ok (.iload 7, 2) := by decide +kernel
theorem d_X11_bestSet_163 : decode cX11_bestSet 163 = .ok (.iload 5, 2) := by decide +kernel
theorem d_X11_bestSet_165 : decode cX11_bestSet 165 = .ok (.if_icmp .gt 17, 3) := by decide +kernel
theorem d_X11_bestSet_168 : decode cX11_bestSet 168 = .ok (.iload 7, 2) := by decide +kernel
theorem d_X11_bestSet_170 : decode cX11_bestSet 170 = .ok (.iload 5, 2) := by decide +kernel
theorem d_X11_bestSet_172 : decode cX11_bestSet 172 = .ok (.if_icmp .ne 14, 3) := by decide +kernel
theorem d_X11_bestSet_175 : decode cX11_bestSet 175 = .ok (.iload 8, 2) := by decide +kernel
theorem d_X11_bestSet_177 : decode cX11_bestSet 177 = .ok (.iload 6, 2) := by decide +kernel
theorem d_X11_bestSet_179 : decode cX11_bestSet 179 = .ok (.if_icmp .ge 7, 3) := by decide +kernel
theorem d_X11_bestSet_182 : decode cX11_bestSet 182 = .ok (.iconst 1, 1) := by decide +kernel
theorem d_X11_bestSet_183 : decode cX11_bestSet 183 = .ok (.goto 4, 3) := by decide +kernel
theorem d_X11_bestSet_186 : decode cX11_bestSet 186 = .ok (.iconst 0, 1) := by decide +kernel
theorem d_X11_bestSet_187 : decode cX11_bestSet 187 = .ok (.istore 12, 2) := by decide +kernel
theorem d_X11_bestSet_189 : decode cX11_bestSet 189 = .ok (.iload 12, 2) := by decide +kernel
theorem d_X11_bestSet_191 : decode cX11_bestSet 191 = .ok (.ifCond .eq 25, 3) := by decide +kernel
theorem d_X11_bestSet_194 : decode cX11_bestSet 194 = .ok (.aload_n 1, 1) := by decide +kernel
theorem d_X11_bestSet_195 : decode cX11_bestSet 195 = .ok (.iload 8, 2) := by decide +kernel
theorem d_X11_bestSet_197 : decode cX11_bestSet 197 = .ok (.iload_n 2, 1) := by decide +kernel
theorem d_X11_bestSet_198 : decode cX11_bestSet 198 = .ok (.invokevirtual 369, 3) := by decide +kernel
theorem d_X11_bestSet_201 : decode cX11_bestSet 201 = .ok (.ifCond .eq 15, 3) := by decide +kernel
theorem d_X11_bestSet_204 : decode cX11_bestSet 204 = .ok (.iload 9, 2) := by decide +kernel
theorem d_X11_bestSet_206 : decode cX11_bestSet 206 = .ok (.istore 4, 2) := by decide +kernel
theorem d_X11_bestSet_208 : decode cX11_bestSet 208 = .ok (.iload 7, 2) := by decide +kernel
theorem d_X11_bestSet_210 : decode cX11_bestSet 210 = .ok (.istore 5, 2) := by decide +kernel
theorem d_X11_bestSet_212 : decode cX11_bestSet 212 = .ok (.iload 8, 2) := by decide +kernel
theorem d_X11_bestSet_214 : decode cX11_bestSet 214 = .ok (.istore 6, 2) := by decide +kernel
theorem d_X11_bestSet_216 : decode cX11_bestSet 216 = .ok (.iinc 10 1, 3) := by decide +kernel
theorem d_X11_bestSet_219 : decode cX11_bestSet 219 = .ok (.goto (-198), 3) := by decide +kernel
theorem d_X11_bestSet_222 : decode cX11_bestSet 222 = .ok (.iload 4, 2) := by decide +kernel
theorem d_X11_bestSet_224 : decode cX11_bestSet 224 = .ok (.ireturn, 1) := by decide +kernel
theorem d_X11_yieldingBy_0 : decode cX11_yieldingBy 0 = .ok (.iload_n 1, 1) := by decide +kernel
theorem d_X11_yieldingBy_1 : decode cX11_yieldingBy 1 = .ok (.ifCond .ne 25, 3) := by decide +kernel
theorem d_X11_yieldingBy_4 : decode cX11_yieldingBy 4 = .ok (.iload 4, 2) := by decide +kernel
theorem d_X11_yieldingBy_6 : decode cX11_yieldingBy 6 = .ok (.iload 5, 2) := by decide +kernel
theorem d_X11_yieldingBy_8 : decode cX11_yieldingBy 8 = .ok (.if_icmp .ne 7, 3) := by decide +kernel
theorem d_X11_yieldingBy_11 : decode cX11_yieldingBy 11 = .ok (.iconst (-1), 1) := by decide +kernel
theorem d_X11_yieldingBy_12 : decode cX11_yieldingBy 12 = .ok (.goto 13, 3) := by decide +kernel
theorem d_X11_yieldingBy_15 : decode cX11_yieldingBy 15 = .ok (.iload 4, 2) := by decide +kernel
theorem d_X11_yieldingBy_17 : decode cX11_yieldingBy 17 = .ok (.ifCond .eq 7, 3) := by decide +kernel
theorem d_X11_yieldingBy_20 : decode cX11_yieldingBy 20 = .ok (.iload_n 2, 1) := by decide +kernel
theorem d_X11_yieldingBy_21 : decode cX11_yieldingBy 21 = .ok (.goto 4, 3) := by decide +kernel
theorem d_X11_yieldingBy_24 : decode cX11_yieldingBy 24 = .ok (.iload_n 3, 1) := by decide +kernel
theorem d_X11_yieldingBy_25 : decode cX11_yieldingBy 25 = .ok (.ireturn, 1) := by decide +kernel
theorem d_X11_yieldingBy_26 : decode cX11_yieldingBy 26 = .ok (.iload_n 1, 1) := by decide +kernel
theorem d_X11_yieldingBy_27 : decode cX11_yieldingBy 27 = .ok (.iconst 1, 1) := by decide +kernel
theorem d_X11_yieldingBy_28 : decode cX11_yieldingBy 28 = .ok (.if_icmp .ne 55, 3) := by decide +kernel
theorem d_X11_yieldingBy_31 : decode cX11_yieldingBy 31 = .ok (.aload_n 0, 1) := by decide +kernel
theorem d_X11_yieldingBy_32 : decode cX11_yieldingBy 32 = .ok (.getfield 10, 3) := by decide +kernel
theorem d_X11_yieldingBy_35 : decode cX11_yieldingBy 35 = .ok (.getfield 113, 3) := by decide +kernel
theorem d_X11_yieldingBy_38 : decode cX11_yieldingBy 38 = .ok (.iload_n 2, 1) := by decide +kernel
theorem d_X11_yieldingBy_39 : decode cX11_yieldingBy 39 = .ok (.aaload, 1) := by decide +kernel
theorem d_X11_yieldingBy_40 : decode cX11_yieldingBy 40 = .ok (.invokevirtual 156, 3) := by decide +kernel
theorem d_X11_yieldingBy_43 : decode cX11_yieldingBy 43 = .ok (.istore 6, 2) := by decide +kernel
theorem d_X11_yieldingBy_45 : decode cX11_yieldingBy 45 = .ok (.aload_n 0, 1) := by decide +kernel
theorem d_X11_yieldingBy_46 : decode cX11_yieldingBy 46 = .ok (.getfield 10, 3) := by decide +kernel
theorem d_X11_yieldingBy_49 : decode cX11_yieldingBy 49 = .ok (.getfield 113, 3) := by decide +kernel
theorem d_X11_yieldingBy_52 : decode cX11_yieldingBy 52 = .ok (.iload_n 3, 1) := by decide +kernel
theorem d_X11_yieldingBy_53 : decode cX11_yieldingBy 53 = .ok (.aaload, 1) := by decide +kernel
theorem d_X11_yieldingBy_54 : decode cX11_yieldingBy 54 = .ok (.invokevirtual 156, 3) := by decide +kernel
theorem d_X11_yieldingBy_57 : decode cX11_yieldingBy 57 = .ok (.istore 7, 2) := by decide +kernel
theorem d_X11_yieldingBy_59 : decode cX11_yieldingBy 59 = .ok (.iload 6, 2) := by decide +kernel
theorem d_X11_yieldingBy_61 : decode cX11_yieldingBy 61 = .ok (.iload 7, 2) := by decide +kernel
theorem d_X11_yieldingBy_63 : decode cX11_yieldingBy 63 = .ok (.if_icmp .ne 7, 3) := by decide +kernel
theorem d_X11_yieldingBy_66 : decode cX11_yieldingBy 66 = .ok (.iconst (-1), 1) := by decide +kernel
theorem d_X11_yieldingBy_67 : decode cX11_yieldingBy 67 = .ok (.goto 15, 3) := by decide +kernel
theorem d_X11_yieldingBy_70 : decode cX11_yieldingBy 70 = .ok (.iload 6, 2) := by decide +kernel
theorem d_X11_yieldingBy_72 : decode cX11_yieldingBy 72 = .ok (.iload 7, 2) := by decide +kernel
theorem d_X11_yieldingBy_74 : decode cX11_yieldingBy 74 = .ok (.if_icmp .ge 7, 3) := by decide +kernel
theorem d_X11_yieldingBy_77 : decode cX11_yieldingBy 77 = .ok (.iload_n 2, 1) := by decide +kernel
theorem d_X11_yieldingBy_78 : decode cX11_yieldingBy 78 = .ok (.goto 4, 3) := by decide +kernel
theorem d_X11_yieldingBy_81 : decode cX11_yieldingBy 81 = .ok (.iload_n 3, 1) := by decide +kernel
theorem d_X11_yieldingBy_82 : decode cX11_yieldingBy 82 = .ok (.ireturn, 1) := by decide +kernel
theorem d_X11_yieldingBy_83 : decode cX11_yieldingBy 83 = .ok (.iload_n 2, 1) := by decide +kernel
theorem d_X11_yieldingBy_84 : decode cX11_yieldingBy 84 = .ok (.iload_n 3, 1) := by decide +kernel
theorem d_X11_yieldingBy_85 : decode cX11_yieldingBy 85 = .ok (.invokestatic 372, 3) := by decide +kernel
theorem d_X11_yieldingBy_88 : decode cX11_yieldingBy 88 = .ok (.ireturn, 1) := by decide +kernel
theorem d_X11_tellFromFloat_0 : decode cX11_tellFromFloat 0 = .ok (.iload_n 2, 1) := by decide +kernel
theorem d_X11_tellFromFloat_1 : decode cX11_tellFromFloat 1 = .ok (.sipush (-9999), 3) := by decide +kernel
theorem d_X11_tellFromFloat_4 : decode cX11_tellFromFloat 4 = .ok (.if_icmp .ne 4, 3) := by decide +kernel
theorem d_X11_tellFromFloat_7 : decode cX11_tellFromFloat 7 = .ok (.return_, 1) := by decide +kernel
theorem d_X11_tellFromFloat_8 : decode cX11_tellFromFloat 8 = .ok (.iload_n 2, 1) := by decide +kernel
theorem d_X11_tellFromFloat_9 : decode cX11_tellFromFloat 9 = .ok (.iconst 2, 1) := by decide +kernel
theorem d_X11_tellFromFloat_10 : decode cX11_tellFromFloat 10 = .ok (.idiv, 1) := by decide +kernel
theorem d_X11_tellFromFloat_11 : decode cX11_tellFromFloat 11 = .ok (.istore_n 3, 1) := by decide +kernel
theorem d_X11_tellFromFloat_12 : decode cX11_tellFromFloat 12 = .ok (.iload_n 3, 1) := by decide +kernel
theorem d_X11_tellFromFloat_13 : decode cX11_tellFromFloat 13 = .ok (.bipush (-20), 2) := by decide +kernel
theorem d_X11_tellFromFloat_15 : decode cX11_tellFromFloat 15 = .ok (.bipush 40, 2) := by decide +kernel
theorem d_X11_tellFromFloat_17 : decode cX11_tellFromFloat 17 = .ok (.invokestatic 51, 3) := by decide +kernel
theorem d_X11_tellFromFloat_20 : decode cX11_tellFromFloat 20 = .ok (.ifCond .eq 12, 3) := by decide +kernel
theorem d_X11_tellFromFloat_23 : decode cX11_tellFromFloat 23 = .ok (.aload_n 0, 1) := by decide +kernel
theorem d_X11_tellFromFloat_24 : decode cX11_tellFromFloat 24 = .ok (.getfield 10, 3) := by decide +kernel
theorem d_X11_tellFromFloat_27 : decode cX11_tellFromFloat 27 = .ok (.iload_n 1, 1) := by decide +kernel
theorem d_X11_tellFromFloat_28 : decode cX11_tellFromFloat 28 = .ok (.iload_n 3, 1) := by decide +kernel
theorem d_X11_tellFromFloat_29 : decode cX11_tellFromFloat 29 = .ok (.invokevirtual 79, 3) := by decide +kernel
theorem d_X11_tellFromFloat_32 : decode cX11_tellFromFloat 32 = .ok (.return_, 1) := by decide +kernel
theorem d_X11_forgeKind_0 : decode cX11_forgeKind 0 = .ok (.aload_n 0, 1) := by decide +kernel
theorem d_X11_forgeKind_1 : decode cX11_forgeKind 1 = .ok (.getfield 10, 3) := by decide +kernel
theorem d_X11_forgeKind_4 : decode cX11_forgeKind 4 = .ok (.iload_n 2, 1) := by decide +kernel
theorem d_X11_forgeKind_5 : decode cX11_forgeKind 5 = .ok (.invokevirtual 86, 3) := by decide +kernel
theorem d_X11_forgeKind_8 : decode cX11_forgeKind 8 = .ok (.ifCond .ne 10, 3) := by decide +kernel
theorem d_X11_forgeKind_11 : decode cX11_forgeKind 11 = .ok (.aload_n 0, 1) := by decide +kernel
theorem d_X11_forgeKind_12 : decode cX11_forgeKind 12 = .ok (.bipush 10, 2) := by decide +kernel
theorem d_X11_forgeKind_14 : decode cX11_forgeKind 14 = .ok (.invokevirtual 55, 3) := by decide +kernel
theorem d_X11_forgeKind_17 : decode cX11_forgeKind 17 = .ok (.ireturn, 1) := by decide +kernel
theorem d_X11_forgeKind_18 : decode cX11_forgeKind 18 = .ok (.aload_n 0, 1) := by decide +kernel
theorem d_X11_forgeKind_19 : decode cX11_forgeKind 19 = .ok (.getfield 10, 3) := by decide +kernel
theorem d_X11_forgeKind_22 : decode cX11_forgeKind 22 = .ok (.getfield 62, 3) := by decide +kernel
theorem d_X11_forgeKind_25 : decode cX11_forgeKind 25 = .ok (.iload_n 2, 1) := by decide +kernel
theorem d_X11_forgeKind_26 : decode cX11_forgeKind 26 = .ok (.aaload, 1) := by decide +kernel
theorem d_X11_forgeKind_27 : decode cX11_forgeKind 27 = .ok (.getfield 89, 3) := by decide +kernel
theorem d_X11_forgeKind_30 : decode cX11_forgeKind 30 = .ok (.istore_n 3, 1) := by decide +kernel
theorem d_X11_forgeKind_31 : decode cX11_forgeKind 31 = .ok (.iload_n 3, 1) := by decide +kernel
theorem d_X11_forgeKind_32 : decode cX11_forgeKind 32 = .ok (.iload_n 1, 1) := by decide +kernel
theorem d_X11_forgeKind_33 : decode cX11_forgeKind 33 = .ok (.invokestatic 92, 3) := by decide +kernel
theorem d_X11_forgeKind_36 : decode cX11_forgeKind 36 = .ok (.ifCond .eq 11, 3) := by decide +kernel
theorem d_X11_forgeKind_39 : decode cX11_forgeKind 39 = .ok (.aload_n 0, 1) := by decide +kernel
theorem d_X11_forgeKind_40 : decode cX11_forgeKind 40 = .ok (.iload_n 3, 1) := by decide +kernel
theorem d_X11_forgeKind_41 : decode cX11_forgeKind 41 = .ok (.invokevirtual 72, 3) := by decide +kernel
theorem d_X11_forgeKind_44 : decode cX11_forgeKind 44 = .ok (.goto 9, 3) := by decide +kernel
theorem d_X11_forgeKind_47 : decode cX11_forgeKind 47 = .ok (.aload_n 0, 1) := by decide +kernel
theorem d_X11_forgeKind_48 : decode cX11_forgeKind 48 = .ok (.bipush 11, 2) := by decide +kernel
theorem d_X11_forgeKind_50 : decode cX11_forgeKind 50 = .ok (.invokevirtual 55, 3) := by decide +kernel
theorem d_X11_forgeKind_53 : decode cX11_forgeKind 53 = .ok (.ireturn, 1) := by decide +kernel
theorem d_X11_forgeShort_0 : decode cX11_forgeShort 0 = .ok (.aload_n 1, 1) := by decide +kernel
theorem d_X11_forgeShort_1 : decode cX11_forgeShort 1 = .ok (.iconst 1, 1) := by decide +kernel
theorem d_X11_forgeShort_2 : decode cX11_forgeShort 2 = .ok (.invokevirtual 339, 3) := by decide +kernel
theorem d_X11_forgeShort_5 : decode cX11_forgeShort 5 = .ok (.istore_n 3, 1) := by decide +kernel
theorem d_X11_forgeShort_6 : decode cX11_forgeShort 6 = .ok (.iload_n 3, 1) := by decide +kernel
theorem d_X11_forgeShort_7 : decode cX11_forgeShort 7 = .ok (.ifCond .eq 9, 3) := by decide +kernel
theorem d_X11_forgeShort_10 : decode cX11_forgeShort 10 = .ok (.aload_n 0, 1) := by decide +kernel
theorem d_X11_forgeShort_11 : decode cX11_forgeShort 11 = .ok (.iload_n 3, 1) := by decide +kernel
theorem d_X11_forgeShort_12 : decode cX11_forgeShort 12 = .ok (.invokevirtual 55, 3) := by decide +kernel
theorem d_X11_forgeShort_15 : decode cX11_forgeShort 15 = .ok (.ireturn, 1) := by decide +kernel
theorem d_X11_forgeShort_16 : decode cX11_forgeShort 16 = .ok (.aload_n 1, 1) := by decide +kernel
theorem d_X11_forgeShort_17 : decode cX11_forgeShort 17 = .ok (.iload_n 2, 1) := by decide +kernel
theorem d_X11_forgeShort_18 : decode cX11_forgeShort 18 = .ok (.invokevirtual 333, 3) := by decide +kernel
theorem d_X11_forgeShort_21 : decode cX11_forgeShort 21 = .ok (.ifCond .eq 16, 3) := by decide +kernel
theorem d_X11_forgeShort_24 : decode cX11_forgeShort 24 = .ok (.aload_n 0, 1) := by decide +kernel
theorem d_X11_forgeShort_25 : decode cX11_forgeShort 25 = .ok (.aload_n 1, 1) := by decide +kernel
theorem d_X11_forgeShort_26 : decode cX11_forgeShort 26 = .ok (.getfield 342, 3) := by decide +kernel
theorem d_X11_forgeShort_29 : decode cX11_forgeShort 29 = .ok (.iload_n 2, 1) := by decide +kernel
theorem d_X11_forgeShort_30 : decode cX11_forgeShort 30 = .ok (.iaload, 1) := by decide +kernel
theorem d_X11_forgeShort_31 : decode cX11_forgeShort 31 = .ok (.invokevirtual 72, 3) := by decide +kernel
theorem d_X11_forgeShort_34 : decode cX11_forgeShort 34 = .ok (.goto 9, 3) := by decide +kernel
theorem d_X11_forgeShort_37 : decode cX11_forgeShort 37 = .ok (.aload_n 0, 1) := by decide +kernel
theorem d_X11_forgeShort_38 : decode cX11_forgeShort 38 = .ok (.bipush 12, 2) := by decide +kernel
theorem d_X11_forgeShort_40 : decode cX11_forgeShort 40 = .ok (.invokevirtual 55, 3) := by decide +kernel
theorem d_X11_forgeShort_43 : decode cX11_forgeShort 43 = .ok (.ireturn, 1) := by decide +kernel
theorem d_X11_forgeCopy_0 : decode cX11_forgeCopy 0 = .ok (.aload_n 1, 1) := by decide +kernel
theorem d_X11_forgeCopy_1 : decode cX11_forgeCopy 1 = .ok (.iconst 0, 1) := by decide +kernel
theorem d_X11_forgeCopy_2 : decode cX11_forgeCopy 2 = .ok (.invokevirtual 339, 3) := by decide +kernel
theorem d_X11_forgeCopy_5 : decode cX11_forgeCopy 5 = .ok (.istore_n 3, 1) := by decide +kernel
theorem d_X11_forgeCopy_6 : decode cX11_forgeCopy 6 = .ok (.iload_n 3, 1) := by decide +kernel
theorem d_X11_forgeCopy_7 : decode cX11_forgeCopy 7 = .ok (.ifCond .eq 9, 3) := by decide +kernel
theorem d_X11_forgeCopy_10 : decode cX11_forgeCopy 10 = .ok (.aload_n 0, 1) := by decide +kernel
theorem d_X11_forgeCopy_11 : decode cX11_forgeCopy 11 = .ok (.iload_n 3, 1) := by decide +kernel
theorem d_X11_forgeCopy_12 : decode cX11_forgeCopy 12 = .ok (.invokevirtual 55, 3) := by decide +kernel
theorem d_X11_forgeCopy_15 : decode cX11_forgeCopy 15 = .ok (.ireturn, 1) := by decide +kernel
theorem d_X11_forgeCopy_16 : decode cX11_forgeCopy 16 = .ok (.iload_n 2, 1) := by decide +kernel
theorem d_X11_forgeCopy_17 : decode cX11_forgeCopy 17 = .ok (.ifCond .lt 21, 3) := by decide +kernel
theorem d_X11_forgeCopy_20 : decode cX11_forgeCopy 20 = .ok (.iconst 1, 1) := by decide +kernel
theorem d_X11_forgeCopy_21 : decode cX11_forgeCopy 21 = .ok (.iload_n 2, 1) := by decide +kernel
theorem d_X11_forgeCopy_22 : decode cX11_forgeCopy 22 = .ok (.iadd, 1) := by decide +kernel
theorem d_X11_forgeCopy_23 : decode cX11_forgeCopy 23 = .ok (.aload_n 1, 1) := by decide +kernel
theorem d_X11_forgeCopy_24 : decode cX11_forgeCopy 24 = .ok (.getfield 375, 3) := by decide +kernel
theorem d_X11_forgeCopy_27 : decode cX11_forgeCopy 27 = .ok (.if_icmp .gt 11, 3) := by decide +kernel
theorem d_X11_forgeCopy_30 : decode cX11_forgeCopy 30 = .ok (.iload_n 2, 1) := by decide +kernel
theorem d_X11_forgeCopy_31 : decode cX11_forgeCopy 31 = .ok (.iload_n 2, 1) := by decide +kernel
theorem d_X11_forgeCopy_32 : decode cX11_forgeCopy 32 = .ok (.iadd, 1) := by decide +kernel
theorem d_X11_forgeCopy_33 : decode cX11_forgeCopy 33 = .ok (.bipush 6, 2) := by decide +kernel
theorem d_X11_forgeCopy_35 : decode cX11_forgeCopy 35 = .ok (.if_icmp .le 10, 3) := by decide +kernel
theorem d_X11_forgeCopy_38 : decode cX11_forgeCopy 38 = .ok (.aload_n 0, 1) := by decide +kernel
theorem d_X11_forgeCopy_39 : decode cX11_forgeCopy 39 = .ok (.bipush 12, 2) := by decide +kernel
theorem d_X11_forgeCopy_41 : decode cX11_forgeCopy 41 = .ok (.invokevirtual 55, 3) := by decide +kernel
theorem d_X11_forgeCopy_44 : decode cX11_forgeCopy 44 = .ok (.ireturn, 1) := by decide +kernel
theorem d_X11_forgeCopy_45 : decode cX11_forgeCopy 45 = .ok (.iconst 0, 1) := by decide +kernel
theorem d_X11_forgeCopy_46 : decode cX11_forgeCopy 46 = .ok (.istore 4, 2) := by decide +kernel
theorem d_X11_forgeCopy_48 : decode cX11_forgeCopy 48 = .ok (.iconst 1, 1) := by decide +kernel
theorem d_X11_forgeCopy_49 : decode cX11_forgeCopy 49 = .ok (.istore 5, 2) := by decide +kernel
theorem d_X11_forgeCopy_51 : decode cX11_forgeCopy 51 = .ok (.iload 5, 2) := by decide +kernel
theorem d_X11_forgeCopy_53 : decode cX11_forgeCopy 53 = .ok (.iload_n 2, 1) := by decide +kernel
theorem d_X11_forgeCopy_54 : decode cX11_forgeCopy 54 = .ok (.if_icmp .gt 21, 3) := by decide +kernel
theorem d_X11_forgeCopy_57 : decode cX11_forgeCopy 57 = .ok (.iload 4, 2) := by decide +kernel
theorem d_X11_forgeCopy_59 : decode cX11_forgeCopy 59 = .ok (.aload_n 1, 1) := by decide +kernel
theorem d_X11_forgeCopy_60 : decode cX11_forgeCopy 60 = .ok (.getfield 342, 3) := by decide +kernel
theorem d_X11_forgeCopy_63 : decode cX11_forgeCopy 63 = .ok (.iload 5, 2) := by decide +kernel
theorem d_X11_forgeCopy_65 : decode cX11_forgeCopy 65 = .ok (.iaload, 1) := by decide +kernel
theorem d_X11_forgeCopy_66 : decode cX11_forgeCopy 66 = .ok (.iadd, 1) := by decide +kernel
theorem d_X11_forgeCopy_67 : decode cX11_forgeCopy 67 = .ok (.istore 4, 2) := by decide +kernel
theorem d_X11_forgeCopy_69 : decode cX11_forgeCopy 69 = .ok (.iinc 5 1, 3) := by decide +kernel
theorem d_X11_forgeCopy_72 : decode cX11_forgeCopy 72 = .ok (.goto (-21), 3) := by decide +kernel
theorem d_X11_forgeCopy_75 : decode cX11_forgeCopy 75 = .ok (.aload_n 0, 1) := by decide +kernel
theorem d_X11_forgeCopy_76 : decode cX11_forgeCopy 76 = .ok (.iload 4, 2) := by decide +kernel
theorem d_X11_forgeCopy_78 : decode cX11_forgeCopy 78 = .ok (.invokevirtual 72, 3) := by decide +kernel
theorem d_X11_forgeCopy_81 : decode cX11_forgeCopy 81 = .ok (.ireturn, 1) := by decide +kernel
theorem d_X11_forgeRow_0 : decode cX11_forgeRow 0 = .ok (.aload_n 0, 1) := by decide +kernel
theorem d_X11_forgeRow_1 : decode cX11_forgeRow 1 = .ok (.getfield 10, 3) := by decide +kernel
theorem d_X11_forgeRow_4 : decode cX11_forgeRow 4 = .ok (.iload_n 1, 1) := by decide +kernel
theorem d_X11_forgeRow_5 : decode cX11_forgeRow 5 = .ok (.invokevirtual 86, 3) := by decide +kernel
theorem d_X11_forgeRow_8 : decode cX11_forgeRow 8 = .ok (.ifCond .ne 9, 3) := by decide +kernel
theorem d_X11_forgeRow_11 : decode cX11_forgeRow 11 = .ok (.aload_n 0, 1) := by decide +kernel
theorem d_X11_forgeRow_12 : decode cX11_forgeRow 12 = .ok (.iconst 0, 1) := by decide +kernel
theorem d_X11_forgeRow_13 : decode cX11_forgeRow 13 = .ok (.invokevirtual 72, 3) := by decide +kernel
theorem d_X11_forgeRow_16 : decode cX11_forgeRow 16 = .ok (.ireturn, 1) := by decide +kernel
theorem d_X11_forgeRow_17 : decode cX11_forgeRow 17 = .ok (.aload_n 0, 1) := by decide +kernel
theorem d_X11_forgeRow_18 : decode cX11_forgeRow 18 = .ok (.getfield 10, 3) := by decide +kernel
theorem d_X11_forgeRow_21 : decode cX11_forgeRow 21 = .ok (.getfield 62, 3) := by decide +kernel
theorem d_X11_forgeRow_24 : decode cX11_forgeRow 24 = .ok (.iload_n 1, 1) := by decide +kernel
theorem d_X11_forgeRow_25 : decode cX11_forgeRow 25 = .ok (.aaload, 1) := by decide +kernel
theorem d_X11_forgeRow_26 : decode cX11_forgeRow 26 = .ok (.getfield 89, 3) := by decide +kernel
theorem d_X11_forgeRow_29 : decode cX11_forgeRow 29 = .ok (.istore_n 2, 1) := by decide +kernel
theorem d_X11_forgeRow_30 : decode cX11_forgeRow 30 = .ok (.iload_n 2, 1) := by decide +kernel
theorem d_X11_forgeRow_31 : decode cX11_forgeRow 31 = .ok (.iconst 1, 1) := by decide +kernel
theorem d_X11_forgeRow_32 : decode cX11_forgeRow 32 = .ok (.invokestatic 92, 3) := by decide +kernel
theorem d_X11_forgeRow_35 : decode cX11_forgeRow 35 = .ok (.ifCond .eq 11, 3) := by decide +kernel
theorem d_X11_forgeRow_38 : decode cX11_forgeRow 38 = .ok (.aload_n 0, 1) := by decide +kernel
theorem d_X11_forgeRow_39 : decode cX11_forgeRow 39 = .ok (.iload_n 2, 1) := by decide +kernel
theorem d_X11_forgeRow_40 : decode cX11_forgeRow 40 = .ok (.invokevirtual 72, 3) := by decide +kernel
theorem d_X11_forgeRow_43 : decode cX11_forgeRow 43 = .ok (.goto 9, 3) := by decide +kernel
theorem d_X11_forgeRow_46 : decode cX11_forgeRow 46 = .ok (.aload_n 0, 1) := by decide +kernel
theorem d_X11_forgeRow_47 : decode cX11_forgeRow 47 = .ok (.bipush 14, 2) := by decide +kernel
theorem d_X11_forgeRow_49 : decode cX11_forgeRow 49 = .ok (.invokevirtual 55, 3) := by decide +kernel
theorem d_X11_forgeRow_52 : decode cX11_forgeRow 52 = .ok (.ireturn, 1) := by decide +kernel
