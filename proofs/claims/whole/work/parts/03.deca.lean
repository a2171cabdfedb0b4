theorem dX0_init_0 : decode cX0_init 0 = .ok (.aload_n 0, 1) := by decide +kernel
theorem dX0_init_1 : decode cX0_init 1 = .ok (.invokespecial 3, 3) := by decide +kernel
theorem dX0_init_4 : decode cX0_init 4 = .ok (.aload_n 0, 1) := by decide +kernel
theorem dX0_init_5 : decode cX0_init 5 = .ok (.iconst 5, 1) := by decide +kernel
theorem dX0_init_6 : decode cX0_init 6 = .ok (.newarray .int, 2) := by decide +kernel
theorem dX0_init_8 : decode cX0_init 8 = .ok (.putfield 9, 3) := by decide +kernel
theorem dX0_init_11 : decode cX0_init 11 = .ok (.aload_n 0, 1) := by decide +kernel
theorem dX0_init_12 : decode cX0_init 12 = .ok (.bipush 15, 2) := by decide +kernel
theorem dX0_init_14 : decode cX0_init 14 = .ok (.newarray .int, 2) := by decide +kernel
theorem dX0_init_16 : decode cX0_init 16 = .ok (.putfield 15, 3) := by decide +kernel
theorem dX0_init_19 : decode cX0_init 19 = .ok (.aload_n 0, 1) := by decide +kernel
theorem dX0_init_20 : decode cX0_init 20 = .ok (.iconst 5, 1) := by decide +kernel
theorem dX0_init_21 : decode cX0_init 21 = .ok (.newarray .int, 2) := by decide +kernel
theorem dX0_init_23 : decode cX0_init 23 = .ok (.putfield 18, 3) := by decide +kernel
theorem dX0_init_26 : decode cX0_init 26 = .ok (.aload_n 0, 1) := by decide +kernel
theorem dX0_init_27 : decode cX0_init 27 = .ok (.iconst 4, 1) := by decide +kernel
theorem dX0_init_28 : decode cX0_init 28 = .ok (.newarray .int, 2) := by decide +kernel
theorem dX0_init_30 : decode cX0_init 30 = .ok (.putfield 21, 3) := by decide +kernel
theorem dX0_init_33 : decode cX0_init 33 = .ok (.aload_n 0, 1) := by decide +kernel
theorem dX0_init_34 : decode cX0_init 34 = .ok (.iconst 4, 1) := by decide +kernel
theorem dX0_init_35 : decode cX0_init 35 = .ok (.newarray .int, 2) := by decide +kernel
theorem dX0_init_37 : decode cX0_init 37 = .ok (.putfield 24, 3) := by decide +kernel
theorem dX0_init_40 : decode cX0_init 40 = .ok (.aload_n 0, 1) := by decide +kernel
theorem dX0_init_41 : decode cX0_init 41 = .ok (.bipush 20, 2) := by decide +kernel
theorem dX0_init_43 : decode cX0_init 43 = .ok (.newarray .int, 2) := by decide +kernel
theorem dX0_init_45 : decode cX0_init 45 = .ok (.putfield 27, 3) := by decide +kernel
theorem dX0_init_48 : decode cX0_init 48 = .ok (.return_, 1) := by decide +kernel
theorem dX0_takeFrom_0 : decode cX0_takeFrom 0 = .ok (.aload_n 0, 1) := by decide +kernel
theorem dX0_takeFrom_1 : decode cX0_takeFrom 1 = .ok (.aload_n 1, 1) := by decide +kernel
theorem dX0_takeFrom_2 : decode cX0_takeFrom 2 = .ok (.getfield 30, 3) := by decide +kernel
theorem dX0_takeFrom_5 : decode cX0_takeFrom 5 = .ok (.putfield 30, 3) := by decide +kernel
theorem dX0_takeFrom_8 : decode cX0_takeFrom 8 = .ok (.aload_n 0, 1) := by decide +kernel
theorem dX0_takeFrom_9 : decode cX0_takeFrom 9 = .ok (.aload_n 1, 1) := by decide +kernel
theorem dX0_takeFrom_10 : decode cX0_takeFrom 10 = .ok (.getfield 34, 3) := by decide +kernel
theorem dX0_takeFrom_13 : decode cX0_takeFrom 13 = .ok (.putfield 34, 3) := by decide +kernel
theorem dX0_takeFrom_16 : decode cX0_takeFrom 16 = .ok (.aload_n 0, 1) := by decide +kernel
theorem dX0_takeFrom_17 : decode cX0_takeFrom 17 = .ok (.aload_n 1, 1) := by decide +kernel
theorem dX0_takeFrom_18 : decode cX0_takeFrom 18 = .ok (.getfield 37, 3) := by decide +kernel
theorem dX0_takeFrom_21 : decode cX0_takeFrom 21 = .ok (.putfield 37, 3) := by decide +kernel
theorem dX0_takeFrom_24 : decode cX0_takeFrom 24 = .ok (.aload_n 0, 1) := by decide +kernel
theorem dX0_takeFrom_25 : decode cX0_takeFrom 25 = .ok (.aload_n 1, 1) := by decide +kernel
theorem dX0_takeFrom_26 : decode cX0_takeFrom 26 = .ok (.getfield 40, 3) := by decide +kernel
theorem dX0_takeFrom_29 : decode cX0_takeFrom 29 = .ok (.putfield 40, 3) := by decide +kernel
theorem dX0_takeFrom_32 : decode cX0_takeFrom 32 = .ok (.aload_n 0, 1) := by decide +kernel
theorem dX0_takeFrom_33 : decode cX0_takeFrom 33 = .ok (.iconst 0, 1) := by decide +kernel
theorem dX0_takeFrom_34 : decode cX0_takeFrom 34 = .ok (.putfield 43, 3) := by decide +kernel
theorem dX0_takeFrom_37 : decode cX0_takeFrom 37 = .ok (.aload_n 1, 1) := by decide +kernel
theorem dX0_takeFrom_38 : decode cX0_takeFrom 38 = .ok (.getfield 9, 3) := by decide +kernel
theorem dX0_takeFrom_41 : decode cX0_takeFrom 41 = .ok (.iconst 0, 1) := by decide +kernel
theorem dX0_takeFrom_42 : decode cX0_takeFrom 42 = .ok (.aload_n 0, 1) := by decide +kernel
theorem dX0_takeFrom_43 : decode cX0_takeFrom 43 = .ok (.getfield 9, 3) := by decide +kernel
theorem dX0_takeFrom_46 : decode cX0_takeFrom 46 = .ok (.iconst 0, 1) := by decide +kernel
theorem dX0_takeFrom_47 : decode cX0_takeFrom 47 = .ok (.iconst 5, 1) := by decide +kernel
theorem dX0_takeFrom_48 : decode cX0_takeFrom 48 = .ok (.invokestatic 46, 3) := by decide +kernel
theorem dX0_takeFrom_51 : decode cX0_takeFrom 51 = .ok (.aload_n 1, 1) := by decide +kernel
theorem dX0_takeFrom_52 : decode cX0_takeFrom 52 = .ok (.getfield 15, 3) := by decide +kernel
theorem dX0_takeFrom_55 : decode cX0_takeFrom 55 = .ok (.iconst 0, 1) := by decide +kernel
theorem dX0_takeFrom_56 : decode cX0_takeFrom 56 = .ok (.aload_n 0, 1) := by decide +kernel
theorem dX0_takeFrom_57 : decode cX0_takeFrom 57 = .ok (.getfield 15, 3) := by decide +kernel
theorem dX0_takeFrom_60 : decode cX0_takeFrom 60 = .ok (.iconst 0, 1) := by decide +kernel
theorem dX0_takeFrom_61 : decode cX0_takeFrom 61 = .ok (.bipush 15, 2) := by decide +kernel
theorem dX0_takeFrom_63 : decode cX0_takeFrom 63 = .ok (.invokestatic 46, 3) := by decide +kernel
theorem dX0_takeFrom_66 : decode cX0_takeFrom 66 = .ok (.aload_n 1, 1) := by decide +kernel
theorem dX0_takeFrom_67 : decode cX0_takeFrom 67 = .ok (.getfield 18, 3) := by decide +kernel
theorem dX0_takeFrom_70 : decode cX0_takeFrom 70 = .ok (.iconst 0, 1) := by decide +kernel
theorem dX0_takeFrom_71 : decode cX0_takeFrom 71 = .ok (.aload_n 0, 1) := by decide +kernel
theorem dX0_takeFrom_72 : decode cX0_takeFrom 72 = .ok (.getfield 18, 3) := by decide +kernel
theorem dX0_takeFrom_75 : decode cX0_takeFrom 75 = .ok (.iconst 0, 1) := by decide +kernel
theorem dX0_takeFrom_76 : decode cX0_takeFrom 76 = .ok (.iconst 5, 1) := by decide +kernel
theorem dX0_takeFrom_77 : decode cX0_takeFrom 77 = .ok (.invokestatic 46, 3) := by decide +kernel
theorem dX0_takeFrom_80 : decode cX0_takeFrom 80 = .ok (.aload_n 1, 1) := by decide +kernel
theorem dX0_takeFrom_81 : decode cX0_takeFrom 81 = .ok (.getfield 21, 3) := by decide +kernel
theorem dX0_takeFrom_84 : decode cX0_takeFrom 84 = .ok (.iconst 0, 1) := by decide +kernel
theorem dX0_takeFrom_85 : decode cX0_takeFrom 85 = .ok (.aload_n 0, 1) := by decide +kernel
theorem dX0_takeFrom_86 : decode cX0_takeFrom 86 = .ok (.getfield 21, 3) := by decide +kernel
theorem dX0_takeFrom_89 : decode cX0_takeFrom 89 = .ok (.iconst 0, 1) := by decide +kernel
theorem dX0_takeFrom_90 : decode cX0_takeFrom 90 = .ok (.iconst 4, 1) := by decide +kernel
theorem dX0_takeFrom_91 : decode cX0_takeFrom 91 = .ok (.invokestatic 46, 3) := by decide +kernel
theorem dX0_takeFrom_94 : decode cX0_takeFrom 94 = .ok (.aload_n 1, 1) := by decide +kernel
theorem dX0_takeFrom_95 : decode cX0_takeFrom 95 = .ok (.getfield 24, 3) := by decide +kernel
theorem dX0_takeFrom_98 : decode cX0_takeFrom 98 = .ok (.iconst 0, 1) := by decide +kernel
theorem dX0_takeFrom_99 : decode cX0_takeFrom 99 = .ok (.aload_n 0, 1) := by decide +kernel
theorem dX0_takeFrom_100 : decode cX0_takeFrom 100 = .ok (.getfield 24, 3) := by decide +kernel
theorem dX0_takeFrom_103 : decode cX0_takeFrom 103 = .ok (.iconst 0, 1) := by decide +kernel
theorem dX0_takeFrom_104 : decode cX0_takeFrom 104 = .ok (.iconst 4, 1) := by decide +kernel
theorem dX0_takeFrom_105 : decode cX0_takeFrom 105 = .ok (.invokestatic 46, 3) := by decide +kernel
theorem dX0_takeFrom_108 : decode cX0_takeFrom 108 = .ok (.aload_n 1, 1) := by decide +kernel
theorem dX0_takeFrom_109 : decode cX0_takeFrom 109 = .ok (.getfield 27, 3) := by decide +kernel
theorem dX0_takeFrom_112 : decode cX0_takeFrom 112 = .ok (.iconst 0, 1) := by decide +kernel
theorem dX0_takeFrom_113 : decode cX0_takeFrom 113 = .ok (.aload_n 0, 1) := by decide +kernel
theorem dX0_takeFrom_114 : decode cX0_takeFrom 114 = .ok (.getfield 27, 3) := by decide +kernel
theorem dX0_takeFrom_117 : decode cX0_takeFrom 117 = .ok (.iconst 0, 1) := by decide +kernel
theorem dX0_takeFrom_118 : decode cX0_takeFrom 118 = .ok (.bipush 20, 2) := by decide +kernel
theorem dX0_takeFrom_120 : decode cX0_takeFrom 120 = .ok (.invokestatic 46, 3) := by decide +kernel
theorem dX0_takeFrom_123 : decode cX0_takeFrom 123 = .ok (.return_, 1) := by decide +kernel
theorem dX0_hasColour_0 : decode cX0_hasColour 0 = .ok (.iload_n 1, 1) := by decide +kernel
theorem dX0_hasColour_1 : decode cX0_hasColour 1 = .ok (.iconst 0, 1) := by decide +kernel
theorem dX0_hasColour_2 : decode cX0_hasColour 2 = .ok (.aload_n 0, 1) := by decide +kernel
theorem dX0_hasColour_3 : decode cX0_hasColour 3 = .ok (.getfield 30, 3) := by decide +kernel
theorem dX0_hasColour_6 : decode cX0_hasColour 6 = .ok (.iconst 1, 1) := by decide +kernel
theorem dX0_hasColour_7 : decode cX0_hasColour 7 = .ok (.isub, 1) := by decide +kernel
theorem dX0_hasColour_8 : decode cX0_hasColour 8 = .ok (.invokestatic 52, 3) := by decide +kernel
theorem dX0_hasColour_11 : decode cX0_hasColour 11 = .ok (.ireturn, 1) := by decide +kernel
theorem dX0_hasOne_0 : decode cX0_hasOne 0 = .ok (.iload_n 1, 1) := by decide +kernel
theorem dX0_hasOne_1 : decode cX0_hasOne 1 = .ok (.iconst 0, 1) := by decide +kernel
theorem dX0_hasOne_2 : decode cX0_hasOne 2 = .ok (.aload_n 0, 1) := by decide +kernel
theorem dX0_hasOne_3 : decode cX0_hasOne 3 = .ok (.getfield 34, 3) := by decide +kernel
theorem dX0_hasOne_6 : decode cX0_hasOne 6 = .ok (.iconst 1, 1) := by decide +kernel
theorem dX0_hasOne_7 : decode cX0_hasOne 7 = .ok (.isub, 1) := by decide +kernel
theorem dX0_hasOne_8 : decode cX0_hasOne 8 = .ok (.invokestatic 52, 3) := by decide +kernel
theorem dX0_hasOne_11 : decode cX0_hasOne 11 = .ok (.ireturn, 1) := by decide +kernel
theorem dX0_inVats_0 : decode cX0_inVats 0 = .ok (.aload_n 0, 1) := by decide +kernel
theorem dX0_inVats_1 : decode cX0_inVats 1 = .ok (.getfield 18, 3) := by decide +kernel
theorem dX0_inVats_4 : decode cX0_inVats 4 = .ok (.iconst 0, 1) := by decide +kernel
theorem dX0_inVats_5 : decode cX0_inVats 5 = .ok (.aload_n 0, 1) := by decide +kernel
theorem dX0_inVats_6 : decode cX0_inVats 6 = .ok (.getfield 30, 3) := by decide +kernel
theorem dX0_inVats_9 : decode cX0_inVats 9 = .ok (.invokestatic 56, 3) := by decide +kernel
theorem dX0_inVats_12 : decode cX0_inVats 12 = .ok (.ireturn, 1) := by decide +kernel
theorem dX0_heldBy_0 : decode cX0_heldBy 0 = .ok (.aload_n 0, 1) := by decide +kernel
theorem dX0_heldBy_1 : decode cX0_heldBy 1 = .ok (.getfield 27, 3) := by decide +kernel
theorem dX0_heldBy_4 : decode cX0_heldBy 4 = .ok (.iload_n 1, 1) := by decide +kernel
theorem dX0_heldBy_5 : decode cX0_heldBy 5 = .ok (.iconst 5, 1) := by decide +kernel
theorem dX0_heldBy_6 : decode cX0_heldBy 6 = .ok (.imul, 1) := by decide +kernel
theorem dX0_heldBy_7 : decode cX0_heldBy 7 = .ok (.aload_n 0, 1) := by decide +kernel
theorem dX0_heldBy_8 : decode cX0_heldBy 8 = .ok (.getfield 30, 3) := by decide +kernel
theorem dX0_heldBy_11 : decode cX0_heldBy 11 = .ok (.invokestatic 56, 3) := by decide +kernel
theorem dX0_heldBy_14 : decode cX0_heldBy 14 = .ok (.ireturn, 1) := by decide +kernel
theorem dX0_heldByAll_0 : decode cX0_heldByAll 0 = .ok (.aload_n 0, 1) := by decide +kernel
theorem dX0_heldByAll_1 : decode cX0_heldByAll 1 = .ok (.getfield 27, 3) := by decide +kernel
theorem dX0_heldByAll_4 : decode cX0_heldByAll 4 = .ok (.iconst 0, 1) := by decide +kernel
theorem dX0_heldByAll_5 : decode cX0_heldByAll 5 = .ok (.aload_n 0, 1) := by decide +kernel
theorem dX0_heldByAll_6 : decode cX0_heldByAll 6 = .ok (.getfield 34, 3) := by decide +kernel
theorem dX0_heldByAll_9 : decode cX0_heldByAll 9 = .ok (.iconst 5, 1) := by decide +kernel
theorem dX0_heldByAll_10 : decode cX0_heldByAll 10 = .ok (.imul, 1) := by decide +kernel
theorem dX0_heldByAll_11 : decode cX0_heldByAll 11 = .ok (.invokestatic 56, 3) := by decide +kernel
theorem dX0_heldByAll_14 : decode cX0_heldByAll 14 = .ok (.ireturn, 1) := by decide +kernel
theorem dX0_heldOf_0 : decode cX0_heldOf 0 = .ok (.iconst 0, 1) := by decide +kernel
theorem dX0_heldOf_1 : decode cX0_heldOf 1 = .ok (.istore_n 2, 1) := by decide +kernel
theorem dX0_heldOf_2 : decode cX0_heldOf 2 = .ok (.iconst 0, 1) := by decide +kernel
theorem dX0_heldOf_3 : decode cX0_heldOf 3 = .ok (.istore_n 3, 1) := by decide +kernel
theorem dX0_heldOf_4 : decode cX0_heldOf 4 = .ok (.iload_n 3, 1) := by decide +kernel
theorem dX0_heldOf_5 : decode cX0_heldOf 5 = .ok (.aload_n 0, 1) := by decide +kernel
theorem dX0_heldOf_6 : decode cX0_heldOf 6 = .ok (.getfield 34, 3) := by decide +kernel
theorem dX0_heldOf_9 : decode cX0_heldOf 9 = .ok (.if_icmp .ge 22, 3) := by decide +kernel
theorem dX0_heldOf_12 : decode cX0_heldOf 12 = .ok (.iload_n 2, 1) := by decide +kernel
theorem dX0_heldOf_13 : decode cX0_heldOf 13 = .ok (.aload_n 0, 1) := by decide +kernel
theorem dX0_heldOf_14 : decode cX0_heldOf 14 = .ok (.getfield 27, 3) := by decide +kernel
theorem dX0_heldOf_17 : decode cX0_heldOf 17 = .ok (.iload_n 3, 1) := by decide +kernel
theorem dX0_heldOf_18 : decode cX0_heldOf 18 = .ok (.iconst 5, 1) := by decide +kernel
theorem dX0_heldOf_19 : decode cX0_heldOf 19 = .ok (.imul, 1) := by decide +kernel
theorem dX0_heldOf_20 : decode cX0_heldOf 20 = .ok (.iload_n 1, 1) := by decide +kernel
theorem dX0_heldOf_21 : decode cX0_heldOf 21 = .ok (.iadd, 1) := by decide +kernel
theorem dX0_heldOf_22 : decode cX0_heldOf 22 = .ok (.iaload, 1) := by decide +kernel
theorem dX0_heldOf_23 : decode cX0_heldOf 23 = .ok (.iadd, 1) := by decide +kernel
theorem dX0_heldOf_24 : decode cX0_heldOf 24 = .ok (.istore_n 2, 1) := by decide +kernel
theorem dX0_heldOf_25 : decode cX0_heldOf 25 = .ok (.iinc 3 1, 3) := by decide +kernel
theorem dX0_heldOf_28 : decode cX0_heldOf 28 = .ok (.goto (-24), 3) := by decide +kernel
theorem dX0_heldOf_31 : decode cX0_heldOf 31 = .ok (.iload_n 2, 1) := by decide +kernel
theorem dX0_heldOf_32 : decode cX0_heldOf 32 = .ok (.ireturn, 1) := by decide +kernel
theorem dX0_rentOf_0 : decode cX0_rentOf 0 = .ok (.getstatic 60, 3) := by decide +kernel
theorem dX0_rentOf_3 : decode cX0_rentOf 3 = .ok (.aload_n 0, 1) := by decide +kernel
theorem dX0_rentOf_4 : decode cX0_rentOf 4 = .ok (.getfield 9, 3) := by decide +kernel
theorem dX0_rentOf_7 : decode cX0_rentOf 7 = .ok (.iload_n 1, 1) := by decide +kernel
theorem dX0_rentOf_8 : decode cX0_rentOf 8 = .ok (.iaload, 1) := by decide +kernel
theorem dX0_rentOf_9 : decode cX0_rentOf 9 = .ok (.iaload, 1) := by decide +kernel
theorem dX0_rentOf_10 : decode cX0_rentOf 10 = .ok (.ireturn, 1) := by decide +kernel
theorem dX0_rentOfDrops_0 : decode cX0_rentOfDrops 0 = .ok (.iconst 0, 1) := by decide +kernel
theorem dX0_rentOfDrops_1 : decode cX0_rentOfDrops 1 = .ok (.istore_n 3, 1) := by decide +kernel
theorem dX0_rentOfDrops_2 : decode cX0_rentOfDrops 2 = .ok (.iconst 0, 1) := by decide +kernel
theorem dX0_rentOfDrops_3 : decode cX0_rentOfDrops 3 = .ok (.istore 4, 2) := by decide +kernel
theorem dX0_rentOfDrops_5 : decode cX0_rentOfDrops 5 = .ok (.iload 4, 2) := by decide +kernel
theorem dX0_rentOfDrops_7 : decode cX0_rentOfDrops 7 = .ok (.aload_n 0, 1) := by decide +kernel
theorem dX0_rentOfDrops_8 : decode cX0_rentOfDrops 8 = .ok (.getfield 30, 3) := by decide +kernel
theorem dX0_rentOfDrops_11 : decode cX0_rentOfDrops 11 = .ok (.if_icmp .ge 25, 3) := by decide +kernel
theorem dX0_rentOfDrops_14 : decode cX0_rentOfDrops 14 = .ok (.iload_n 3, 1) := by decide +kernel
theorem dX0_rentOfDrops_15 : decode cX0_rentOfDrops 15 = .ok (.aload_n 1, 1) := by decide +kernel
theorem dX0_rentOfDrops_16 : decode cX0_rentOfDrops 16 = .ok (.iload_n 2, 1) := by decide +kernel
theorem dX0_rentOfDrops_17 : decode cX0_rentOfDrops 17 = .ok (.iload 4, 2) := by decide +kernel
theorem dX0_rentOfDrops_19 : decode cX0_rentOfDrops 19 = .ok (.iadd, 1) := by decide +kernel
theorem dX0_rentOfDrops_20 : decode cX0_rentOfDrops 20 = .ok (.iaload, 1) := by decide +kernel
theorem dX0_rentOfDrops_21 : decode cX0_rentOfDrops 21 = .ok (.aload_n 0, 1) := by decide +kernel
theorem dX0_rentOfDrops_22 : decode cX0_rentOfDrops 22 = .ok (.iload 4, 2) := by decide +kernel
theorem dX0_rentOfDrops_24 : decode cX0_rentOfDrops 24 = .ok (.invokevirtual 63, 3) := by decide +kernel
theorem dX0_rentOfDrops_27 : decode cX0_rentOfDrops 27 = .ok (.imul, 1) := by decide +kernel
theorem dX0_rentOfDrops_28 : decode cX0_rentOfDrops 28 = .ok (.iadd, 1) := by decide +kernel
theorem dX0_rentOfDrops_29 : decode cX0_rentOfDrops 29 = .ok (.istore_n 3, 1) := by decide +kernel
theorem dX0_rentOfDrops_30 : decode cX0_rentOfDrops 30 = .ok (.iinc 4 1, 3) := by decide +kernel
theorem dX0_rentOfDrops_33 : decode cX0_rentOfDrops 33 = .ok (.goto (-28), 3) := by decide +kernel
theorem dX0_rentOfDrops_36 : decode cX0_rentOfDrops 36 = .ok (.iload_n 3, 1) := by decide +kernel
theorem dX0_rentOfDrops_37 : decode cX0_rentOfDrops 37 = .ok (.ireturn, 1) := by decide +kernel
theorem dX0_hueOfDrops_0 : decode cX0_hueOfDrops 0 = .ok (.aload_n 1, 1) := by decide +kernel
theorem dX0_hueOfDrops_1 : decode cX0_hueOfDrops 1 = .ok (.iload_n 2, 1) := by decide +kernel
theorem dX0_hueOfDrops_2 : decode cX0_hueOfDrops 2 = .ok (.aload_n 0, 1) := by decide +kernel
theorem dX0_hueOfDrops_3 : decode cX0_hueOfDrops 3 = .ok (.getfield 30, 3) := by decide +kernel
theorem dX0_hueOfDrops_6 : decode cX0_hueOfDrops 6 = .ok (.invokestatic 56, 3) := by decide +kernel
theorem dX0_hueOfDrops_9 : decode cX0_hueOfDrops 9 = .ok (.istore_n 3, 1) := by decide +kernel
theorem dX0_hueOfDrops_10 : decode cX0_hueOfDrops 10 = .ok (.iload_n 3, 1) := by decide +kernel
theorem dX0_hueOfDrops_11 : decode cX0_hueOfDrops 11 = .ok (.ifCond .gt 5, 3) := by decide +kernel
theorem dX0_hueOfDrops_14 : decode cX0_hueOfDrops 14 = .ok (.iconst 0, 1) := by decide +kernel
theorem dX0_hueOfDrops_15 : decode cX0_hueOfDrops 15 = .ok (.ireturn, 1) := by decide +kernel
theorem dX0_hueOfDrops_16 : decode cX0_hueOfDrops 16 = .ok (.iconst 0, 1) := by decide +kernel
theorem dX0_hueOfDrops_17 : decode cX0_hueOfDrops 17 = .ok (.istore 4, 2) := by decide +kernel
theorem dX0_hueOfDrops_19 : decode cX0_hueOfDrops 19 = .ok (.iconst 0, 1) := by decide +kernel
theorem dX0_hueOfDrops_20 : decode cX0_hueOfDrops 20 = .ok (.istore 5, 2) := by decide +kernel
theorem dX0_hueOfDrops_22 : decode cX0_hueOfDrops 22 = .ok (.iload 5, 2) := by decide +kernel
theorem dX0_hueOfDrops_24 : decode cX0_hueOfDrops 24 = .ok (.iconst 3, 1) := by decide +kernel
theorem dX0_hueOfDrops_25 : decode cX0_hueOfDrops 25 = .ok (.if_icmp .ge 66, 3) := by decide +kernel
theorem dX0_hueOfDrops_28 : decode cX0_hueOfDrops 28 = .ok (.iconst 0, 1) := by decide +kernel
theorem dX0_hueOfDrops_29 : decode cX0_hueOfDrops 29 = .ok (.istore 6, 2) := by decide +kernel
theorem dX0_hueOfDrops_31 : decode cX0_hueOfDrops 31 = .ok (.iconst 0, 1) := by decide +kernel
theorem dX0_hueOfDrops_32 : decode cX0_hueOfDrops 32 = .ok (.istore 7, 2) := by decide +kernel
theorem dX0_hueOfDrops_34 : decode cX0_hueOfDrops 34 = .ok (.iload 7, 2) := by decide +kernel
theorem dX0_hueOfDrops_36 : decode cX0_hueOfDrops 36 = .ok (.aload_n 0, 1) := by decide +kernel
theorem dX0_hueOfDrops_37 : decode cX0_hueOfDrops 37 = .ok (.getfield 30, 3) := by decide +kernel
theorem dX0_hueOfDrops_40 : decode cX0_hueOfDrops 40 = .ok (.if_icmp .ge 33, 3) := by decide +kernel
theorem dX0_hueOfDrops_43 : decode cX0_hueOfDrops 43 = .ok (.iload 6, 2) := by decide +kernel
theorem dX0_hueOfDrops_45 : decode cX0_hueOfDrops 45 = .ok (.aload_n 1, 1) := by decide +kernel
theorem dX0_hueOfDrops_46 : decode cX0_hueOfDrops 46 = .ok (.iload_n 2, 1) := by decide +kernel
theorem dX0_hueOfDrops_47 : decode cX0_hueOfDrops 47 = .ok (.iload 7, 2) := by decide +kernel
theorem dX0_hueOfDrops_49 : decode cX0_hueOfDrops 49 = .ok (.iadd, 1) := by decide +kernel
theorem dX0_hueOfDrops_50 : decode cX0_hueOfDrops 50 = .ok (.iaload, 1) := by decide +kernel
theorem dX0_hueOfDrops_51 : decode cX0_hueOfDrops 51 = .ok (.aload_n 0, 1) := by decide +kernel
theorem dX0_hueOfDrops_52 : decode cX0_hueOfDrops 52 = .ok (.getfield 15, 3) := by decide +kernel
theorem dX0_hueOfDrops_55 : decode cX0_hueOfDrops 55 = .ok (.iconst 3, 1) := by decide +kernel
theorem dX0_hueOfDrops_56 : decode cX0_hueOfDrops 56 = .ok (.iload 7, 2) := by decide +kernel
theorem dX0_hueOfDrops_58 : decode cX0_hueOfDrops 58 = .ok (.imul, 1) := by decide +kernel
theorem dX0_hueOfDrops_59 : decode cX0_hueOfDrops 59 = .ok (.iload 5, 2) := by decide +kernel
theorem dX0_hueOfDrops_61 : decode cX0_hueOfDrops 61 = .ok (.iadd, 1) := by decide +kernel
theorem dX0_hueOfDrops_62 : decode cX0_hueOfDrops 62 = .ok (.iaload, 1) := by decide +kernel
theorem dX0_hueOfDrops_63 : decode cX0_hueOfDrops 63 = .ok (.imul, 1) := by decide +kernel
theorem dX0_hueOfDrops_64 : decode cX0_hueOfDrops 64 = .ok (.iadd, 1) := by decide +kernel
theorem dX0_hueOfDrops_65 : decode cX0_hueOfDrops 65 = .ok (.istore 6, 2) := by decide +kernel
theorem dX0_hueOfDrops_67 : decode cX0_hueOfDrops 67 = .ok (.iinc 7 1, 3) := by decide +kernel
theorem dX0_hueOfDrops_70 : decode cX0_hueOfDrops 70 = .ok (.goto (-36), 3) := by decide +kernel
theorem dX0_hueOfDrops_73 : decode cX0_hueOfDrops 73 = .ok (.bipush 10, 2) := by decide +kernel
theorem dX0_hueOfDrops_75 : decode cX0_hueOfDrops 75 = .ok (.iload 4, 2) := by decide +kernel
theorem dX0_hueOfDrops_77 : decode cX0_hueOfDrops 77 = .ok (.imul, 1) := by decide +kernel
theorem dX0_hueOfDrops_78 : decode cX0_hueOfDrops 78 = .ok (.iload 6, 2) := by decide +kernel
theorem dX0_hueOfDrops_80 : decode cX0_hueOfDrops 80 = .ok (.iload_n 3, 1) := by decide +kernel
theorem dX0_hueOfDrops_81 : decode cX0_hueOfDrops 81 = .ok (.idiv, 1) := by decide +kernel
theorem dX0_hueOfDrops_82 : decode cX0_hueOfDrops 82 = .ok (.iadd, 1) := by decide +kernel
theorem dX0_hueOfDrops_83 : decode cX0_hueOfDrops 83 = .ok (.istore 4, 2) := by decide +kernel
theorem dX0_hueOfDrops_85 : decode cX0_hueOfDrops 85 = .ok (.iinc 5 1, 3) := by decide +kernel
theorem dX0_hueOfDrops_88 : decode cX0_hueOfDrops 88 = .ok (.goto (-66), 3) := by decide +kernel
theorem dX0_hueOfDrops_91 : decode cX0_hueOfDrops 91 = .ok (.iload 4, 2) := by decide +kernel
theorem dX0_hueOfDrops_93 : decode cX0_hueOfDrops 93 = .ok (.ireturn, 1) := by decide +kernel
theorem dX0_hueOfOne_0 : decode cX0_hueOfOne 0 = .ok (.aload_n 0, 1) := by decide +kernel
theorem dX0_hueOfOne_1 : decode cX0_hueOfOne 1 = .ok (.aload_n 0, 1) := by decide +kernel
theorem dX0_hueOfOne_2 : decode cX0_hueOfOne 2 = .ok (.getfield 27, 3) := by decide +kernel
theorem dX0_hueOfOne_5 : decode cX0_hueOfOne 5 = .ok (.iload_n 1, 1) := by decide +kernel
theorem dX0_hueOfOne_6 : decode cX0_hueOfOne 6 = .ok (.iconst 5, 1) := by decide +kernel
theorem dX0_hueOfOne_7 : decode cX0_hueOfOne 7 = .ok (.imul, 1) := by decide +kernel
theorem dX0_hueOfOne_8 : decode cX0_hueOfOne 8 = .ok (.invokevirtual 67, 3) := by decide +kernel
theorem dX0_hueOfOne_11 : decode cX0_hueOfOne 11 = .ok (.ireturn, 1) := by decide +kernel
theorem dX0_giveLoan_0 : decode cX0_giveLoan 0 = .ok (.aload_n 0, 1) := by decide +kernel
theorem dX0_giveLoan_1 : decode cX0_giveLoan 1 = .ok (.iload_n 1, 1) := by decide +kernel
theorem dX0_giveLoan_2 : decode cX0_giveLoan 2 = .ok (.invokevirtual 71, 3) := by decide +kernel
theorem dX0_giveLoan_5 : decode cX0_giveLoan 5 = .ok (.ifCond .eq 21, 3) := by decide +kernel
theorem dX0_giveLoan_8 : decode cX0_giveLoan 8 = .ok (.aload_n 0, 1) := by decide +kernel
theorem dX0_giveLoan_9 : decode cX0_giveLoan 9 = .ok (.iload_n 2, 1) := by decide +kernel
theorem dX0_giveLoan_10 : decode cX0_giveLoan 10 = .ok (.invokevirtual 75, 3) := by decide +kernel
theorem dX0_giveLoan_13 : decode cX0_giveLoan 13 = .ok (.ifCond .eq 13, 3) := by decide +kernel
theorem dX0_giveLoan_16 : decode cX0_giveLoan 16 = .ok (.iload_n 3, 1) := by decide +kernel
theorem dX0_giveLoan_17 : decode cX0_giveLoan 17 = .ok (.iconst 1, 1) := by decide +kernel
theorem dX0_giveLoan_18 : decode cX0_giveLoan 18 = .ok (.bipush 99, 2) := by decide +kernel
theorem dX0_giveLoan_20 : decode cX0_giveLoan 20 = .ok (.invokestatic 52, 3) := by decide +kernel
theorem dX0_giveLoan_23 : decode cX0_giveLoan 23 = .ok (.ifCond .ne 5, 3) := by decide +kernel
theorem dX0_giveLoan_26 : decode cX0_giveLoan 26 = .ok (.iconst (-1), 1) := by decide +kernel
theorem dX0_giveLoan_27 : decode cX0_giveLoan 27 = .ok (.ireturn, 1) := by decide +kernel
theorem dX0_giveLoan_28 : decode cX0_giveLoan 28 = .ok (.iload_n 1, 1) := by decide +kernel
theorem dX0_giveLoan_29 : decode cX0_giveLoan 29 = .ok (.iconst 5, 1) := by decide +kernel
theorem dX0_giveLoan_30 : decode cX0_giveLoan 30 = .ok (.imul, 1) := by decide +kernel
theorem dX0_giveLoan_31 : decode cX0_giveLoan 31 = .ok (.iload_n 2, 1) := by decide +kernel
theorem dX0_giveLoan_32 : decode cX0_giveLoan 32 = .ok (.iadd, 1) := by decide +kernel
theorem dX0_giveLoan_33 : decode cX0_giveLoan 33 = .ok (.istore 4, 2) := by decide +kernel
theorem dX0_giveLoan_35 : decode cX0_giveLoan 35 = .ok (.aload_n 0, 1) := by decide +kernel
theorem dX0_giveLoan_36 : decode cX0_giveLoan 36 = .ok (.getfield 18, 3) := by decide +kernel
theorem dX0_giveLoan_39 : decode cX0_giveLoan 39 = .ok (.iload_n 2, 1) := by decide +kernel
theorem dX0_giveLoan_40 : decode cX0_giveLoan 40 = .ok (.iaload, 1) := by decide +kernel
theorem dX0_giveLoan_41 : decode cX0_giveLoan 41 = .ok (.iload_n 3, 1) := by decide +kernel
theorem dX0_giveLoan_42 : decode cX0_giveLoan 42 = .ok (.if_icmp .lt 17, 3) := by decide +kernel
theorem dX0_giveLoan_45 : decode cX0_giveLoan 45 = .ok (.aload_n 0, 1) := by decide +kernel
theorem dX0_giveLoan_46 : decode cX0_giveLoan 46 = .ok (.getfield 27, 3) := by decide +kernel
theorem dX0_giveLoan_49 : decode cX0_giveLoan 49 = .ok (.iload 4, 2) := by decide +kernel
theorem dX0_giveLoan_51 : decode cX0_giveLoan 51 = .ok (.iaload, 1) := by decide +kernel
theorem dX0_giveLoan_52 : decode cX0_giveLoan 52 = .ok (.iload_n 3, 1) := by decide +kernel
theorem dX0_giveLoan_53 : decode cX0_giveLoan 53 = .ok (.iadd, 1) := by decide +kernel
theorem dX0_giveLoan_54 : decode cX0_giveLoan 54 = .ok (.bipush 99, 2) := by decide +kernel
theorem dX0_giveLoan_56 : decode cX0_giveLoan 56 = .ok (.if_icmp .le 6, 3) := by decide +kernel
theorem dX0_giveLoan_59 : decode cX0_giveLoan 59 = .ok (.bipush (-2), 2) := by decide +kernel
theorem dX0_giveLoan_61 : decode cX0_giveLoan 61 = .ok (.ireturn, 1) := by decide +kernel
theorem dX0_giveLoan_62 : decode cX0_giveLoan 62 = .ok (.aload_n 0, 1) := by decide +kernel
theorem dX0_giveLoan_63 : decode cX0_giveLoan 63 = .ok (.getfield 18, 3) := by decide +kernel
theorem dX0_giveLoan_66 : decode cX0_giveLoan 66 = .ok (.iload_n 2, 1) := by decide +kernel
theorem dX0_giveLoan_67 : decode cX0_giveLoan 67 = .ok (.dup2, 1) := by decide +kernel
theorem dX0_giveLoan_68 : decode cX0_giveLoan 68 = .ok (.iaload, 1) := by decide +kernel
theorem dX0_giveLoan_69 : decode cX0_giveLoan 69 = .ok (.iload_n 3, 1) := by decide +kernel
theorem dX0_giveLoan_70 : decode cX0_giveLoan 70 = .ok (.isub, 1) := by decide +kernel
theorem dX0_giveLoan_71 : decode cX0_giveLoan 71 = .ok (.iastore, 1) := by decide +kernel
theorem dX0_giveLoan_72 : decode cX0_giveLoan 72 = .ok (.aload_n 0, 1) := by decide +kernel
theorem dX0_giveLoan_73 : decode cX0_giveLoan 73 = .ok (.getfield 27, 3) := by decide +kernel
theorem dX0_giveLoan_76 : decode cX0_giveLoan 76 = .ok (.iload 4, 2) := by decide +kernel
theorem dX0_giveLoan_78 : decode cX0_giveLoan 78 = .ok (.dup2, 1) := by decide +kernel
theorem dX0_giveLoan_79 : decode cX0_giveLoan 79 = .ok (.iaload, 1) := by decide +kernel
theorem dX0_giveLoan_80 : decode cX0_giveLoan 80 = .ok (.iload_n 3, 1) := by decide +kernel
theorem dX0_giveLoan_81 : decode cX0_giveLoan 81 = .ok (.iadd, 1) := by decide +kernel
theorem dX0_giveLoan_82 : decode cX0_giveLoan 82 = .ok (.iastore, 1) := by decide +kernel
theorem dX0_giveLoan_83 : decode cX0_giveLoan 83 = .ok (.aload_n 0, 1) := by decide +kernel
theorem dX0_giveLoan_84 : decode cX0_giveLoan 84 = .ok (.getfield 27, 3) := by decide +kernel
theorem dX0_giveLoan_87 : decode cX0_giveLoan 87 = .ok (.iload 4, 2) := by decide +kernel
theorem dX0_giveLoan_89 : decode cX0_giveLoan 89 = .ok (.iaload, 1) := by decide +kernel
theorem dX0_giveLoan_90 : decode cX0_giveLoan 90 = .ok (.ireturn, 1) := by decide +kernel
theorem dX0_takeBack_0 : decode cX0_takeBack 0 = .ok (.aload_n 0, 1) := by decide +kernel
theorem dX0_takeBack_1 : decode cX0_takeBack 1 = .ok (.getfield 27, 3) := by decide +kernel
theorem dX0_takeBack_4 : decode cX0_takeBack 4 = .ok (.iload_n 1, 1) := by decide +kernel
theorem dX0_takeBack_5 : decode cX0_takeBack 5 = .ok (.iconst 5, 1) := by decide +kernel
theorem dX0_takeBack_6 : decode cX0_takeBack 6 = .ok (.imul, 1) := by decide +kernel
theorem dX0_takeBack_7 : decode cX0_takeBack 7 = .ok (.iload_n 2, 1) := by decide +kernel
theorem dX0_takeBack_8 : decode cX0_takeBack 8 = .ok (.iadd, 1) := by decide +kernel
theorem dX0_takeBack_9 : decode cX0_takeBack 9 = .ok (.dup2, 1) := by decide +kernel
theorem dX0_takeBack_10 : decode cX0_takeBack 10 = .ok (.iaload, 1) := by decide +kernel
theorem dX0_takeBack_11 : decode cX0_takeBack 11 = .ok (.iload_n 3, 1) := by decide +kernel
theorem dX0_takeBack_12 : decode cX0_takeBack 12 = .ok (.isub, 1) := by decide +kernel
theorem dX0_takeBack_13 : decode cX0_takeBack 13 = .ok (.iastore, 1) := by decide +kernel
theorem dX0_takeBack_14 : decode cX0_takeBack 14 = .ok (.aload_n 0, 1) := by decide +kernel
theorem dX0_takeBack_15 : decode cX0_takeBack 15 = .ok (.getfield 18, 3) := by decide +kernel
theorem dX0_takeBack_18 : decode cX0_takeBack 18 = .ok (.iload_n 2, 1) := by decide +kernel
theorem dX0_takeBack_19 : decode cX0_takeBack 19 = .ok (.bipush 99, 2) := by decide +kernel
theorem dX0_takeBack_21 : decode cX0_takeBack 21 = .ok (.aload_n 0, 1) := by decide +kernel
theorem dX0_takeBack_22 : decode cX0_takeBack 22 = .ok (.getfield 18, 3) := by decide +kernel
theorem dX0_takeBack_25 : decode cX0_takeBack 25 = .ok (.iload_n 2, 1) := by decide +kernel
theorem dX0_takeBack_26 : decode cX0_takeBack 26 = .ok (.iaload, 1) := by decide +kernel
theorem dX0_takeBack_27 : decode cX0_takeBack 27 = .ok (.iload_n 3, 1) := by decide +kernel
theorem dX0_takeBack_28 : decode cX0_takeBack 28 = .ok (.iadd, 1) := by decide +kernel
theorem dX0_takeBack_29 : decode cX0_takeBack 29 = .ok (.invokestatic 78, 3) := by decide +kernel
theorem dX0_takeBack_32 : decode cX0_takeBack 32 = .ok (.iastore, 1) := by decide +kernel
theorem dX0_takeBack_33 : decode cX0_takeBack 33 = .ok (.return_, 1) := by decide +kernel
theorem dX0_passDays_0 : decode cX0_passDays 0 = .ok (.iconst 0, 1) := by decide +kernel
theorem dX0_passDays_1 : decode cX0_passDays 1 = .ok (.istore_n 2, 1) := by decide +kernel
theorem dX0_passDays_2 : decode cX0_passDays 2 = .ok (.iload_n 2, 1) := by decide +kernel
theorem dX0_passDays_3 : decode cX0_passDays 3 = .ok (.iload_n 1, 1) := by decide +kernel
theorem dX0_passDays_4 : decode cX0_passDays 4 = .ok (.if_icmp .ge 14, 3) := by decide +kernel
theorem dX0_passDays_7 : decode cX0_passDays 7 = .ok (.aload_n 0, 1) := by decide +kernel
theorem dX0_passDays_8 : decode cX0_passDays 8 = .ok (.iconst 1, 1) := by decide +kernel
theorem dX0_passDays_9 : decode cX0_passDays 9 = .ok (.invokevirtual 84, 3) := by decide +kernel
theorem dX0_passDays_12 : decode cX0_passDays 12 = .ok (.iinc 2 1, 3) := by decide +kernel
theorem dX0_passDays_15 : decode cX0_passDays 15 = .ok (.goto (-13), 3) := by decide +kernel
theorem dX0_passDays_18 : decode cX0_passDays 18 = .ok (.return_, 1) := by decide +kernel
theorem dX0_passDaysOfOne_0 : decode cX0_passDaysOfOne 0 = .ok (.iconst 0, 1) := by decide +kernel
theorem dX0_passDaysOfOne_1 : decode cX0_passDaysOfOne 1 = .ok (.istore_n 3, 1) := by decide +kernel
theorem dX0_passDaysOfOne_2 : decode cX0_passDaysOfOne 2 = .ok (.iload_n 3, 1) := by decide +kernel
theorem dX0_passDaysOfOne_3 : decode cX0_passDaysOfOne 3 = .ok (.iload_n 2, 1) := by decide +kernel
theorem dX0_passDaysOfOne_4 : decode cX0_passDaysOfOne 4 = .ok (.if_icmp .ge 15, 3) := by decide +kernel
theorem dX0_passDaysOfOne_7 : decode cX0_passDaysOfOne 7 = .ok (.aload_n 0, 1) := by decide +kernel
theorem dX0_passDaysOfOne_8 : decode cX0_passDaysOfOne 8 = .ok (.iload_n 1, 1) := by decide +kernel
theorem dX0_passDaysOfOne_9 : decode cX0_passDaysOfOne 9 = .ok (.iconst 1, 1) := by decide +kernel
theorem dX0_passDaysOfOne_10 : decode cX0_passDaysOfOne 10 = .ok (.invokevirtual 88, 3) := by decide +kernel
theorem dX0_passDaysOfOne_13 : decode cX0_passDaysOfOne 13 = .ok (.iinc 3 1, 3) := by decide +kernel
theorem dX0_passDaysOfOne_16 : decode cX0_passDaysOfOne 16 = .ok (.goto (-14), 3) := by decide +kernel
theorem dX0_passDaysOfOne_19 : decode cX0_passDaysOfOne 19 = .ok (.return_, 1) := by decide +kernel
theorem dX0_passDay_0 : decode cX0_passDay 0 = .ok (.iconst 0, 1) := by decide +kernel
theorem dX0_passDay_1 : decode cX0_passDay 1 = .ok (.istore_n 2, 1) := by decide +kernel
theorem dX0_passDay_2 : decode cX0_passDay 2 = .ok (.iload_n 2, 1) := by decide +kernel
theorem dX0_passDay_3 : decode cX0_passDay 3 = .ok (.aload_n 0, 1) := by decide +kernel
theorem dX0_passDay_4 : decode cX0_passDay 4 = .ok (.getfield 34, 3) := by decide +kernel
theorem dX0_passDay_7 : decode cX0_passDay 7 = .ok (.if_icmp .ge 15, 3) := by decide +kernel
theorem dX0_passDay_10 : decode cX0_passDay 10 = .ok (.aload_n 0, 1) := by decide +kernel
theorem dX0_passDay_11 : decode cX0_passDay 11 = .ok (.iload_n 2, 1) := by decide +kernel
theorem dX0_passDay_12 : decode cX0_passDay 12 = .ok (.iload_n 1, 1) := by decide +kernel
theorem dX0_passDay_13 : decode cX0_passDay 13 = .ok (.invokevirtual 88, 3) := by decide +kernel
theorem dX0_passDay_16 : decode cX0_passDay 16 = .ok (.iinc 2 1, 3) := by decide +kernel
theorem dX0_passDay_19 : decode cX0_passDay 19 = .ok (.goto (-17), 3) := by decide +kernel
theorem dX0_passDay_22 : decode cX0_passDay 22 = .ok (.aload_n 0, 1) := by decide +kernel
theorem dX0_passDay_23 : decode cX0_passDay 23 = .ok (.dup, 1) := by decide +kernel
theorem dX0_passDay_24 : decode cX0_passDay 24 = .ok (.getfield 37, 3) := by decide +kernel
theorem dX0_passDay_27 : decode cX0_passDay 27 = .ok (.iconst 1, 1) := by decide +kernel
theorem dX0_passDay_28 : decode cX0_passDay 28 = .ok (.iadd, 1) := by decide +kernel
theorem dX0_passDay_29 : decode cX0_passDay 29 = .ok (.putfield 37, 3) := by decide +kernel
theorem dX0_passDay_32 : decode cX0_passDay 32 = .ok (.return_, 1) := by decide +kernel
theorem dX0_passDayOfOne_0 : decode cX0_passDayOfOne 0 = .ok (.aload_n 0, 1) := by decide +kernel
theorem dX0_passDayOfOne_1 : decode cX0_passDayOfOne 1 = .ok (.getfield 21, 3) := by decide +kernel
theorem dX0_passDayOfOne_4 : decode cX0_passDayOfOne 4 = .ok (.iload_n 1, 1) := by decide +kernel
theorem dX0_passDayOfOne_5 : decode cX0_passDayOfOne 5 = .ok (.sipush 999, 3) := by decide +kernel
theorem dX0_passDayOfOne_8 : decode cX0_passDayOfOne 8 = .ok (.aload_n 0, 1) := by decide +kernel
theorem dX0_passDayOfOne_9 : decode cX0_passDayOfOne 9 = .ok (.getfield 21, 3) := by decide +kernel
theorem dX0_passDayOfOne_12 : decode cX0_passDayOfOne 12 = .ok (.iload_n 1, 1) := by decide +kernel
theorem dX0_passDayOfOne_13 : decode cX0_passDayOfOne 13 = .ok (.iaload, 1) := by decide +kernel
theorem dX0_passDayOfOne_14 : decode cX0_passDayOfOne 14 = .ok (.aload_n 0, 1) := by decide +kernel
theorem dX0_passDayOfOne_15 : decode cX0_passDayOfOne 15 = .ok (.getfield 24, 3) := by decide +kernel
theorem dX0_passDayOfOne_18 : decode cX0_passDayOfOne 18 = .ok (.iload_n 1, 1) := by decide +kernel
theorem dX0_passDayOfOne_19 : decode cX0_passDayOfOne 19 = .ok (.iaload, 1) := by decide +kernel
theorem dX0_passDayOfOne_20 : decode cX0_passDayOfOne 20 = .ok (.iadd, 1) := by decide +kernel
theorem dX0_passDayOfOne_21 : decode cX0_passDayOfOne 21 = .ok (.invokestatic 78, 3) := by decide +kernel
theorem dX0_passDayOfOne_24 : decode cX0_passDayOfOne 24 = .ok (.iastore, 1) := by decide +kernel
theorem dX0_passDayOfOne_25 : decode cX0_passDayOfOne 25 = .ok (.iconst 0, 1) := by decide +kernel
theorem dX0_passDayOfOne_26 : decode cX0_passDayOfOne 26 = .ok (.istore_n 3, 1) := by decide +kernel
theorem dX0_passDayOfOne_27 : decode cX0_passDayOfOne 27 = .ok (.iload_n 3, 1) := by decide +kernel
theorem dX0_passDayOfOne_28 : decode cX0_passDayOfOne 28 = .ok (.aload_n 0, 1) := by decide +kernel
theorem dX0_passDayOfOne_29 : decode cX0_passDayOfOne 29 = .ok (.getfield 30, 3) := by decide +kernel
theorem dX0_passDayOfOne_32 : decode cX0_passDayOfOne 32 = .ok (.if_icmp .ge 125, 3) := by decide +kernel
theorem dX0_passDayOfOne_35 : decode cX0_passDayOfOne 35 = .ok (.iload_n 1, 1) := by decide +kernel
theorem dX0_passDayOfOne_36 : decode cX0_passDayOfOne 36 = .ok (.iconst 5, 1) := by decide +kernel
theorem dX0_passDayOfOne_37 : decode cX0_passDayOfOne 37 = .ok (.imul, 1) := by decide +kernel
theorem dX0_passDayOfOne_38 : decode cX0_passDayOfOne 38 = .ok (.iload_n 3, 1) := by decide +kernel
theorem dX0_passDayOfOne_39 : decode cX0_passDayOfOne 39 = .ok (.iadd, 1) := by decide +kernel
theorem dX0_passDayOfOne_40 : decode cX0_passDayOfOne 40 = .ok (.istore 4, 2) := by decide +kernel
theorem dX0_passDayOfOne_42 : decode cX0_passDayOfOne 42 = .ok (.aload_n 0, 1) := by decide +kernel
theorem dX0_passDayOfOne_43 : decode cX0_passDayOfOne 43 = .ok (.getfield 27, 3) := by decide +kernel
theorem dX0_passDayOfOne_46 : decode cX0_passDayOfOne 46 = .ok (.iload 4, 2) := by decide +kernel
theorem dX0_passDayOfOne_48 : decode cX0_passDayOfOne 48 = .ok (.iaload, 1) := by decide +kernel
theorem dX0_passDayOfOne_49 : decode cX0_passDayOfOne 49 = .ok (.istore 5, 2) := by decide +kernel
theorem dX0_passDayOfOne_51 : decode cX0_passDayOfOne 51 = .ok (.iload 5, 2) := by decide +kernel
theorem dX0_passDayOfOne_53 : decode cX0_passDayOfOne 53 = .ok (.aload_n 0, 1) := by decide +kernel
theorem dX0_passDayOfOne_54 : decode cX0_passDayOfOne 54 = .ok (.iload_n 3, 1) := by decide +kernel
theorem dX0_passDayOfOne_55 : decode cX0_passDayOfOne 55 = .ok (.invokevirtual 63, 3) := by decide +kernel
theorem dX0_passDayOfOne_58 : decode cX0_passDayOfOne 58 = .ok (.imul, 1) := by decide +kernel
theorem dX0_passDayOfOne_59 : decode cX0_passDayOfOne 59 = .ok (.istore 6, 2) := by decide +kernel
theorem dX0_passDayOfOne_61 : decode cX0_passDayOfOne 61 = .ok (.iload 5, 2) := by decide +kernel
theorem dX0_passDayOfOne_63 : decode cX0_passDayOfOne 63 = .ok (.ifCond .le 65, 3) := by decide +kernel
theorem dX0_passDayOfOne_66 : decode cX0_passDayOfOne 66 = .ok (.aload_n 0, 1) := by decide +kernel
theorem dX0_passDayOfOne_67 : decode cX0_passDayOfOne 67 = .ok (.getfield 21, 3) := by decide +kernel
theorem dX0_passDayOfOne_70 : decode cX0_passDayOfOne 70 = .ok (.iload_n 1, 1) := by decide +kernel
theorem dX0_passDayOfOne_71 : decode cX0_passDayOfOne 71 = .ok (.iaload, 1) := by decide +kernel
theorem dX0_passDayOfOne_72 : decode cX0_passDayOfOne 72 = .ok (.iload 6, 2) := by decide +kernel
theorem dX0_passDayOfOne_74 : decode cX0_passDayOfOne 74 = .ok (.if_icmp .lt 54, 3) := by decide +kernel
theorem dX0_passDayOfOne_77 : decode cX0_passDayOfOne 77 = .ok (.aload_n 0, 1) := by decide +kernel
theorem dX0_passDayOfOne_78 : decode cX0_passDayOfOne 78 = .ok (.getfield 21, 3) := by decide +kernel
theorem dX0_passDayOfOne_81 : decode cX0_passDayOfOne 81 = .ok (.iload_n 1, 1) := by decide +kernel
theorem dX0_passDayOfOne_82 : decode cX0_passDayOfOne 82 = .ok (.dup2, 1) := by decide +kernel
theorem dX0_passDayOfOne_83 : decode cX0_passDayOfOne 83 = .ok (.iaload, 1) := by decide +kernel
theorem dX0_passDayOfOne_84 : decode cX0_passDayOfOne 84 = .ok (.iload 6, 2) := by decide +kernel
theorem dX0_passDayOfOne_86 : decode cX0_passDayOfOne 86 = .ok (.isub, 1) := by decide +kernel
theorem dX0_passDayOfOne_87 : decode cX0_passDayOfOne 87 = .ok (.iastore, 1) := by decide +kernel
theorem dX0_passDayOfOne_88 : decode cX0_passDayOfOne 88 = .ok (.aload_n 0, 1) := by decide +kernel
theorem dX0_passDayOfOne_89 : decode cX0_passDayOfOne 89 = .ok (.dup, 1) := by decide +kernel
theorem dX0_passDayOfOne_90 : decode cX0_passDayOfOne 90 = .ok (.getfield 43, 3) := by decide +kernel
theorem dX0_passDayOfOne_93 : decode cX0_passDayOfOne 93 = .ok (.iload 6, 2) := by decide +kernel
theorem dX0_passDayOfOne_95 : decode cX0_passDayOfOne 95 = .ok (.iadd, 1) := by decide +kernel
theorem dX0_passDayOfOne_96 : decode cX0_passDayOfOne 96 = .ok (.putfield 43, 3) := by decide +kernel
theorem dX0_passDayOfOne_99 : decode cX0_passDayOfOne 99 = .ok (.aload_n 0, 1) := by decide +kernel
theorem dX0_passDayOfOne_100 : decode cX0_passDayOfOne 100 = .ok (.getfield 27, 3) := by decide +kernel
theorem dX0_passDayOfOne_103 : decode cX0_passDayOfOne 103 = .ok (.iload 4, 2) := by decide +kernel
theorem dX0_passDayOfOne_105 : decode cX0_passDayOfOne 105 = .ok (.iconst 0, 1) := by decide +kernel
theorem dX0_passDayOfOne_106 : decode cX0_passDayOfOne 106 = .ok (.iload 5, 2) := by decide +kernel
theorem dX0_passDayOfOne_108 : decode cX0_passDayOfOne 108 = .ok (.iload_n 2, 1) := by decide +kernel
theorem dX0_passDayOfOne_109 : decode cX0_passDayOfOne 109 = .ok (.getstatic 92, 3) := by decide +kernel
theorem dX0_passDayOfOne_112 : decode cX0_passDayOfOne 112 = .ok (.aload_n 0, 1) := by decide +kernel
theorem dX0_passDayOfOne_113 : decode cX0_passDayOfOne 113 = .ok (.getfield 9, 3) := by decide +kernel
theorem dX0_passDayOfOne_116 : decode cX0_passDayOfOne 116 = .ok (.iload_n 3, 1) := by decide +kernel
theorem dX0_passDayOfOne_117 : decode cX0_passDayOfOne 117 = .ok (.iaload, 1) := by decide +kernel
theorem dX0_passDayOfOne_118 : decode cX0_passDayOfOne 118 = .ok (.iaload, 1) := by decide +kernel
theorem dX0_passDayOfOne_119 : decode cX0_passDayOfOne 119 = .ok (.imul, 1) := by decide +kernel
theorem dX0_passDayOfOne_120 : decode cX0_passDayOfOne 120 = .ok (.isub, 1) := by decide +kernel
theorem dX0_passDayOfOne_121 : decode cX0_passDayOfOne 121 = .ok (.invokestatic 95, 3) := by decide +kernel
theorem dX0_passDayOfOne_124 : decode cX0_passDayOfOne 124 = .ok (.iastore, 1) := by decide +kernel
theorem dX0_passDayOfOne_125 : decode cX0_passDayOfOne 125 = .ok (.goto 26, 3) := by decide +kernel
theorem dX0_passDayOfOne_128 : decode cX0_passDayOfOne 128 = .ok (.iload 5, 2) := by decide +kernel
theorem dX0_passDayOfOne_130 : decode cX0_passDayOfOne 130 = .ok (.ifCond .le 21, 3) := by decide +kernel
theorem dX0_passDayOfOne_133 : decode cX0_passDayOfOne 133 = .ok (.aload_n 0, 1) := by decide +kernel
theorem dX0_passDayOfOne_134 : decode cX0_passDayOfOne 134 = .ok (.iload_n 1, 1) := by decide +kernel
theorem dX0_passDayOfOne_135 : decode cX0_passDayOfOne 135 = .ok (.iload_n 3, 1) := by decide +kernel
theorem dX0_passDayOfOne_136 : decode cX0_passDayOfOne 136 = .ok (.iload 5, 2) := by decide +kernel
theorem dX0_passDayOfOne_138 : decode cX0_passDayOfOne 138 = .ok (.invokevirtual 98, 3) := by decide +kernel
theorem dX0_passDayOfOne_141 : decode cX0_passDayOfOne 141 = .ok (.aload_n 0, 1) := by decide +kernel
theorem dX0_passDayOfOne_142 : decode cX0_passDayOfOne 142 = .ok (.dup, 1) := by decide +kernel
theorem dX0_passDayOfOne_143 : decode cX0_passDayOfOne 143 = .ok (.getfield 40, 3) := by decide +kernel
theorem dX0_passDayOfOne_146 : decode cX0_passDayOfOne 146 = .ok (.iconst 1, 1) := by decide +kernel
theorem dX0_passDayOfOne_147 : decode cX0_passDayOfOne 147 = .ok (.iadd, 1) := by decide +kernel
theorem dX0_passDayOfOne_148 : decode cX0_passDayOfOne 148 = .ok (.putfield 40, 3) := by decide +kernel
theorem dX0_passDayOfOne_151 : decode cX0_passDayOfOne 151 = .ok (.iinc 3 1, 3) := by decide +kernel
theorem dX0_passDayOfOne_154 : decode cX0_passDayOfOne 154 = .ok (.goto (-127), 3) := by decide +kernel
theorem dX0_passDayOfOne_157 : decode cX0_passDayOfOne 157 = .ok (.return_, 1) := by decide +kernel
theorem dX1_init_0 : decode cX1_init 0 = .ok (.aload_n 0, 1) := by decide +kernel
theorem dX1_init_1 : decode cX1_init 1 = .ok (.invokespecial 3, 3) := by decide +kernel
theorem dX1_init_4 : decode cX1_init 4 = .ok (.aload_n 0, 1) := by decide +kernel
theorem dX1_init_5 : decode cX1_init 5 = .ok (.bipush 6, 2) := by decide +kernel
theorem dX1_init_7 : decode cX1_init 7 = .ok (.newarray .int, 2) := by decide +kernel
theorem dX1_init_9 : decode cX1_init 9 = .ok (.putfield 9, 3) := by decide +kernel
theorem dX1_init_12 : decode cX1_init 12 = .ok (.aload_n 0, 1) := by decide +kernel
theorem dX1_init_13 : decode cX1_init 13 = .ok (.bipush 6, 2) := by decide +kernel
theorem dX1_init_15 : decode cX1_init 15 = .ok (.newarray .int, 2) := by decide +kernel
theorem dX1_init_17 : decode cX1_init 17 = .ok (.putfield 15, 3) := by decide +kernel
theorem dX1_init_20 : decode cX1_init 20 = .ok (.aload_n 0, 1) := by decide +kernel
theorem dX1_init_21 : decode cX1_init 21 = .ok (.bipush 6, 2) := by decide +kernel
theorem dX1_init_23 : decode cX1_init 23 = .ok (.newarray .int, 2) := by decide +kernel
theorem dX1_init_25 : decode cX1_init 25 = .ok (.putfield 18, 3) := by decide +kernel
theorem dX1_init_28 : decode cX1_init 28 = .ok (.return_, 1) := by decide +kernel
theorem dX1_fit_0 : decode cX1_fit 0 = .ok (.aload_n 0, 1) := by decide +kernel
theorem dX1_fit_1 : decode cX1_fit 1 = .ok (.invokevirtual 21, 3) := by decide +kernel
theorem dX1_fit_4 : decode cX1_fit 4 = .ok (.istore_n 2, 1) := by decide +kernel
theorem dX1_fit_5 : decode cX1_fit 5 = .ok (.iconst 0, 1) := by decide +kernel
theorem dX1_fit_6 : decode cX1_fit 6 = .ok (.istore_n 3, 1) := by decide +kernel
theorem dX1_fit_7 : decode cX1_fit 7 = .ok (.iload_n 3, 1) := by decide +kernel
theorem dX1_fit_8 : decode cX1_fit 8 = .ok (.iload_n 2, 1) := by decide +kernel
theorem dX1_fit_9 : decode cX1_fit 9 = .ok (.if_icmp .gt 25, 3) := by decide +kernel
theorem dX1_fit_12 : decode cX1_fit 12 = .ok (.aload_n 0, 1) := by decide +kernel
theorem dX1_fit_13 : decode cX1_fit 13 = .ok (.aload_n 1, 1) := by decide +kernel
theorem dX1_fit_14 : decode cX1_fit 14 = .ok (.iload_n 3, 1) := by decide +kernel
theorem dX1_fit_15 : decode cX1_fit 15 = .ok (.invokevirtual 25, 3) := by decide +kernel
theorem dX1_fit_18 : decode cX1_fit 18 = .ok (.ifCond .ne 5, 3) := by decide +kernel
theorem dX1_fit_21 : decode cX1_fit 21 = .ok (.iconst 0, 1) := by decide +kernel
theorem dX1_fit_22 : decode cX1_fit 22 = .ok (.ireturn, 1) := by decide +kernel
theorem dX1_fit_23 : decode cX1_fit 23 = .ok (.aload_n 1, 1) := by decide +kernel
theorem dX1_fit_24 : decode cX1_fit 24 = .ok (.iconst 1, 1) := by decide +kernel
theorem dX1_fit_25 : decode cX1_fit 25 = .ok (.invokevirtual 29, 3) := by decide +kernel
theorem dX1_fit_28 : decode cX1_fit 28 = .ok (.iinc 3 1, 3) := by decide +kernel
theorem dX1_fit_31 : decode cX1_fit 31 = .ok (.goto (-24), 3) := by decide +kernel
theorem dX1_fit_34 : decode cX1_fit 34 = .ok (.iconst 1, 1) := by decide +kernel
theorem dX1_fit_35 : decode cX1_fit 35 = .ok (.ireturn, 1) := by decide +kernel
theorem dX1_fitOnDay_0 : decode cX1_fitOnDay 0 = .ok (.iconst 0, 1) := by decide +kernel
theorem dX1_fitOnDay_1 : decode cX1_fitOnDay 1 = .ok (.istore_n 3, 1) := by decide +kernel
theorem dX1_fitOnDay_2 : decode cX1_fitOnDay 2 = .ok (.iload_n 3, 1) := by decide +kernel
theorem dX1_fitOnDay_3 : decode cX1_fitOnDay 3 = .ok (.aload_n 0, 1) := by decide +kernel
theorem dX1_fitOnDay_4 : decode cX1_fitOnDay 4 = .ok (.getfield 35, 3) := by decide +kernel
theorem dX1_fitOnDay_7 : decode cX1_fitOnDay 7 = .ok (.if_icmp .ge 40, 3) := by decide +kernel
theorem dX1_fitOnDay_10 : decode cX1_fitOnDay 10 = .ok (.aload_n 0, 1) := by decide +kernel
theorem dX1_fitOnDay_11 : decode cX1_fitOnDay 11 = .ok (.getfield 9, 3) := by decide +kernel
theorem dX1_fitOnDay_14 : decode cX1_fitOnDay 14 = .ok (.iload_n 3, 1) := by decide +kernel
theorem dX1_fitOnDay_15 : decode cX1_fitOnDay 15 = .ok (.iaload, 1) := by decide +kernel
theorem dX1_fitOnDay_16 : decode cX1_fitOnDay 16 = .ok (.iload_n 2, 1) := by decide +kernel
theorem dX1_fitOnDay_17 : decode cX1_fitOnDay 17 = .ok (.if_icmp .ne 24, 3) := by decide +kernel
theorem dX1_fitOnDay_20 : decode cX1_fitOnDay 20 = .ok (.aload_n 1, 1) := by decide +kernel
theorem dX1_fitOnDay_21 : decode cX1_fitOnDay 21 = .ok (.aload_n 0, 1) := by decide +kernel
theorem dX1_fitOnDay_22 : decode cX1_fitOnDay 22 = .ok (.getfield 15, 3) := by decide +kernel
theorem dX1_fitOnDay_25 : decode cX1_fitOnDay 25 = .ok (.iload_n 3, 1) := by decide +kernel
theorem dX1_fitOnDay_26 : decode cX1_fitOnDay 26 = .ok (.iaload, 1) := by decide +kernel
theorem dX1_fitOnDay_27 : decode cX1_fitOnDay 27 = .ok (.invokevirtual 39, 3) := by decide +kernel
theorem dX1_fitOnDay_30 : decode cX1_fitOnDay 30 = .ok (.aload_n 0, 1) := by decide +kernel
theorem dX1_fitOnDay_31 : decode cX1_fitOnDay 31 = .ok (.getfield 18, 3) := by decide +kernel
theorem dX1_fitOnDay_34 : decode cX1_fitOnDay 34 = .ok (.iload_n 3, 1) := by decide +kernel
theorem dX1_fitOnDay_35 : decode cX1_fitOnDay 35 = .ok (.iaload, 1) := by decide +kernel
theorem dX1_fitOnDay_36 : decode cX1_fitOnDay 36 = .ok (.if_icmp .eq 5, 3) := by decide +kernel
theorem dX1_fitOnDay_39 : decode cX1_fitOnDay 39 = .ok (.iconst 0, 1) := by decide +kernel
theorem dX1_fitOnDay_40 : decode cX1_fitOnDay 40 = .ok (.ireturn, 1) := by decide +kernel
theorem dX1_fitOnDay_41 : decode cX1_fitOnDay 41 = .ok (.iinc 3 1, 3) := by decide +kernel
theorem dX1_fitOnDay_44 : decode cX1_fitOnDay 44 = .ok (.goto (-42), 3) := by decide +kernel
theorem dX1_fitOnDay_47 : decode cX1_fitOnDay 47 = .ok (.iconst 1, 1) := by decide +kernel
theorem dX1_fitOnDay_48 : decode cX1_fitOnDay 48 = .ok (.ireturn, 1) := by decide +kernel
theorem dX1_lastDay_0 : decode cX1_lastDay 0 = .ok (.iconst (-1), 1) := by decide +kernel
theorem dX1_lastDay_1 : decode cX1_lastDay 1 = .ok (.istore_n 1, 1) := by decide +kernel
theorem dX1_lastDay_2 : decode cX1_lastDay 2 = .ok (.iconst 0, 1) := by decide +kernel
theorem dX1_lastDay_3 : decode cX1_lastDay 3 = .ok (.istore_n 2, 1) := by decide +kernel
theorem dX1_lastDay_4 : decode cX1_lastDay 4 = .ok (.iload_n 2, 1) := by decide +kernel
theorem dX1_lastDay_5 : decode cX1_lastDay 5 = .ok (.aload_n 0, 1) := by decide +kernel
theorem dX1_lastDay_6 : decode cX1_lastDay 6 = .ok (.getfield 35, 3) := by decide +kernel
theorem dX1_lastDay_9 : decode cX1_lastDay 9 = .ok (.if_icmp .ge 20, 3) := by decide +kernel
theorem dX1_lastDay_12 : decode cX1_lastDay 12 = .ok (.iload_n 1, 1) := by decide +kernel
theorem dX1_lastDay_13 : decode cX1_lastDay 13 = .ok (.aload_n 0, 1) := by decide +kernel
theorem dX1_lastDay_14 : decode cX1_lastDay 14 = .ok (.getfield 9, 3) := by decide +kernel
theorem dX1_lastDay_17 : decode cX1_lastDay 17 = .ok (.iload_n 2, 1) := by decide +kernel
theorem dX1_lastDay_18 : decode cX1_lastDay 18 = .ok (.iaload, 1) := by decide +kernel
theorem dX1_lastDay_19 : decode cX1_lastDay 19 = .ok (.invokestatic 43, 3) := by decide +kernel
theorem dX1_lastDay_22 : decode cX1_lastDay 22 = .ok (.istore_n 1, 1) := by decide +kernel
theorem dX1_lastDay_23 : decode cX1_lastDay 23 = .ok (.iinc 2 1, 3) := by decide +kernel
theorem dX1_lastDay_26 : decode cX1_lastDay 26 = .ok (.goto (-22), 3) := by decide +kernel
theorem dX1_lastDay_29 : decode cX1_lastDay 29 = .ok (.iload_n 1, 1) := by decide +kernel
theorem dX1_lastDay_30 : decode cX1_lastDay 30 = .ok (.ireturn, 1) := by decide +kernel
theorem dX2_init_0 : decode cX2_init 0 = .ok (.aload_n 0, 1) := by decide +kernel
theorem dX2_init_1 : decode cX2_init 1 = .ok (.invokespecial 3, 3) := by decide +kernel
theorem dX2_init_4 : decode cX2_init 4 = .ok (.aload_n 0, 1) := by decide +kernel
theorem dX2_init_5 : decode cX2_init 5 = .ok (.iconst 5, 1) := by decide +kernel
theorem dX2_init_6 : decode cX2_init 6 = .ok (.newarray .int, 2) := by decide +kernel
theorem dX2_init_8 : decode cX2_init 8 = .ok (.putfield 9, 3) := by decide +kernel
theorem dX2_init_11 : decode cX2_init 11 = .ok (.aload_n 0, 1) := by decide +kernel
theorem dX2_init_12 : decode cX2_init 12 = .ok (.iconst 5, 1) := by decide +kernel
theorem dX2_init_13 : decode cX2_init 13 = .ok (.newarray .int, 2) := by decide +kernel
theorem dX2_init_15 : decode cX2_init 15 = .ok (.putfield 15, 3) := by decide +kernel
theorem dX2_init_18 : decode cX2_init 18 = .ok (.return_, 1) := by decide +kernel
theorem dX2_tryAll_0 : decode cX2_tryAll 0 = .ok (.aload_n 0, 1) := by decide +kernel
theorem dX2_tryAll_1 : decode cX2_tryAll 1 = .ok (.iload_n 2, 1) := by decide +kernel
theorem dX2_tryAll_2 : decode cX2_tryAll 2 = .ok (.putfield 18, 3) := by decide +kernel
theorem dX2_tryAll_5 : decode cX2_tryAll 5 = .ok (.aload_n 0, 1) := by decide +kernel
theorem dX2_tryAll_6 : decode cX2_tryAll 6 = .ok (.iload 4, 2) := by decide +kernel
theorem dX2_tryAll_8 : decode cX2_tryAll 8 = .ok (.putfield 22, 3) := by decide +kernel
theorem dX2_tryAll_11 : decode cX2_tryAll 11 = .ok (.aload_n 0, 1) := by decide +kernel
theorem dX2_tryAll_12 : decode cX2_tryAll 12 = .ok (.bipush 28, 2) := by decide +kernel
theorem dX2_tryAll_14 : decode cX2_tryAll 14 = .ok (.putfield 25, 3) := by decide +kernel
theorem dX2_tryAll_17 : decode cX2_tryAll 17 = .ok (.aload_n 0, 1) := by decide +kernel
theorem dX2_tryAll_18 : decode cX2_tryAll 18 = .ok (.bipush (-4), 2) := by decide +kernel
theorem dX2_tryAll_20 : decode cX2_tryAll 20 = .ok (.putfield 28, 3) := by decide +kernel
theorem dX2_tryAll_23 : decode cX2_tryAll 23 = .ok (.aload_n 0, 1) := by decide +kernel
theorem dX2_tryAll_24 : decode cX2_tryAll 24 = .ok (.aload_n 1, 1) := by decide +kernel
theorem dX2_tryAll_25 : decode cX2_tryAll 25 = .ok (.iconst 0, 1) := by decide +kernel
theorem dX2_tryAll_26 : decode cX2_tryAll 26 = .ok (.iload_n 3, 1) := by decide +kernel
theorem dX2_tryAll_27 : decode cX2_tryAll 27 = .ok (.invokevirtual 31, 3) := by decide +kernel
theorem dX2_tryAll_30 : decode cX2_tryAll 30 = .ok (.return_, 1) := by decide +kernel
theorem dX2_pickFrom_0 : decode cX2_pickFrom 0 = .ok (.iload_n 2, 1) := by decide +kernel
theorem dX2_pickFrom_1 : decode cX2_pickFrom 1 = .ok (.aload_n 1, 1) := by decide +kernel
theorem dX2_pickFrom_2 : decode cX2_pickFrom 2 = .ok (.getfield 35, 3) := by decide +kernel
theorem dX2_pickFrom_5 : decode cX2_pickFrom 5 = .ok (.if_icmp .ge 8, 3) := by decide +kernel
theorem dX2_pickFrom_8 : decode cX2_pickFrom 8 = .ok (.iload_n 2, 1) := by decide +kernel
theorem dX2_pickFrom_9 : decode cX2_pickFrom 9 = .ok (.iconst 5, 1) := by decide +kernel
theorem dX2_pickFrom_10 : decode cX2_pickFrom 10 = .ok (.if_icmp .lt 13, 3) := by decide +kernel
theorem dX2_pickFrom_13 : decode cX2_pickFrom 13 = .ok (.iload_n 3, 1) := by decide +kernel
theorem dX2_pickFrom_14 : decode cX2_pickFrom 14 = .ok (.ifCond .ne 8, 3) := by decide +kernel
theorem dX2_pickFrom_17 : decode cX2_pickFrom 17 = .ok (.aload_n 0, 1) := by decide +kernel
theorem dX2_pickFrom_18 : decode cX2_pickFrom 18 = .ok (.aload_n 1, 1) := by decide +kernel
theorem dX2_pickFrom_19 : decode cX2_pickFrom 19 = .ok (.invokevirtual 40, 3) := by decide +kernel
theorem dX2_pickFrom_22 : decode cX2_pickFrom 22 = .ok (.return_, 1) := by decide +kernel
theorem dX2_pickFrom_23 : decode cX2_pickFrom 23 = .ok (.iload_n 3, 1) := by decide +kernel
theorem dX2_pickFrom_24 : decode cX2_pickFrom 24 = .ok (.aload_n 1, 1) := by decide +kernel
theorem dX2_pickFrom_25 : decode cX2_pickFrom 25 = .ok (.getfield 44, 3) := by decide +kernel
theorem dX2_pickFrom_28 : decode cX2_pickFrom 28 = .ok (.iload_n 2, 1) := by decide +kernel
theorem dX2_pickFrom_29 : decode cX2_pickFrom 29 = .ok (.iaload, 1) := by decide +kernel
theorem dX2_pickFrom_30 : decode cX2_pickFrom 30 = .ok (.invokestatic 47, 3) := by decide +kernel
theorem dX2_pickFrom_33 : decode cX2_pickFrom 33 = .ok (.istore 4, 2) := by decide +kernel
theorem dX2_pickFrom_35 : decode cX2_pickFrom 35 = .ok (.iconst 0, 1) := by decide +kernel
theorem dX2_pickFrom_36 : decode cX2_pickFrom 36 = .ok (.istore 5, 2) := by decide +kernel
theorem dX2_pickFrom_38 : decode cX2_pickFrom 38 = .ok (.iload 5, 2) := by decide +kernel
theorem dX2_pickFrom_40 : decode cX2_pickFrom 40 = .ok (.iload 4, 2) := by decide +kernel
theorem dX2_pickFrom_42 : decode cX2_pickFrom 42 = .ok (.if_icmp .gt 29, 3) := by decide +kernel
theorem dX2_pickFrom_45 : decode cX2_pickFrom 45 = .ok (.aload_n 0, 1) := by decide +kernel
theorem dX2_pickFrom_46 : decode cX2_pickFrom 46 = .ok (.getfield 15, 3) := by decide +kernel
theorem dX2_pickFrom_49 : decode cX2_pickFrom 49 = .ok (.iload_n 2, 1) := by decide +kernel
theorem dX2_pickFrom_50 : decode cX2_pickFrom 50 = .ok (.iload 5, 2) := by decide +kernel
theorem dX2_pickFrom_52 : decode cX2_pickFrom 52 = .ok (.iastore, 1) := by decide +kernel
theorem dX2_pickFrom_53 : decode cX2_pickFrom 53 = .ok (.aload_n 0, 1) := by decide +kernel
theorem dX2_pickFrom_54 : decode cX2_pickFrom 54 = .ok (.aload_n 1, 1) := by decide +kernel
theorem dX2_pickFrom_55 : decode cX2_pickFrom 55 = .ok (.iload_n 2, 1) := by decide +kernel
theorem dX2_pickFrom_56 : decode cX2_pickFrom 56 = .ok (.iconst 1, 1) := by decide +kernel
theorem dX2_pickFrom_57 : decode cX2_pickFrom 57 = .ok (.iadd, 1) := by decide +kernel
theorem dX2_pickFrom_58 : decode cX2_pickFrom 58 = .ok (.iload_n 3, 1) := by decide +kernel
theorem dX2_pickFrom_59 : decode cX2_pickFrom 59 = .ok (.iload 5, 2) := by decide +kernel
theorem dX2_pickFrom_61 : decode cX2_pickFrom 61 = .ok (.isub, 1) := by decide +kernel
theorem dX2_pickFrom_62 : decode cX2_pickFrom 62 = .ok (.invokevirtual 31, 3) := by decide +kernel
theorem dX2_pickFrom_65 : decode cX2_pickFrom 65 = .ok (.iinc 5 1, 3) := by decide +kernel
theorem dX2_pickFrom_68 : decode cX2_pickFrom 68 = .ok (.goto (-30), 3) := by decide +kernel
theorem dX2_pickFrom_71 : decode cX2_pickFrom 71 = .ok (.return_, 1) := by decide +kernel
theorem dX2_weigh_0 : decode cX2_weigh 0 = .ok (.aload_n 1, 1) := by decide +kernel
theorem dX2_weigh_1 : decode cX2_weigh 1 = .ok (.aload_n 0, 1) := by decide +kernel
theorem dX2_weigh_2 : decode cX2_weigh 2 = .ok (.getfield 15, 3) := by decide +kernel
theorem dX2_weigh_5 : decode cX2_weigh 5 = .ok (.iconst 0, 1) := by decide +kernel
theorem dX2_weigh_6 : decode cX2_weigh 6 = .ok (.invokevirtual 53, 3) := by decide +kernel
theorem dX2_weigh_9 : decode cX2_weigh 9 = .ok (.aload_n 0, 1) := by decide +kernel
theorem dX2_weigh_10 : decode cX2_weigh 10 = .ok (.getfield 18, 3) := by decide +kernel
theorem dX2_weigh_13 : decode cX2_weigh 13 = .ok (.invokestatic 57, 3) := by decide +kernel
theorem dX2_weigh_16 : decode cX2_weigh 16 = .ok (.istore_n 2, 1) := by decide +kernel
theorem dX2_weigh_17 : decode cX2_weigh 17 = .ok (.iload_n 2, 1) := by decide +kernel
theorem dX2_weigh_18 : decode cX2_weigh 18 = .ok (.aload_n 0, 1) := by decide +kernel
theorem dX2_weigh_19 : decode cX2_weigh 19 = .ok (.getfield 25, 3) := by decide +kernel
theorem dX2_weigh_22 : decode cX2_weigh 22 = .ok (.if_icmp .ge 22, 3) := by decide +kernel
theorem dX2_weigh_25 : decode cX2_weigh 25 = .ok (.aload_n 0, 1) := by decide +kernel
theorem dX2_weigh_26 : decode cX2_weigh 26 = .ok (.iload_n 2, 1) := by decide +kernel
theorem dX2_weigh_27 : decode cX2_weigh 27 = .ok (.putfield 25, 3) := by decide +kernel
theorem dX2_weigh_30 : decode cX2_weigh 30 = .ok (.aload_n 0, 1) := by decide +kernel
theorem dX2_weigh_31 : decode cX2_weigh 31 = .ok (.getfield 15, 3) := by decide +kernel
theorem dX2_weigh_34 : decode cX2_weigh 34 = .ok (.iconst 0, 1) := by decide +kernel
theorem dX2_weigh_35 : decode cX2_weigh 35 = .ok (.aload_n 0, 1) := by decide +kernel
theorem dX2_weigh_36 : decode cX2_weigh 36 = .ok (.getfield 9, 3) := by decide +kernel
theorem dX2_weigh_39 : decode cX2_weigh 39 = .ok (.iconst 0, 1) := by decide +kernel
theorem dX2_weigh_40 : decode cX2_weigh 40 = .ok (.iconst 5, 1) := by decide +kernel
theorem dX2_weigh_41 : decode cX2_weigh 41 = .ok (.invokestatic 60, 3) := by decide +kernel
theorem dX2_weigh_44 : decode cX2_weigh 44 = .ok (.iload_n 2, 1) := by decide +kernel
theorem dX2_weigh_45 : decode cX2_weigh 45 = .ok (.aload_n 0, 1) := by decide +kernel
theorem dX2_weigh_46 : decode cX2_weigh 46 = .ok (.getfield 22, 3) := by decide +kernel
theorem dX2_weigh_49 : decode cX2_weigh 49 = .ok (.if_icmp .gt 38, 3) := by decide +kernel
theorem dX2_weigh_52 : decode cX2_weigh 52 = .ok (.aload_n 1, 1) := by decide +kernel
theorem dX2_weigh_53 : decode cX2_weigh 53 = .ok (.aload_n 0, 1) := by decide +kernel
theorem dX2_weigh_54 : decode cX2_weigh 54 = .ok (.getfield 15, 3) := by decide +kernel
theorem dX2_weigh_57 : decode cX2_weigh 57 = .ok (.iconst 0, 1) := by decide +kernel
theorem dX2_weigh_58 : decode cX2_weigh 58 = .ok (.invokevirtual 66, 3) := by decide +kernel
theorem dX2_weigh_61 : decode cX2_weigh 61 = .ok (.istore_n 3, 1) := by decide +kernel
theorem dX2_weigh_62 : decode cX2_weigh 62 = .ok (.aload_n 0, 1) := by decide +kernel
theorem dX2_weigh_63 : decode cX2_weigh 63 = .ok (.aload_n 0, 1) := by decide +kernel
theorem dX2_weigh_64 : decode cX2_weigh 64 = .ok (.getfield 28, 3) := by decide +kernel
theorem dX2_weigh_67 : decode cX2_weigh 67 = .ok (.bipush (-4), 2) := by decide +kernel
theorem dX2_weigh_69 : decode cX2_weigh 69 = .ok (.if_icmp .ne 7, 3) := by decide +kernel
theorem dX2_weigh_72 : decode cX2_weigh 72 = .ok (.iload_n 3, 1) := by decide +kernel
theorem dX2_weigh_73 : decode cX2_weigh 73 = .ok (.goto 11, 3) := by decide +kernel
theorem dX2_weigh_76 : decode cX2_weigh 76 = .ok (.aload_n 0, 1) := by decide +kernel
theorem dX2_weigh_77 : decode cX2_weigh 77 = .ok (.getfield 28, 3) := by decide +kernel
theorem dX2_weigh_80 : decode cX2_weigh 80 = .ok (.iload_n 3, 1) := by decide +kernel
theorem dX2_weigh_81 : decode cX2_weigh 81 = .ok (.invokestatic 47, 3) := by decide +kernel
theorem dX2_weigh_84 : decode cX2_weigh 84 = .ok (.putfield 28, 3) := by decide +kernel
theorem dX2_weigh_87 : decode cX2_weigh 87 = .ok (.return_, 1) := by decide +kernel
theorem dX3_init_0 : decode cX3_init 0 = .ok (.aload_n 0, 1) := by decide +kernel
theorem dX3_init_1 : decode cX3_init 1 = .ok (.invokespecial 3, 3) := by decide +kernel
theorem dX3_init_4 : decode cX3_init 4 = .ok (.aload_n 0, 1) := by decide +kernel
theorem dX3_init_5 : decode cX3_init 5 = .ok (.iconst (-1), 1) := by decide +kernel
theorem dX3_init_6 : decode cX3_init 6 = .ok (.putfield 9, 3) := by decide +kernel
theorem dX3_init_9 : decode cX3_init 9 = .ok (.aload_n 0, 1) := by decide +kernel
theorem dX3_init_10 : decode cX3_init 10 = .ok (.bipush 40, 2) := by decide +kernel
theorem dX3_init_12 : decode cX3_init 12 = .ok (.newarray .int, 2) := by decide +kernel
theorem dX3_init_14 : decode cX3_init 14 = .ok (.putfield 15, 3) := by decide +kernel
theorem dX3_init_17 : decode cX3_init 17 = .ok (.return_, 1) := by decide +kernel
theorem dX3_renew_0 : decode cX3_renew 0 = .ok (.aload_n 0, 1) := by decide +kernel
theorem dX3_renew_1 : decode cX3_renew 1 = .ok (.iload_n 1, 1) := by decide +kernel
theorem dX3_renew_2 : decode cX3_renew 2 = .ok (.putfield 19, 3) := by decide +kernel
theorem dX3_renew_5 : decode cX3_renew 5 = .ok (.aload_n 0, 1) := by decide +kernel
theorem dX3_renew_6 : decode cX3_renew 6 = .ok (.iload_n 2, 1) := by decide +kernel
theorem dX3_renew_7 : decode cX3_renew 7 = .ok (.putfield 9, 3) := by decide +kernel
theorem dX3_renew_10 : decode cX3_renew 10 = .ok (.iconst 0, 1) := by decide +kernel
theorem dX3_renew_11 : decode cX3_renew 11 = .ok (.istore_n 3, 1) := by decide +kernel
theorem dX3_renew_12 : decode cX3_renew 12 = .ok (.iload_n 3, 1) := by decide +kernel
theorem dX3_renew_13 : decode cX3_renew 13 = .ok (.bipush 40, 2) := by decide +kernel
theorem dX3_renew_15 : decode cX3_renew 15 = .ok (.if_icmp .ge 16, 3) := by decide +kernel
theorem dX3_renew_18 : decode cX3_renew 18 = .ok (.aload_n 0, 1) := by decide +kernel
theorem dX3_renew_19 : decode cX3_renew 19 = .ok (.getfield 15, 3) := by decide +kernel
theorem dX3_renew_22 : decode cX3_renew 22 = .ok (.iload_n 3, 1) := by decide +kernel
theorem dX3_renew_23 : decode cX3_renew 23 = .ok (.iconst 0, 1) := by decide +kernel
theorem dX3_renew_24 : decode cX3_renew 24 = .ok (.iastore, 1) := by decide +kernel
theorem dX3_renew_25 : decode cX3_renew 25 = .ok (.iinc 3 1, 3) := by decide +kernel
theorem dX3_renew_28 : decode cX3_renew 28 = .ok (.goto (-16), 3) := by decide +kernel
theorem dX3_renew_31 : decode cX3_renew 31 = .ok (.return_, 1) := by decide +kernel
theorem dX3_cut_0 : decode cX3_cut 0 = .ok (.aload_n 0, 1) := by decide +kernel
theorem dX3_cut_1 : decode cX3_cut 1 = .ok (.getfield 19, 3) := by decide +kernel
theorem dX3_cut_4 : decode cX3_cut 4 = .ok (.ifCond .ne 6, 3) := by decide +kernel
theorem dX3_cut_7 : decode cX3_cut 7 = .ok (.iload_n 1, 1) := by decide +kernel
theorem dX3_cut_8 : decode cX3_cut 8 = .ok (.i2b, 1) := by decide +kernel
theorem dX3_cut_9 : decode cX3_cut 9 = .ok (.ireturn, 1) := by decide +kernel
theorem dX3_cut_10 : decode cX3_cut 10 = .ok (.aload_n 0, 1) := by decide +kernel
theorem dX3_cut_11 : decode cX3_cut 11 = .ok (.getfield 19, 3) := by decide +kernel
theorem dX3_cut_14 : decode cX3_cut 14 = .ok (.iconst 1, 1) := by decide +kernel
theorem dX3_cut_15 : decode cX3_cut 15 = .ok (.if_icmp .ne 8, 3) := by decide +kernel
theorem dX3_cut_18 : decode cX3_cut 18 = .ok (.iload_n 1, 1) := by decide +kernel
theorem dX3_cut_19 : decode cX3_cut 19 = .ok (.i2s, 1) := by decide +kernel
theorem dX3_cut_20 : decode cX3_cut 20 = .ok (.goto 4, 3) := by decide +kernel
theorem dX3_cut_23 : decode cX3_cut 23 = .ok (.iload_n 1, 1) := by decide +kernel
theorem dX3_cut_24 : decode cX3_cut 24 = .ok (.ireturn, 1) := by decide +kernel
theorem dX3_faultAs_0 : decode cX3_faultAs 0 = .ok (.aload_n 0, 1) := by decide +kernel
theorem dX3_faultAs_1 : decode cX3_faultAs 1 = .ok (.getfield 9, 3) := by decide +kernel
theorem dX3_faultAs_4 : decode cX3_faultAs 4 = .ok (.ifCond .ge 5, 3) := by decide +kernel
theorem dX3_faultAs_7 : decode cX3_faultAs 7 = .ok (.iconst 1, 1) := by decide +kernel
theorem dX3_faultAs_8 : decode cX3_faultAs 8 = .ok (.ireturn, 1) := by decide +kernel
theorem dX3_faultAs_9 : decode cX3_faultAs 9 = .ok (.aload_n 0, 1) := by decide +kernel
theorem dX3_faultAs_10 : decode cX3_faultAs 10 = .ok (.getfield 19, 3) := by decide +kernel
theorem dX3_faultAs_13 : decode cX3_faultAs 13 = .ok (.iload_n 1, 1) := by decide +kernel
theorem dX3_faultAs_14 : decode cX3_faultAs 14 = .ok (.if_icmp .ne 7, 3) := by decide +kernel
theorem dX3_faultAs_17 : decode cX3_faultAs 17 = .ok (.iconst 0, 1) := by decide +kernel
theorem dX3_faultAs_18 : decode cX3_faultAs 18 = .ok (.goto 4, 3) := by decide +kernel
theorem dX3_faultAs_21 : decode cX3_faultAs 21 = .ok (.iconst 3, 1) := by decide +kernel
theorem dX3_faultAs_22 : decode cX3_faultAs 22 = .ok (.ireturn, 1) := by decide +kernel
theorem dX4_init_0 : decode cX4_init 0 = .ok (.aload_n 0, 1) := by decide +kernel
theorem dX4_init_1 : decode cX4_init 1 = .ok (.invokespecial 3, 3) := by decide +kernel
theorem dX4_init_4 : decode cX4_init 4 = .ok (.aload_n 0, 1) := by decide +kernel
theorem dX4_init_5 : decode cX4_init 5 = .ok (.sipush 160, 3) := by decide +kernel
theorem dX4_init_8 : decode cX4_init 8 = .ok (.newarray .int, 2) := by decide +kernel
theorem dX4_init_10 : decode cX4_init 10 = .ok (.putfield 9, 3) := by decide +kernel
theorem dX4_init_13 : decode cX4_init 13 = .ok (.aload_n 0, 1) := by decide +kernel
theorem dX4_init_14 : decode cX4_init 14 = .ok (.new 15, 3) := by decide +kernel
theorem dX4_init_17 : decode cX4_init 17 = .ok (.dup, 1) := by decide +kernel
theorem dX4_init_18 : decode cX4_init 18 = .ok (.invokespecial 17, 3) := by decide +kernel
theorem dX4_init_21 : decode cX4_init 21 = .ok (.putfield 18, 3) := by decide +kernel
theorem dX4_init_24 : decode cX4_init 24 = .ok (.aload_n 0, 1) := by decide +kernel
theorem dX4_init_25 : decode cX4_init 25 = .ok (.new 15, 3) := by decide +kernel
theorem dX4_init_28 : decode cX4_init 28 = .ok (.dup, 1) := by decide +kernel
theorem dX4_init_29 : decode cX4_init 29 = .ok (.invokespecial 17, 3) := by decide +kernel
theorem dX4_init_32 : decode cX4_init 32 = .ok (.putfield 22, 3) := by decide +kernel
theorem dX4_init_35 : decode cX4_init 35 = .ok (.return_, 1) := by decide +kernel
theorem dX4_readLines_0 : decode cX4_readLines 0 = .ok (.aload_n 0, 1) := by decide +kernel
theorem dX4_readLines_1 : decode cX4_readLines 1 = .ok (.getfield 18, 3) := by decide +kernel
theorem dX4_readLines_4 : decode cX4_readLines 4 = .ok (.aload_n 0, 1) := by decide +kernel
theorem dX4_readLines_5 : decode cX4_readLines 5 = .ok (.getfield 22, 3) := by decide +kernel
theorem dX4_readLines_8 : decode cX4_readLines 8 = .ok (.invokevirtual 25, 3) := by decide +kernel
theorem dX4_readLines_11 : decode cX4_readLines 11 = .ok (.aload_n 0, 1) := by decide +kernel
theorem dX4_readLines_12 : decode cX4_readLines 12 = .ok (.iconst 0, 1) := by decide +kernel
theorem dX4_readLines_13 : decode cX4_readLines 13 = .ok (.putfield 29, 3) := by decide +kernel
theorem dX4_readLines_16 : decode cX4_readLines 16 = .ok (.aload_n 0, 1) := by decide +kernel
theorem dX4_readLines_17 : decode cX4_readLines 17 = .ok (.iconst 0, 1) := by decide +kernel
theorem dX4_readLines_18 : decode cX4_readLines 18 = .ok (.putfield 33, 3) := by decide +kernel
theorem dX4_readLines_21 : decode cX4_readLines 21 = .ok (.aload_n 0, 1) := by decide +kernel
theorem dX4_readLines_22 : decode cX4_readLines 22 = .ok (.iconst 0, 1) := by decide +kernel
theorem dX4_readLines_23 : decode cX4_readLines 23 = .ok (.putfield 36, 3) := by decide +kernel
theorem dX4_readLines_26 : decode cX4_readLines 26 = .ok (.iconst 0, 1) := by decide +kernel
theorem dX4_readLines_27 : decode cX4_readLines 27 = .ok (.istore_n 1, 1) := by decide +kernel
theorem dX4_readLines_28 : decode cX4_readLines 28 = .ok (.aload_n 0, 1) := by decide +kernel
theorem dX4_readLines_29 : decode cX4_readLines 29 = .ok (.invokevirtual 39, 3) := by decide +kernel
theorem dX4_readLines_32 : decode cX4_readLines 32 = .ok (.ifCond .eq 14, 3) := by decide +kernel
theorem dX4_readLines_35 : decode cX4_readLines 35 = .ok (.aload_n 0, 1) := by decide +kernel
theorem dX4_readLines_36 : decode cX4_readLines 36 = .ok (.getfield 43, 3) := by decide +kernel
theorem dX4_readLines_39 : decode cX4_readLines 39 = .ok (.ifCond .eq 7, 3) := by decide +kernel
theorem dX4_readLines_42 : decode cX4_readLines 42 = .ok (.iconst 1, 1) := by decide +kernel
theorem dX4_readLines_43 : decode cX4_readLines 43 = .ok (.goto 4, 3) := by decide +kernel
theorem dX4_readLines_46 : decode cX4_readLines 46 = .ok (.iconst 0, 1) := by decide +kernel
theorem dX4_readLines_47 : decode cX4_readLines 47 = .ok (.istore_n 2, 1) := by decide +kernel
theorem dX4_readLines_48 : decode cX4_readLines 48 = .ok (.iconst 0, 1) := by decide +kernel
theorem dX4_readLines_49 : decode cX4_readLines 49 = .ok (.istore_n 3, 1) := by decide +kernel
theorem dX4_readLines_50 : decode cX4_readLines 50 = .ok (.iload_n 3, 1) := by decide +kernel
theorem dX4_readLines_51 : decode cX4_readLines 51 = .ok (.sipush 160, 3) := by decide +kernel
theorem dX4_readLines_54 : decode cX4_readLines 54 = .ok (.if_icmp .ge 45, 3) := by decide +kernel
theorem dX4_readLines_57 : decode cX4_readLines 57 = .ok (.iload_n 2, 1) := by decide +kernel
theorem dX4_readLines_58 : decode cX4_readLines 58 = .ok (.ifCond .eq 41, 3) := by decide +kernel
theorem dX4_readLines_61 : decode cX4_readLines 61 = .ok (.aload_n 0, 1) := by decide +kernel
theorem dX4_readLines_62 : decode cX4_readLines 62 = .ok (.invokevirtual 46, 3) := by decide +kernel
theorem dX4_readLines_65 : decode cX4_readLines 65 = .ok (.istore_n 2, 1) := by decide +kernel
theorem dX4_readLines_66 : decode cX4_readLines 66 = .ok (.iload_n 2, 1) := by decide +kernel
theorem dX4_readLines_67 : decode cX4_readLines 67 = .ok (.ifCond .eq 26, 3) := by decide +kernel
theorem dX4_readLines_70 : decode cX4_readLines 70 = .ok (.iinc 1 1, 3) := by decide +kernel
theorem dX4_readLines_73 : decode cX4_readLines 73 = .ok (.aload_n 0, 1) := by decide +kernel
theorem dX4_readLines_74 : decode cX4_readLines 74 = .ok (.invokevirtual 39, 3) := by decide +kernel
theorem dX4_readLines_77 : decode cX4_readLines 77 = .ok (.ifCond .eq 14, 3) := by decide +kernel
theorem dX4_readLines_80 : decode cX4_readLines 80 = .ok (.aload_n 0, 1) := by decide +kernel
theorem dX4_readLines_81 : decode cX4_readLines 81 = .ok (.getfield 43, 3) := by decide +kernel
theorem dX4_readLines_84 : decode cX4_readLines 84 = .ok (.ifCond .eq 7, 3) := by decide +kernel
theorem dX4_readLines_87 : decode cX4_readLines 87 = .ok (.iconst 1, 1) := by decide +kernel
theorem dX4_readLines_88 : decode cX4_readLines 88 = .ok (.goto 4, 3) := by decide +kernel
theorem dX4_readLines_91 : decode cX4_readLines 91 = .ok (.iconst 0, 1) := by decide +kernel
theorem dX4_readLines_92 : decode cX4_readLines 92 = .ok (.istore_n 2, 1) := by decide +kernel
theorem dX4_readLines_93 : decode cX4_readLines 93 = .ok (.iinc 3 1, 3) := by decide +kernel
theorem dX4_readLines_96 : decode cX4_readLines 96 = .ok (.goto (-46), 3) := by decide +kernel
theorem dX4_readLines_99 : decode cX4_readLines 99 = .ok (.aload_n 0, 1) := by decide +kernel
theorem dX4_readLines_100 : decode cX4_readLines 100 = .ok (.getfield 29, 3) := by decide +kernel
theorem dX4_readLines_103 : decode cX4_readLines 103 = .ok (.ifCond .ne 21, 3) := by decide +kernel
theorem dX4_readLines_106 : decode cX4_readLines 106 = .ok (.aload_n 0, 1) := by decide +kernel
theorem dX4_readLines_107 : decode cX4_readLines 107 = .ok (.invokevirtual 49, 3) := by decide +kernel
theorem dX4_readLines_110 : decode cX4_readLines 110 = .ok (.ifCond .eq 14, 3) := by decide +kernel
theorem dX4_readLines_113 : decode cX4_readLines 113 = .ok (.aload_n 0, 1) := by decide +kernel
theorem dX4_readLines_114 : decode cX4_readLines 114 = .ok (.bipush 6, 2) := by decide +kernel
theorem dX4_readLines_116 : decode cX4_readLines 116 = .ok (.aload_n 0, 1) := by decide +kernel
theorem dX4_readLines_117 : decode cX4_readLines 117 = .ok (.getfield 52, 3) := by decide +kernel
theorem dX4_readLines_120 : decode cX4_readLines 120 = .ok (.invokevirtual 55, 3) := by decide +kernel
theorem dX4_readLines_123 : decode cX4_readLines 123 = .ok (.pop, 1) := by decide +kernel
theorem dX4_readLines_124 : decode cX4_readLines 124 = .ok (.iload_n 1, 1) := by decide +kernel
theorem dX4_readLines_125 : decode cX4_readLines 125 = .ok (.ireturn, 1) := by decide +kernel
theorem dX4_refuse_0 : decode cX4_refuse 0 = .ok (.aload_n 0, 1) := by decide +kernel
theorem dX4_refuse_1 : decode cX4_refuse 1 = .ok (.iload_n 1, 1) := by decide +kernel
theorem dX4_refuse_2 : decode cX4_refuse 2 = .ok (.putfield 29, 3) := by decide +kernel
theorem dX4_refuse_5 : decode cX4_refuse 5 = .ok (.aload_n 0, 1) := by decide +kernel
theorem dX4_refuse_6 : decode cX4_refuse 6 = .ok (.iload_n 2, 1) := by decide +kernel
theorem dX4_refuse_7 : decode cX4_refuse 7 = .ok (.putfield 59, 3) := by decide +kernel
theorem dX4_refuse_10 : decode cX4_refuse 10 = .ok (.iconst 0, 1) := by decide +kernel
theorem dX4_refuse_11 : decode cX4_refuse 11 = .ok (.ireturn, 1) := by decide +kernel
theorem dX4_readLine_0 : decode cX4_readLine 0 = .ok (.aload_n 0, 1) := by decide +kernel
theorem dX4_readLine_1 : decode cX4_readLine 1 = .ok (.getfield 43, 3) := by decide +kernel
theorem dX4_readLine_4 : decode cX4_readLine 4 = .ok (.iconst 1, 1) := by decide +kernel
theorem dX4_readLine_5 : decode cX4_readLine 5 = .ok (.if_icmp .ne 10, 3) := by decide +kernel
theorem dX4_readLine_8 : decode cX4_readLine 8 = .ok (.aload_n 0, 1) := by decide +kernel
theorem dX4_readLine_9 : decode cX4_readLine 9 = .ok (.invokevirtual 62, 3) := by decide +kernel
theorem dX4_readLine_12 : decode cX4_readLine 12 = .ok (.goto 4, 3) := by decide +kernel
theorem dX4_readLine_15 : decode cX4_readLine 15 = .ok (.iconst (-1), 1) := by decide +kernel
theorem dX4_readLine_16 : decode cX4_readLine 16 = .ok (.istore_n 1, 1) := by decide +kernel
theorem dX4_readLine_17 : decode cX4_readLine 17 = .ok (.iload_n 1, 1) := by decide +kernel
theorem dX4_readLine_18 : decode cX4_readLine 18 = .ok (.iconst (-1), 1) := by decide +kernel
theorem dX4_readLine_19 : decode cX4_readLine 19 = .ok (.if_icmp .ne 13, 3) := by decide +kernel
theorem dX4_readLine_22 : decode cX4_readLine 22 = .ok (.aload_n 0, 1) := by decide +kernel
theorem dX4_readLine_23 : decode cX4_readLine 23 = .ok (.iconst 2, 1) := by decide +kernel
theorem dX4_readLine_24 : decode cX4_readLine 24 = .ok (.aload_n 0, 1) := by decide +kernel
theorem dX4_readLine_25 : decode cX4_readLine 25 = .ok (.getfield 66, 3) := by decide +kernel
theorem dX4_readLine_28 : decode cX4_readLine 28 = .ok (.invokevirtual 55, 3) := by decide +kernel
theorem dX4_readLine_31 : decode cX4_readLine 31 = .ok (.ireturn, 1) := by decide +kernel
theorem dX4_readLine_32 : decode cX4_readLine 32 = .ok (.iload_n 1, 1) := by decide +kernel
theorem dX4_readLine_33 : decode cX4_readLine 33 = .ok (.iconst 5, 1) := by decide +kernel
theorem dX4_readLine_34 : decode cX4_readLine 34 = .ok (.if_icmp .ne 8, 3) := by decide +kernel
theorem dX4_readLine_37 : decode cX4_readLine 37 = .ok (.aload_n 0, 1) := by decide +kernel
theorem dX4_readLine_38 : decode cX4_readLine 38 = .ok (.invokevirtual 69, 3) := by decide +kernel
theorem dX4_readLine_41 : decode cX4_readLine 41 = .ok (.ireturn, 1) := by decide +kernel
theorem dX4_readLine_42 : decode cX4_readLine 42 = .ok (.iload_n 1, 1) := by decide +kernel
theorem dX4_readLine_43 : decode cX4_readLine 43 = .ok (.iconst 4, 1) := by decide +kernel
theorem dX4_readLine_44 : decode cX4_readLine 44 = .ok (.if_icmp .ne 10, 3) := by decide +kernel
theorem dX4_readLine_47 : decode cX4_readLine 47 = .ok (.aload_n 0, 1) := by decide +kernel
theorem dX4_readLine_48 : decode cX4_readLine 48 = .ok (.invokevirtual 72, 3) := by decide +kernel
theorem dX4_readLine_51 : decode cX4_readLine 51 = .ok (.goto 8, 3) := by decide +kernel
theorem dX4_readLine_54 : decode cX4_readLine 54 = .ok (.aload_n 0, 1) := by decide +kernel
theorem dX4_readLine_55 : decode cX4_readLine 55 = .ok (.iload_n 1, 1) := by decide +kernel
theorem dX4_readLine_56 : decode cX4_readLine 56 = .ok (.invokevirtual 75, 3) := by decide +kernel
theorem dX4_readLine_59 : decode cX4_readLine 59 = .ok (.ireturn, 1) := by decide +kernel
theorem dX4_readColour_0 : decode cX4_readColour 0 = .ok (.aload_n 0, 1) := by decide +kernel
theorem dX4_readColour_1 : decode cX4_readColour 1 = .ok (.getfield 18, 3) := by decide +kernel
theorem dX4_readColour_4 : decode cX4_readColour 4 = .ok (.getfield 79, 3) := by decide +kernel
theorem dX4_readColour_7 : decode cX4_readColour 7 = .ok (.istore_n 2, 1) := by decide +kernel
theorem dX4_readColour_8 : decode cX4_readColour 8 = .ok (.iload_n 2, 1) := by decide +kernel
theorem dX4_readColour_9 : decode cX4_readColour 9 = .ok (.iconst 5, 1) := by decide +kernel
theorem dX4_readColour_10 : decode cX4_readColour 10 = .ok (.if_icmp .lt 13, 3) := by decide +kernel
theorem dX4_readColour_13 : decode cX4_readColour 13 = .ok (.aload_n 0, 1) := by decide +kernel
theorem dX4_readColour_14 : decode cX4_readColour 14 = .ok (.iconst 5, 1) := by decide +kernel
theorem dX4_readColour_15 : decode cX4_readColour 15 = .ok (.aload_n 0, 1) := by decide +kernel
theorem dX4_readColour_16 : decode cX4_readColour 16 = .ok (.getfield 66, 3) := by decide +kernel
theorem dX4_readColour_19 : decode cX4_readColour 19 = .ok (.invokevirtual 55, 3) := by decide +kernel
theorem dX4_readColour_22 : decode cX4_readColour 22 = .ok (.ireturn, 1) := by decide +kernel
theorem dX4_readColour_23 : decode cX4_readColour 23 = .ok (.aload_n 0, 1) := by decide +kernel
theorem dX4_readColour_24 : decode cX4_readColour 24 = .ok (.getfield 18, 3) := by decide +kernel
theorem dX4_readColour_27 : decode cX4_readColour 27 = .ok (.dup, 1) := by decide +kernel
theorem dX4_readColour_28 : decode cX4_readColour 28 = .ok (.getfield 79, 3) := by decide +kernel
theorem dX4_readColour_31 : decode cX4_readColour 31 = .ok (.iconst 1, 1) := by decide +kernel
theorem dX4_readColour_32 : decode cX4_readColour 32 = .ok (.iadd, 1) := by decide +kernel
theorem dX4_readColour_33 : decode cX4_readColour 33 = .ok (.putfield 79, 3) := by decide +kernel
theorem dX4_readColour_36 : decode cX4_readColour 36 = .ok (.aload_n 0, 1) := by decide +kernel
theorem dX4_readColour_37 : decode cX4_readColour 37 = .ok (.getfield 18, 3) := by decide +kernel
theorem dX4_readColour_40 : decode cX4_readColour 40 = .ok (.getfield 82, 3) := by decide +kernel
theorem dX4_readColour_43 : decode cX4_readColour 43 = .ok (.iload_n 2, 1) := by decide +kernel
theorem dX4_readColour_44 : decode cX4_readColour 44 = .ok (.iload_n 1, 1) := by decide +kernel
theorem dX4_readColour_45 : decode cX4_readColour 45 = .ok (.iastore, 1) := by decide +kernel
theorem dX4_readColour_46 : decode cX4_readColour 46 = .ok (.iconst 0, 1) := by decide +kernel
theorem dX4_readColour_47 : decode cX4_readColour 47 = .ok (.istore_n 3, 1) := by decide +kernel
theorem dX4_readColour_48 : decode cX4_readColour 48 = .ok (.iload_n 3, 1) := by decide +kernel
theorem dX4_readColour_49 : decode cX4_readColour 49 = .ok (.iconst 3, 1) := by decide +kernel
theorem dX4_readColour_50 : decode cX4_readColour 50 = .ok (.if_icmp .ge 37, 3) := by decide +kernel
theorem dX4_readColour_53 : decode cX4_readColour 53 = .ok (.aload_n 0, 1) := by decide +kernel
theorem dX4_readColour_54 : decode cX4_readColour 54 = .ok (.bipush 9, 2) := by decide +kernel
theorem dX4_readColour_56 : decode cX4_readColour 56 = .ok (.invokevirtual 85, 3) := by decide +kernel
theorem dX4_readColour_59 : decode cX4_readColour 59 = .ok (.ifCond .ne 5, 3) := by decide +kernel
theorem dX4_readColour_62 : decode cX4_readColour 62 = .ok (.iconst 0, 1) := by decide +kernel
theorem dX4_readColour_63 : decode cX4_readColour 63 = .ok (.ireturn, 1) := by decide +kernel
theorem dX4_readColour_64 : decode cX4_readColour 64 = .ok (.aload_n 0, 1) := by decide +kernel
theorem dX4_readColour_65 : decode cX4_readColour 65 = .ok (.getfield 18, 3) := by decide +kernel
theorem dX4_readColour_68 : decode cX4_readColour 68 = .ok (.getfield 88, 3) := by decide +kernel
theorem dX4_readColour_71 : decode cX4_readColour 71 = .ok (.iconst 3, 1) := by decide +kernel
theorem dX4_readColour_72 : decode cX4_readColour 72 = .ok (.iload_n 2, 1) := by decide +kernel
theorem dX4_readColour_73 : decode cX4_readColour 73 = .ok (.imul, 1) := by decide +kernel
theorem dX4_readColour_74 : decode cX4_readColour 74 = .ok (.iload_n 3, 1) := by decide +kernel
theorem dX4_readColour_75 : decode cX4_readColour 75 = .ok (.iadd, 1) := by decide +kernel
theorem dX4_readColour_76 : decode cX4_readColour 76 = .ok (.aload_n 0, 1) := by decide +kernel
theorem dX4_readColour_77 : decode cX4_readColour 77 = .ok (.getfield 91, 3) := by decide +kernel
theorem dX4_readColour_80 : decode cX4_readColour 80 = .ok (.iastore, 1) := by decide +kernel
theorem dX4_readColour_81 : decode cX4_readColour 81 = .ok (.iinc 3 1, 3) := by decide +kernel
theorem dX4_readColour_84 : decode cX4_readColour 84 = .ok (.goto (-36), 3) := by decide +kernel
theorem dX4_readColour_87 : decode cX4_readColour 87 = .ok (.aload_n 0, 1) := by decide +kernel
theorem dX4_readColour_88 : decode cX4_readColour 88 = .ok (.bipush 99, 2) := by decide +kernel
theorem dX4_readColour_90 : decode cX4_readColour 90 = .ok (.invokevirtual 85, 3) := by decide +kernel
theorem dX4_readColour_93 : decode cX4_readColour 93 = .ok (.ifCond .ne 5, 3) := by decide +kernel
theorem dX4_readColour_96 : decode cX4_readColour 96 = .ok (.iconst 0, 1) := by decide +kernel
theorem dX4_readColour_97 : decode cX4_readColour 97 = .ok (.ireturn, 1) := by decide +kernel
theorem dX4_readColour_98 : decode cX4_readColour 98 = .ok (.aload_n 0, 1) := by decide +kernel
theorem dX4_readColour_99 : decode cX4_readColour 99 = .ok (.getfield 18, 3) := by decide +kernel
theorem dX4_readColour_102 : decode cX4_readColour 102 = .ok (.getfield 94, 3) := by decide +kernel
theorem dX4_readColour_105 : decode cX4_readColour 105 = .ok (.iload_n 2, 1) := by decide +kernel
theorem dX4_readColour_106 : decode cX4_readColour 106 = .ok (.aload_n 0, 1) := by decide +kernel
theorem dX4_readColour_107 : decode cX4_readColour 107 = .ok (.getfield 91, 3) := by decide +kernel
theorem dX4_readColour_110 : decode cX4_readColour 110 = .ok (.iastore, 1) := by decide +kernel
theorem dX4_readColour_111 : decode cX4_readColour 111 = .ok (.aload_n 0, 1) := by decide +kernel
theorem dX4_readColour_112 : decode cX4_readColour 112 = .ok (.invokevirtual 97, 3) := by decide +kernel
theorem dX4_readColour_115 : decode cX4_readColour 115 = .ok (.ireturn, 1) := by decide +kernel
theorem dX4_readOne_0 : decode cX4_readOne 0 = .ok (.aload_n 0, 1) := by decide +kernel
theorem dX4_readOne_1 : decode cX4_readOne 1 = .ok (.getfield 18, 3) := by decide +kernel
theorem dX4_readOne_4 : decode cX4_readOne 4 = .ok (.getfield 100, 3) := by decide +kernel
theorem dX4_readOne_7 : decode cX4_readOne 7 = .ok (.istore_n 1, 1) := by decide +kernel
theorem dX4_readOne_8 : decode cX4_readOne 8 = .ok (.iload_n 1, 1) := by decide +kernel
theorem dX4_readOne_9 : decode cX4_readOne 9 = .ok (.iconst 4, 1) := by decide +kernel
theorem dX4_readOne_10 : decode cX4_readOne 10 = .ok (.if_icmp .lt 13, 3) := by decide +kernel
theorem dX4_readOne_13 : decode cX4_readOne 13 = .ok (.aload_n 0, 1) := by decide +kernel
theorem dX4_readOne_14 : decode cX4_readOne 14 = .ok (.iconst 5, 1) := by decide +kernel
theorem dX4_readOne_15 : decode cX4_readOne 15 = .ok (.aload_n 0, 1) := by decide +kernel
theorem dX4_readOne_16 : decode cX4_readOne 16 = .ok (.getfield 66, 3) := by decide +kernel
theorem dX4_readOne_19 : decode cX4_readOne 19 = .ok (.invokevirtual 55, 3) := by decide +kernel
theorem dX4_readOne_22 : decode cX4_readOne 22 = .ok (.ireturn, 1) := by decide +kernel
theorem dX4_readOne_23 : decode cX4_readOne 23 = .ok (.aload_n 0, 1) := by decide +kernel
theorem dX4_readOne_24 : decode cX4_readOne 24 = .ok (.getfield 18, 3) := by decide +kernel
theorem dX4_readOne_27 : decode cX4_readOne 27 = .ok (.dup, 1) := by decide +kernel
theorem dX4_readOne_28 : decode cX4_readOne 28 = .ok (.getfield 100, 3) := by decide +kernel
theorem dX4_readOne_31 : decode cX4_readOne 31 = .ok (.iconst 1, 1) := by decide +kernel
theorem dX4_readOne_32 : decode cX4_readOne 32 = .ok (.iadd, 1) := by decide +kernel
theorem dX4_readOne_33 : decode cX4_readOne 33 = .ok (.putfield 100, 3) := by decide +kernel
theorem dX4_readOne_36 : decode cX4_readOne 36 = .ok (.aload_n 0, 1) := by decide +kernel
theorem dX4_readOne_37 : decode cX4_readOne 37 = .ok (.bipush 99, 2) := by decide +kernel
theorem dX4_readOne_39 : decode cX4_readOne 39 = .ok (.invokevirtual 85, 3) := by decide +kernel
theorem dX4_readOne_42 : decode cX4_readOne 42 = .ok (.ifCond .ne 5, 3) := by decide +kernel
theorem dX4_readOne_45 : decode cX4_readOne 45 = .ok (.iconst 0, 1) := by decide +kernel
theorem dX4_readOne_46 : decode cX4_readOne 46 = .ok (.ireturn, 1) := by decide +kernel
theorem dX4_readOne_47 : decode cX4_readOne 47 = .ok (.aload_n 0, 1) := by decide +kernel
theorem dX4_readOne_48 : decode cX4_readOne 48 = .ok (.getfield 18, 3) := by decide +kernel
theorem dX4_readOne_51 : decode cX4_readOne 51 = .ok (.getfield 103, 3) := by decide +kernel
theorem dX4_readOne_54 : decode cX4_readOne 54 = .ok (.iload_n 1, 1) := by decide +kernel
theorem dX4_readOne_55 : decode cX4_readOne 55 = .ok (.aload_n 0, 1) := by decide +kernel
theorem dX4_readOne_56 : decode cX4_readOne 56 = .ok (.getfield 91, 3) := by decide +kernel
theorem dX4_readOne_59 : decode cX4_readOne 59 = .ok (.iastore, 1) := by decide +kernel
theorem dX4_readOne_60 : decode cX4_readOne 60 = .ok (.aload_n 0, 1) := by decide +kernel
theorem dX4_readOne_61 : decode cX4_readOne 61 = .ok (.bipush 99, 2) := by decide +kernel
theorem dX4_readOne_63 : decode cX4_readOne 63 = .ok (.invokevirtual 85, 3) := by decide +kernel
theorem dX4_readOne_66 : decode cX4_readOne 66 = .ok (.ifCond .ne 5, 3) := by decide +kernel
theorem dX4_readOne_69 : decode cX4_readOne 69 = .ok (.iconst 0, 1) := by decide +kernel
theorem dX4_readOne_70 : decode cX4_readOne 70 = .ok (.ireturn, 1) := by decide +kernel
theorem dX4_readOne_71 : decode cX4_readOne 71 = .ok (.aload_n 0, 1) := by decide +kernel
theorem dX4_readOne_72 : decode cX4_readOne 72 = .ok (.getfield 18, 3) := by decide +kernel
theorem dX4_readOne_75 : decode cX4_readOne 75 = .ok (.getfield 106, 3) := by decide +kernel
theorem dX4_readOne_78 : decode cX4_readOne 78 = .ok (.iload_n 1, 1) := by decide +kernel
theorem dX4_readOne_79 : decode cX4_readOne 79 = .ok (.aload_n 0, 1) := by decide +kernel
theorem dX4_readOne_80 : decode cX4_readOne 80 = .ok (.getfield 91, 3) := by decide +kernel
theorem dX4_readOne_83 : decode cX4_readOne 83 = .ok (.iastore, 1) := by decide +kernel
theorem dX4_readOne_84 : decode cX4_readOne 84 = .ok (.aload_n 0, 1) := by decide +kernel
theorem dX4_readOne_85 : decode cX4_readOne 85 = .ok (.invokevirtual 97, 3) := by decide +kernel
theorem dX4_readOne_88 : decode cX4_readOne 88 = .ok (.ireturn, 1) := by decide +kernel
theorem dX4_readLent_0 : decode cX4_readLent 0 = .ok (.aload_n 0, 1) := by decide +kernel
theorem dX4_readLent_1 : decode cX4_readLent 1 = .ok (.iconst 3, 1) := by decide +kernel
theorem dX4_readLent_2 : decode cX4_readLent 2 = .ok (.invokevirtual 85, 3) := by decide +kernel
theorem dX4_readLent_5 : decode cX4_readLent 5 = .ok (.ifCond .ne 5, 3) := by decide +kernel
theorem dX4_readLent_8 : decode cX4_readLent 8 = .ok (.iconst 0, 1) := by decide +kernel
theorem dX4_readLent_9 : decode cX4_readLent 9 = .ok (.ireturn, 1) := by decide +kernel
theorem dX4_readLent_10 : decode cX4_readLent 10 = .ok (.aload_n 0, 1) := by decide +kernel
theorem dX4_readLent_11 : decode cX4_readLent 11 = .ok (.getfield 91, 3) := by decide +kernel
theorem dX4_readLent_14 : decode cX4_readLent 14 = .ok (.istore_n 1, 1) := by decide +kernel
theorem dX4_readLent_15 : decode cX4_readLent 15 = .ok (.aload_n 0, 1) := by decide +kernel
theorem dX4_readLent_16 : decode cX4_readLent 16 = .ok (.iconst 4, 1) := by decide +kernel
theorem dX4_readLent_17 : decode cX4_readLent 17 = .ok (.invokevirtual 85, 3) := by decide +kernel
theorem dX4_readLent_20 : decode cX4_readLent 20 = .ok (.ifCond .ne 5, 3) := by decide +kernel
theorem dX4_readLent_23 : decode cX4_readLent 23 = .ok (.iconst 0, 1) := by decide +kernel
theorem dX4_readLent_24 : decode cX4_readLent 24 = .ok (.ireturn, 1) := by decide +kernel
theorem dX4_readLent_25 : decode cX4_readLent 25 = .ok (.iload_n 1, 1) := by decide +kernel
theorem dX4_readLent_26 : decode cX4_readLent 26 = .ok (.iconst 5, 1) := by decide +kernel
theorem dX4_readLent_27 : decode cX4_readLent 27 = .ok (.imul, 1) := by decide +kernel
theorem dX4_readLent_28 : decode cX4_readLent 28 = .ok (.aload_n 0, 1) := by decide +kernel
theorem dX4_readLent_29 : decode cX4_readLent 29 = .ok (.getfield 91, 3) := by decide +kernel
theorem dX4_readLent_32 : decode cX4_readLent 32 = .ok (.iadd, 1) := by decide +kernel
theorem dX4_readLent_33 : decode cX4_readLent 33 = .ok (.istore_n 2, 1) := by decide +kernel
theorem dX4_readLent_34 : decode cX4_readLent 34 = .ok (.aload_n 0, 1) := by decide +kernel
theorem dX4_readLent_35 : decode cX4_readLent 35 = .ok (.getfield 33, 3) := by decide +kernel
theorem dX4_readLent_38 : decode cX4_readLent 38 = .ok (.iload_n 2, 1) := by decide +kernel
theorem dX4_readLent_39 : decode cX4_readLent 39 = .ok (.invokestatic 109, 3) := by decide +kernel
theorem dX4_readLent_42 : decode cX4_readLent 42 = .ok (.ifCond .eq 13, 3) := by decide +kernel
theorem dX4_readLent_45 : decode cX4_readLent 45 = .ok (.aload_n 0, 1) := by decide +kernel
theorem dX4_readLent_46 : decode cX4_readLent 46 = .ok (.iconst 4, 1) := by decide +kernel
theorem dX4_readLent_47 : decode cX4_readLent 47 = .ok (.aload_n 0, 1) := by decide +kernel
theorem dX4_readLent_48 : decode cX4_readLent 48 = .ok (.getfield 66, 3) := by decide +kernel
theorem dX4_readLent_51 : decode cX4_readLent 51 = .ok (.invokevirtual 55, 3) := by decide +kernel
theorem dX4_readLent_54 : decode cX4_readLent 54 = .ok (.ireturn, 1) := by decide +kernel
theorem dX4_readLent_55 : decode cX4_readLent 55 = .ok (.aload_n 0, 1) := by decide +kernel
theorem dX4_readLent_56 : decode cX4_readLent 56 = .ok (.dup, 1) := by decide +kernel
theorem dX4_readLent_57 : decode cX4_readLent 57 = .ok (.getfield 33, 3) := by decide +kernel
theorem dX4_readLent_60 : decode cX4_readLent 60 = .ok (.iconst 1, 1) := by decide +kernel
theorem dX4_readLent_61 : decode cX4_readLent 61 = .ok (.iload_n 2, 1) := by decide +kernel
theorem dX4_readLent_62 : decode cX4_readLent 62 = .ok (.ishl, 1) := by decide +kernel
theorem dX4_readLent_63 : decode cX4_readLent 63 = .ok (.ior, 1) := by decide +kernel
theorem dX4_readLent_64 : decode cX4_readLent 64 = .ok (.putfield 33, 3) := by decide +kernel
theorem dX4_readLent_67 : decode cX4_readLent 67 = .ok (.aload_n 0, 1) := by decide +kernel
theorem dX4_readLent_68 : decode cX4_readLent 68 = .ok (.bipush 99, 2) := by decide +kernel
theorem dX4_readLent_70 : decode cX4_readLent 70 = .ok (.invokevirtual 85, 3) := by decide +kernel
theorem dX4_readLent_73 : decode cX4_readLent 73 = .ok (.ifCond .ne 5, 3) := by decide +kernel
theorem dX4_readLent_76 : decode cX4_readLent 76 = .ok (.iconst 0, 1) := by decide +kernel
theorem dX4_readLent_77 : decode cX4_readLent 77 = .ok (.ireturn, 1) := by decide +kernel
theorem dX4_readLent_78 : decode cX4_readLent 78 = .ok (.aload_n 0, 1) := by decide +kernel
theorem dX4_readLent_79 : decode cX4_readLent 79 = .ok (.getfield 18, 3) := by decide +kernel
theorem dX4_readLent_82 : decode cX4_readLent 82 = .ok (.getfield 112, 3) := by decide +kernel
theorem dX4_readLent_85 : decode cX4_readLent 85 = .ok (.iload_n 2, 1) := by decide +kernel
theorem dX4_readLent_86 : decode cX4_readLent 86 = .ok (.aload_n 0, 1) := by decide +kernel
theorem dX4_readLent_87 : decode cX4_readLent 87 = .ok (.getfield 91, 3) := by decide +kernel
theorem dX4_readLent_90 : decode cX4_readLent 90 = .ok (.iastore, 1) := by decide +kernel
theorem dX4_readLent_91 : decode cX4_readLent 91 = .ok (.aload_n 0, 1) := by decide +kernel
theorem dX4_readLent_92 : decode cX4_readLent 92 = .ok (.invokevirtual 97, 3) := by decide +kernel
theorem dX4_readLent_95 : decode cX4_readLent 95 = .ok (.ireturn, 1) := by decide +kernel
theorem dX4_readNumber_0 : decode cX4_readNumber 0 = .ok (.aload_n 0, 1) := by decide +kernel
theorem dX4_readNumber_1 : decode cX4_readNumber 1 = .ok (.invokevirtual 39, 3) := by decide +kernel
theorem dX4_readNumber_4 : decode cX4_readNumber 4 = .ok (.ifCond .ne 5, 3) := by decide +kernel
theorem dX4_readNumber_7 : decode cX4_readNumber 7 = .ok (.iconst 0, 1) := by decide +kernel
theorem dX4_readNumber_8 : decode cX4_readNumber 8 = .ok (.ireturn, 1) := by decide +kernel
theorem dX4_readNumber_9 : decode cX4_readNumber 9 = .ok (.aload_n 0, 1) := by decide +kernel
theorem dX4_readNumber_10 : decode cX4_readNumber 10 = .ok (.getfield 43, 3) := by decide +kernel
theorem dX4_readNumber_13 : decode cX4_readNumber 13 = .ok (.iconst 2, 1) := by decide +kernel
theorem dX4_readNumber_14 : decode cX4_readNumber 14 = .ok (.if_icmp .eq 13, 3) := by decide +kernel
theorem dX4_readNumber_17 : decode cX4_readNumber 17 = .ok (.aload_n 0, 1) := by decide +kernel
theorem dX4_readNumber_18 : decode cX4_readNumber 18 = .ok (.iconst 2, 1) := by decide +kernel
theorem dX4_readNumber_19 : decode cX4_readNumber 19 = .ok (.aload_n 0, 1) := by decide +kernel
theorem dX4_readNumber_20 : decode cX4_readNumber 20 = .ok (.getfield 66, 3) := by decide +kernel
theorem dX4_readNumber_23 : decode cX4_readNumber 23 = .ok (.invokevirtual 55, 3) := by decide +kernel
theorem dX4_readNumber_26 : decode cX4_readNumber 26 = .ok (.ireturn, 1) := by decide +kernel
theorem dX4_readNumber_27 : decode cX4_readNumber 27 = .ok (.aload_n 0, 1) := by decide +kernel
theorem dX4_readNumber_28 : decode cX4_readNumber 28 = .ok (.iconst 0, 1) := by decide +kernel
theorem dX4_readNumber_29 : decode cX4_readNumber 29 = .ok (.putfield 91, 3) := by decide +kernel
theorem dX4_readNumber_32 : decode cX4_readNumber 32 = .ok (.aload_n 0, 1) := by decide +kernel
theorem dX4_readNumber_33 : decode cX4_readNumber 33 = .ok (.getfield 66, 3) := by decide +kernel
theorem dX4_readNumber_36 : decode cX4_readNumber 36 = .ok (.istore_n 2, 1) := by decide +kernel
theorem dX4_readNumber_37 : decode cX4_readNumber 37 = .ok (.iload_n 2, 1) := by decide +kernel
theorem dX4_readNumber_38 : decode cX4_readNumber 38 = .ok (.aload_n 0, 1) := by decide +kernel
theorem dX4_readNumber_39 : decode cX4_readNumber 39 = .ok (.getfield 36, 3) := by decide +kernel
theorem dX4_readNumber_42 : decode cX4_readNumber 42 = .ok (.if_icmp .ge 30, 3) := by decide +kernel
theorem dX4_readNumber_45 : decode cX4_readNumber 45 = .ok (.aload_n 0, 1) := by decide +kernel
theorem dX4_readNumber_46 : decode cX4_readNumber 46 = .ok (.bipush 10, 2) := by decide +kernel
theorem dX4_readNumber_48 : decode cX4_readNumber 48 = .ok (.aload_n 0, 1) := by decide +kernel
theorem dX4_readNumber_49 : decode cX4_readNumber 49 = .ok (.getfield 91, 3) := by decide +kernel
theorem dX4_readNumber_52 : decode cX4_readNumber 52 = .ok (.imul, 1) := by decide +kernel
theorem dX4_readNumber_53 : decode cX4_readNumber 53 = .ok (.aload_n 0, 1) := by decide +kernel
theorem dX4_readNumber_54 : decode cX4_readNumber 54 = .ok (.getfield 9, 3) := by decide +kernel
theorem dX4_readNumber_57 : decode cX4_readNumber 57 = .ok (.iload_n 2, 1) := by decide +kernel
theorem dX4_readNumber_58 : decode cX4_readNumber 58 = .ok (.iaload, 1) := by decide +kernel
theorem dX4_readNumber_59 : decode cX4_readNumber 59 = .ok (.iadd, 1) := by decide +kernel
theorem dX4_readNumber_60 : decode cX4_readNumber 60 = .ok (.bipush 48, 2) := by decide +kernel
theorem dX4_readNumber_62 : decode cX4_readNumber 62 = .ok (.isub, 1) := by decide +kernel
theorem dX4_readNumber_63 : decode cX4_readNumber 63 = .ok (.putfield 91, 3) := by decide +kernel
theorem dX4_readNumber_66 : decode cX4_readNumber 66 = .ok (.iinc 2 1, 3) := by decide +kernel
theorem dX4_readNumber_69 : decode cX4_readNumber 69 = .ok (.goto (-32), 3) := by decide +kernel
theorem dX4_readNumber_72 : decode cX4_readNumber 72 = .ok (.aload_n 0, 1) := by decide +kernel
theorem dX4_readNumber_73 : decode cX4_readNumber 73 = .ok (.getfield 91, 3) := by decide +kernel
theorem dX4_readNumber_76 : decode cX4_readNumber 76 = .ok (.iload_n 1, 1) := by decide +kernel
theorem dX4_readNumber_77 : decode cX4_readNumber 77 = .ok (.if_icmp .le 15, 3) := by decide +kernel
theorem dX4_readNumber_80 : decode cX4_readNumber 80 = .ok (.aload_n 0, 1) := by decide +kernel
theorem dX4_readNumber_81 : decode cX4_readNumber 81 = .ok (.iconst 3, 1) := by decide +kernel
theorem dX4_readNumber_82 : decode cX4_readNumber 82 = .ok (.aload_n 0, 1) := by decide +kernel
theorem dX4_readNumber_83 : decode cX4_readNumber 83 = .ok (.getfield 66, 3) := by decide +kernel
theorem dX4_readNumber_86 : decode cX4_readNumber 86 = .ok (.invokevirtual 55, 3) := by decide +kernel
theorem dX4_readNumber_89 : decode cX4_readNumber 89 = .ok (.ifCond .eq 7, 3) := by decide +kernel
theorem dX4_readNumber_92 : decode cX4_readNumber 92 = .ok (.iconst 1, 1) := by decide +kernel
theorem dX4_readNumber_93 : decode cX4_readNumber 93 = .ok (.goto 4, 3) := by decide +kernel
theorem dX4_readNumber_96 : decode cX4_readNumber 96 = .ok (.iconst 0, 1) := by decide +kernel
theorem dX4_readNumber_97 : decode cX4_readNumber 97 = .ok (.ireturn, 1) := by decide +kernel
theorem dX4_readStop_0 : decode cX4_readStop 0 = .ok (.aload_n 0, 1) := by decide +kernel
theorem dX4_readStop_1 : decode cX4_readStop 1 = .ok (.invokevirtual 39, 3) := by decide +kernel
theorem dX4_readStop_4 : decode cX4_readStop 4 = .ok (.ifCond .eq 27, 3) := by decide +kernel
theorem dX4_readStop_7 : decode cX4_readStop 7 = .ok (.aload_n 0, 1) := by decide +kernel
theorem dX4_readStop_8 : decode cX4_readStop 8 = .ok (.getfield 43, 3) := by decide +kernel
theorem dX4_readStop_11 : decode cX4_readStop 11 = .ok (.iconst 3, 1) := by decide +kernel
theorem dX4_readStop_12 : decode cX4_readStop 12 = .ok (.if_icmp .eq 15, 3) := by decide +kernel
theorem dX4_readStop_15 : decode cX4_readStop 15 = .ok (.aload_n 0, 1) := by decide +kernel
theorem dX4_readStop_16 : decode cX4_readStop 16 = .ok (.iconst 2, 1) := by decide +kernel
theorem dX4_readStop_17 : decode cX4_readStop 17 = .ok (.aload_n 0, 1) := by decide +kernel
theorem dX4_readStop_18 : decode cX4_readStop 18 = .ok (.getfield 66, 3) := by decide +kernel
theorem dX4_readStop_21 : decode cX4_readStop 21 = .ok (.invokevirtual 55, 3) := by decide +kernel
theorem dX4_readStop_24 : decode cX4_readStop 24 = .ok (.ifCond .eq 7, 3) := by decide +kernel
theorem dX4_readStop_27 : decode cX4_readStop 27 = .ok (.iconst 1, 1) := by decide +kernel
theorem dX4_readStop_28 : decode cX4_readStop 28 = .ok (.goto 4, 3) := by decide +kernel
theorem dX4_readStop_31 : decode cX4_readStop 31 = .ok (.iconst 0, 1) := by decide +kernel
theorem dX4_readStop_32 : decode cX4_readStop 32 = .ok (.ireturn, 1) := by decide +kernel
theorem dX4_tellsOfNobody_0 : decode cX4_tellsOfNobody 0 = .ok (.iconst 0, 1) := by decide +kernel
theorem dX4_tellsOfNobody_1 : decode cX4_tellsOfNobody 1 = .ok (.istore_n 1, 1) := by decide +kernel
theorem dX4_tellsOfNobody_2 : decode cX4_tellsOfNobody 2 = .ok (.iload_n 1, 1) := by decide +kernel
theorem dX4_tellsOfNobody_3 : decode cX4_tellsOfNobody 3 = .ok (.iconst 4, 1) := by decide +kernel
theorem dX4_tellsOfNobody_4 : decode cX4_tellsOfNobody 4 = .ok (.if_icmp .ge 71, 3) := by decide +kernel
theorem dX4_tellsOfNobody_7 : decode cX4_tellsOfNobody 7 = .ok (.iconst 0, 1) := by decide +kernel
theorem dX4_tellsOfNobody_8 : decode cX4_tellsOfNobody 8 = .ok (.istore_n 2, 1) := by decide +kernel
theorem dX4_tellsOfNobody_9 : decode cX4_tellsOfNobody 9 = .ok (.iload_n 2, 1) := by decide +kernel
theorem dX4_tellsOfNobody_10 : decode cX4_tellsOfNobody 10 = .ok (.iconst 5, 1) := by decide +kernel
theorem dX4_tellsOfNobody_11 : decode cX4_tellsOfNobody 11 = .ok (.if_icmp .ge 58, 3) := by decide +kernel
theorem dX4_tellsOfNobody_14 : decode cX4_tellsOfNobody 14 = .ok (.aload_n 0, 1) := by decide +kernel
theorem dX4_tellsOfNobody_15 : decode cX4_tellsOfNobody 15 = .ok (.getfield 18, 3) := by decide +kernel
theorem dX4_tellsOfNobody_18 : decode cX4_tellsOfNobody 18 = .ok (.iload_n 1, 1) := by decide +kernel
theorem dX4_tellsOfNobody_19 : decode cX4_tellsOfNobody 19 = .ok (.invokevirtual 115, 3) := by decide +kernel
theorem dX4_tellsOfNobody_22 : decode cX4_tellsOfNobody 22 = .ok (.ifCond .eq 18, 3) := by decide +kernel
theorem dX4_tellsOfNobody_25 : decode cX4_tellsOfNobody 25 = .ok (.aload_n 0, 1) := by decide +kernel
theorem dX4_tellsOfNobody_26 : decode cX4_tellsOfNobody 26 = .ok (.getfield 18, 3) := by decide +kernel
theorem dX4_tellsOfNobody_29 : decode cX4_tellsOfNobody 29 = .ok (.iload_n 2, 1) := by decide +kernel
theorem dX4_tellsOfNobody_30 : decode cX4_tellsOfNobody 30 = .ok (.invokevirtual 118, 3) := by decide +kernel
theorem dX4_tellsOfNobody_33 : decode cX4_tellsOfNobody 33 = .ok (.ifCond .eq 7, 3) := by decide +kernel
theorem dX4_tellsOfNobody_36 : decode cX4_tellsOfNobody 36 = .ok (.iconst 1, 1) := by decide +kernel
theorem dX4_tellsOfNobody_37 : decode cX4_tellsOfNobody 37 = .ok (.goto 4, 3) := by decide +kernel
theorem dX4_tellsOfNobody_40 : decode cX4_tellsOfNobody 40 = .ok (.iconst 0, 1) := by decide +kernel
theorem dX4_tellsOfNobody_41 : decode cX4_tellsOfNobody 41 = .ok (.istore_n 3, 1) := by decide +kernel
theorem dX4_tellsOfNobody_42 : decode cX4_tellsOfNobody 42 = .ok (.aload_n 0, 1) := by decide +kernel
theorem dX4_tellsOfNobody_43 : decode cX4_tellsOfNobody 43 = .ok (.getfield 33, 3) := by decide +kernel
theorem dX4_tellsOfNobody_46 : decode cX4_tellsOfNobody 46 = .ok (.iload_n 1, 1) := by decide +kernel
theorem dX4_tellsOfNobody_47 : decode cX4_tellsOfNobody 47 = .ok (.iconst 5, 1) := by decide +kernel
theorem dX4_tellsOfNobody_48 : decode cX4_tellsOfNobody 48 = .ok (.imul, 1) := by decide +kernel
theorem dX4_tellsOfNobody_49 : decode cX4_tellsOfNobody 49 = .ok (.iload_n 2, 1) := by decide +kernel
theorem dX4_tellsOfNobody_50 : decode cX4_tellsOfNobody 50 = .ok (.iadd, 1) := by decide +kernel
theorem dX4_tellsOfNobody_51 : decode cX4_tellsOfNobody 51 = .ok (.invokestatic 109, 3) := by decide +kernel
theorem dX4_tellsOfNobody_54 : decode cX4_tellsOfNobody 54 = .ok (.ifCond .eq 9, 3) := by decide +kernel
theorem dX4_tellsOfNobody_57 : decode cX4_tellsOfNobody 57 = .ok (.iload_n 3, 1) := by decide +kernel
theorem dX4_tellsOfNobody_58 : decode cX4_tellsOfNobody 58 = .ok (.ifCond .ne 5, 3) := by decide +kernel
theorem dX4_tellsOfNobody_61 : decode cX4_tellsOfNobody 61 = .ok (.iconst 1, 1) := by decide +kernel
theorem dX4_tellsOfNobody_62 : decode cX4_tellsOfNobody 62 = .ok (.ireturn, 1) := by decide +kernel
theorem dX4_tellsOfNobody_63 : decode cX4_tellsOfNobody 63 = .ok (.iinc 2 1, 3) := by decide +kernel
theorem dX4_tellsOfNobody_66 : decode cX4_tellsOfNobody 66 = .ok (.goto (-57), 3) := by decide +kernel
theorem dX4_tellsOfNobody_69 : decode cX4_tellsOfNobody 69 = .ok (.iinc 1 1, 3) := by decide +kernel
theorem dX4_tellsOfNobody_72 : decode cX4_tellsOfNobody 72 = .ok (.goto (-70), 3) := by decide +kernel
theorem dX4_tellsOfNobody_75 : decode cX4_tellsOfNobody 75 = .ok (.iconst 0, 1) := by decide +kernel
theorem dX4_tellsOfNobody_76 : decode cX4_tellsOfNobody 76 = .ok (.ireturn, 1) := by decide +kernel
theorem dX4_readToken_0 : decode cX4_readToken 0 = .ok (.aload_n 0, 1) := by decide +kernel
theorem dX4_readToken_1 : decode cX4_readToken 1 = .ok (.getfield 36, 3) := by decide +kernel
theorem dX4_readToken_4 : decode cX4_readToken 4 = .ok (.aload_n 0, 1) := by decide +kernel
theorem dX4_readToken_5 : decode cX4_readToken 5 = .ok (.getfield 52, 3) := by decide +kernel
theorem dX4_readToken_8 : decode cX4_readToken 8 = .ok (.if_icmp .ge 30, 3) := by decide +kernel
theorem dX4_readToken_11 : decode cX4_readToken 11 = .ok (.aload_n 0, 1) := by decide +kernel
theorem dX4_readToken_12 : decode cX4_readToken 12 = .ok (.getfield 9, 3) := by decide +kernel
theorem dX4_readToken_15 : decode cX4_readToken 15 = .ok (.aload_n 0, 1) := by decide +kernel
theorem dX4_readToken_16 : decode cX4_readToken 16 = .ok (.getfield 36, 3) := by decide +kernel
theorem dX4_readToken_19 : decode cX4_readToken 19 = .ok (.iaload, 1) := by decide +kernel
theorem dX4_readToken_20 : decode cX4_readToken 20 = .ok (.bipush 32, 2) := by decide +kernel
theorem dX4_readToken_22 : decode cX4_readToken 22 = .ok (.if_icmp .ne 16, 3) := by decide +kernel
theorem dX4_readToken_25 : decode cX4_readToken 25 = .ok (.aload_n 0, 1) := by decide +kernel
theorem dX4_readToken_26 : decode cX4_readToken 26 = .ok (.dup, 1) := by decide +kernel
theorem dX4_readToken_27 : decode cX4_readToken 27 = .ok (.getfield 36, 3) := by decide +kernel
theorem dX4_readToken_30 : decode cX4_readToken 30 = .ok (.iconst 1, 1) := by decide +kernel
theorem dX4_readToken_31 : decode cX4_readToken 31 = .ok (.iadd, 1) := by decide +kernel
theorem dX4_readToken_32 : decode cX4_readToken 32 = .ok (.putfield 36, 3) := by decide +kernel
theorem dX4_readToken_35 : decode cX4_readToken 35 = .ok (.goto (-35), 3) := by decide +kernel
theorem dX4_readToken_38 : decode cX4_readToken 38 = .ok (.aload_n 0, 1) := by decide +kernel
theorem dX4_readToken_39 : decode cX4_readToken 39 = .ok (.aload_n 0, 1) := by decide +kernel
theorem dX4_readToken_40 : decode cX4_readToken 40 = .ok (.getfield 36, 3) := by decide +kernel
theorem dX4_readToken_43 : decode cX4_readToken 43 = .ok (.putfield 66, 3) := by decide +kernel
theorem dX4_readToken_46 : decode cX4_readToken 46 = .ok (.aload_n 0, 1) := by decide +kernel
theorem dX4_readToken_47 : decode cX4_readToken 47 = .ok (.getfield 36, 3) := by decide +kernel
theorem dX4_readToken_50 : decode cX4_readToken 50 = .ok (.aload_n 0, 1) := by decide +kernel
theorem dX4_readToken_51 : decode cX4_readToken 51 = .ok (.getfield 52, 3) := by decide +kernel
theorem dX4_readToken_54 : decode cX4_readToken 54 = .ok (.if_icmp .lt 10, 3) := by decide +kernel
theorem dX4_readToken_57 : decode cX4_readToken 57 = .ok (.aload_n 0, 1) := by decide +kernel
theorem dX4_readToken_58 : decode cX4_readToken 58 = .ok (.iconst 0, 1) := by decide +kernel
theorem dX4_readToken_59 : decode cX4_readToken 59 = .ok (.putfield 43, 3) := by decide +kernel
theorem dX4_readToken_62 : decode cX4_readToken 62 = .ok (.iconst 1, 1) := by decide +kernel
theorem dX4_readToken_63 : decode cX4_readToken 63 = .ok (.ireturn, 1) := by decide +kernel
theorem dX4_readToken_64 : decode cX4_readToken 64 = .ok (.aload_n 0, 1) := by decide +kernel
theorem dX4_readToken_65 : decode cX4_readToken 65 = .ok (.getfield 9, 3) := by decide +kernel
theorem dX4_readToken_68 : decode cX4_readToken 68 = .ok (.aload_n 0, 1) := by decide +kernel
theorem dX4_readToken_69 : decode cX4_readToken 69 = .ok (.getfield 36, 3) := by decide +kernel
theorem dX4_readToken_72 : decode cX4_readToken 72 = .ok (.iaload, 1) := by decide +kernel
theorem dX4_readToken_73 : decode cX4_readToken 73 = .ok (.bipush 59, 2) := by decide +kernel
theorem dX4_readToken_75 : decode cX4_readToken 75 = .ok (.if_icmp .ne 20, 3) := by decide +kernel
theorem dX4_readToken_78 : decode cX4_readToken 78 = .ok (.aload_n 0, 1) := by decide +kernel
theorem dX4_readToken_79 : decode cX4_readToken 79 = .ok (.iconst 3, 1) := by decide +kernel
theorem dX4_readToken_80 : decode cX4_readToken 80 = .ok (.putfield 43, 3) := by decide +kernel
theorem dX4_readToken_83 : decode cX4_readToken 83 = .ok (.aload_n 0, 1) := by decide +kernel
theorem dX4_readToken_84 : decode cX4_readToken 84 = .ok (.dup, 1) := by decide +kernel
theorem dX4_readToken_85 : decode cX4_readToken 85 = .ok (.getfield 36, 3) := by decide +kernel
theorem dX4_readToken_88 : decode cX4_readToken 88 = .ok (.iconst 1, 1) := by decide +kernel
theorem dX4_readToken_89 : decode cX4_readToken 89 = .ok (.iadd, 1) := by decide +kernel
theorem dX4_readToken_90 : decode cX4_readToken 90 = .ok (.putfield 36, 3) := by decide +kernel
theorem dX4_readToken_93 : decode cX4_readToken 93 = .ok (.iconst 1, 1) := by decide +kernel
theorem dX4_readToken_94 : decode cX4_readToken 94 = .ok (.ireturn, 1) := by decide +kernel
theorem dX4_readToken_95 : decode cX4_readToken 95 = .ok (.aload_n 0, 1) := by decide +kernel
theorem dX4_readToken_96 : decode cX4_readToken 96 = .ok (.getfield 9, 3) := by decide +kernel
theorem dX4_readToken_99 : decode cX4_readToken 99 = .ok (.aload_n 0, 1) := by decide +kernel
theorem dX4_readToken_100 : decode cX4_readToken 100 = .ok (.getfield 36, 3) := by decide +kernel
theorem dX4_readToken_103 : decode cX4_readToken 103 = .ok (.iaload, 1) := by decide +kernel
theorem dX4_readToken_104 : decode cX4_readToken 104 = .ok (.bipush 97, 2) := by decide +kernel
theorem dX4_readToken_106 : decode cX4_readToken 106 = .ok (.bipush 122, 2) := by decide +kernel
theorem dX4_readToken_108 : decode cX4_readToken 108 = .ok (.invokestatic 121, 3) := by decide +kernel
theorem dX4_readToken_111 : decode cX4_readToken 111 = .ok (.ifCond .eq 22, 3) := by decide +kernel
theorem dX4_readToken_114 : decode cX4_readToken 114 = .ok (.aload_n 0, 1) := by decide +kernel
theorem dX4_readToken_115 : decode cX4_readToken 115 = .ok (.iconst 1, 1) := by decide +kernel
theorem dX4_readToken_116 : decode cX4_readToken 116 = .ok (.putfield 43, 3) := by decide +kernel
theorem dX4_readToken_119 : decode cX4_readToken 119 = .ok (.aload_n 0, 1) := by decide +kernel
theorem dX4_readToken_120 : decode cX4_readToken 120 = .ok (.aload_n 0, 1) := by decide +kernel
theorem dX4_readToken_121 : decode cX4_readToken 121 = .ok (.bipush 97, 2) := by decide +kernel
theorem dX4_readToken_123 : decode cX4_readToken 123 = .ok (.bipush 122, 2) := by decide +kernel
theorem dX4_readToken_125 : decode cX4_readToken 125 = .ok (.invokevirtual 125, 3) := by decide +kernel
theorem dX4_readToken_128 : decode cX4_readToken 128 = .ok (.putfield 36, 3) := by decide +kernel
theorem dX4_readToken_131 : decode cX4_readToken 131 = .ok (.iconst 1, 1) := by decide +kernel
theorem dX4_readToken_132 : decode cX4_readToken 132 = .ok (.ireturn, 1) := by decide +kernel
theorem dX4_readToken_133 : decode cX4_readToken 133 = .ok (.aload_n 0, 1) := by decide +kernel
theorem dX4_readToken_134 : decode cX4_readToken 134 = .ok (.iconst 2, 1) := by decide +kernel
theorem dX4_readToken_135 : decode cX4_readToken 135 = .ok (.putfield 43, 3) := by decide +kernel
theorem dX4_readToken_138 : decode cX4_readToken 138 = .ok (.aload_n 0, 1) := by decide +kernel
theorem dX4_readToken_139 : decode cX4_readToken 139 = .ok (.aload_n 0, 1) := by decide +kernel
theorem dX4_readToken_140 : decode cX4_readToken 140 = .ok (.bipush 48, 2) := by decide +kernel
theorem dX4_readToken_142 : decode cX4_readToken 142 = .ok (.bipush 57, 2) := by decide +kernel
theorem dX4_readToken_144 : decode cX4_readToken 144 = .ok (.invokevirtual 125, 3) := by decide +kernel
theorem dX4_readToken_147 : decode cX4_readToken 147 = .ok (.putfield 36, 3) := by decide +kernel
theorem dX4_readToken_150 : decode cX4_readToken 150 = .ok (.aload_n 0, 1) := by decide +kernel
theorem dX4_readToken_151 : decode cX4_readToken 151 = .ok (.getfield 36, 3) := by decide +kernel
theorem dX4_readToken_154 : decode cX4_readToken 154 = .ok (.aload_n 0, 1) := by decide +kernel
theorem dX4_readToken_155 : decode cX4_readToken 155 = .ok (.getfield 66, 3) := by decide +kernel
theorem dX4_readToken_158 : decode cX4_readToken 158 = .ok (.isub, 1) := by decide +kernel
theorem dX4_readToken_159 : decode cX4_readToken 159 = .ok (.iconst 1, 1) := by decide +kernel
theorem dX4_readToken_160 : decode cX4_readToken 160 = .ok (.iconst 2, 1) := by decide +kernel
theorem dX4_readToken_161 : decode cX4_readToken 161 = .ok (.invokestatic 121, 3) := by decide +kernel
theorem dX4_readToken_164 : decode cX4_readToken 164 = .ok (.ifCond .ne 15, 3) := by decide +kernel
theorem dX4_readToken_167 : decode cX4_readToken 167 = .ok (.aload_n 0, 1) := by decide +kernel
theorem dX4_readToken_168 : decode cX4_readToken 168 = .ok (.iconst 1, 1) := by decide +kernel
theorem dX4_readToken_169 : decode cX4_readToken 169 = .ok (.aload_n 0, 1) := by decide +kernel
theorem dX4_readToken_170 : decode cX4_readToken 170 = .ok (.getfield 66, 3) := by decide +kernel
theorem dX4_readToken_173 : decode cX4_readToken 173 = .ok (.invokevirtual 55, 3) := by decide +kernel
theorem dX4_readToken_176 : decode cX4_readToken 176 = .ok (.ifCond .eq 7, 3) := by decide +kernel
theorem dX4_readToken_179 : decode cX4_readToken 179 = .ok (.iconst 1, 1) := by decide +kernel
theorem dX4_readToken_180 : decode cX4_readToken 180 = .ok (.goto 4, 3) := by decide +kernel
theorem dX4_readToken_183 : decode cX4_readToken 183 = .ok (.iconst 0, 1) := by decide +kernel
theorem dX4_readToken_184 : decode cX4_readToken 184 = .ok (.ireturn, 1) := by decide +kernel
theorem dX4_behind_0 : decode cX4_behind 0 = .ok (.aload_n 0, 1) := by decide +kernel
theorem dX4_behind_1 : decode cX4_behind 1 = .ok (.getfield 66, 3) := by decide +kernel
theorem dX4_behind_4 : decode cX4_behind 4 = .ok (.istore_n 3, 1) := by decide +kernel
theorem dX4_behind_5 : decode cX4_behind 5 = .ok (.iload_n 3, 1) := by decide +kernel
theorem dX4_behind_6 : decode cX4_behind 6 = .ok (.aload_n 0, 1) := by decide +kernel
theorem dX4_behind_7 : decode cX4_behind 7 = .ok (.getfield 52, 3) := by decide +kernel
theorem dX4_behind_10 : decode cX4_behind 10 = .ok (.if_icmp .ge 29, 3) := by decide +kernel
theorem dX4_behind_13 : decode cX4_behind 13 = .ok (.aload_n 0, 1) := by decide +kernel
theorem dX4_behind_14 : decode cX4_behind 14 = .ok (.getfield 9, 3) := by decide +kernel
theorem dX4_behind_17 : decode cX4_behind 17 = .ok (.iload_n 3, 1) := by decide +kernel
theorem dX4_behind_18 : decode cX4_behind 18 = .ok (.iaload, 1) := by decide +kernel
theorem dX4_behind_19 : decode cX4_behind 19 = .ok (.iload_n 1, 1) := by decide +kernel
theorem dX4_behind_20 : decode cX4_behind 20 = .ok (.if_icmp .lt 19, 3) := by decide +kernel
theorem dX4_behind_23 : decode cX4_behind 23 = .ok (.aload_n 0, 1) := by decide +kernel
theorem dX4_behind_24 : decode cX4_behind 24 = .ok (.getfield 9, 3) := by decide +kernel
theorem dX4_behind_27 : decode cX4_behind 27 = .ok (.iload_n 3, 1) := by decide +kernel
theorem dX4_behind_28 : decode cX4_behind 28 = .ok (.iaload, 1) := by decide +kernel
theorem dX4_behind_29 : decode cX4_behind 29 = .ok (.iload_n 2, 1) := by decide +kernel
theorem dX4_behind_30 : decode cX4_behind 30 = .ok (.if_icmp .gt 9, 3) := by decide +kernel
theorem dX4_behind_33 : decode cX4_behind 33 = .ok (.iinc 3 1, 3) := by decide +kernel
theorem dX4_behind_36 : decode cX4_behind 36 = .ok (.goto (-31), 3) := by decide +kernel
theorem dX4_behind_39 : decode cX4_behind 39 = .ok (.iload_n 3, 1) := by decide +kernel
theorem dX4_behind_40 : decode cX4_behind 40 = .ok (.ireturn, 1) := by decide +kernel
theorem dX4_lineOfName_0 : decode cX4_lineOfName 0 = .ok (.aload_n 0, 1) := by decide +kernel
theorem dX4_lineOfName_1 : decode cX4_lineOfName 1 = .ok (.ldc 129, 2) := by decide +kernel
theorem dX4_lineOfName_3 : decode cX4_lineOfName 3 = .ok (.invokevirtual 131, 3) := by decide +kernel
theorem dX4_lineOfName_6 : decode cX4_lineOfName 6 = .ok (.ifCond .eq 5, 3) := by decide +kernel
theorem dX4_lineOfName_9 : decode cX4_lineOfName 9 = .ok (.iconst 0, 1) := by decide +kernel
theorem dX4_lineOfName_10 : decode cX4_lineOfName 10 = .ok (.ireturn, 1) := by decide +kernel
theorem dX4_lineOfName_11 : decode cX4_lineOfName 11 = .ok (.aload_n 0, 1) := by decide +kernel
theorem dX4_lineOfName_12 : decode cX4_lineOfName 12 = .ok (.ldc 135, 2) := by decide +kernel
theorem dX4_lineOfName_14 : decode cX4_lineOfName 14 = .ok (.invokevirtual 131, 3) := by decide +kernel
theorem dX4_lineOfName_17 : decode cX4_lineOfName 17 = .ok (.ifCond .eq 5, 3) := by decide +kernel
theorem dX4_lineOfName_20 : decode cX4_lineOfName 20 = .ok (.iconst 1, 1) := by decide +kernel
theorem dX4_lineOfName_21 : decode cX4_lineOfName 21 = .ok (.ireturn, 1) := by decide +kernel
theorem dX4_lineOfName_22 : decode cX4_lineOfName 22 = .ok (.aload_n 0, 1) := by decide +kernel
theorem dX4_lineOfName_23 : decode cX4_lineOfName 23 = .ok (.ldc 137, 2) := by decide +kernel
theorem dX4_lineOfName_25 : decode cX4_lineOfName 25 = .ok (.invokevirtual 131, 3) := by decide +kernel
theorem dX4_lineOfName_28 : decode cX4_lineOfName 28 = .ok (.ifCond .eq 5, 3) := by decide +kernel
theorem dX4_lineOfName_31 : decode cX4_lineOfName 31 = .ok (.iconst 2, 1) := by decide +kernel
theorem dX4_lineOfName_32 : decode cX4_lineOfName 32 = .ok (.ireturn, 1) := by decide +kernel
theorem dX4_lineOfName_33 : decode cX4_lineOfName 33 = .ok (.aload_n 0, 1) := by decide +kernel
theorem dX4_lineOfName_34 : decode cX4_lineOfName 34 = .ok (.ldc 139, 2) := by decide +kernel
theorem dX4_lineOfName_36 : decode cX4_lineOfName 36 = .ok (.invokevirtual 131, 3) := by decide +kernel
theorem dX4_lineOfName_39 : decode cX4_lineOfName 39 = .ok (.ifCond .eq 5, 3) := by decide +kernel
theorem dX4_lineOfName_42 : decode cX4_lineOfName 42 = .ok (.iconst 3, 1) := by decide +kernel
theorem dX4_lineOfName_43 : decode cX4_lineOfName 43 = .ok (.ireturn, 1) := by decide +kernel
theorem dX4_lineOfName_44 : decode cX4_lineOfName 44 = .ok (.aload_n 0, 1) := by decide +kernel
theorem dX4_lineOfName_45 : decode cX4_lineOfName 45 = .ok (.ldc 141, 2) := by decide +kernel
theorem dX4_lineOfName_47 : decode cX4_lineOfName 47 = .ok (.invokevirtual 131, 3) := by decide +kernel
theorem dX4_lineOfName_50 : decode cX4_lineOfName 50 = .ok (.ifCond .eq 5, 3) := by decide +kernel
theorem dX4_lineOfName_53 : decode cX4_lineOfName 53 = .ok (.iconst 4, 1) := by decide +kernel
theorem dX4_lineOfName_54 : decode cX4_lineOfName 54 = .ok (.ireturn, 1) := by decide +kernel
theorem dX4_lineOfName_55 : decode cX4_lineOfName 55 = .ok (.aload_n 0, 1) := by decide +kernel
theorem dX4_lineOfName_56 : decode cX4_lineOfName 56 = .ok (.ldc 143, 2) := by decide +kernel
theorem dX4_lineOfName_58 : decode cX4_lineOfName 58 = .ok (.invokevirtual 131, 3) := by decide +kernel
theorem dX4_lineOfName_61 : decode cX4_lineOfName 61 = .ok (.ifCond .eq 7, 3) := by decide +kernel
theorem dX4_lineOfName_64 : decode cX4_lineOfName 64 = .ok (.iconst 5, 1) := by decide +kernel
theorem dX4_lineOfName_65 : decode cX4_lineOfName 65 = .ok (.goto 4, 3) := by decide +kernel
theorem dX4_lineOfName_68 : decode cX4_lineOfName 68 = .ok (.iconst (-1), 1) := by decide +kernel
theorem dX4_lineOfName_69 : decode cX4_lineOfName 69 = .ok (.ireturn, 1) := by decide +kernel
theorem dX4_isName_0 : decode cX4_isName 0 = .ok (.aload_n 1, 1) := by decide +kernel
theorem dX4_isName_1 : decode cX4_isName 1 = .ok (.invokevirtual 145, 3) := by decide +kernel
theorem dX4_isName_4 : decode cX4_isName 4 = .ok (.aload_n 0, 1) := by decide +kernel
theorem dX4_isName_5 : decode cX4_isName 5 = .ok (.getfield 36, 3) := by decide +kernel
theorem dX4_isName_8 : decode cX4_isName 8 = .ok (.aload_n 0, 1) := by decide +kernel
theorem dX4_isName_9 : decode cX4_isName 9 = .ok (.getfield 66, 3) := by decide +kernel
theorem dX4_isName_12 : decode cX4_isName 12 = .ok (.isub, 1) := by decide +kernel
theorem dX4_isName_13 : decode cX4_isName 13 = .ok (.if_icmp .eq 5, 3) := by decide +kernel
theorem dX4_isName_16 : decode cX4_isName 16 = .ok (.iconst 0, 1) := by decide +kernel
theorem dX4_isName_17 : decode cX4_isName 17 = .ok (.ireturn, 1) := by decide +kernel
theorem dX4_isName_18 : decode cX4_isName 18 = .ok (.iconst 0, 1) := by decide +kernel
theorem dX4_isName_19 : decode cX4_isName 19 = .ok (.istore_n 2, 1) := by decide +kernel
theorem dX4_isName_20 : decode cX4_isName 20 = .ok (.iload_n 2, 1) := by decide +kernel
theorem dX4_isName_21 : decode cX4_isName 21 = .ok (.aload_n 1, 1) := by decide +kernel
theorem dX4_isName_22 : decode cX4_isName 22 = .ok (.invokevirtual 145, 3) := by decide +kernel
theorem dX4_isName_25 : decode cX4_isName 25 = .ok (.if_icmp .ge 30, 3) := by decide +kernel
theorem dX4_isName_28 : decode cX4_isName 28 = .ok (.aload_n 0, 1) := by decide +kernel
theorem dX4_isName_29 : decode cX4_isName 29 = .ok (.getfield 9, 3) := by decide +kernel
theorem dX4_isName_32 : decode cX4_isName 32 = .ok (.aload_n 0, 1) := by decide +kernel
theorem dX4_isName_33 : decode cX4_isName 33 = .ok (.getfield 66, 3) := by decide +kernel
theorem dX4_isName_36 : decode cX4_isName 36 = .ok (.iload_n 2, 1) := by decide +kernel
theorem dX4_isName_37 : decode cX4_isName 37 = .ok (.iadd, 1) := by decide +kernel
theorem dX4_isName_38 : decode cX4_isName 38 = .ok (.iaload, 1) := by decide +kernel
theorem dX4_isName_39 : decode cX4_isName 39 = .ok (.aload_n 1, 1) := by decide +kernel
theorem dX4_isName_40 : decode cX4_isName 40 = .ok (.iload_n 2, 1) := by decide +kernel
theorem dX4_isName_41 : decode cX4_isName 41 = .ok (.invokevirtual 149, 3) := by decide +kernel
theorem dX4_isName_44 : decode cX4_isName 44 = .ok (.if_icmp .eq 5, 3) := by decide +kernel
theorem dX4_isName_47 : decode cX4_isName 47 = .ok (.iconst 0, 1) := by decide +kernel
theorem dX4_isName_48 : decode cX4_isName 48 = .ok (.ireturn, 1) := by decide +kernel
theorem dX4_isName_49 : decode cX4_isName 49 = .ok (.iinc 2 1, 3) := by decide +kernel
theorem dX4_isName_52 : decode cX4_isName 52 = .ok (.goto (-32), 3) := by decide +kernel
theorem dX4_isName_55 : decode cX4_isName 55 = .ok (.iconst 1, 1) := by decide +kernel
theorem dX4_isName_56 : decode cX4_isName 56 = .ok (.ireturn, 1) := by decide +kernel
theorem dX5_init_0 : decode cX5_init 0 = .ok (.aload_n 0, 1) := by decide +kernel
theorem dX5_init_1 : decode cX5_init 1 = .ok (.invokespecial 3, 3) := by decide +kernel
theorem dX5_init_4 : decode cX5_init 4 = .ok (.aload_n 0, 1) := by decide +kernel
theorem dX5_init_5 : decode cX5_init 5 = .ok (.bipush 9, 2) := by decide +kernel
theorem dX5_init_7 : decode cX5_init 7 = .ok (.anewarray 9, 3) := by decide +kernel
theorem dX5_init_10 : decode cX5_init 10 = .ok (.putfield 11, 3) := by decide +kernel
theorem dX5_init_13 : decode cX5_init 13 = .ok (.iconst 0, 1) := by decide +kernel
theorem dX5_init_14 : decode cX5_init 14 = .ok (.istore_n 1, 1) := by decide +kernel
theorem dX5_init_15 : decode cX5_init 15 = .ok (.iload_n 1, 1) := by decide +kernel
theorem dX5_init_16 : decode cX5_init 16 = .ok (.bipush 8, 2) := by decide +kernel
theorem dX5_init_18 : decode cX5_init 18 = .ok (.if_icmp .gt 22, 3) := by decide +kernel
theorem dX5_init_21 : decode cX5_init 21 = .ok (.aload_n 0, 1) := by decide +kernel
theorem dX5_init_22 : decode cX5_init 22 = .ok (.getfield 11, 3) := by decide +kernel
theorem dX5_init_25 : decode cX5_init 25 = .ok (.iload_n 1, 1) := by decide +kernel
theorem dX5_init_26 : decode cX5_init 26 = .ok (.new 9, 3) := by decide +kernel
theorem dX5_init_29 : decode cX5_init 29 = .ok (.dup, 1) := by decide +kernel
theorem dX5_init_30 : decode cX5_init 30 = .ok (.invokespecial 17, 3) := by decide +kernel
theorem dX5_init_33 : decode cX5_init 33 = .ok (.aastore, 1) := by decide +kernel
theorem dX5_init_34 : decode cX5_init 34 = .ok (.iinc 1 1, 3) := by decide +kernel
theorem dX5_init_37 : decode cX5_init 37 = .ok (.goto (-22), 3) := by decide +kernel
theorem dX5_init_40 : decode cX5_init 40 = .ok (.return_, 1) := by decide +kernel
theorem dX5_meanOver_0 : decode cX5_meanOver 0 = .ok (.aload_n 0, 1) := by decide +kernel
theorem dX5_meanOver_1 : decode cX5_meanOver 1 = .ok (.iload_n 2, 1) := by decide +kernel
theorem dX5_meanOver_2 : decode cX5_meanOver 2 = .ok (.putfield 18, 3) := by decide +kernel
theorem dX5_meanOver_5 : decode cX5_meanOver 5 = .ok (.aload_n 0, 1) := by decide +kernel
theorem dX5_meanOver_6 : decode cX5_meanOver 6 = .ok (.iload_n 3, 1) := by decide +kernel
theorem dX5_meanOver_7 : decode cX5_meanOver 7 = .ok (.putfield 22, 3) := by decide +kernel
theorem dX5_meanOver_10 : decode cX5_meanOver 10 = .ok (.aload_n 0, 1) := by decide +kernel
theorem dX5_meanOver_11 : decode cX5_meanOver 11 = .ok (.getfield 11, 3) := by decide +kernel
theorem dX5_meanOver_14 : decode cX5_meanOver 14 = .ok (.iconst 0, 1) := by decide +kernel
theorem dX5_meanOver_15 : decode cX5_meanOver 15 = .ok (.aaload, 1) := by decide +kernel
theorem dX5_meanOver_16 : decode cX5_meanOver 16 = .ok (.aload_n 1, 1) := by decide +kernel
theorem dX5_meanOver_17 : decode cX5_meanOver 17 = .ok (.invokevirtual 25, 3) := by decide +kernel
theorem dX5_meanOver_20 : decode cX5_meanOver 20 = .ok (.aload_n 0, 1) := by decide +kernel
theorem dX5_meanOver_21 : decode cX5_meanOver 21 = .ok (.iconst 0, 1) := by decide +kernel
theorem dX5_meanOver_22 : decode cX5_meanOver 22 = .ok (.invokevirtual 29, 3) := by decide +kernel
theorem dX5_meanOver_25 : decode cX5_meanOver 25 = .ok (.lstore 5, 2) := by decide +kernel
theorem dX5_meanOver_27 : decode cX5_meanOver 27 = .ok (.lconst 1, 1) := by decide +kernel
theorem dX5_meanOver_28 : decode cX5_meanOver 28 = .ok (.lstore 7, 2) := by decide +kernel
theorem dX5_meanOver_30 : decode cX5_meanOver 30 = .ok (.iconst 0, 1) := by decide +kernel
theorem dX5_meanOver_31 : decode cX5_meanOver 31 = .ok (.istore 9, 2) := by decide +kernel
theorem dX5_meanOver_33 : decode cX5_meanOver 33 = .ok (.iload 9, 2) := by decide +kernel
theorem dX5_meanOver_35 : decode cX5_meanOver 35 = .ok (.iload_n 3, 1) := by decide +kernel
theorem dX5_meanOver_36 : decode cX5_meanOver 36 = .ok (.if_icmp .ge 17, 3) := by decide +kernel
theorem dX5_meanOver_39 : decode cX5_meanOver 39 = .ok (.lload 7, 2) := by decide +kernel
theorem dX5_meanOver_41 : decode cX5_meanOver 41 = .ok (.ldc2_w 33, 3) := by decide +kernel
theorem dX5_meanOver_44 : decode cX5_meanOver 44 = .ok (.lmul, 1) := by decide +kernel
theorem dX5_meanOver_45 : decode cX5_meanOver 45 = .ok (.lstore 7, 2) := by decide +kernel
theorem dX5_meanOver_47 : decode cX5_meanOver 47 = .ok (.iinc 9 1, 3) := by decide +kernel
theorem dX5_meanOver_50 : decode cX5_meanOver 50 = .ok (.goto (-17), 3) := by decide +kernel
theorem dX5_meanOver_53 : decode cX5_meanOver 53 = .ok (.lload 5, 2) := by decide +kernel
theorem dX5_meanOver_55 : decode cX5_meanOver 55 = .ok (.lload 7, 2) := by decide +kernel
theorem dX5_meanOver_57 : decode cX5_meanOver 57 = .ok (.invokestatic 35, 3) := by decide +kernel
theorem dX5_meanOver_60 : decode cX5_meanOver 60 = .ok (.lstore 9, 2) := by decide +kernel
theorem dX5_meanOver_62 : decode cX5_meanOver 62 = .ok (.lload 9, 2) := by decide +kernel
theorem dX5_meanOver_64 : decode cX5_meanOver 64 = .ok (.lconst 0, 1) := by decide +kernel
theorem dX5_meanOver_65 : decode cX5_meanOver 65 = .ok (.lcmp, 1) := by decide +kernel
theorem dX5_meanOver_66 : decode cX5_meanOver 66 = .ok (.ifCond .gt 7, 3) := by decide +kernel
theorem dX5_meanOver_69 : decode cX5_meanOver 69 = .ok (.ldc2_w 39, 3) := by decide +kernel
theorem dX5_meanOver_72 : decode cX5_meanOver 72 = .ok (.lreturn, 1) := by decide +kernel
theorem dX5_meanOver_73 : decode cX5_meanOver 73 = .ok (.iload 4, 2) := by decide +kernel
theorem dX5_meanOver_75 : decode cX5_meanOver 75 = .ok (.ifCond .ne 8, 3) := by decide +kernel
theorem dX5_meanOver_78 : decode cX5_meanOver 78 = .ok (.lload 5, 2) := by decide +kernel
theorem dX5_meanOver_80 : decode cX5_meanOver 80 = .ok (.goto 5, 3) := by decide +kernel
theorem dX5_meanOver_83 : decode cX5_meanOver 83 = .ok (.lload 7, 2) := by decide +kernel
theorem dX5_meanOver_85 : decode cX5_meanOver 85 = .ok (.lload 9, 2) := by decide +kernel
theorem dX5_meanOver_87 : decode cX5_meanOver 87 = .ok (.ldiv, 1) := by decide +kernel
theorem dX5_meanOver_88 : decode cX5_meanOver 88 = .ok (.lreturn, 1) := by decide +kernel
theorem dX5_summed_0 : decode cX5_summed 0 = .ok (.iload_n 1, 1) := by decide +kernel
theorem dX5_summed_1 : decode cX5_summed 1 = .ok (.aload_n 0, 1) := by decide +kernel
theorem dX5_summed_2 : decode cX5_summed 2 = .ok (.getfield 22, 3) := by decide +kernel
theorem dX5_summed_5 : decode cX5_summed 5 = .ok (.if_icmp .ge 9, 3) := by decide +kernel
theorem dX5_summed_8 : decode cX5_summed 8 = .ok (.iload_n 1, 1) := by decide +kernel
theorem dX5_summed_9 : decode cX5_summed 9 = .ok (.bipush 8, 2) := by decide +kernel
theorem dX5_summed_11 : decode cX5_summed 11 = .ok (.if_icmp .lt 14, 3) := by decide +kernel
theorem dX5_summed_14 : decode cX5_summed 14 = .ok (.aload_n 0, 1) := by decide +kernel
theorem dX5_summed_15 : decode cX5_summed 15 = .ok (.aload_n 0, 1) := by decide +kernel
theorem dX5_summed_16 : decode cX5_summed 16 = .ok (.getfield 11, 3) := by decide +kernel
theorem dX5_summed_19 : decode cX5_summed 19 = .ok (.iload_n 1, 1) := by decide +kernel
theorem dX5_summed_20 : decode cX5_summed 20 = .ok (.aaload, 1) := by decide +kernel
theorem dX5_summed_21 : decode cX5_summed 21 = .ok (.invokevirtual 41, 3) := by decide +kernel
theorem dX5_summed_24 : decode cX5_summed 24 = .ok (.lreturn, 1) := by decide +kernel
theorem dX5_summed_25 : decode cX5_summed 25 = .ok (.lconst 0, 1) := by decide +kernel
theorem dX5_summed_26 : decode cX5_summed 26 = .ok (.lstore_n 2, 1) := by decide +kernel
theorem dX5_summed_27 : decode cX5_summed 27 = .ok (.aload_n 0, 1) := by decide +kernel
theorem dX5_summed_28 : decode cX5_summed 28 = .ok (.getfield 18, 3) := by decide +kernel
theorem dX5_summed_31 : decode cX5_summed 31 = .ok (.ifCond .le 25, 3) := by decide +kernel
theorem dX5_summed_34 : decode cX5_summed 34 = .ok (.aload_n 0, 1) := by decide +kernel
theorem dX5_summed_35 : decode cX5_summed 35 = .ok (.iload_n 1, 1) := by decide +kernel
theorem dX5_summed_36 : decode cX5_summed 36 = .ok (.iconst 2, 1) := by decide +kernel
theorem dX5_summed_37 : decode cX5_summed 37 = .ok (.invokevirtual 45, 3) := by decide +kernel
theorem dX5_summed_40 : decode cX5_summed 40 = .ok (.lload_n 2, 1) := by decide +kernel
theorem dX5_summed_41 : decode cX5_summed 41 = .ok (.aload_n 0, 1) := by decide +kernel
theorem dX5_summed_42 : decode cX5_summed 42 = .ok (.getfield 18, 3) := by decide +kernel
theorem dX5_summed_45 : decode cX5_summed 45 = .ok (.i2l, 1) := by decide +kernel
theorem dX5_summed_46 : decode cX5_summed 46 = .ok (.aload_n 0, 1) := by decide +kernel
theorem dX5_summed_47 : decode cX5_summed 47 = .ok (.iload_n 1, 1) := by decide +kernel
theorem dX5_summed_48 : decode cX5_summed 48 = .ok (.iconst 1, 1) := by decide +kernel
theorem dX5_summed_49 : decode cX5_summed 49 = .ok (.iadd, 1) := by decide +kernel
theorem dX5_summed_50 : decode cX5_summed 50 = .ok (.invokevirtual 29, 3) := by decide +kernel
theorem dX5_summed_53 : decode cX5_summed 53 = .ok (.lmul, 1) := by decide +kernel
theorem dX5_summed_54 : decode cX5_summed 54 = .ok (.ladd, 1) := by decide +kernel
theorem dX5_summed_55 : decode cX5_summed 55 = .ok (.lstore_n 2, 1) := by decide +kernel
theorem dX5_summed_56 : decode cX5_summed 56 = .ok (.aload_n 0, 1) := by decide +kernel
theorem dX5_summed_57 : decode cX5_summed 57 = .ok (.getfield 18, 3) := by decide +kernel
theorem dX5_summed_60 : decode cX5_summed 60 = .ok (.bipush 10, 2) := by decide +kernel
theorem dX5_summed_62 : decode cX5_summed 62 = .ok (.if_icmp .ge 28, 3) := by decide +kernel
theorem dX5_summed_65 : decode cX5_summed 65 = .ok (.aload_n 0, 1) := by decide +kernel
theorem dX5_summed_66 : decode cX5_summed 66 = .ok (.iload_n 1, 1) := by decide +kernel
theorem dX5_summed_67 : decode cX5_summed 67 = .ok (.iconst 1, 1) := by decide +kernel
theorem dX5_summed_68 : decode cX5_summed 68 = .ok (.invokevirtual 45, 3) := by decide +kernel
theorem dX5_summed_71 : decode cX5_summed 71 = .ok (.lload_n 2, 1) := by decide +kernel
theorem dX5_summed_72 : decode cX5_summed 72 = .ok (.bipush 10, 2) := by decide +kernel
theorem dX5_summed_74 : decode cX5_summed 74 = .ok (.aload_n 0, 1) := by decide +kernel
theorem dX5_summed_75 : decode cX5_summed 75 = .ok (.getfield 18, 3) := by decide +kernel
theorem dX5_summed_78 : decode cX5_summed 78 = .ok (.isub, 1) := by decide +kernel
theorem dX5_summed_79 : decode cX5_summed 79 = .ok (.i2l, 1) := by decide +kernel
theorem dX5_summed_80 : decode cX5_summed 80 = .ok (.aload_n 0, 1) := by decide +kernel
theorem dX5_summed_81 : decode cX5_summed 81 = .ok (.iload_n 1, 1) := by decide +kernel
theorem dX5_summed_82 : decode cX5_summed 82 = .ok (.iconst 1, 1) := by decide +kernel
theorem dX5_summed_83 : decode cX5_summed 83 = .ok (.iadd, 1) := by decide +kernel
theorem dX5_summed_84 : decode cX5_summed 84 = .ok (.invokevirtual 29, 3) := by decide +kernel
theorem dX5_summed_87 : decode cX5_summed 87 = .ok (.lmul, 1) := by decide +kernel
theorem dX5_summed_88 : decode cX5_summed 88 = .ok (.ladd, 1) := by decide +kernel
theorem dX5_summed_89 : decode cX5_summed 89 = .ok (.lstore_n 2, 1) := by decide +kernel
theorem dX5_summed_90 : decode cX5_summed 90 = .ok (.lload_n 2, 1) := by decide +kernel
theorem dX5_summed_91 : decode cX5_summed 91 = .ok (.lreturn, 1) := by decide +kernel
theorem dX5_passOn_0 : decode cX5_passOn 0 = .ok (.aload_n 0, 1) := by decide +kernel
theorem dX5_passOn_1 : decode cX5_passOn 1 = .ok (.getfield 11, 3) := by decide +kernel
theorem dX5_passOn_4 : decode cX5_passOn 4 = .ok (.iload_n 1, 1) := by decide +kernel
theorem dX5_passOn_5 : decode cX5_passOn 5 = .ok (.iconst 1, 1) := by decide +kernel
theorem dX5_passOn_6 : decode cX5_passOn 6 = .ok (.iadd, 1) := by decide +kernel
theorem dX5_passOn_7 : decode cX5_passOn 7 = .ok (.aaload, 1) := by decide +kernel
theorem dX5_passOn_8 : decode cX5_passOn 8 = .ok (.astore_n 3, 1) := by decide +kernel
theorem dX5_passOn_9 : decode cX5_passOn 9 = .ok (.aload_n 3, 1) := by decide +kernel
theorem dX5_passOn_10 : decode cX5_passOn 10 = .ok (.aload_n 0, 1) := by decide +kernel
theorem dX5_passOn_11 : decode cX5_passOn 11 = .ok (.getfield 11, 3) := by decide +kernel
theorem dX5_passOn_14 : decode cX5_passOn 14 = .ok (.iload_n 1, 1) := by decide +kernel
theorem dX5_passOn_15 : decode cX5_passOn 15 = .ok (.aaload, 1) := by decide +kernel
theorem dX5_passOn_16 : decode cX5_passOn 16 = .ok (.invokevirtual 25, 3) := by decide +kernel
theorem dX5_passOn_19 : decode cX5_passOn 19 = .ok (.aload_n 0, 1) := by decide +kernel
theorem dX5_passOn_20 : decode cX5_passOn 20 = .ok (.getfield 49, 3) := by decide +kernel
theorem dX5_passOn_23 : decode cX5_passOn 23 = .ok (.iconst (-1), 1) := by decide +kernel
theorem dX5_passOn_24 : decode cX5_passOn 24 = .ok (.if_icmp .ne 11, 3) := by decide +kernel
theorem dX5_passOn_27 : decode cX5_passOn 27 = .ok (.aload_n 3, 1) := by decide +kernel
theorem dX5_passOn_28 : decode cX5_passOn 28 = .ok (.iload_n 2, 1) := by decide +kernel
theorem dX5_passOn_29 : decode cX5_passOn 29 = .ok (.invokevirtual 52, 3) := by decide +kernel
theorem dX5_passOn_32 : decode cX5_passOn 32 = .ok (.goto 12, 3) := by decide +kernel
theorem dX5_passOn_35 : decode cX5_passOn 35 = .ok (.aload_n 3, 1) := by decide +kernel
theorem dX5_passOn_36 : decode cX5_passOn 36 = .ok (.aload_n 0, 1) := by decide +kernel
theorem dX5_passOn_37 : decode cX5_passOn 37 = .ok (.getfield 49, 3) := by decide +kernel
theorem dX5_passOn_40 : decode cX5_passOn 40 = .ok (.iload_n 2, 1) := by decide +kernel
theorem dX5_passOn_41 : decode cX5_passOn 41 = .ok (.invokevirtual 56, 3) := by decide +kernel
theorem dX5_passOn_44 : decode cX5_passOn 44 = .ok (.return_, 1) := by decide +kernel
theorem dX5_lookedAt_0 : decode cX5_lookedAt 0 = .ok (.aload_n 0, 1) := by decide +kernel
theorem dX5_lookedAt_1 : decode cX5_lookedAt 1 = .ok (.getfield 49, 3) := by decide +kernel
theorem dX5_lookedAt_4 : decode cX5_lookedAt 4 = .ok (.iconst (-1), 1) := by decide +kernel
theorem dX5_lookedAt_5 : decode cX5_lookedAt 5 = .ok (.if_icmp .ne 9, 3) := by decide +kernel
theorem dX5_lookedAt_8 : decode cX5_lookedAt 8 = .ok (.aload_n 1, 1) := by decide +kernel
theorem dX5_lookedAt_9 : decode cX5_lookedAt 9 = .ok (.invokevirtual 59, 3) := by decide +kernel
theorem dX5_lookedAt_12 : decode cX5_lookedAt 12 = .ok (.i2l, 1) := by decide +kernel
theorem dX5_lookedAt_13 : decode cX5_lookedAt 13 = .ok (.lreturn, 1) := by decide +kernel
theorem dX5_lookedAt_14 : decode cX5_lookedAt 14 = .ok (.aload_n 1, 1) := by decide +kernel
theorem dX5_lookedAt_15 : decode cX5_lookedAt 15 = .ok (.aload_n 0, 1) := by decide +kernel
theorem dX5_lookedAt_16 : decode cX5_lookedAt 16 = .ok (.getfield 49, 3) := by decide +kernel
theorem dX5_lookedAt_19 : decode cX5_lookedAt 19 = .ok (.invokevirtual 63, 3) := by decide +kernel
theorem dX5_lookedAt_22 : decode cX5_lookedAt 22 = .ok (.aload_n 0, 1) := by decide +kernel
theorem dX5_lookedAt_23 : decode cX5_lookedAt 23 = .ok (.getfield 67, 3) := by decide +kernel
theorem dX5_lookedAt_26 : decode cX5_lookedAt 26 = .ok (.if_icmp .ne 7, 3) := by decide +kernel
theorem dX5_lookedAt_29 : decode cX5_lookedAt 29 = .ok (.lconst 1, 1) := by decide +kernel
theorem dX5_lookedAt_30 : decode cX5_lookedAt 30 = .ok (.goto 4, 3) := by decide +kernel
theorem dX5_lookedAt_33 : decode cX5_lookedAt 33 = .ok (.lconst 0, 1) := by decide +kernel
theorem dX5_lookedAt_34 : decode cX5_lookedAt 34 = .ok (.lreturn, 1) := by decide +kernel
theorem dX5_commonDivisor_0 : decode cX5_commonDivisor 0 = .ok (.lload_n 0, 1) := by decide +kernel
theorem dX5_commonDivisor_1 : decode cX5_commonDivisor 1 = .ok (.lstore 4, 2) := by decide +kernel
theorem dX5_commonDivisor_3 : decode cX5_commonDivisor 3 = .ok (.lload_n 2, 1) := by decide +kernel
theorem dX5_commonDivisor_4 : decode cX5_commonDivisor 4 = .ok (.lstore 6, 2) := by decide +kernel
theorem dX5_commonDivisor_6 : decode cX5_commonDivisor 6 = .ok (.iconst 0, 1) := by decide +kernel
theorem dX5_commonDivisor_7 : decode cX5_commonDivisor 7 = .ok (.istore 8, 2) := by decide +kernel
theorem dX5_commonDivisor_9 : decode cX5_commonDivisor 9 = .ok (.iload 8, 2) := by decide +kernel
theorem dX5_commonDivisor_11 : decode cX5_commonDivisor 11 = .ok (.sipush 200, 3) := by decide +kernel
theorem dX5_commonDivisor_14 : decode cX5_commonDivisor 14 = .ok (.if_icmp .ge 31, 3) := by decide +kernel
theorem dX5_commonDivisor_17 : decode cX5_commonDivisor 17 = .ok (.lload 6, 2) := by decide +kernel
theorem dX5_commonDivisor_19 : decode cX5_commonDivisor 19 = .ok (.lconst 0, 1) := by decide +kernel
theorem dX5_commonDivisor_20 : decode cX5_commonDivisor 20 = .ok (.lcmp, 1) := by decide +kernel
theorem dX5_commonDivisor_21 : decode cX5_commonDivisor 21 = .ok (.ifCond .eq 24, 3) := by decide +kernel
theorem dX5_commonDivisor_24 : decode cX5_commonDivisor 24 = .ok (.lload 4, 2) := by decide +kernel
theorem dX5_commonDivisor_26 : decode cX5_commonDivisor 26 = .ok (.lload 6, 2) := by decide +kernel
theorem dX5_commonDivisor_28 : decode cX5_commonDivisor 28 = .ok (.lrem, 1) := by decide +kernel
theorem dX5_commonDivisor_29 : decode cX5_commonDivisor 29 = .ok (.lstore 9, 2) := by decide +kernel
theorem dX5_commonDivisor_31 : decode cX5_commonDivisor 31 = .ok (.lload 6, 2) := by decide +kernel
theorem dX5_commonDivisor_33 : decode cX5_commonDivisor 33 = .ok (.lstore 4, 2) := by decide +kernel
theorem dX5_commonDivisor_35 : decode cX5_commonDivisor 35 = .ok (.lload 9, 2) := by decide +kernel
theorem dX5_commonDivisor_37 : decode cX5_commonDivisor 37 = .ok (.lstore 6, 2) := by decide +kernel
theorem dX5_commonDivisor_39 : decode cX5_commonDivisor 39 = .ok (.iinc 8 1, 3) := by decide +kernel
theorem dX5_commonDivisor_42 : decode cX5_commonDivisor 42 = .ok (.goto (-33), 3) := by decide +kernel
theorem dX5_commonDivisor_45 : decode cX5_commonDivisor 45 = .ok (.lload 4, 2) := by decide +kernel
theorem dX5_commonDivisor_47 : decode cX5_commonDivisor 47 = .ok (.lreturn, 1) := by decide +kernel
theorem dJ6_bitCount_0f7a4_0 : decode cJ6_bitCount_0f7a4 0 = .ok (.iload_n 0, 1) := by decide +kernel
theorem dJ6_bitCount_0f7a4_1 : decode cJ6_bitCount_0f7a4 1 = .ok (.iload_n 0, 1) := by decide +kernel
theorem dJ6_bitCount_0f7a4_2 : decode cJ6_bitCount_0f7a4 2 = .ok (.iconst 1, 1) := by decide +kernel
theorem dJ6_bitCount_0f7a4_3 : decode cJ6_bitCount_0f7a4 3 = .ok (.iushr, 1) := by decide +kernel
theorem dJ6_bitCount_0f7a4_4 : decode cJ6_bitCount_0f7a4 4 = .ok (.ldc_w 265, 3) := by decide +kernel
theorem dJ6_bitCount_0f7a4_7 : decode cJ6_bitCount_0f7a4 7 = .ok (.iand, 1) := by decide +kernel
theorem dJ6_bitCount_0f7a4_8 : decode cJ6_bitCount_0f7a4 8 = .ok (.isub, 1) := by decide +kernel
theorem dJ6_bitCount_0f7a4_9 : decode cJ6_bitCount_0f7a4 9 = .ok (.istore_n 0, 1) := by decide +kernel
theorem dJ6_bitCount_0f7a4_10 : decode cJ6_bitCount_0f7a4 10 = .ok (.iload_n 0, 1) := by decide +kernel
theorem dJ6_bitCount_0f7a4_11 : decode cJ6_bitCount_0f7a4 11 = .ok (.ldc_w 266, 3) := by decide +kernel
theorem dJ6_bitCount_0f7a4_14 : decode cJ6_bitCount_0f7a4 14 = .ok (.iand, 1) := by decide +kernel
theorem dJ6_bitCount_0f7a4_15 : decode cJ6_bitCount_0f7a4 15 = .ok (.iload_n 0, 1) := by decide +kernel
theorem dJ6_bitCount_0f7a4_16 : decode cJ6_bitCount_0f7a4 16 = .ok (.iconst 2, 1) := by decide +kernel
theorem dJ6_bitCount_0f7a4_17 : decode cJ6_bitCount_0f7a4 17 = .ok (.iushr, 1) := by decide +kernel
theorem dJ6_bitCount_0f7a4_18 : decode cJ6_bitCount_0f7a4 18 = .ok (.ldc_w 266, 3) := by decide +kernel
theorem dJ6_bitCount_0f7a4_21 : decode cJ6_bitCount_0f7a4 21 = .ok (.iand, 1) := by decide +kernel
theorem dJ6_bitCount_0f7a4_22 : decode cJ6_bitCount_0f7a4 22 = .ok (.iadd, 1) := by decide +kernel
theorem dJ6_bitCount_0f7a4_23 : decode cJ6_bitCount_0f7a4 23 = .ok (.istore_n 0, 1) := by decide +kernel
theorem dJ6_bitCount_0f7a4_24 : decode cJ6_bitCount_0f7a4 24 = .ok (.iload_n 0, 1) := by decide +kernel
theorem dJ6_bitCount_0f7a4_25 : decode cJ6_bitCount_0f7a4 25 = .ok (.iload_n 0, 1) := by decide +kernel
theorem dJ6_bitCount_0f7a4_26 : decode cJ6_bitCount_0f7a4 26 = .ok (.iconst 4, 1) := by decide +kernel
theorem dJ6_bitCount_0f7a4_27 : decode cJ6_bitCount_0f7a4 27 = .ok (.iushr, 1) := by decide +kernel
theorem dJ6_bitCount_0f7a4_28 : decode cJ6_bitCount_0f7a4 28 = .ok (.iadd, 1) := by decide +kernel
theorem dJ6_bitCount_0f7a4_29 : decode cJ6_bitCount_0f7a4 29 = .ok (.ldc_w 267, 3) := by decide +kernel
theorem dJ6_bitCount_0f7a4_32 : decode cJ6_bitCount_0f7a4 32 = .ok (.iand, 1) := by decide +kernel
theorem dJ6_bitCount_0f7a4_33 : decode cJ6_bitCount_0f7a4 33 = .ok (.istore_n 0, 1) := by decide +kernel
theorem dJ6_bitCount_0f7a4_34 : decode cJ6_bitCount_0f7a4 34 = .ok (.iload_n 0, 1) := by decide +kernel
theorem dJ6_bitCount_0f7a4_35 : decode cJ6_bitCount_0f7a4 35 = .ok (.iload_n 0, 1) := by decide +kernel
theorem dJ6_bitCount_0f7a4_36 : decode cJ6_bitCount_0f7a4 36 = .ok (.bipush 8, 2) := by decide +kernel
theorem dJ6_bitCount_0f7a4_38 : decode cJ6_bitCount_0f7a4 38 = .ok (.iushr, 1) := by decide +kernel
theorem dJ6_bitCount_0f7a4_39 : decode cJ6_bitCount_0f7a4 39 = .ok (.iadd, 1) := by decide +kernel
theorem dJ6_bitCount_0f7a4_40 : decode cJ6_bitCount_0f7a4 40 = .ok (.istore_n 0, 1) := by decide +kernel
theorem dJ6_bitCount_0f7a4_41 : decode cJ6_bitCount_0f7a4 41 = .ok (.iload_n 0, 1) := by decide +kernel
theorem dJ6_bitCount_0f7a4_42 : decode cJ6_bitCount_0f7a4 42 = .ok (.iload_n 0, 1) := by decide +kernel
theorem dJ6_bitCount_0f7a4_43 : decode cJ6_bitCount_0f7a4 43 = .ok (.bipush 16, 2) := by decide +kernel
theorem dJ6_bitCount_0f7a4_45 : decode cJ6_bitCount_0f7a4 45 = .ok (.iushr, 1) := by decide +kernel
theorem dJ6_bitCount_0f7a4_46 : decode cJ6_bitCount_0f7a4 46 = .ok (.iadd, 1) := by decide +kernel
theorem dJ6_bitCount_0f7a4_47 : decode cJ6_bitCount_0f7a4 47 = .ok (.istore_n 0, 1) := by decide +kernel
theorem dJ6_bitCount_0f7a4_48 : decode cJ6_bitCount_0f7a4 48 = .ok (.iload_n 0, 1) := by decide +kernel
theorem dJ6_bitCount_0f7a4_49 : decode cJ6_bitCount_0f7a4 49 = .ok (.bipush 63, 2) := by decide +kernel
theorem dJ6_bitCount_0f7a4_51 : decode cJ6_bitCount_0f7a4 51 = .ok (.iand, 1) := by decide +kernel
theorem dJ6_bitCount_0f7a4_52 : decode cJ6_bitCount_0f7a4 52 = .ok (.ireturn, 1) := by decide +kernel
theorem dJ9_abs_0f7a4_0 : decode cJ9_abs_0f7a4 0 = .ok (.iload_n 0, 1) := by decide +kernel
theorem dJ9_abs_0f7a4_1 : decode cJ9_abs_0f7a4 1 = .ok (.ifCond .ge 8, 3) := by decide +kernel
theorem dJ9_abs_0f7a4_4 : decode cJ9_abs_0f7a4 4 = .ok (.iload_n 0, 1) := by decide +kernel
theorem dJ9_abs_0f7a4_5 : decode cJ9_abs_0f7a4 5 = .ok (.ineg, 1) := by decide +kernel
theorem dJ9_abs_0f7a4_6 : decode cJ9_abs_0f7a4 6 = .ok (.goto 4, 3) := by decide +kernel
theorem dJ9_abs_0f7a4_9 : decode cJ9_abs_0f7a4 9 = .ok (.iload_n 0, 1) := by decide +kernel
theorem dJ9_abs_0f7a4_10 : decode cJ9_abs_0f7a4 10 = .ok (.ireturn, 1) := by decide +kernel
theorem dJ9_max_7cf53_0 : decode cJ9_max_7cf53 0 = .ok (.iload_n 0, 1) := by decide +kernel
theorem dJ9_max_7cf53_1 : decode cJ9_max_7cf53 1 = .ok (.iload_n 1, 1) := by decide +kernel
theorem dJ9_max_7cf53_2 : decode cJ9_max_7cf53 2 = .ok (.if_icmp .lt 7, 3) := by decide +kernel
theorem dJ9_max_7cf53_5 : decode cJ9_max_7cf53 5 = .ok (.iload_n 0, 1) := by decide +kernel
theorem dJ9_max_7cf53_6 : decode cJ9_max_7cf53 6 = .ok (.goto 4, 3) := by decide +kernel
theorem dJ9_max_7cf53_9 : decode cJ9_max_7cf53 9 = .ok (.iload_n 1, 1) := by decide +kernel
theorem dJ9_max_7cf53_10 : decode cJ9_max_7cf53 10 = .ok (.ireturn, 1) := by decide +kernel
theorem dJ9_min_7cf53_0 : decode cJ9_min_7cf53 0 = .ok (.iload_n 0, 1) := by decide +kernel
theorem dJ9_min_7cf53_1 : decode cJ9_min_7cf53 1 = .ok (.iload_n 1, 1) := by decide +kernel
theorem dJ9_min_7cf53_2 : decode cJ9_min_7cf53 2 = .ok (.if_icmp .gt 7, 3) := by decide +kernel
theorem dJ9_min_7cf53_5 : decode cJ9_min_7cf53 5 = .ok (.iload_n 0, 1) := by decide +kernel
theorem dJ9_min_7cf53_6 : decode cJ9_min_7cf53 6 = .ok (.goto 4, 3) := by decide +kernel
theorem dJ9_min_7cf53_9 : decode cJ9_min_7cf53 9 = .ok (.iload_n 1, 1) := by decide +kernel
theorem dJ9_min_7cf53_10 : decode cJ9_min_7cf53 10 = .ok (.ireturn, 1) := by decide +kernel
theorem dJ0_length_8abf5_0 : decode cJ0_length_8abf5 0 = .ok (.aload_n 0, 1) := by decide +kernel
theorem dJ0_length_8abf5_1 : decode cJ0_length_8abf5 1 = .ok (.getfield 9, 3) := by decide +kernel
theorem dJ0_length_8abf5_4 : decode cJ0_length_8abf5 4 = .ok (.arraylength, 1) := by decide +kernel
theorem dJ0_length_8abf5_5 : decode cJ0_length_8abf5 5 = .ok (.aload_n 0, 1) := by decide +kernel
theorem dJ0_length_8abf5_6 : decode cJ0_length_8abf5 6 = .ok (.invokevirtual 335, 3) := by decide +kernel
theorem dJ0_length_8abf5_9 : decode cJ0_length_8abf5 9 = .ok (.ishr, 1) := by decide +kernel
theorem dJ0_length_8abf5_10 : decode cJ0_length_8abf5 10 = .ok (.ireturn, 1) := by decide +kernel
theorem dJ0_charAt_5068e_0 : decode cJ0_charAt_5068e 0 = .ok (.aload_n 0, 1) := by decide +kernel
theorem dJ0_charAt_5068e_1 : decode cJ0_charAt_5068e 1 = .ok (.invokevirtual 492, 3) := by decide +kernel
theorem dJ0_charAt_5068e_4 : decode cJ0_charAt_5068e 4 = .ok (.ifCond .eq 12, 3) := by decide +kernel
theorem dJ0_charAt_5068e_7 : decode cJ0_charAt_5068e 7 = .ok (.aload_n 0, 1) := by decide +kernel
theorem dJ0_charAt_5068e_8 : decode cJ0_charAt_5068e 8 = .ok (.getfield 9, 3) := by decide +kernel
theorem dJ0_charAt_5068e_11 : decode cJ0_charAt_5068e 11 = .ok (.iload_n 1, 1) := by decide +kernel
theorem dJ0_charAt_5068e_12 : decode cJ0_charAt_5068e 12 = .ok (.invokestatic 495, 3) := by decide +kernel
theorem dJ0_charAt_5068e_15 : decode cJ0_charAt_5068e 15 = .ok (.ireturn, 1) := by decide +kernel
theorem dJ0_charAt_5068e_16 : decode cJ0_charAt_5068e 16 = .ok (.aload_n 0, 1) := by decide +kernel
theorem dJ0_charAt_5068e_17 : decode cJ0_charAt_5068e 17 = .ok (.getfield 9, 3) := by decide +kernel
theorem dJ0_charAt_5068e_20 : decode cJ0_charAt_5068e 20 = .ok (.iload_n 1, 1) := by decide +kernel
theorem dJ0_charAt_5068e_21 : decode cJ0_charAt_5068e 21 = .ok (.invokestatic 498, 3) := by decide +kernel
theorem dJ0_charAt_5068e_24 : decode cJ0_charAt_5068e 24 = .ok (.ireturn, 1) := by decide +kernel
theorem dJ0_coder_7d493_0 : decode cJ0_coder_7d493 0 = .ok (.getstatic 38, 3) := by decide +kernel
theorem dJ0_coder_7d493_3 : decode cJ0_coder_7d493 3 = .ok (.ifCond .eq 10, 3) := by decide +kernel
theorem dJ0_coder_7d493_6 : decode cJ0_coder_7d493 6 = .ok (.aload_n 0, 1) := by decide +kernel
theorem dJ0_coder_7d493_7 : decode cJ0_coder_7d493 7 = .ok (.getfield 15, 3) := by decide +kernel
theorem dJ0_coder_7d493_10 : decode cJ0_coder_7d493 10 = .ok (.goto 4, 3) := by decide +kernel
theorem dJ0_coder_7d493_13 : decode cJ0_coder_7d493 13 = .ok (.iconst 1, 1) := by decide +kernel
theorem dJ0_coder_7d493_14 : decode cJ0_coder_7d493 14 = .ok (.ireturn, 1) := by decide +kernel
theorem dJ0_isLatin1_aae02_0 : decode cJ0_isLatin1_aae02 0 = .ok (.getstatic 38, 3) := by decide +kernel
theorem dJ0_isLatin1_aae02_3 : decode cJ0_isLatin1_aae02 3 = .ok (.ifCond .eq 14, 3) := by decide +kernel
theorem dJ0_isLatin1_aae02_6 : decode cJ0_isLatin1_aae02 6 = .ok (.aload_n 0, 1) := by decide +kernel
theorem dJ0_isLatin1_aae02_7 : decode cJ0_isLatin1_aae02 7 = .ok (.getfield 15, 3) := by decide +kernel
theorem dJ0_isLatin1_aae02_10 : decode cJ0_isLatin1_aae02 10 = .ok (.ifCond .ne 7, 3) := by decide +kernel
theorem dJ0_isLatin1_aae02_13 : decode cJ0_isLatin1_aae02 13 = .ok (.iconst 1, 1) := by decide +kernel
theorem dJ0_isLatin1_aae02_14 : decode cJ0_isLatin1_aae02 14 = .ok (.goto 4, 3) := by decide +kernel
theorem dJ0_isLatin1_aae02_17 : decode cJ0_isLatin1_aae02 17 = .ok (.iconst 0, 1) := by decide +kernel
theorem dJ0_isLatin1_aae02_18 : decode cJ0_isLatin1_aae02 18 = .ok (.ireturn, 1) := by decide +kernel
theorem dJ0_checkIndex_df160_0 : decode cJ0_checkIndex_df160 0 = .ok (.iload_n 0, 1) := by decide +kernel
theorem dJ0_checkIndex_df160_1 : decode cJ0_checkIndex_df160 1 = .ok (.iload_n 1, 1) := by decide +kernel
theorem dJ0_checkIndex_df160_2 : decode cJ0_checkIndex_df160 2 = .ok (.getstatic 1053, 3) := by decide +kernel
theorem dJ0_checkIndex_df160_5 : decode cJ0_checkIndex_df160 5 = .ok (.invokestatic 1059, 3) := by decide +kernel
theorem dJ0_checkIndex_df160_8 : decode cJ0_checkIndex_df160 8 = .ok (.pop, 1) := by decide +kernel
theorem dJ0_checkIndex_df160_9 : decode cJ0_checkIndex_df160 9 = .ok (.return_, 1) := by decide +kernel
theorem dJ1_charAt_3b067_0 : decode cJ1_charAt_3b067 0 = .ok (.iload_n 1, 1) := by decide +kernel
theorem dJ1_charAt_3b067_1 : decode cJ1_charAt_3b067 1 = .ok (.aload_n 0, 1) := by decide +kernel
theorem dJ1_charAt_3b067_2 : decode cJ1_charAt_3b067 2 = .ok (.arraylength, 1) := by decide +kernel
theorem dJ1_charAt_3b067_3 : decode cJ1_charAt_3b067 3 = .ok (.invokestatic 9, 3) := by decide +kernel
theorem dJ1_charAt_3b067_6 : decode cJ1_charAt_3b067 6 = .ok (.aload_n 0, 1) := by decide +kernel
theorem dJ1_charAt_3b067_7 : decode cJ1_charAt_3b067 7 = .ok (.iload_n 1, 1) := by decide +kernel
theorem dJ1_charAt_3b067_8 : decode cJ1_charAt_3b067 8 = .ok (.baload, 1) := by decide +kernel
theorem dJ1_charAt_3b067_9 : decode cJ1_charAt_3b067 9 = .ok (.sipush 255, 3) := by decide +kernel
theorem dJ1_charAt_3b067_12 : decode cJ1_charAt_3b067 12 = .ok (.iand, 1) := by decide +kernel
theorem dJ1_charAt_3b067_13 : decode cJ1_charAt_3b067 13 = .ok (.i2c, 1) := by decide +kernel
theorem dJ1_charAt_3b067_14 : decode cJ1_charAt_3b067 14 = .ok (.ireturn, 1) := by decide +kernel
theorem dJ2_getChar_3b067_0 : decode cJ2_getChar_3b067 0 = .ok (.getstatic 44, 3) := by decide +kernel
theorem dJ2_getChar_3b067_3 : decode cJ2_getChar_3b067 3 = .ok (.ifCond .ne 25, 3) := by decide +kernel
theorem dJ2_getChar_3b067_6 : decode cJ2_getChar_3b067 6 = .ok (.iload_n 1, 1) := by decide +kernel
theorem dJ2_getChar_3b067_7 : decode cJ2_getChar_3b067 7 = .ok (.ifCond .lt 11, 3) := by decide +kernel
theorem dJ2_getChar_3b067_10 : decode cJ2_getChar_3b067 10 = .ok (.iload_n 1, 1) := by decide +kernel
theorem dJ2_getChar_3b067_11 : decode cJ2_getChar_3b067 11 = .ok (.aload_n 0, 1) := by decide +kernel
theorem dJ2_getChar_3b067_12 : decode cJ2_getChar_3b067 12 = .ok (.invokestatic 48, 3) := by decide +kernel
theorem dJ2_getChar_3b067_15 : decode cJ2_getChar_3b067 15 = .ok (.if_icmp .lt 13, 3) := by decide +kernel
theorem dJ2_getChar_3b067_18 : decode cJ2_getChar_3b067 18 = .ok (.new 52, 3) := by decide +kernel
theorem dJ2_getChar_3b067_21 : decode cJ2_getChar_3b067 21 = .ok (.dup, 1) := by decide +kernel
theorem dJ2_getChar_3b067_22 : decode cJ2_getChar_3b067 22 = .ok (.ldc 54, 2) := by decide +kernel
theorem dJ2_getChar_3b067_24 : decode cJ2_getChar_3b067 24 = .ok (.invokespecial 56, 3) := by decide +kernel
theorem dJ2_getChar_3b067_27 : decode cJ2_getChar_3b067 27 = .ok (.athrow, 1) := by decide +kernel
theorem dJ2_getChar_3b067_28 : decode cJ2_getChar_3b067 28 = .ok (.iload_n 1, 1) := by decide +kernel
theorem dJ2_getChar_3b067_29 : decode cJ2_getChar_3b067 29 = .ok (.iconst 1, 1) := by decide +kernel
theorem dJ2_getChar_3b067_30 : decode cJ2_getChar_3b067 30 = .ok (.ishl, 1) := by decide +kernel
theorem dJ2_getChar_3b067_31 : decode cJ2_getChar_3b067 31 = .ok (.istore_n 1, 1) := by decide +kernel
theorem dJ2_getChar_3b067_32 : decode cJ2_getChar_3b067 32 = .ok (.aload_n 0, 1) := by decide +kernel
theorem dJ2_getChar_3b067_33 : decode cJ2_getChar_3b067 33 = .ok (.iload_n 1, 1) := by decide +kernel
theorem dJ2_getChar_3b067_34 : decode cJ2_getChar_3b067 34 = .ok (.iinc 1 1, 3) := by decide +kernel
theorem dJ2_getChar_3b067_37 : decode cJ2_getChar_3b067 37 = .ok (.baload, 1) := by decide +kernel
theorem dJ2_getChar_3b067_38 : decode cJ2_getChar_3b067 38 = .ok (.sipush 255, 3) := by decide +kernel
theorem dJ2_getChar_3b067_41 : decode cJ2_getChar_3b067 41 = .ok (.iand, 1) := by decide +kernel
theorem dJ2_getChar_3b067_42 : decode cJ2_getChar_3b067 42 = .ok (.getstatic 59, 3) := by decide +kernel
theorem dJ2_getChar_3b067_45 : decode cJ2_getChar_3b067 45 = .ok (.ishl, 1) := by decide +kernel
theorem dJ2_getChar_3b067_46 : decode cJ2_getChar_3b067 46 = .ok (.aload_n 0, 1) := by decide +kernel
theorem dJ2_getChar_3b067_47 : decode cJ2_getChar_3b067 47 = .ok (.iload_n 1, 1) := by decide +kernel
theorem dJ2_getChar_3b067_48 : decode cJ2_getChar_3b067 48 = .ok (.baload, 1) := by decide +kernel
theorem dJ2_getChar_3b067_49 : decode cJ2_getChar_3b067 49 = .ok (.sipush 255, 3) := by decide +kernel
theorem dJ2_getChar_3b067_52 : decode cJ2_getChar_3b067 52 = .ok (.iand, 1) := by decide +kernel
theorem dJ2_getChar_3b067_53 : decode cJ2_getChar_3b067 53 = .ok (.getstatic 63, 3) := by decide +kernel
theorem dJ2_getChar_3b067_56 : decode cJ2_getChar_3b067 56 = .ok (.ishl, 1) := by decide +kernel
theorem dJ2_getChar_3b067_57 : decode cJ2_getChar_3b067 57 = .ok (.ior, 1) := by decide +kernel
theorem dJ2_getChar_3b067_58 : decode cJ2_getChar_3b067 58 = .ok (.i2c, 1) := by decide +kernel
theorem dJ2_getChar_3b067_59 : decode cJ2_getChar_3b067 59 = .ok (.ireturn, 1) := by decide +kernel
theorem dJ2_length_9d52b_0 : decode cJ2_length_9d52b 0 = .ok (.aload_n 0, 1) := by decide +kernel
theorem dJ2_length_9d52b_1 : decode cJ2_length_9d52b 1 = .ok (.arraylength, 1) := by decide +kernel
theorem dJ2_length_9d52b_2 : decode cJ2_length_9d52b 2 = .ok (.iconst 1, 1) := by decide +kernel
theorem dJ2_length_9d52b_3 : decode cJ2_length_9d52b 3 = .ok (.ishr, 1) := by decide +kernel
theorem dJ2_length_9d52b_4 : decode cJ2_length_9d52b 4 = .ok (.ireturn, 1) := by decide +kernel
theorem dJ2_charAt_3b067_0 : decode cJ2_charAt_3b067 0 = .ok (.iload_n 1, 1) := by decide +kernel
theorem dJ2_charAt_3b067_1 : decode cJ2_charAt_3b067 1 = .ok (.aload_n 0, 1) := by decide +kernel
theorem dJ2_charAt_3b067_2 : decode cJ2_charAt_3b067 2 = .ok (.invokestatic 67, 3) := by decide +kernel
theorem dJ2_charAt_3b067_5 : decode cJ2_charAt_3b067 5 = .ok (.aload_n 0, 1) := by decide +kernel
theorem dJ2_charAt_3b067_6 : decode cJ2_charAt_3b067 6 = .ok (.iload_n 1, 1) := by decide +kernel
theorem dJ2_charAt_3b067_7 : decode cJ2_charAt_3b067 7 = .ok (.invokestatic 71, 3) := by decide +kernel
theorem dJ2_charAt_3b067_10 : decode cJ2_charAt_3b067 10 = .ok (.ireturn, 1) := by decide +kernel
theorem dJ2_checkIndex_2214a_0 : decode cJ2_checkIndex_2214a 0 = .ok (.iload_n 0, 1) := by decide +kernel
theorem dJ2_checkIndex_2214a_1 : decode cJ2_checkIndex_2214a 1 = .ok (.aload_n 1, 1) := by decide +kernel
theorem dJ2_checkIndex_2214a_2 : decode cJ2_checkIndex_2214a 2 = .ok (.invokestatic 48, 3) := by decide +kernel
theorem dJ2_checkIndex_2214a_5 : decode cJ2_checkIndex_2214a 5 = .ok (.invokestatic 414, 3) := by decide +kernel
theorem dJ2_checkIndex_2214a_8 : decode cJ2_checkIndex_2214a 8 = .ok (.return_, 1) := by decide +kernel
theorem dJ3_checkIndex_8e157_0 : decode cJ3_checkIndex_8e157 0 = .ok (.iload_n 0, 1) := by decide +kernel
theorem dJ3_checkIndex_8e157_1 : decode cJ3_checkIndex_8e157 1 = .ok (.ifCond .lt 8, 3) := by decide +kernel
theorem dJ3_checkIndex_8e157_4 : decode cJ3_checkIndex_8e157 4 = .ok (.iload_n 0, 1) := by decide +kernel
theorem dJ3_checkIndex_8e157_5 : decode cJ3_checkIndex_8e157 5 = .ok (.iload_n 1, 1) := by decide +kernel
theorem dJ3_checkIndex_8e157_6 : decode cJ3_checkIndex_8e157 6 = .ok (.if_icmp .lt 10, 3) := by decide +kernel
theorem dJ3_checkIndex_8e157_9 : decode cJ3_checkIndex_8e157 9 = .ok (.aload_n 2, 1) := by decide +kernel
theorem dJ3_checkIndex_8e157_10 : decode cJ3_checkIndex_8e157 10 = .ok (.iload_n 0, 1) := by decide +kernel
theorem dJ3_checkIndex_8e157_11 : decode cJ3_checkIndex_8e157 11 = .ok (.iload_n 1, 1) := by decide +kernel
theorem dJ3_checkIndex_8e157_12 : decode cJ3_checkIndex_8e157 12 = .ok (.invokestatic 95, 3) := by decide +kernel
theorem dJ3_checkIndex_8e157_15 : decode cJ3_checkIndex_8e157 15 = .ok (.athrow, 1) := by decide +kernel
theorem dJ3_checkIndex_8e157_16 : decode cJ3_checkIndex_8e157 16 = .ok (.iload_n 0, 1) := by decide +kernel
theorem dJ3_checkIndex_8e157_17 : decode cJ3_checkIndex_8e157 17 = .ok (.ireturn, 1) := by decide +kernel
