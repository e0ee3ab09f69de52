theorem dX0_init_0 : decode cX0_init 0 = .ok (.aload_n 0, 1) := by decide +kernel
theorem dX0_init_1 : decode cX0_init 1 = .ok (.invokespecial 3, 3) := by decide +kernel
theorem dX0_init_4 : decode cX0_init 4 = .ok (.aload_n 0, 1) := by decide +kernel
theorem dX0_init_5 : decode cX0_init 5 = .ok (.bipush 32, 2) := by decide +kernel
theorem dX0_init_7 : decode cX0_init 7 = .ok (.newarray .int, 2) := by decide +kernel
theorem dX0_init_9 : decode cX0_init 9 = .ok (.putfield 9, 3) := by decide +kernel
theorem dX0_init_12 : decode cX0_init 12 = .ok (.aload_n 0, 1) := by decide +kernel
theorem dX0_init_13 : decode cX0_init 13 = .ok (.bipush 32, 2) := by decide +kernel
theorem dX0_init_15 : decode cX0_init 15 = .ok (.newarray .int, 2) := by decide +kernel
theorem dX0_init_17 : decode cX0_init 17 = .ok (.putfield 15, 3) := by decide +kernel
theorem dX0_init_20 : decode cX0_init 20 = .ok (.aload_n 0, 1) := by decide +kernel
theorem dX0_init_21 : decode cX0_init 21 = .ok (.bipush 60, 2) := by decide +kernel
theorem dX0_init_23 : decode cX0_init 23 = .ok (.newarray .int, 2) := by decide +kernel
theorem dX0_init_25 : decode cX0_init 25 = .ok (.putfield 18, 3) := by decide +kernel
theorem dX0_init_28 : decode cX0_init 28 = .ok (.aload_n 0, 1) := by decide +kernel
theorem dX0_init_29 : decode cX0_init 29 = .ok (.bipush 60, 2) := by decide +kernel
theorem dX0_init_31 : decode cX0_init 31 = .ok (.newarray .int, 2) := by decide +kernel
theorem dX0_init_33 : decode cX0_init 33 = .ok (.putfield 21, 3) := by decide +kernel
theorem dX0_init_36 : decode cX0_init 36 = .ok (.aload_n 0, 1) := by decide +kernel
theorem dX0_init_37 : decode cX0_init 37 = .ok (.bipush 60, 2) := by decide +kernel
theorem dX0_init_39 : decode cX0_init 39 = .ok (.newarray .int, 2) := by decide +kernel
theorem dX0_init_41 : decode cX0_init 41 = .ok (.putfield 24, 3) := by decide +kernel
theorem dX0_init_44 : decode cX0_init 44 = .ok (.aload_n 0, 1) := by decide +kernel
theorem dX0_init_45 : decode cX0_init 45 = .ok (.bipush 60, 2) := by decide +kernel
theorem dX0_init_47 : decode cX0_init 47 = .ok (.newarray .int, 2) := by decide +kernel
theorem dX0_init_49 : decode cX0_init 49 = .ok (.putfield 27, 3) := by decide +kernel
theorem dX0_init_52 : decode cX0_init 52 = .ok (.aload_n 0, 1) := by decide +kernel
theorem dX0_init_53 : decode cX0_init 53 = .ok (.iconst 0, 1) := by decide +kernel
theorem dX0_init_54 : decode cX0_init 54 = .ok (.putfield 30, 3) := by decide +kernel
theorem dX0_init_57 : decode cX0_init 57 = .ok (.aload_n 0, 1) := by decide +kernel
theorem dX0_init_58 : decode cX0_init 58 = .ok (.iconst 0, 1) := by decide +kernel
theorem dX0_init_59 : decode cX0_init 59 = .ok (.putfield 34, 3) := by decide +kernel
theorem dX0_init_62 : decode cX0_init 62 = .ok (.aload_n 0, 1) := by decide +kernel
theorem dX0_init_63 : decode cX0_init 63 = .ok (.iconst 0, 1) := by decide +kernel
theorem dX0_init_64 : decode cX0_init 64 = .ok (.putfield 37, 3) := by decide +kernel
theorem dX0_init_67 : decode cX0_init 67 = .ok (.aload_n 0, 1) := by decide +kernel
theorem dX0_init_68 : decode cX0_init 68 = .ok (.iconst 0, 1) := by decide +kernel
theorem dX0_init_69 : decode cX0_init 69 = .ok (.putfield 40, 3) := by decide +kernel
theorem dX0_init_72 : decode cX0_init 72 = .ok (.aload_n 0, 1) := by decide +kernel
theorem dX0_init_73 : decode cX0_init 73 = .ok (.iconst 0, 1) := by decide +kernel
theorem dX0_init_74 : decode cX0_init 74 = .ok (.putfield 44, 3) := by decide +kernel
theorem dX0_init_77 : decode cX0_init 77 = .ok (.aload_n 0, 1) := by decide +kernel
theorem dX0_init_78 : decode cX0_init 78 = .ok (.iconst 0, 1) := by decide +kernel
theorem dX0_init_79 : decode cX0_init 79 = .ok (.putfield 47, 3) := by decide +kernel
theorem dX0_init_82 : decode cX0_init 82 = .ok (.aload_n 0, 1) := by decide +kernel
theorem dX0_init_83 : decode cX0_init 83 = .ok (.iconst 0, 1) := by decide +kernel
theorem dX0_init_84 : decode cX0_init 84 = .ok (.putfield 50, 3) := by decide +kernel
theorem dX0_init_87 : decode cX0_init 87 = .ok (.return_, 1) := by decide +kernel
theorem dX0_hasRoom_0 : decode cX0_hasRoom 0 = .ok (.aload_n 0, 1) := by decide +kernel
theorem dX0_hasRoom_1 : decode cX0_hasRoom 1 = .ok (.getfield 30, 3) := by decide +kernel
theorem dX0_hasRoom_4 : decode cX0_hasRoom 4 = .ok (.iload_n 1, 1) := by decide +kernel
theorem dX0_hasRoom_5 : decode cX0_hasRoom 5 = .ok (.iadd, 1) := by decide +kernel
theorem dX0_hasRoom_6 : decode cX0_hasRoom 6 = .ok (.bipush 60, 2) := by decide +kernel
theorem dX0_hasRoom_8 : decode cX0_hasRoom 8 = .ok (.if_icmp .gt 7, 3) := by decide +kernel
theorem dX0_hasRoom_11 : decode cX0_hasRoom 11 = .ok (.iconst 1, 1) := by decide +kernel
theorem dX0_hasRoom_12 : decode cX0_hasRoom 12 = .ok (.goto 4, 3) := by decide +kernel
theorem dX0_hasRoom_15 : decode cX0_hasRoom 15 = .ok (.iconst 0, 1) := by decide +kernel
theorem dX0_hasRoom_16 : decode cX0_hasRoom 16 = .ok (.ireturn, 1) := by decide +kernel
theorem dX0_enqueueWrite_0 : decode cX0_enqueueWrite 0 = .ok (.iload_n 1, 1) := by decide +kernel
theorem dX0_enqueueWrite_1 : decode cX0_enqueueWrite 1 = .ok (.invokestatic 53, 3) := by decide +kernel
theorem dX0_enqueueWrite_4 : decode cX0_enqueueWrite 4 = .ok (.ifCond .eq 12, 3) := by decide +kernel
theorem dX0_enqueueWrite_7 : decode cX0_enqueueWrite 7 = .ok (.aload_n 0, 1) := by decide +kernel
theorem dX0_enqueueWrite_8 : decode cX0_enqueueWrite 8 = .ok (.getfield 30, 3) := by decide +kernel
theorem dX0_enqueueWrite_11 : decode cX0_enqueueWrite 11 = .ok (.bipush 60, 2) := by decide +kernel
theorem dX0_enqueueWrite_13 : decode cX0_enqueueWrite 13 = .ok (.if_icmp .lt 4, 3) := by decide +kernel
theorem dX0_enqueueWrite_16 : decode cX0_enqueueWrite 16 = .ok (.return_, 1) := by decide +kernel
theorem dX0_enqueueWrite_17 : decode cX0_enqueueWrite 17 = .ok (.aload_n 0, 1) := by decide +kernel
theorem dX0_enqueueWrite_18 : decode cX0_enqueueWrite 18 = .ok (.getfield 37, 3) := by decide +kernel
theorem dX0_enqueueWrite_21 : decode cX0_enqueueWrite 21 = .ok (.ifCond .eq 10, 3) := by decide +kernel
theorem dX0_enqueueWrite_24 : decode cX0_enqueueWrite 24 = .ok (.aload_n 0, 1) := by decide +kernel
theorem dX0_enqueueWrite_25 : decode cX0_enqueueWrite 25 = .ok (.getfield 40, 3) := by decide +kernel
theorem dX0_enqueueWrite_28 : decode cX0_enqueueWrite 28 = .ok (.ifCond .eq 18, 3) := by decide +kernel
theorem dX0_enqueueWrite_31 : decode cX0_enqueueWrite 31 = .ok (.aload_n 0, 1) := by decide +kernel
theorem dX0_enqueueWrite_32 : decode cX0_enqueueWrite 32 = .ok (.dup, 1) := by decide +kernel
theorem dX0_enqueueWrite_33 : decode cX0_enqueueWrite 33 = .ok (.getfield 37, 3) := by decide +kernel
theorem dX0_enqueueWrite_36 : decode cX0_enqueueWrite 36 = .ok (.iconst 1, 1) := by decide +kernel
theorem dX0_enqueueWrite_37 : decode cX0_enqueueWrite 37 = .ok (.iadd, 1) := by decide +kernel
theorem dX0_enqueueWrite_38 : decode cX0_enqueueWrite 38 = .ok (.putfield 37, 3) := by decide +kernel
theorem dX0_enqueueWrite_41 : decode cX0_enqueueWrite 41 = .ok (.aload_n 0, 1) := by decide +kernel
theorem dX0_enqueueWrite_42 : decode cX0_enqueueWrite 42 = .ok (.iconst 0, 1) := by decide +kernel
theorem dX0_enqueueWrite_43 : decode cX0_enqueueWrite 43 = .ok (.putfield 40, 3) := by decide +kernel
theorem dX0_enqueueWrite_46 : decode cX0_enqueueWrite 46 = .ok (.aload_n 0, 1) := by decide +kernel
theorem dX0_enqueueWrite_47 : decode cX0_enqueueWrite 47 = .ok (.getfield 18, 3) := by decide +kernel
theorem dX0_enqueueWrite_50 : decode cX0_enqueueWrite 50 = .ok (.aload_n 0, 1) := by decide +kernel
theorem dX0_enqueueWrite_51 : decode cX0_enqueueWrite 51 = .ok (.getfield 30, 3) := by decide +kernel
theorem dX0_enqueueWrite_54 : decode cX0_enqueueWrite 54 = .ok (.iload_n 1, 1) := by decide +kernel
theorem dX0_enqueueWrite_55 : decode cX0_enqueueWrite 55 = .ok (.iastore, 1) := by decide +kernel
theorem dX0_enqueueWrite_56 : decode cX0_enqueueWrite 56 = .ok (.aload_n 0, 1) := by decide +kernel
theorem dX0_enqueueWrite_57 : decode cX0_enqueueWrite 57 = .ok (.getfield 21, 3) := by decide +kernel
theorem dX0_enqueueWrite_60 : decode cX0_enqueueWrite 60 = .ok (.aload_n 0, 1) := by decide +kernel
theorem dX0_enqueueWrite_61 : decode cX0_enqueueWrite 61 = .ok (.getfield 30, 3) := by decide +kernel
theorem dX0_enqueueWrite_64 : decode cX0_enqueueWrite 64 = .ok (.iload_n 2, 1) := by decide +kernel
theorem dX0_enqueueWrite_65 : decode cX0_enqueueWrite 65 = .ok (.iastore, 1) := by decide +kernel
theorem dX0_enqueueWrite_66 : decode cX0_enqueueWrite 66 = .ok (.aload_n 0, 1) := by decide +kernel
theorem dX0_enqueueWrite_67 : decode cX0_enqueueWrite 67 = .ok (.getfield 24, 3) := by decide +kernel
theorem dX0_enqueueWrite_70 : decode cX0_enqueueWrite 70 = .ok (.aload_n 0, 1) := by decide +kernel
theorem dX0_enqueueWrite_71 : decode cX0_enqueueWrite 71 = .ok (.getfield 30, 3) := by decide +kernel
theorem dX0_enqueueWrite_74 : decode cX0_enqueueWrite 74 = .ok (.iload_n 3, 1) := by decide +kernel
theorem dX0_enqueueWrite_75 : decode cX0_enqueueWrite 75 = .ok (.iastore, 1) := by decide +kernel
theorem dX0_enqueueWrite_76 : decode cX0_enqueueWrite 76 = .ok (.aload_n 0, 1) := by decide +kernel
theorem dX0_enqueueWrite_77 : decode cX0_enqueueWrite 77 = .ok (.getfield 27, 3) := by decide +kernel
theorem dX0_enqueueWrite_80 : decode cX0_enqueueWrite 80 = .ok (.aload_n 0, 1) := by decide +kernel
theorem dX0_enqueueWrite_81 : decode cX0_enqueueWrite 81 = .ok (.getfield 30, 3) := by decide +kernel
theorem dX0_enqueueWrite_84 : decode cX0_enqueueWrite 84 = .ok (.aload_n 0, 1) := by decide +kernel
theorem dX0_enqueueWrite_85 : decode cX0_enqueueWrite 85 = .ok (.getfield 37, 3) := by decide +kernel
theorem dX0_enqueueWrite_88 : decode cX0_enqueueWrite 88 = .ok (.iconst 1, 1) := by decide +kernel
theorem dX0_enqueueWrite_89 : decode cX0_enqueueWrite 89 = .ok (.isub, 1) := by decide +kernel
theorem dX0_enqueueWrite_90 : decode cX0_enqueueWrite 90 = .ok (.iastore, 1) := by decide +kernel
theorem dX0_enqueueWrite_91 : decode cX0_enqueueWrite 91 = .ok (.aload_n 0, 1) := by decide +kernel
theorem dX0_enqueueWrite_92 : decode cX0_enqueueWrite 92 = .ok (.getfield 15, 3) := by decide +kernel
theorem dX0_enqueueWrite_95 : decode cX0_enqueueWrite 95 = .ok (.iconst 2, 1) := by decide +kernel
theorem dX0_enqueueWrite_96 : decode cX0_enqueueWrite 96 = .ok (.iload_n 1, 1) := by decide +kernel
theorem dX0_enqueueWrite_97 : decode cX0_enqueueWrite 97 = .ok (.imul, 1) := by decide +kernel
theorem dX0_enqueueWrite_98 : decode cX0_enqueueWrite 98 = .ok (.iload_n 2, 1) := by decide +kernel
theorem dX0_enqueueWrite_99 : decode cX0_enqueueWrite 99 = .ok (.iastore, 1) := by decide +kernel
theorem dX0_enqueueWrite_100 : decode cX0_enqueueWrite 100 = .ok (.aload_n 0, 1) := by decide +kernel
theorem dX0_enqueueWrite_101 : decode cX0_enqueueWrite 101 = .ok (.getfield 15, 3) := by decide +kernel
theorem dX0_enqueueWrite_104 : decode cX0_enqueueWrite 104 = .ok (.iconst 2, 1) := by decide +kernel
theorem dX0_enqueueWrite_105 : decode cX0_enqueueWrite 105 = .ok (.iload_n 1, 1) := by decide +kernel
theorem dX0_enqueueWrite_106 : decode cX0_enqueueWrite 106 = .ok (.imul, 1) := by decide +kernel
theorem dX0_enqueueWrite_107 : decode cX0_enqueueWrite 107 = .ok (.iconst 1, 1) := by decide +kernel
theorem dX0_enqueueWrite_108 : decode cX0_enqueueWrite 108 = .ok (.iadd, 1) := by decide +kernel
theorem dX0_enqueueWrite_109 : decode cX0_enqueueWrite 109 = .ok (.iload_n 3, 1) := by decide +kernel
theorem dX0_enqueueWrite_110 : decode cX0_enqueueWrite 110 = .ok (.iastore, 1) := by decide +kernel
theorem dX0_enqueueWrite_111 : decode cX0_enqueueWrite 111 = .ok (.aload_n 0, 1) := by decide +kernel
theorem dX0_enqueueWrite_112 : decode cX0_enqueueWrite 112 = .ok (.dup, 1) := by decide +kernel
theorem dX0_enqueueWrite_113 : decode cX0_enqueueWrite 113 = .ok (.getfield 44, 3) := by decide +kernel
theorem dX0_enqueueWrite_116 : decode cX0_enqueueWrite 116 = .ok (.iconst 1, 1) := by decide +kernel
theorem dX0_enqueueWrite_117 : decode cX0_enqueueWrite 117 = .ok (.iload_n 1, 1) := by decide +kernel
theorem dX0_enqueueWrite_118 : decode cX0_enqueueWrite 118 = .ok (.ishl, 1) := by decide +kernel
theorem dX0_enqueueWrite_119 : decode cX0_enqueueWrite 119 = .ok (.ior, 1) := by decide +kernel
theorem dX0_enqueueWrite_120 : decode cX0_enqueueWrite 120 = .ok (.putfield 44, 3) := by decide +kernel
theorem dX0_enqueueWrite_123 : decode cX0_enqueueWrite 123 = .ok (.aload_n 0, 1) := by decide +kernel
theorem dX0_enqueueWrite_124 : decode cX0_enqueueWrite 124 = .ok (.dup, 1) := by decide +kernel
theorem dX0_enqueueWrite_125 : decode cX0_enqueueWrite 125 = .ok (.getfield 30, 3) := by decide +kernel
theorem dX0_enqueueWrite_128 : decode cX0_enqueueWrite 128 = .ok (.iconst 1, 1) := by decide +kernel
theorem dX0_enqueueWrite_129 : decode cX0_enqueueWrite 129 = .ok (.iadd, 1) := by decide +kernel
theorem dX0_enqueueWrite_130 : decode cX0_enqueueWrite 130 = .ok (.putfield 30, 3) := by decide +kernel
theorem dX0_enqueueWrite_133 : decode cX0_enqueueWrite 133 = .ok (.aload_n 0, 1) := by decide +kernel
theorem dX0_enqueueWrite_134 : decode cX0_enqueueWrite 134 = .ok (.dup, 1) := by decide +kernel
theorem dX0_enqueueWrite_135 : decode cX0_enqueueWrite 135 = .ok (.getfield 34, 3) := by decide +kernel
theorem dX0_enqueueWrite_138 : decode cX0_enqueueWrite 138 = .ok (.iconst 1, 1) := by decide +kernel
theorem dX0_enqueueWrite_139 : decode cX0_enqueueWrite 139 = .ok (.iadd, 1) := by decide +kernel
theorem dX0_enqueueWrite_140 : decode cX0_enqueueWrite 140 = .ok (.putfield 34, 3) := by decide +kernel
theorem dX0_enqueueWrite_143 : decode cX0_enqueueWrite 143 = .ok (.aload_n 0, 1) := by decide +kernel
theorem dX0_enqueueWrite_144 : decode cX0_enqueueWrite 144 = .ok (.dup, 1) := by decide +kernel
theorem dX0_enqueueWrite_145 : decode cX0_enqueueWrite 145 = .ok (.getfield 47, 3) := by decide +kernel
theorem dX0_enqueueWrite_148 : decode cX0_enqueueWrite 148 = .ok (.iconst 1, 1) := by decide +kernel
theorem dX0_enqueueWrite_149 : decode cX0_enqueueWrite 149 = .ok (.iadd, 1) := by decide +kernel
theorem dX0_enqueueWrite_150 : decode cX0_enqueueWrite 150 = .ok (.putfield 47, 3) := by decide +kernel
theorem dX0_enqueueWrite_153 : decode cX0_enqueueWrite 153 = .ok (.aload_n 0, 1) := by decide +kernel
theorem dX0_enqueueWrite_154 : decode cX0_enqueueWrite 154 = .ok (.dup, 1) := by decide +kernel
theorem dX0_enqueueWrite_155 : decode cX0_enqueueWrite 155 = .ok (.getfield 50, 3) := by decide +kernel
theorem dX0_enqueueWrite_158 : decode cX0_enqueueWrite 158 = .ok (.iconst 1, 1) := by decide +kernel
theorem dX0_enqueueWrite_159 : decode cX0_enqueueWrite 159 = .ok (.iadd, 1) := by decide +kernel
theorem dX0_enqueueWrite_160 : decode cX0_enqueueWrite 160 = .ok (.putfield 50, 3) := by decide +kernel
theorem dX0_enqueueWrite_163 : decode cX0_enqueueWrite 163 = .ok (.return_, 1) := by decide +kernel
theorem dX0_enqueueFence_0 : decode cX0_enqueueFence 0 = .ok (.aload_n 0, 1) := by decide +kernel
theorem dX0_enqueueFence_1 : decode cX0_enqueueFence 1 = .ok (.getfield 30, 3) := by decide +kernel
theorem dX0_enqueueFence_4 : decode cX0_enqueueFence 4 = .ok (.bipush 60, 2) := by decide +kernel
theorem dX0_enqueueFence_6 : decode cX0_enqueueFence 6 = .ok (.if_icmp .lt 4, 3) := by decide +kernel
theorem dX0_enqueueFence_9 : decode cX0_enqueueFence 9 = .ok (.return_, 1) := by decide +kernel
theorem dX0_enqueueFence_10 : decode cX0_enqueueFence 10 = .ok (.aload_n 0, 1) := by decide +kernel
theorem dX0_enqueueFence_11 : decode cX0_enqueueFence 11 = .ok (.getfield 18, 3) := by decide +kernel
theorem dX0_enqueueFence_14 : decode cX0_enqueueFence 14 = .ok (.aload_n 0, 1) := by decide +kernel
theorem dX0_enqueueFence_15 : decode cX0_enqueueFence 15 = .ok (.getfield 30, 3) := by decide +kernel
theorem dX0_enqueueFence_18 : decode cX0_enqueueFence 18 = .ok (.iconst (-1), 1) := by decide +kernel
theorem dX0_enqueueFence_19 : decode cX0_enqueueFence 19 = .ok (.iastore, 1) := by decide +kernel
theorem dX0_enqueueFence_20 : decode cX0_enqueueFence 20 = .ok (.aload_n 0, 1) := by decide +kernel
theorem dX0_enqueueFence_21 : decode cX0_enqueueFence 21 = .ok (.getfield 21, 3) := by decide +kernel
theorem dX0_enqueueFence_24 : decode cX0_enqueueFence 24 = .ok (.aload_n 0, 1) := by decide +kernel
theorem dX0_enqueueFence_25 : decode cX0_enqueueFence 25 = .ok (.getfield 30, 3) := by decide +kernel
theorem dX0_enqueueFence_28 : decode cX0_enqueueFence 28 = .ok (.iconst 0, 1) := by decide +kernel
theorem dX0_enqueueFence_29 : decode cX0_enqueueFence 29 = .ok (.iastore, 1) := by decide +kernel
theorem dX0_enqueueFence_30 : decode cX0_enqueueFence 30 = .ok (.aload_n 0, 1) := by decide +kernel
theorem dX0_enqueueFence_31 : decode cX0_enqueueFence 31 = .ok (.getfield 24, 3) := by decide +kernel
theorem dX0_enqueueFence_34 : decode cX0_enqueueFence 34 = .ok (.aload_n 0, 1) := by decide +kernel
theorem dX0_enqueueFence_35 : decode cX0_enqueueFence 35 = .ok (.getfield 30, 3) := by decide +kernel
theorem dX0_enqueueFence_38 : decode cX0_enqueueFence 38 = .ok (.iconst 0, 1) := by decide +kernel
theorem dX0_enqueueFence_39 : decode cX0_enqueueFence 39 = .ok (.iastore, 1) := by decide +kernel
theorem dX0_enqueueFence_40 : decode cX0_enqueueFence 40 = .ok (.aload_n 0, 1) := by decide +kernel
theorem dX0_enqueueFence_41 : decode cX0_enqueueFence 41 = .ok (.getfield 27, 3) := by decide +kernel
theorem dX0_enqueueFence_44 : decode cX0_enqueueFence 44 = .ok (.aload_n 0, 1) := by decide +kernel
theorem dX0_enqueueFence_45 : decode cX0_enqueueFence 45 = .ok (.getfield 30, 3) := by decide +kernel
theorem dX0_enqueueFence_48 : decode cX0_enqueueFence 48 = .ok (.iconst (-1), 1) := by decide +kernel
theorem dX0_enqueueFence_49 : decode cX0_enqueueFence 49 = .ok (.iastore, 1) := by decide +kernel
theorem dX0_enqueueFence_50 : decode cX0_enqueueFence 50 = .ok (.aload_n 0, 1) := by decide +kernel
theorem dX0_enqueueFence_51 : decode cX0_enqueueFence 51 = .ok (.dup, 1) := by decide +kernel
theorem dX0_enqueueFence_52 : decode cX0_enqueueFence 52 = .ok (.getfield 30, 3) := by decide +kernel
theorem dX0_enqueueFence_55 : decode cX0_enqueueFence 55 = .ok (.iconst 1, 1) := by decide +kernel
theorem dX0_enqueueFence_56 : decode cX0_enqueueFence 56 = .ok (.iadd, 1) := by decide +kernel
theorem dX0_enqueueFence_57 : decode cX0_enqueueFence 57 = .ok (.putfield 30, 3) := by decide +kernel
theorem dX0_enqueueFence_60 : decode cX0_enqueueFence 60 = .ok (.aload_n 0, 1) := by decide +kernel
theorem dX0_enqueueFence_61 : decode cX0_enqueueFence 61 = .ok (.iconst 1, 1) := by decide +kernel
theorem dX0_enqueueFence_62 : decode cX0_enqueueFence 62 = .ok (.putfield 40, 3) := by decide +kernel
theorem dX0_enqueueFence_65 : decode cX0_enqueueFence 65 = .ok (.aload_n 0, 1) := by decide +kernel
theorem dX0_enqueueFence_66 : decode cX0_enqueueFence 66 = .ok (.dup, 1) := by decide +kernel
theorem dX0_enqueueFence_67 : decode cX0_enqueueFence 67 = .ok (.getfield 50, 3) := by decide +kernel
theorem dX0_enqueueFence_70 : decode cX0_enqueueFence 70 = .ok (.iconst 1, 1) := by decide +kernel
theorem dX0_enqueueFence_71 : decode cX0_enqueueFence 71 = .ok (.iadd, 1) := by decide +kernel
theorem dX0_enqueueFence_72 : decode cX0_enqueueFence 72 = .ok (.putfield 50, 3) := by decide +kernel
theorem dX0_enqueueFence_75 : decode cX0_enqueueFence 75 = .ok (.return_, 1) := by decide +kernel
theorem dX0_enqueuePlanned_0 : decode cX0_enqueuePlanned 0 = .ok (.aload_n 1, 1) := by decide +kernel
theorem dX0_enqueuePlanned_1 : decode cX0_enqueuePlanned 1 = .ok (.iload_n 2, 1) := by decide +kernel
theorem dX0_enqueuePlanned_2 : decode cX0_enqueuePlanned 2 = .ok (.invokevirtual 57, 3) := by decide +kernel
theorem dX0_enqueuePlanned_5 : decode cX0_enqueuePlanned 5 = .ok (.ifCond .eq 10, 3) := by decide +kernel
theorem dX0_enqueuePlanned_8 : decode cX0_enqueuePlanned 8 = .ok (.aload_n 0, 1) := by decide +kernel
theorem dX0_enqueuePlanned_9 : decode cX0_enqueuePlanned 9 = .ok (.invokevirtual 62, 3) := by decide +kernel
theorem dX0_enqueuePlanned_12 : decode cX0_enqueuePlanned 12 = .ok (.goto 25, 3) := by decide +kernel
theorem dX0_enqueuePlanned_15 : decode cX0_enqueuePlanned 15 = .ok (.aload_n 0, 1) := by decide +kernel
theorem dX0_enqueuePlanned_16 : decode cX0_enqueuePlanned 16 = .ok (.aload_n 1, 1) := by decide +kernel
theorem dX0_enqueuePlanned_17 : decode cX0_enqueuePlanned 17 = .ok (.getfield 65, 3) := by decide +kernel
theorem dX0_enqueuePlanned_20 : decode cX0_enqueuePlanned 20 = .ok (.iload_n 2, 1) := by decide +kernel
theorem dX0_enqueuePlanned_21 : decode cX0_enqueuePlanned 21 = .ok (.iaload, 1) := by decide +kernel
theorem dX0_enqueuePlanned_22 : decode cX0_enqueuePlanned 22 = .ok (.aload_n 1, 1) := by decide +kernel
theorem dX0_enqueuePlanned_23 : decode cX0_enqueuePlanned 23 = .ok (.getfield 66, 3) := by decide +kernel
theorem dX0_enqueuePlanned_26 : decode cX0_enqueuePlanned 26 = .ok (.iload_n 2, 1) := by decide +kernel
theorem dX0_enqueuePlanned_27 : decode cX0_enqueuePlanned 27 = .ok (.iaload, 1) := by decide +kernel
theorem dX0_enqueuePlanned_28 : decode cX0_enqueuePlanned 28 = .ok (.aload_n 1, 1) := by decide +kernel
theorem dX0_enqueuePlanned_29 : decode cX0_enqueuePlanned 29 = .ok (.getfield 67, 3) := by decide +kernel
theorem dX0_enqueuePlanned_32 : decode cX0_enqueuePlanned 32 = .ok (.iload_n 2, 1) := by decide +kernel
theorem dX0_enqueuePlanned_33 : decode cX0_enqueuePlanned 33 = .ok (.iaload, 1) := by decide +kernel
theorem dX0_enqueuePlanned_34 : decode cX0_enqueuePlanned 34 = .ok (.invokevirtual 68, 3) := by decide +kernel
theorem dX0_enqueuePlanned_37 : decode cX0_enqueuePlanned 37 = .ok (.return_, 1) := by decide +kernel
theorem dX0_settle_0 : decode cX0_settle 0 = .ok (.aload_n 0, 1) := by decide +kernel
theorem dX0_settle_1 : decode cX0_settle 1 = .ok (.aload_n 0, 1) := by decide +kernel
theorem dX0_settle_2 : decode cX0_settle 2 = .ok (.getfield 15, 3) := by decide +kernel
theorem dX0_settle_5 : decode cX0_settle 5 = .ok (.invokevirtual 72, 3) := by decide +kernel
theorem dX0_settle_8 : decode cX0_settle 8 = .ok (.return_, 1) := by decide +kernel
theorem dX0_format_0 : decode cX0_format 0 = .ok (.aload_n 0, 1) := by decide +kernel
theorem dX0_format_1 : decode cX0_format 1 = .ok (.getfield 15, 3) := by decide +kernel
theorem dX0_format_4 : decode cX0_format 4 = .ok (.iconst 0, 1) := by decide +kernel
theorem dX0_format_5 : decode cX0_format 5 = .ok (.invokestatic 76, 3) := by decide +kernel
theorem dX0_format_8 : decode cX0_format 8 = .ok (.aload_n 1, 1) := by decide +kernel
theorem dX0_format_9 : decode cX0_format 9 = .ok (.aload_n 0, 1) := by decide +kernel
theorem dX0_format_10 : decode cX0_format 10 = .ok (.getfield 15, 3) := by decide +kernel
theorem dX0_format_13 : decode cX0_format 13 = .ok (.invokevirtual 82, 3) := by decide +kernel
theorem dX0_format_16 : decode cX0_format 16 = .ok (.aload_n 0, 1) := by decide +kernel
theorem dX0_format_17 : decode cX0_format 17 = .ok (.aload_n 0, 1) := by decide +kernel
theorem dX0_format_18 : decode cX0_format 18 = .ok (.getfield 15, 3) := by decide +kernel
theorem dX0_format_21 : decode cX0_format 21 = .ok (.invokevirtual 72, 3) := by decide +kernel
theorem dX0_format_24 : decode cX0_format 24 = .ok (.return_, 1) := by decide +kernel
theorem dX0_comeUpWith_0 : decode cX0_comeUpWith 0 = .ok (.iconst 0, 1) := by decide +kernel
theorem dX0_comeUpWith_1 : decode cX0_comeUpWith 1 = .ok (.istore_n 2, 1) := by decide +kernel
theorem dX0_comeUpWith_2 : decode cX0_comeUpWith 2 = .ok (.iload_n 2, 1) := by decide +kernel
theorem dX0_comeUpWith_3 : decode cX0_comeUpWith 3 = .ok (.bipush 32, 2) := by decide +kernel
theorem dX0_comeUpWith_5 : decode cX0_comeUpWith 5 = .ok (.if_icmp .ge 27, 3) := by decide +kernel
theorem dX0_comeUpWith_8 : decode cX0_comeUpWith 8 = .ok (.aload_n 0, 1) := by decide +kernel
theorem dX0_comeUpWith_9 : decode cX0_comeUpWith 9 = .ok (.getfield 9, 3) := by decide +kernel
theorem dX0_comeUpWith_12 : decode cX0_comeUpWith 12 = .ok (.iload_n 2, 1) := by decide +kernel
theorem dX0_comeUpWith_13 : decode cX0_comeUpWith 13 = .ok (.aload_n 1, 1) := by decide +kernel
theorem dX0_comeUpWith_14 : decode cX0_comeUpWith 14 = .ok (.iload_n 2, 1) := by decide +kernel
theorem dX0_comeUpWith_15 : decode cX0_comeUpWith 15 = .ok (.iaload, 1) := by decide +kernel
theorem dX0_comeUpWith_16 : decode cX0_comeUpWith 16 = .ok (.iastore, 1) := by decide +kernel
theorem dX0_comeUpWith_17 : decode cX0_comeUpWith 17 = .ok (.aload_n 0, 1) := by decide +kernel
theorem dX0_comeUpWith_18 : decode cX0_comeUpWith 18 = .ok (.getfield 15, 3) := by decide +kernel
theorem dX0_comeUpWith_21 : decode cX0_comeUpWith 21 = .ok (.iload_n 2, 1) := by decide +kernel
theorem dX0_comeUpWith_22 : decode cX0_comeUpWith 22 = .ok (.aload_n 1, 1) := by decide +kernel
theorem dX0_comeUpWith_23 : decode cX0_comeUpWith 23 = .ok (.iload_n 2, 1) := by decide +kernel
theorem dX0_comeUpWith_24 : decode cX0_comeUpWith 24 = .ok (.iaload, 1) := by decide +kernel
theorem dX0_comeUpWith_25 : decode cX0_comeUpWith 25 = .ok (.iastore, 1) := by decide +kernel
theorem dX0_comeUpWith_26 : decode cX0_comeUpWith 26 = .ok (.iinc 2 1, 3) := by decide +kernel
theorem dX0_comeUpWith_29 : decode cX0_comeUpWith 29 = .ok (.goto (-27), 3) := by decide +kernel
theorem dX0_comeUpWith_32 : decode cX0_comeUpWith 32 = .ok (.aload_n 0, 1) := by decide +kernel
theorem dX0_comeUpWith_33 : decode cX0_comeUpWith 33 = .ok (.iconst 0, 1) := by decide +kernel
theorem dX0_comeUpWith_34 : decode cX0_comeUpWith 34 = .ok (.putfield 30, 3) := by decide +kernel
theorem dX0_comeUpWith_37 : decode cX0_comeUpWith 37 = .ok (.aload_n 0, 1) := by decide +kernel
theorem dX0_comeUpWith_38 : decode cX0_comeUpWith 38 = .ok (.iconst 0, 1) := by decide +kernel
theorem dX0_comeUpWith_39 : decode cX0_comeUpWith 39 = .ok (.putfield 34, 3) := by decide +kernel
theorem dX0_comeUpWith_42 : decode cX0_comeUpWith 42 = .ok (.aload_n 0, 1) := by decide +kernel
theorem dX0_comeUpWith_43 : decode cX0_comeUpWith 43 = .ok (.iconst 0, 1) := by decide +kernel
theorem dX0_comeUpWith_44 : decode cX0_comeUpWith 44 = .ok (.putfield 37, 3) := by decide +kernel
theorem dX0_comeUpWith_47 : decode cX0_comeUpWith 47 = .ok (.aload_n 0, 1) := by decide +kernel
theorem dX0_comeUpWith_48 : decode cX0_comeUpWith 48 = .ok (.iconst 0, 1) := by decide +kernel
theorem dX0_comeUpWith_49 : decode cX0_comeUpWith 49 = .ok (.putfield 40, 3) := by decide +kernel
theorem dX0_comeUpWith_52 : decode cX0_comeUpWith 52 = .ok (.aload_n 0, 1) := by decide +kernel
theorem dX0_comeUpWith_53 : decode cX0_comeUpWith 53 = .ok (.iconst 0, 1) := by decide +kernel
theorem dX0_comeUpWith_54 : decode cX0_comeUpWith 54 = .ok (.putfield 44, 3) := by decide +kernel
theorem dX0_comeUpWith_57 : decode cX0_comeUpWith 57 = .ok (.aload_n 0, 1) := by decide +kernel
theorem dX0_comeUpWith_58 : decode cX0_comeUpWith 58 = .ok (.dup, 1) := by decide +kernel
theorem dX0_comeUpWith_59 : decode cX0_comeUpWith 59 = .ok (.getfield 50, 3) := by decide +kernel
theorem dX0_comeUpWith_62 : decode cX0_comeUpWith 62 = .ok (.iconst 1, 1) := by decide +kernel
theorem dX0_comeUpWith_63 : decode cX0_comeUpWith 63 = .ok (.iadd, 1) := by decide +kernel
theorem dX0_comeUpWith_64 : decode cX0_comeUpWith 64 = .ok (.putfield 50, 3) := by decide +kernel
theorem dX0_comeUpWith_67 : decode cX0_comeUpWith 67 = .ok (.return_, 1) := by decide +kernel
theorem dX1_init_0 : decode cX1_init 0 = .ok (.aload_n 0, 1) := by decide +kernel
theorem dX1_init_1 : decode cX1_init 1 = .ok (.invokespecial 3, 3) := by decide +kernel
theorem dX1_init_4 : decode cX1_init 4 = .ok (.return_, 1) := by decide +kernel
theorem dX1_planRising_0 : decode cX1_planRising 0 = .ok (.return_, 1) := by decide +kernel
theorem dX1_layOut_0 : decode cX1_layOut 0 = .ok (.return_, 1) := by decide +kernel
theorem dX1_version_0 : decode cX1_version 0 = .ok (.iconst 0, 1) := by decide +kernel
theorem dX1_version_1 : decode cX1_version 1 = .ok (.ireturn, 1) := by decide +kernel
theorem dX1_planPut_0 : decode cX1_planPut 0 = .ok (.aload_n 0, 1) := by decide +kernel
theorem dX1_planPut_1 : decode cX1_planPut 1 = .ok (.aload_n 1, 1) := by decide +kernel
theorem dX1_planPut_2 : decode cX1_planPut 2 = .ok (.iload_n 2, 1) := by decide +kernel
theorem dX1_planPut_3 : decode cX1_planPut 3 = .ok (.lload_n 3, 1) := by decide +kernel
theorem dX1_planPut_4 : decode cX1_planPut 4 = .ok (.iconst (-1), 1) := by decide +kernel
theorem dX1_planPut_5 : decode cX1_planPut 5 = .ok (.lconst 0, 1) := by decide +kernel
theorem dX1_planPut_6 : decode cX1_planPut 6 = .ok (.aload 5, 2) := by decide +kernel
theorem dX1_planPut_8 : decode cX1_planPut 8 = .ok (.invokevirtual 9, 3) := by decide +kernel
theorem dX1_planPut_11 : decode cX1_planPut 11 = .ok (.return_, 1) := by decide +kernel
theorem dX1_planMove_0 : decode cX1_planMove 0 = .ok (.aload_n 0, 1) := by decide +kernel
theorem dX1_planMove_1 : decode cX1_planMove 1 = .ok (.aload_n 1, 1) := by decide +kernel
theorem dX1_planMove_2 : decode cX1_planMove 2 = .ok (.iload_n 3, 1) := by decide +kernel
theorem dX1_planMove_3 : decode cX1_planMove 3 = .ok (.aload_n 0, 1) := by decide +kernel
theorem dX1_planMove_4 : decode cX1_planMove 4 = .ok (.aload_n 1, 1) := by decide +kernel
theorem dX1_planMove_5 : decode cX1_planMove 5 = .ok (.iload_n 2, 1) := by decide +kernel
theorem dX1_planMove_6 : decode cX1_planMove 6 = .ok (.invokevirtual 15, 3) := by decide +kernel
theorem dX1_planMove_9 : decode cX1_planMove 9 = .ok (.iload_n 2, 1) := by decide +kernel
theorem dX1_planMove_10 : decode cX1_planMove 10 = .ok (.lconst 0, 1) := by decide +kernel
theorem dX1_planMove_11 : decode cX1_planMove 11 = .ok (.aload 4, 2) := by decide +kernel
theorem dX1_planMove_13 : decode cX1_planMove 13 = .ok (.invokevirtual 9, 3) := by decide +kernel
theorem dX1_planMove_16 : decode cX1_planMove 16 = .ok (.return_, 1) := by decide +kernel
theorem dX1_valueOf_0 : decode cX1_valueOf 0 = .ok (.aload_n 1, 1) := by decide +kernel
theorem dX1_valueOf_1 : decode cX1_valueOf 1 = .ok (.aload_n 0, 1) := by decide +kernel
theorem dX1_valueOf_2 : decode cX1_valueOf 2 = .ok (.aload_n 1, 1) := by decide +kernel
theorem dX1_valueOf_3 : decode cX1_valueOf 3 = .ok (.invokevirtual 19, 3) := by decide +kernel
theorem dX1_valueOf_6 : decode cX1_valueOf 6 = .ok (.iload_n 2, 1) := by decide +kernel
theorem dX1_valueOf_7 : decode cX1_valueOf 7 = .ok (.invokestatic 23, 3) := by decide +kernel
theorem dX1_valueOf_10 : decode cX1_valueOf 10 = .ok (.lreturn, 1) := by decide +kernel
theorem dX1_valueAt_0 : decode cX1_valueAt 0 = .ok (.iload_n 1, 1) := by decide +kernel
theorem dX1_valueAt_1 : decode cX1_valueAt 1 = .ok (.iconst (-1), 1) := by decide +kernel
theorem dX1_valueAt_2 : decode cX1_valueAt 2 = .ok (.if_icmp .ne 5, 3) := by decide +kernel
theorem dX1_valueAt_5 : decode cX1_valueAt 5 = .ok (.lconst 0, 1) := by decide +kernel
theorem dX1_valueAt_6 : decode cX1_valueAt 6 = .ok (.lreturn, 1) := by decide +kernel
theorem dX1_valueAt_7 : decode cX1_valueAt 7 = .ok (.iconst 2, 1) := by decide +kernel
theorem dX1_valueAt_8 : decode cX1_valueAt 8 = .ok (.iload_n 1, 1) := by decide +kernel
theorem dX1_valueAt_9 : decode cX1_valueAt 9 = .ok (.iload_n 2, 1) := by decide +kernel
theorem dX1_valueAt_10 : decode cX1_valueAt 10 = .ok (.iadd, 1) := by decide +kernel
theorem dX1_valueAt_11 : decode cX1_valueAt 11 = .ok (.imul, 1) := by decide +kernel
theorem dX1_valueAt_12 : decode cX1_valueAt 12 = .ok (.istore_n 3, 1) := by decide +kernel
theorem dX1_valueAt_13 : decode cX1_valueAt 13 = .ok (.aload_n 0, 1) := by decide +kernel
theorem dX1_valueAt_14 : decode cX1_valueAt 14 = .ok (.iload_n 3, 1) := by decide +kernel
theorem dX1_valueAt_15 : decode cX1_valueAt 15 = .ok (.iaload, 1) := by decide +kernel
theorem dX1_valueAt_16 : decode cX1_valueAt 16 = .ok (.i2l, 1) := by decide +kernel
theorem dX1_valueAt_17 : decode cX1_valueAt 17 = .ok (.bipush 32, 2) := by decide +kernel
theorem dX1_valueAt_19 : decode cX1_valueAt 19 = .ok (.lshl, 1) := by decide +kernel
theorem dX1_valueAt_20 : decode cX1_valueAt 20 = .ok (.aload_n 0, 1) := by decide +kernel
theorem dX1_valueAt_21 : decode cX1_valueAt 21 = .ok (.iload_n 3, 1) := by decide +kernel
theorem dX1_valueAt_22 : decode cX1_valueAt 22 = .ok (.iconst 1, 1) := by decide +kernel
theorem dX1_valueAt_23 : decode cX1_valueAt 23 = .ok (.iadd, 1) := by decide +kernel
theorem dX1_valueAt_24 : decode cX1_valueAt 24 = .ok (.iaload, 1) := by decide +kernel
theorem dX1_valueAt_25 : decode cX1_valueAt 25 = .ok (.i2l, 1) := by decide +kernel
theorem dX1_valueAt_26 : decode cX1_valueAt 26 = .ok (.ldc2_w 27, 3) := by decide +kernel
theorem dX1_valueAt_29 : decode cX1_valueAt 29 = .ok (.land, 1) := by decide +kernel
theorem dX1_valueAt_30 : decode cX1_valueAt 30 = .ok (.lor, 1) := by decide +kernel
theorem dX1_valueAt_31 : decode cX1_valueAt 31 = .ok (.lreturn, 1) := by decide +kernel
theorem dX2_init_0 : decode cX2_init 0 = .ok (.aload_n 0, 1) := by decide +kernel
theorem dX2_init_1 : decode cX2_init 1 = .ok (.invokespecial 3, 3) := by decide +kernel
theorem dX2_init_4 : decode cX2_init 4 = .ok (.return_, 1) := by decide +kernel
theorem dX2_fences_0 : decode cX2_fences 0 = .ok (.iconst 4, 1) := by decide +kernel
theorem dX2_fences_1 : decode cX2_fences 1 = .ok (.ireturn, 1) := by decide +kernel
theorem dX2_homeOfKeys_0 : decode cX2_homeOfKeys 0 = .ok (.iconst 0, 1) := by decide +kernel
theorem dX2_homeOfKeys_1 : decode cX2_homeOfKeys 1 = .ok (.ireturn, 1) := by decide +kernel
theorem dX2_allIsWell_0 : decode cX2_allIsWell 0 = .ok (.aload_n 1, 1) := by decide +kernel
theorem dX2_allIsWell_1 : decode cX2_allIsWell 1 = .ok (.bipush 6, 2) := by decide +kernel
theorem dX2_allIsWell_3 : decode cX2_allIsWell 3 = .ok (.iaload, 1) := by decide +kernel
theorem dX2_allIsWell_4 : decode cX2_allIsWell 4 = .ok (.ifCond .ne 14, 3) := by decide +kernel
theorem dX2_allIsWell_7 : decode cX2_allIsWell 7 = .ok (.aload_n 1, 1) := by decide +kernel
theorem dX2_allIsWell_8 : decode cX2_allIsWell 8 = .ok (.bipush 7, 2) := by decide +kernel
theorem dX2_allIsWell_10 : decode cX2_allIsWell 10 = .ok (.iaload, 1) := by decide +kernel
theorem dX2_allIsWell_11 : decode cX2_allIsWell 11 = .ok (.ifCond .ne 7, 3) := by decide +kernel
theorem dX2_allIsWell_14 : decode cX2_allIsWell 14 = .ok (.iconst 1, 1) := by decide +kernel
theorem dX2_allIsWell_15 : decode cX2_allIsWell 15 = .ok (.goto 4, 3) := by decide +kernel
theorem dX2_allIsWell_18 : decode cX2_allIsWell 18 = .ok (.iconst 0, 1) := by decide +kernel
theorem dX2_allIsWell_19 : decode cX2_allIsWell 19 = .ok (.ireturn, 1) := by decide +kernel
theorem dX2_planChange_0 : decode cX2_planChange 0 = .ok (.iload 5, 2) := by decide +kernel
theorem dX2_planChange_2 : decode cX2_planChange 2 = .ok (.iconst (-1), 1) := by decide +kernel
theorem dX2_planChange_3 : decode cX2_planChange 3 = .ok (.if_icmp .ne 7, 3) := by decide +kernel
theorem dX2_planChange_6 : decode cX2_planChange 6 = .ok (.iconst 1, 1) := by decide +kernel
theorem dX2_planChange_7 : decode cX2_planChange 7 = .ok (.goto 4, 3) := by decide +kernel
theorem dX2_planChange_10 : decode cX2_planChange 10 = .ok (.iconst 2, 1) := by decide +kernel
theorem dX2_planChange_11 : decode cX2_planChange 11 = .ok (.istore 9, 2) := by decide +kernel
theorem dX2_planChange_13 : decode cX2_planChange 13 = .ok (.iload 9, 2) := by decide +kernel
theorem dX2_planChange_15 : decode cX2_planChange 15 = .ok (.iload_n 2, 1) := by decide +kernel
theorem dX2_planChange_16 : decode cX2_planChange 16 = .ok (.lload_n 3, 1) := by decide +kernel
theorem dX2_planChange_17 : decode cX2_planChange 17 = .ok (.invokestatic 11, 3) := by decide +kernel
theorem dX2_planChange_20 : decode cX2_planChange 20 = .ok (.lload_n 3, 1) := by decide +kernel
theorem dX2_planChange_21 : decode cX2_planChange 21 = .ok (.invokestatic 15, 3) := by decide +kernel
theorem dX2_planChange_24 : decode cX2_planChange 24 = .ok (.iload 5, 2) := by decide +kernel
theorem dX2_planChange_26 : decode cX2_planChange 26 = .ok (.lload 6, 2) := by decide +kernel
theorem dX2_planChange_28 : decode cX2_planChange 28 = .ok (.invokestatic 11, 3) := by decide +kernel
theorem dX2_planChange_31 : decode cX2_planChange 31 = .ok (.lload 6, 2) := by decide +kernel
theorem dX2_planChange_33 : decode cX2_planChange 33 = .ok (.invokestatic 15, 3) := by decide +kernel
theorem dX2_planChange_36 : decode cX2_planChange 36 = .ok (.invokestatic 18, 3) := by decide +kernel
theorem dX2_planChange_39 : decode cX2_planChange 39 = .ok (.istore 10, 2) := by decide +kernel
theorem dX2_planChange_41 : decode cX2_planChange 41 = .ok (.aload 8, 2) := by decide +kernel
theorem dX2_planChange_43 : decode cX2_planChange 43 = .ok (.iconst 4, 1) := by decide +kernel
theorem dX2_planChange_44 : decode cX2_planChange 44 = .ok (.iload_n 2, 1) := by decide +kernel
theorem dX2_planChange_45 : decode cX2_planChange 45 = .ok (.lload_n 3, 1) := by decide +kernel
theorem dX2_planChange_46 : decode cX2_planChange 46 = .ok (.invokestatic 11, 3) := by decide +kernel
theorem dX2_planChange_49 : decode cX2_planChange 49 = .ok (.invokevirtual 22, 3) := by decide +kernel
theorem dX2_planChange_52 : decode cX2_planChange 52 = .ok (.aload 8, 2) := by decide +kernel
theorem dX2_planChange_54 : decode cX2_planChange 54 = .ok (.iconst 5, 1) := by decide +kernel
theorem dX2_planChange_55 : decode cX2_planChange 55 = .ok (.lload_n 3, 1) := by decide +kernel
theorem dX2_planChange_56 : decode cX2_planChange 56 = .ok (.invokestatic 15, 3) := by decide +kernel
theorem dX2_planChange_59 : decode cX2_planChange 59 = .ok (.iload 5, 2) := by decide +kernel
theorem dX2_planChange_61 : decode cX2_planChange 61 = .ok (.invokevirtual 22, 3) := by decide +kernel
theorem dX2_planChange_64 : decode cX2_planChange 64 = .ok (.aload 8, 2) := by decide +kernel
theorem dX2_planChange_66 : decode cX2_planChange 66 = .ok (.bipush 6, 2) := by decide +kernel
theorem dX2_planChange_68 : decode cX2_planChange 68 = .ok (.lload 6, 2) := by decide +kernel
theorem dX2_planChange_70 : decode cX2_planChange 70 = .ok (.invokestatic 11, 3) := by decide +kernel
theorem dX2_planChange_73 : decode cX2_planChange 73 = .ok (.lload 6, 2) := by decide +kernel
theorem dX2_planChange_75 : decode cX2_planChange 75 = .ok (.invokestatic 15, 3) := by decide +kernel
theorem dX2_planChange_78 : decode cX2_planChange 78 = .ok (.invokevirtual 22, 3) := by decide +kernel
theorem dX2_planChange_81 : decode cX2_planChange 81 = .ok (.aload 8, 2) := by decide +kernel
theorem dX2_planChange_83 : decode cX2_planChange 83 = .ok (.iconst 0, 1) := by decide +kernel
theorem dX2_planChange_84 : decode cX2_planChange 84 = .ok (.invokevirtual 28, 3) := by decide +kernel
theorem dX2_planChange_87 : decode cX2_planChange 87 = .ok (.aload 8, 2) := by decide +kernel
theorem dX2_planChange_89 : decode cX2_planChange 89 = .ok (.iconst 3, 1) := by decide +kernel
theorem dX2_planChange_90 : decode cX2_planChange 90 = .ok (.iload 9, 2) := by decide +kernel
theorem dX2_planChange_92 : decode cX2_planChange 92 = .ok (.iload 10, 2) := by decide +kernel
theorem dX2_planChange_94 : decode cX2_planChange 94 = .ok (.invokevirtual 22, 3) := by decide +kernel
theorem dX2_planChange_97 : decode cX2_planChange 97 = .ok (.aload 8, 2) := by decide +kernel
theorem dX2_planChange_99 : decode cX2_planChange 99 = .ok (.iconst 1, 1) := by decide +kernel
theorem dX2_planChange_100 : decode cX2_planChange 100 = .ok (.invokevirtual 28, 3) := by decide +kernel
theorem dX2_planChange_103 : decode cX2_planChange 103 = .ok (.aload 8, 2) := by decide +kernel
theorem dX2_planChange_105 : decode cX2_planChange 105 = .ok (.iload_n 2, 1) := by decide +kernel
theorem dX2_planChange_106 : decode cX2_planChange 106 = .ok (.lload_n 3, 1) := by decide +kernel
theorem dX2_planChange_107 : decode cX2_planChange 107 = .ok (.invokestatic 11, 3) := by decide +kernel
theorem dX2_planChange_110 : decode cX2_planChange 110 = .ok (.lload_n 3, 1) := by decide +kernel
theorem dX2_planChange_111 : decode cX2_planChange 111 = .ok (.invokestatic 15, 3) := by decide +kernel
theorem dX2_planChange_114 : decode cX2_planChange 114 = .ok (.invokevirtual 22, 3) := by decide +kernel
theorem dX2_planChange_117 : decode cX2_planChange 117 = .ok (.iload 5, 2) := by decide +kernel
theorem dX2_planChange_119 : decode cX2_planChange 119 = .ok (.iconst (-1), 1) := by decide +kernel
theorem dX2_planChange_120 : decode cX2_planChange 120 = .ok (.if_icmp .eq 20, 3) := by decide +kernel
theorem dX2_planChange_123 : decode cX2_planChange 123 = .ok (.aload 8, 2) := by decide +kernel
theorem dX2_planChange_125 : decode cX2_planChange 125 = .ok (.iload 5, 2) := by decide +kernel
theorem dX2_planChange_127 : decode cX2_planChange 127 = .ok (.lload 6, 2) := by decide +kernel
theorem dX2_planChange_129 : decode cX2_planChange 129 = .ok (.invokestatic 11, 3) := by decide +kernel
theorem dX2_planChange_132 : decode cX2_planChange 132 = .ok (.lload 6, 2) := by decide +kernel
theorem dX2_planChange_134 : decode cX2_planChange 134 = .ok (.invokestatic 15, 3) := by decide +kernel
theorem dX2_planChange_137 : decode cX2_planChange 137 = .ok (.invokevirtual 22, 3) := by decide +kernel
theorem dX2_planChange_140 : decode cX2_planChange 140 = .ok (.aload 8, 2) := by decide +kernel
theorem dX2_planChange_142 : decode cX2_planChange 142 = .ok (.iconst 2, 1) := by decide +kernel
theorem dX2_planChange_143 : decode cX2_planChange 143 = .ok (.invokevirtual 28, 3) := by decide +kernel
theorem dX2_planChange_146 : decode cX2_planChange 146 = .ok (.aload 8, 2) := by decide +kernel
theorem dX2_planChange_148 : decode cX2_planChange 148 = .ok (.invokestatic 32, 3) := by decide +kernel
theorem dX2_planChange_151 : decode cX2_planChange 151 = .ok (.return_, 1) := by decide +kernel
theorem dX2_planRising_0 : decode cX2_planRising 0 = .ok (.aload_n 1, 1) := by decide +kernel
theorem dX2_planRising_1 : decode cX2_planRising 1 = .ok (.invokestatic 36, 3) := by decide +kernel
theorem dX2_planRising_4 : decode cX2_planRising 4 = .ok (.ifCond .eq 62, 3) := by decide +kernel
theorem dX2_planRising_7 : decode cX2_planRising 7 = .ok (.bipush 8, 2) := by decide +kernel
theorem dX2_planRising_9 : decode cX2_planRising 9 = .ok (.istore_n 3, 1) := by decide +kernel
theorem dX2_planRising_10 : decode cX2_planRising 10 = .ok (.aload_n 2, 1) := by decide +kernel
theorem dX2_planRising_11 : decode cX2_planRising 11 = .ok (.aload_n 1, 1) := by decide +kernel
theorem dX2_planRising_12 : decode cX2_planRising 12 = .ok (.iload_n 3, 1) := by decide +kernel
theorem dX2_planRising_13 : decode cX2_planRising 13 = .ok (.iaload, 1) := by decide +kernel
theorem dX2_planRising_14 : decode cX2_planRising 14 = .ok (.aload_n 1, 1) := by decide +kernel
theorem dX2_planRising_15 : decode cX2_planRising 15 = .ok (.iload_n 3, 1) := by decide +kernel
theorem dX2_planRising_16 : decode cX2_planRising 16 = .ok (.iconst 1, 1) := by decide +kernel
theorem dX2_planRising_17 : decode cX2_planRising 17 = .ok (.iadd, 1) := by decide +kernel
theorem dX2_planRising_18 : decode cX2_planRising 18 = .ok (.iaload, 1) := by decide +kernel
theorem dX2_planRising_19 : decode cX2_planRising 19 = .ok (.aload_n 1, 1) := by decide +kernel
theorem dX2_planRising_20 : decode cX2_planRising 20 = .ok (.iload_n 3, 1) := by decide +kernel
theorem dX2_planRising_21 : decode cX2_planRising 21 = .ok (.iconst 2, 1) := by decide +kernel
theorem dX2_planRising_22 : decode cX2_planRising 22 = .ok (.iadd, 1) := by decide +kernel
theorem dX2_planRising_23 : decode cX2_planRising 23 = .ok (.iaload, 1) := by decide +kernel
theorem dX2_planRising_24 : decode cX2_planRising 24 = .ok (.invokevirtual 22, 3) := by decide +kernel
theorem dX2_planRising_27 : decode cX2_planRising 27 = .ok (.aload_n 1, 1) := by decide +kernel
theorem dX2_planRising_28 : decode cX2_planRising 28 = .ok (.bipush 6, 2) := by decide +kernel
theorem dX2_planRising_30 : decode cX2_planRising 30 = .ok (.iaload, 1) := by decide +kernel
theorem dX2_planRising_31 : decode cX2_planRising 31 = .ok (.iconst 2, 1) := by decide +kernel
theorem dX2_planRising_32 : decode cX2_planRising 32 = .ok (.if_icmp .ne 22, 3) := by decide +kernel
theorem dX2_planRising_35 : decode cX2_planRising 35 = .ok (.aload_n 2, 1) := by decide +kernel
theorem dX2_planRising_36 : decode cX2_planRising 36 = .ok (.aload_n 1, 1) := by decide +kernel
theorem dX2_planRising_37 : decode cX2_planRising 37 = .ok (.iload_n 3, 1) := by decide +kernel
theorem dX2_planRising_38 : decode cX2_planRising 38 = .ok (.iconst 3, 1) := by decide +kernel
theorem dX2_planRising_39 : decode cX2_planRising 39 = .ok (.iadd, 1) := by decide +kernel
theorem dX2_planRising_40 : decode cX2_planRising 40 = .ok (.iaload, 1) := by decide +kernel
theorem dX2_planRising_41 : decode cX2_planRising 41 = .ok (.aload_n 1, 1) := by decide +kernel
theorem dX2_planRising_42 : decode cX2_planRising 42 = .ok (.iload_n 3, 1) := by decide +kernel
theorem dX2_planRising_43 : decode cX2_planRising 43 = .ok (.iconst 4, 1) := by decide +kernel
theorem dX2_planRising_44 : decode cX2_planRising 44 = .ok (.iadd, 1) := by decide +kernel
theorem dX2_planRising_45 : decode cX2_planRising 45 = .ok (.iaload, 1) := by decide +kernel
theorem dX2_planRising_46 : decode cX2_planRising 46 = .ok (.aload_n 1, 1) := by decide +kernel
theorem dX2_planRising_47 : decode cX2_planRising 47 = .ok (.iload_n 3, 1) := by decide +kernel
theorem dX2_planRising_48 : decode cX2_planRising 48 = .ok (.iconst 5, 1) := by decide +kernel
theorem dX2_planRising_49 : decode cX2_planRising 49 = .ok (.iadd, 1) := by decide +kernel
theorem dX2_planRising_50 : decode cX2_planRising 50 = .ok (.iaload, 1) := by decide +kernel
theorem dX2_planRising_51 : decode cX2_planRising 51 = .ok (.invokevirtual 22, 3) := by decide +kernel
theorem dX2_planRising_54 : decode cX2_planRising 54 = .ok (.aload_n 2, 1) := by decide +kernel
theorem dX2_planRising_55 : decode cX2_planRising 55 = .ok (.iconst 2, 1) := by decide +kernel
theorem dX2_planRising_56 : decode cX2_planRising 56 = .ok (.invokevirtual 28, 3) := by decide +kernel
theorem dX2_planRising_59 : decode cX2_planRising 59 = .ok (.aload_n 2, 1) := by decide +kernel
theorem dX2_planRising_60 : decode cX2_planRising 60 = .ok (.invokestatic 32, 3) := by decide +kernel
theorem dX2_planRising_63 : decode cX2_planRising 63 = .ok (.goto 15, 3) := by decide +kernel
theorem dX2_planRising_66 : decode cX2_planRising 66 = .ok (.aload_n 0, 1) := by decide +kernel
theorem dX2_planRising_67 : decode cX2_planRising 67 = .ok (.aload_n 1, 1) := by decide +kernel
theorem dX2_planRising_68 : decode cX2_planRising 68 = .ok (.invokevirtual 40, 3) := by decide +kernel
theorem dX2_planRising_71 : decode cX2_planRising 71 = .ok (.ifCond .ne 7, 3) := by decide +kernel
theorem dX2_planRising_74 : decode cX2_planRising 74 = .ok (.aload_n 2, 1) := by decide +kernel
theorem dX2_planRising_75 : decode cX2_planRising 75 = .ok (.invokestatic 32, 3) := by decide +kernel
theorem dX2_planRising_78 : decode cX2_planRising 78 = .ok (.return_, 1) := by decide +kernel
theorem dX2_planUnmark_0 : decode cX2_planUnmark 0 = .ok (.aload_n 0, 1) := by decide +kernel
theorem dX2_planUnmark_1 : decode cX2_planUnmark 1 = .ok (.iconst 3, 1) := by decide +kernel
theorem dX2_planUnmark_2 : decode cX2_planUnmark 2 = .ok (.iconst 0, 1) := by decide +kernel
theorem dX2_planUnmark_3 : decode cX2_planUnmark 3 = .ok (.iconst 0, 1) := by decide +kernel
theorem dX2_planUnmark_4 : decode cX2_planUnmark 4 = .ok (.invokevirtual 22, 3) := by decide +kernel
theorem dX2_planUnmark_7 : decode cX2_planUnmark 7 = .ok (.aload_n 0, 1) := by decide +kernel
theorem dX2_planUnmark_8 : decode cX2_planUnmark 8 = .ok (.iconst 3, 1) := by decide +kernel
theorem dX2_planUnmark_9 : decode cX2_planUnmark 9 = .ok (.invokevirtual 28, 3) := by decide +kernel
theorem dX2_planUnmark_12 : decode cX2_planUnmark 12 = .ok (.return_, 1) := by decide +kernel
theorem dX2_isLogWhole_0 : decode cX2_isLogWhole 0 = .ok (.aload_n 0, 1) := by decide +kernel
theorem dX2_isLogWhole_1 : decode cX2_isLogWhole 1 = .ok (.bipush 6, 2) := by decide +kernel
theorem dX2_isLogWhole_3 : decode cX2_isLogWhole 3 = .ok (.iaload, 1) := by decide +kernel
theorem dX2_isLogWhole_4 : decode cX2_isLogWhole 4 = .ok (.istore_n 1, 1) := by decide +kernel
theorem dX2_isLogWhole_5 : decode cX2_isLogWhole 5 = .ok (.bipush 8, 2) := by decide +kernel
theorem dX2_isLogWhole_7 : decode cX2_isLogWhole 7 = .ok (.istore_n 2, 1) := by decide +kernel
theorem dX2_isLogWhole_8 : decode cX2_isLogWhole 8 = .ok (.iload_n 1, 1) := by decide +kernel
theorem dX2_isLogWhole_9 : decode cX2_isLogWhole 9 = .ok (.iconst 1, 1) := by decide +kernel
theorem dX2_isLogWhole_10 : decode cX2_isLogWhole 10 = .ok (.if_icmp .eq 8, 3) := by decide +kernel
theorem dX2_isLogWhole_13 : decode cX2_isLogWhole 13 = .ok (.iload_n 1, 1) := by decide +kernel
theorem dX2_isLogWhole_14 : decode cX2_isLogWhole 14 = .ok (.iconst 2, 1) := by decide +kernel
theorem dX2_isLogWhole_15 : decode cX2_isLogWhole 15 = .ok (.if_icmp .ne 12, 3) := by decide +kernel
theorem dX2_isLogWhole_18 : decode cX2_isLogWhole 18 = .ok (.aload_n 0, 1) := by decide +kernel
theorem dX2_isLogWhole_19 : decode cX2_isLogWhole 19 = .ok (.iload_n 2, 1) := by decide +kernel
theorem dX2_isLogWhole_20 : decode cX2_isLogWhole 20 = .ok (.iaload, 1) := by decide +kernel
theorem dX2_isLogWhole_21 : decode cX2_isLogWhole 21 = .ok (.invokestatic 43, 3) := by decide +kernel
theorem dX2_isLogWhole_24 : decode cX2_isLogWhole 24 = .ok (.ifCond .ne 5, 3) := by decide +kernel
theorem dX2_isLogWhole_27 : decode cX2_isLogWhole 27 = .ok (.iconst 0, 1) := by decide +kernel
theorem dX2_isLogWhole_28 : decode cX2_isLogWhole 28 = .ok (.ireturn, 1) := by decide +kernel
theorem dX2_isLogWhole_29 : decode cX2_isLogWhole 29 = .ok (.iload_n 1, 1) := by decide +kernel
theorem dX2_isLogWhole_30 : decode cX2_isLogWhole 30 = .ok (.iconst 2, 1) := by decide +kernel
theorem dX2_isLogWhole_31 : decode cX2_isLogWhole 31 = .ok (.if_icmp .ne 16, 3) := by decide +kernel
theorem dX2_isLogWhole_34 : decode cX2_isLogWhole 34 = .ok (.aload_n 0, 1) := by decide +kernel
theorem dX2_isLogWhole_35 : decode cX2_isLogWhole 35 = .ok (.iload_n 2, 1) := by decide +kernel
theorem dX2_isLogWhole_36 : decode cX2_isLogWhole 36 = .ok (.iconst 3, 1) := by decide +kernel
theorem dX2_isLogWhole_37 : decode cX2_isLogWhole 37 = .ok (.iadd, 1) := by decide +kernel
theorem dX2_isLogWhole_38 : decode cX2_isLogWhole 38 = .ok (.iaload, 1) := by decide +kernel
theorem dX2_isLogWhole_39 : decode cX2_isLogWhole 39 = .ok (.invokestatic 43, 3) := by decide +kernel
theorem dX2_isLogWhole_42 : decode cX2_isLogWhole 42 = .ok (.ifCond .ne 5, 3) := by decide +kernel
theorem dX2_isLogWhole_45 : decode cX2_isLogWhole 45 = .ok (.iconst 0, 1) := by decide +kernel
theorem dX2_isLogWhole_46 : decode cX2_isLogWhole 46 = .ok (.ireturn, 1) := by decide +kernel
theorem dX2_isLogWhole_47 : decode cX2_isLogWhole 47 = .ok (.aload_n 0, 1) := by decide +kernel
theorem dX2_isLogWhole_48 : decode cX2_isLogWhole 48 = .ok (.bipush 7, 2) := by decide +kernel
theorem dX2_isLogWhole_50 : decode cX2_isLogWhole 50 = .ok (.iaload, 1) := by decide +kernel
theorem dX2_isLogWhole_51 : decode cX2_isLogWhole 51 = .ok (.iload_n 1, 1) := by decide +kernel
theorem dX2_isLogWhole_52 : decode cX2_isLogWhole 52 = .ok (.aload_n 0, 1) := by decide +kernel
theorem dX2_isLogWhole_53 : decode cX2_isLogWhole 53 = .ok (.iload_n 2, 1) := by decide +kernel
theorem dX2_isLogWhole_54 : decode cX2_isLogWhole 54 = .ok (.iaload, 1) := by decide +kernel
theorem dX2_isLogWhole_55 : decode cX2_isLogWhole 55 = .ok (.aload_n 0, 1) := by decide +kernel
theorem dX2_isLogWhole_56 : decode cX2_isLogWhole 56 = .ok (.iload_n 2, 1) := by decide +kernel
theorem dX2_isLogWhole_57 : decode cX2_isLogWhole 57 = .ok (.iconst 1, 1) := by decide +kernel
theorem dX2_isLogWhole_58 : decode cX2_isLogWhole 58 = .ok (.iadd, 1) := by decide +kernel
theorem dX2_isLogWhole_59 : decode cX2_isLogWhole 59 = .ok (.iaload, 1) := by decide +kernel
theorem dX2_isLogWhole_60 : decode cX2_isLogWhole 60 = .ok (.aload_n 0, 1) := by decide +kernel
theorem dX2_isLogWhole_61 : decode cX2_isLogWhole 61 = .ok (.iload_n 2, 1) := by decide +kernel
theorem dX2_isLogWhole_62 : decode cX2_isLogWhole 62 = .ok (.iconst 2, 1) := by decide +kernel
theorem dX2_isLogWhole_63 : decode cX2_isLogWhole 63 = .ok (.iadd, 1) := by decide +kernel
theorem dX2_isLogWhole_64 : decode cX2_isLogWhole 64 = .ok (.iaload, 1) := by decide +kernel
theorem dX2_isLogWhole_65 : decode cX2_isLogWhole 65 = .ok (.aload_n 0, 1) := by decide +kernel
theorem dX2_isLogWhole_66 : decode cX2_isLogWhole 66 = .ok (.iload_n 2, 1) := by decide +kernel
theorem dX2_isLogWhole_67 : decode cX2_isLogWhole 67 = .ok (.iconst 3, 1) := by decide +kernel
theorem dX2_isLogWhole_68 : decode cX2_isLogWhole 68 = .ok (.iadd, 1) := by decide +kernel
theorem dX2_isLogWhole_69 : decode cX2_isLogWhole 69 = .ok (.iaload, 1) := by decide +kernel
theorem dX2_isLogWhole_70 : decode cX2_isLogWhole 70 = .ok (.aload_n 0, 1) := by decide +kernel
theorem dX2_isLogWhole_71 : decode cX2_isLogWhole 71 = .ok (.iload_n 2, 1) := by decide +kernel
theorem dX2_isLogWhole_72 : decode cX2_isLogWhole 72 = .ok (.iconst 4, 1) := by decide +kernel
theorem dX2_isLogWhole_73 : decode cX2_isLogWhole 73 = .ok (.iadd, 1) := by decide +kernel
theorem dX2_isLogWhole_74 : decode cX2_isLogWhole 74 = .ok (.iaload, 1) := by decide +kernel
theorem dX2_isLogWhole_75 : decode cX2_isLogWhole 75 = .ok (.aload_n 0, 1) := by decide +kernel
theorem dX2_isLogWhole_76 : decode cX2_isLogWhole 76 = .ok (.iload_n 2, 1) := by decide +kernel
theorem dX2_isLogWhole_77 : decode cX2_isLogWhole 77 = .ok (.iconst 5, 1) := by decide +kernel
theorem dX2_isLogWhole_78 : decode cX2_isLogWhole 78 = .ok (.iadd, 1) := by decide +kernel
theorem dX2_isLogWhole_79 : decode cX2_isLogWhole 79 = .ok (.iaload, 1) := by decide +kernel
theorem dX2_isLogWhole_80 : decode cX2_isLogWhole 80 = .ok (.invokestatic 18, 3) := by decide +kernel
theorem dX2_isLogWhole_83 : decode cX2_isLogWhole 83 = .ok (.if_icmp .ne 7, 3) := by decide +kernel
theorem dX2_isLogWhole_86 : decode cX2_isLogWhole 86 = .ok (.iconst 1, 1) := by decide +kernel
theorem dX2_isLogWhole_87 : decode cX2_isLogWhole 87 = .ok (.goto 4, 3) := by decide +kernel
theorem dX2_isLogWhole_90 : decode cX2_isLogWhole 90 = .ok (.iconst 0, 1) := by decide +kernel
theorem dX2_isLogWhole_91 : decode cX2_isLogWhole 91 = .ok (.ireturn, 1) := by decide +kernel
theorem dX2_sum_0 : decode cX2_sum 0 = .ok (.iload_n 0, 1) := by decide +kernel
theorem dX2_sum_1 : decode cX2_sum 1 = .ok (.istore 7, 2) := by decide +kernel
theorem dX2_sum_3 : decode cX2_sum 3 = .ok (.bipush 31, 2) := by decide +kernel
theorem dX2_sum_5 : decode cX2_sum 5 = .ok (.iload 7, 2) := by decide +kernel
theorem dX2_sum_7 : decode cX2_sum 7 = .ok (.imul, 1) := by decide +kernel
theorem dX2_sum_8 : decode cX2_sum 8 = .ok (.iload_n 1, 1) := by decide +kernel
theorem dX2_sum_9 : decode cX2_sum 9 = .ok (.iadd, 1) := by decide +kernel
theorem dX2_sum_10 : decode cX2_sum 10 = .ok (.istore 7, 2) := by decide +kernel
theorem dX2_sum_12 : decode cX2_sum 12 = .ok (.bipush 31, 2) := by decide +kernel
theorem dX2_sum_14 : decode cX2_sum 14 = .ok (.iload 7, 2) := by decide +kernel
theorem dX2_sum_16 : decode cX2_sum 16 = .ok (.imul, 1) := by decide +kernel
theorem dX2_sum_17 : decode cX2_sum 17 = .ok (.iload_n 2, 1) := by decide +kernel
theorem dX2_sum_18 : decode cX2_sum 18 = .ok (.iadd, 1) := by decide +kernel
theorem dX2_sum_19 : decode cX2_sum 19 = .ok (.istore 7, 2) := by decide +kernel
theorem dX2_sum_21 : decode cX2_sum 21 = .ok (.bipush 31, 2) := by decide +kernel
theorem dX2_sum_23 : decode cX2_sum 23 = .ok (.iload 7, 2) := by decide +kernel
theorem dX2_sum_25 : decode cX2_sum 25 = .ok (.imul, 1) := by decide +kernel
theorem dX2_sum_26 : decode cX2_sum 26 = .ok (.iload_n 3, 1) := by decide +kernel
theorem dX2_sum_27 : decode cX2_sum 27 = .ok (.iadd, 1) := by decide +kernel
theorem dX2_sum_28 : decode cX2_sum 28 = .ok (.istore 7, 2) := by decide +kernel
theorem dX2_sum_30 : decode cX2_sum 30 = .ok (.bipush 31, 2) := by decide +kernel
theorem dX2_sum_32 : decode cX2_sum 32 = .ok (.iload 7, 2) := by decide +kernel
theorem dX2_sum_34 : decode cX2_sum 34 = .ok (.imul, 1) := by decide +kernel
theorem dX2_sum_35 : decode cX2_sum 35 = .ok (.iload 4, 2) := by decide +kernel
theorem dX2_sum_37 : decode cX2_sum 37 = .ok (.iadd, 1) := by decide +kernel
theorem dX2_sum_38 : decode cX2_sum 38 = .ok (.istore 7, 2) := by decide +kernel
theorem dX2_sum_40 : decode cX2_sum 40 = .ok (.bipush 31, 2) := by decide +kernel
theorem dX2_sum_42 : decode cX2_sum 42 = .ok (.iload 7, 2) := by decide +kernel
theorem dX2_sum_44 : decode cX2_sum 44 = .ok (.imul, 1) := by decide +kernel
theorem dX2_sum_45 : decode cX2_sum 45 = .ok (.iload 5, 2) := by decide +kernel
theorem dX2_sum_47 : decode cX2_sum 47 = .ok (.iadd, 1) := by decide +kernel
theorem dX2_sum_48 : decode cX2_sum 48 = .ok (.istore 7, 2) := by decide +kernel
theorem dX2_sum_50 : decode cX2_sum 50 = .ok (.bipush 31, 2) := by decide +kernel
theorem dX2_sum_52 : decode cX2_sum 52 = .ok (.iload 7, 2) := by decide +kernel
theorem dX2_sum_54 : decode cX2_sum 54 = .ok (.imul, 1) := by decide +kernel
theorem dX2_sum_55 : decode cX2_sum 55 = .ok (.iload 6, 2) := by decide +kernel
theorem dX2_sum_57 : decode cX2_sum 57 = .ok (.iadd, 1) := by decide +kernel
theorem dX2_sum_58 : decode cX2_sum 58 = .ok (.istore 7, 2) := by decide +kernel
theorem dX2_sum_60 : decode cX2_sum 60 = .ok (.iconst 2, 1) := by decide +kernel
theorem dX2_sum_61 : decode cX2_sum 61 = .ok (.iload 7, 2) := by decide +kernel
theorem dX2_sum_63 : decode cX2_sum 63 = .ok (.imul, 1) := by decide +kernel
theorem dX2_sum_64 : decode cX2_sum 64 = .ok (.iconst 1, 1) := by decide +kernel
theorem dX2_sum_65 : decode cX2_sum 65 = .ok (.iadd, 1) := by decide +kernel
theorem dX2_sum_66 : decode cX2_sum 66 = .ok (.ireturn, 1) := by decide +kernel
theorem dX3_init_0 : decode cX3_init 0 = .ok (.aload_n 0, 1) := by decide +kernel
theorem dX3_init_1 : decode cX3_init 1 = .ok (.invokespecial 3, 3) := by decide +kernel
theorem dX3_init_4 : decode cX3_init 4 = .ok (.aload_n 0, 1) := by decide +kernel
theorem dX3_init_5 : decode cX3_init 5 = .ok (.new 9, 3) := by decide +kernel
theorem dX3_init_8 : decode cX3_init 8 = .ok (.dup, 1) := by decide +kernel
theorem dX3_init_9 : decode cX3_init 9 = .ok (.invokespecial 11, 3) := by decide +kernel
theorem dX3_init_12 : decode cX3_init 12 = .ok (.putfield 12, 3) := by decide +kernel
theorem dX3_init_15 : decode cX3_init 15 = .ok (.aload_n 0, 1) := by decide +kernel
theorem dX3_init_16 : decode cX3_init 16 = .ok (.new 18, 3) := by decide +kernel
theorem dX3_init_19 : decode cX3_init 19 = .ok (.dup, 1) := by decide +kernel
theorem dX3_init_20 : decode cX3_init 20 = .ok (.invokespecial 20, 3) := by decide +kernel
theorem dX3_init_23 : decode cX3_init 23 = .ok (.putfield 21, 3) := by decide +kernel
theorem dX3_init_26 : decode cX3_init 26 = .ok (.aload_n 0, 1) := by decide +kernel
theorem dX3_init_27 : decode cX3_init 27 = .ok (.new 25, 3) := by decide +kernel
theorem dX3_init_30 : decode cX3_init 30 = .ok (.dup, 1) := by decide +kernel
theorem dX3_init_31 : decode cX3_init 31 = .ok (.invokespecial 27, 3) := by decide +kernel
theorem dX3_init_34 : decode cX3_init 34 = .ok (.putfield 28, 3) := by decide +kernel
theorem dX3_init_37 : decode cX3_init 37 = .ok (.aload_n 0, 1) := by decide +kernel
theorem dX3_init_38 : decode cX3_init 38 = .ok (.new 25, 3) := by decide +kernel
theorem dX3_init_41 : decode cX3_init 41 = .ok (.dup, 1) := by decide +kernel
theorem dX3_init_42 : decode cX3_init 42 = .ok (.invokespecial 27, 3) := by decide +kernel
theorem dX3_init_45 : decode cX3_init 45 = .ok (.putfield 32, 3) := by decide +kernel
theorem dX3_init_48 : decode cX3_init 48 = .ok (.aload_n 0, 1) := by decide +kernel
theorem dX3_init_49 : decode cX3_init 49 = .ok (.bipush 9, 2) := by decide +kernel
theorem dX3_init_51 : decode cX3_init 51 = .ok (.bipush 6, 2) := by decide +kernel
theorem dX3_init_53 : decode cX3_init 53 = .ok (.multianewarray 35 2, 4) := by decide +kernel
theorem dX3_init_57 : decode cX3_init 57 = .ok (.putfield 37, 3) := by decide +kernel
theorem dX3_init_60 : decode cX3_init 60 = .ok (.aload_n 0, 1) := by decide +kernel
theorem dX3_init_61 : decode cX3_init 61 = .ok (.bipush 32, 2) := by decide +kernel
theorem dX3_init_63 : decode cX3_init 63 = .ok (.newarray .int, 2) := by decide +kernel
theorem dX3_init_65 : decode cX3_init 65 = .ok (.putfield 40, 3) := by decide +kernel
theorem dX3_init_68 : decode cX3_init 68 = .ok (.aload_n 0, 1) := by decide +kernel
theorem dX3_init_69 : decode cX3_init 69 = .ok (.bipush 6, 2) := by decide +kernel
theorem dX3_init_71 : decode cX3_init 71 = .ok (.newarray .int, 2) := by decide +kernel
theorem dX3_init_73 : decode cX3_init 73 = .ok (.putfield 44, 3) := by decide +kernel
theorem dX3_init_76 : decode cX3_init 76 = .ok (.aload_n 0, 1) := by decide +kernel
theorem dX3_init_77 : decode cX3_init 77 = .ok (.new 47, 3) := by decide +kernel
theorem dX3_init_80 : decode cX3_init 80 = .ok (.dup, 1) := by decide +kernel
theorem dX3_init_81 : decode cX3_init 81 = .ok (.invokespecial 49, 3) := by decide +kernel
theorem dX3_init_84 : decode cX3_init 84 = .ok (.putfield 50, 3) := by decide +kernel
theorem dX3_init_87 : decode cX3_init 87 = .ok (.aload_n 0, 1) := by decide +kernel
theorem dX3_init_88 : decode cX3_init 88 = .ok (.new 54, 3) := by decide +kernel
theorem dX3_init_91 : decode cX3_init 91 = .ok (.dup, 1) := by decide +kernel
theorem dX3_init_92 : decode cX3_init 92 = .ok (.invokespecial 56, 3) := by decide +kernel
theorem dX3_init_95 : decode cX3_init 95 = .ok (.putfield 57, 3) := by decide +kernel
theorem dX3_init_98 : decode cX3_init 98 = .ok (.aload_n 0, 1) := by decide +kernel
theorem dX3_init_99 : decode cX3_init 99 = .ok (.new 54, 3) := by decide +kernel
theorem dX3_init_102 : decode cX3_init 102 = .ok (.dup, 1) := by decide +kernel
theorem dX3_init_103 : decode cX3_init 103 = .ok (.invokespecial 56, 3) := by decide +kernel
theorem dX3_init_106 : decode cX3_init 106 = .ok (.putfield 61, 3) := by decide +kernel
theorem dX3_init_109 : decode cX3_init 109 = .ok (.aload_n 0, 1) := by decide +kernel
theorem dX3_init_110 : decode cX3_init 110 = .ok (.iconst 0, 1) := by decide +kernel
theorem dX3_init_111 : decode cX3_init 111 = .ok (.putfield 64, 3) := by decide +kernel
theorem dX3_init_114 : decode cX3_init 114 = .ok (.aload_n 0, 1) := by decide +kernel
theorem dX3_init_115 : decode cX3_init 115 = .ok (.iconst 0, 1) := by decide +kernel
theorem dX3_init_116 : decode cX3_init 116 = .ok (.putfield 68, 3) := by decide +kernel
theorem dX3_init_119 : decode cX3_init 119 = .ok (.aload_n 0, 1) := by decide +kernel
theorem dX3_init_120 : decode cX3_init 120 = .ok (.iconst 0, 1) := by decide +kernel
theorem dX3_init_121 : decode cX3_init 121 = .ok (.putfield 71, 3) := by decide +kernel
theorem dX3_init_124 : decode cX3_init 124 = .ok (.aload_n 0, 1) := by decide +kernel
theorem dX3_init_125 : decode cX3_init 125 = .ok (.iconst 0, 1) := by decide +kernel
theorem dX3_init_126 : decode cX3_init 126 = .ok (.putfield 74, 3) := by decide +kernel
theorem dX3_init_129 : decode cX3_init 129 = .ok (.return_, 1) := by decide +kernel
theorem dX3_walk_0 : decode cX3_walk 0 = .ok (.aload_n 0, 1) := by decide +kernel
theorem dX3_walk_1 : decode cX3_walk 1 = .ok (.aload_n 1, 1) := by decide +kernel
theorem dX3_walk_2 : decode cX3_walk 2 = .ok (.putfield 50, 3) := by decide +kernel
theorem dX3_walk_5 : decode cX3_walk 5 = .ok (.aload_n 0, 1) := by decide +kernel
theorem dX3_walk_6 : decode cX3_walk 6 = .ok (.iload_n 2, 1) := by decide +kernel
theorem dX3_walk_7 : decode cX3_walk 7 = .ok (.putfield 64, 3) := by decide +kernel
theorem dX3_walk_10 : decode cX3_walk 10 = .ok (.aload_n 0, 1) := by decide +kernel
theorem dX3_walk_11 : decode cX3_walk 11 = .ok (.iload 4, 2) := by decide +kernel
theorem dX3_walk_13 : decode cX3_walk 13 = .ok (.putfield 74, 3) := by decide +kernel
theorem dX3_walk_16 : decode cX3_walk 16 = .ok (.aload_n 0, 1) := by decide +kernel
theorem dX3_walk_17 : decode cX3_walk 17 = .ok (.iconst 0, 1) := by decide +kernel
theorem dX3_walk_18 : decode cX3_walk 18 = .ok (.putfield 68, 3) := by decide +kernel
theorem dX3_walk_21 : decode cX3_walk 21 = .ok (.aload_n 0, 1) := by decide +kernel
theorem dX3_walk_22 : decode cX3_walk 22 = .ok (.iconst 0, 1) := by decide +kernel
theorem dX3_walk_23 : decode cX3_walk 23 = .ok (.putfield 71, 3) := by decide +kernel
theorem dX3_walk_26 : decode cX3_walk 26 = .ok (.aload_n 0, 1) := by decide +kernel
theorem dX3_walk_27 : decode cX3_walk 27 = .ok (.getfield 61, 3) := by decide +kernel
theorem dX3_walk_30 : decode cX3_walk 30 = .ok (.invokevirtual 78, 3) := by decide +kernel
theorem dX3_walk_33 : decode cX3_walk 33 = .ok (.aload_n 3, 1) := by decide +kernel
theorem dX3_walk_34 : decode cX3_walk 34 = .ok (.aload_n 0, 1) := by decide +kernel
theorem dX3_walk_35 : decode cX3_walk 35 = .ok (.getfield 37, 3) := by decide +kernel
theorem dX3_walk_38 : decode cX3_walk 38 = .ok (.invokevirtual 81, 3) := by decide +kernel
theorem dX3_walk_41 : decode cX3_walk 41 = .ok (.aload_n 0, 1) := by decide +kernel
theorem dX3_walk_42 : decode cX3_walk 42 = .ok (.getfield 12, 3) := by decide +kernel
theorem dX3_walk_45 : decode cX3_walk 45 = .ok (.aload_n 1, 1) := by decide +kernel
theorem dX3_walk_46 : decode cX3_walk 46 = .ok (.invokevirtual 87, 3) := by decide +kernel
theorem dX3_walk_49 : decode cX3_walk 49 = .ok (.aload_n 0, 1) := by decide +kernel
theorem dX3_walk_50 : decode cX3_walk 50 = .ok (.invokevirtual 91, 3) := by decide +kernel
theorem dX3_walk_53 : decode cX3_walk 53 = .ok (.istore 5, 2) := by decide +kernel
theorem dX3_walk_55 : decode cX3_walk 55 = .ok (.iconst 0, 1) := by decide +kernel
theorem dX3_walk_56 : decode cX3_walk 56 = .ok (.istore 6, 2) := by decide +kernel
theorem dX3_walk_58 : decode cX3_walk 58 = .ok (.iload 6, 2) := by decide +kernel
theorem dX3_walk_60 : decode cX3_walk 60 = .ok (.aload_n 3, 1) := by decide +kernel
theorem dX3_walk_61 : decode cX3_walk 61 = .ok (.getfield 95, 3) := by decide +kernel
theorem dX3_walk_64 : decode cX3_walk 64 = .ok (.if_icmp .ge 49, 3) := by decide +kernel
theorem dX3_walk_67 : decode cX3_walk 67 = .ok (.iload 5, 2) := by decide +kernel
theorem dX3_walk_69 : decode cX3_walk 69 = .ok (.ifCond .eq 44, 3) := by decide +kernel
theorem dX3_walk_72 : decode cX3_walk 72 = .ok (.aload_n 0, 1) := by decide +kernel
theorem dX3_walk_73 : decode cX3_walk 73 = .ok (.iload 6, 2) := by decide +kernel
theorem dX3_walk_75 : decode cX3_walk 75 = .ok (.iconst 1, 1) := by decide +kernel
theorem dX3_walk_76 : decode cX3_walk 76 = .ok (.iadd, 1) := by decide +kernel
theorem dX3_walk_77 : decode cX3_walk 77 = .ok (.putfield 68, 3) := by decide +kernel
theorem dX3_walk_80 : decode cX3_walk 80 = .ok (.aload_n 3, 1) := by decide +kernel
theorem dX3_walk_81 : decode cX3_walk 81 = .ok (.getfield 98, 3) := by decide +kernel
theorem dX3_walk_84 : decode cX3_walk 84 = .ok (.iload 6, 2) := by decide +kernel
theorem dX3_walk_86 : decode cX3_walk 86 = .ok (.iaload, 1) := by decide +kernel
theorem dX3_walk_87 : decode cX3_walk 87 = .ok (.iconst 2, 1) := by decide +kernel
theorem dX3_walk_88 : decode cX3_walk 88 = .ok (.if_icmp .ne 10, 3) := by decide +kernel
theorem dX3_walk_91 : decode cX3_walk 91 = .ok (.aload_n 0, 1) := by decide +kernel
theorem dX3_walk_92 : decode cX3_walk 92 = .ok (.invokevirtual 101, 3) := by decide +kernel
theorem dX3_walk_95 : decode cX3_walk 95 = .ok (.goto 10, 3) := by decide +kernel
theorem dX3_walk_98 : decode cX3_walk 98 = .ok (.aload_n 0, 1) := by decide +kernel
theorem dX3_walk_99 : decode cX3_walk 99 = .ok (.aload_n 3, 1) := by decide +kernel
theorem dX3_walk_100 : decode cX3_walk 100 = .ok (.iload 6, 2) := by decide +kernel
theorem dX3_walk_102 : decode cX3_walk 102 = .ok (.invokevirtual 104, 3) := by decide +kernel
theorem dX3_walk_105 : decode cX3_walk 105 = .ok (.istore 5, 2) := by decide +kernel
theorem dX3_walk_107 : decode cX3_walk 107 = .ok (.iinc 6 1, 3) := by decide +kernel
theorem dX3_walk_110 : decode cX3_walk 110 = .ok (.goto (-52), 3) := by decide +kernel
theorem dX3_walk_113 : decode cX3_walk 113 = .ok (.iload 5, 2) := by decide +kernel
theorem dX3_walk_115 : decode cX3_walk 115 = .ok (.ireturn, 1) := by decide +kernel
theorem dX3_keepReport_0 : decode cX3_keepReport 0 = .ok (.aload_n 0, 1) := by decide +kernel
theorem dX3_keepReport_1 : decode cX3_keepReport 1 = .ok (.getfield 57, 3) := by decide +kernel
theorem dX3_keepReport_4 : decode cX3_keepReport 4 = .ok (.astore_n 1, 1) := by decide +kernel
theorem dX3_keepReport_5 : decode cX3_keepReport 5 = .ok (.aload_n 0, 1) := by decide +kernel
theorem dX3_keepReport_6 : decode cX3_keepReport 6 = .ok (.aload_n 0, 1) := by decide +kernel
theorem dX3_keepReport_7 : decode cX3_keepReport 7 = .ok (.getfield 61, 3) := by decide +kernel
theorem dX3_keepReport_10 : decode cX3_keepReport 10 = .ok (.putfield 57, 3) := by decide +kernel
theorem dX3_keepReport_13 : decode cX3_keepReport 13 = .ok (.aload_n 0, 1) := by decide +kernel
theorem dX3_keepReport_14 : decode cX3_keepReport 14 = .ok (.aload_n 1, 1) := by decide +kernel
theorem dX3_keepReport_15 : decode cX3_keepReport 15 = .ok (.putfield 61, 3) := by decide +kernel
theorem dX3_keepReport_18 : decode cX3_keepReport 18 = .ok (.return_, 1) := by decide +kernel
theorem dX3_makeSure_0 : decode cX3_makeSure 0 = .ok (.aload_n 0, 1) := by decide +kernel
theorem dX3_makeSure_1 : decode cX3_makeSure 1 = .ok (.getfield 12, 3) := by decide +kernel
theorem dX3_makeSure_4 : decode cX3_makeSure 4 = .ok (.invokevirtual 108, 3) := by decide +kernel
theorem dX3_makeSure_7 : decode cX3_makeSure 7 = .ok (.aload_n 0, 1) := by decide +kernel
theorem dX3_makeSure_8 : decode cX3_makeSure 8 = .ok (.aload_n 0, 1) := by decide +kernel
theorem dX3_makeSure_9 : decode cX3_makeSure 9 = .ok (.getfield 68, 3) := by decide +kernel
theorem dX3_makeSure_12 : decode cX3_makeSure 12 = .ok (.putfield 71, 3) := by decide +kernel
theorem dX3_makeSure_15 : decode cX3_makeSure 15 = .ok (.aload_n 0, 1) := by decide +kernel
theorem dX3_makeSure_16 : decode cX3_makeSure 16 = .ok (.getfield 61, 3) := by decide +kernel
theorem dX3_makeSure_19 : decode cX3_makeSure 19 = .ok (.getfield 111, 3) := by decide +kernel
theorem dX3_makeSure_22 : decode cX3_makeSure 22 = .ok (.iconst 5, 1) := by decide +kernel
theorem dX3_makeSure_23 : decode cX3_makeSure 23 = .ok (.dup2, 1) := by decide +kernel
theorem dX3_makeSure_24 : decode cX3_makeSure 24 = .ok (.iaload, 1) := by decide +kernel
theorem dX3_makeSure_25 : decode cX3_makeSure 25 = .ok (.iconst 1, 1) := by decide +kernel
theorem dX3_makeSure_26 : decode cX3_makeSure 26 = .ok (.iadd, 1) := by decide +kernel
theorem dX3_makeSure_27 : decode cX3_makeSure 27 = .ok (.iastore, 1) := by decide +kernel
theorem dX3_makeSure_28 : decode cX3_makeSure 28 = .ok (.aload_n 0, 1) := by decide +kernel
theorem dX3_makeSure_29 : decode cX3_makeSure 29 = .ok (.invokevirtual 91, 3) := by decide +kernel
theorem dX3_makeSure_32 : decode cX3_makeSure 32 = .ok (.ireturn, 1) := by decide +kernel
theorem dX3_change_0 : decode cX3_change 0 = .ok (.aload_n 0, 1) := by decide +kernel
theorem dX3_change_1 : decode cX3_change 1 = .ok (.getfield 28, 3) := by decide +kernel
theorem dX3_change_4 : decode cX3_change 4 = .ok (.aload_n 0, 1) := by decide +kernel
theorem dX3_change_5 : decode cX3_change 5 = .ok (.getfield 64, 3) := by decide +kernel
theorem dX3_change_8 : decode cX3_change 8 = .ok (.invokevirtual 114, 3) := by decide +kernel
theorem dX3_change_11 : decode cX3_change 11 = .ok (.aload_n 1, 1) := by decide +kernel
theorem dX3_change_12 : decode cX3_change 12 = .ok (.getfield 98, 3) := by decide +kernel
theorem dX3_change_15 : decode cX3_change 15 = .ok (.iload_n 2, 1) := by decide +kernel
theorem dX3_change_16 : decode cX3_change 16 = .ok (.iaload, 1) := by decide +kernel
theorem dX3_change_17 : decode cX3_change 17 = .ok (.ifCond .ne 36, 3) := by decide +kernel
theorem dX3_change_20 : decode cX3_change 20 = .ok (.aload_n 0, 1) := by decide +kernel
theorem dX3_change_21 : decode cX3_change 21 = .ok (.getfield 50, 3) := by decide +kernel
theorem dX3_change_24 : decode cX3_change 24 = .ok (.aload_n 0, 1) := by decide +kernel
theorem dX3_change_25 : decode cX3_change 25 = .ok (.getfield 12, 3) := by decide +kernel
theorem dX3_change_28 : decode cX3_change 28 = .ok (.getfield 117, 3) := by decide +kernel
theorem dX3_change_31 : decode cX3_change 31 = .ok (.aload_n 1, 1) := by decide +kernel
theorem dX3_change_32 : decode cX3_change 32 = .ok (.getfield 120, 3) := by decide +kernel
theorem dX3_change_35 : decode cX3_change 35 = .ok (.iload_n 2, 1) := by decide +kernel
theorem dX3_change_36 : decode cX3_change 36 = .ok (.iaload, 1) := by decide +kernel
theorem dX3_change_37 : decode cX3_change 37 = .ok (.aload_n 1, 1) := by decide +kernel
theorem dX3_change_38 : decode cX3_change 38 = .ok (.getfield 123, 3) := by decide +kernel
theorem dX3_change_41 : decode cX3_change 41 = .ok (.iload_n 2, 1) := by decide +kernel
theorem dX3_change_42 : decode cX3_change 42 = .ok (.laload, 1) := by decide +kernel
theorem dX3_change_43 : decode cX3_change 43 = .ok (.aload_n 0, 1) := by decide +kernel
theorem dX3_change_44 : decode cX3_change 44 = .ok (.getfield 28, 3) := by decide +kernel
theorem dX3_change_47 : decode cX3_change 47 = .ok (.invokevirtual 127, 3) := by decide +kernel
theorem dX3_change_50 : decode cX3_change 50 = .ok (.goto 33, 3) := by decide +kernel
theorem dX3_change_53 : decode cX3_change 53 = .ok (.aload_n 0, 1) := by decide +kernel
theorem dX3_change_54 : decode cX3_change 54 = .ok (.getfield 50, 3) := by decide +kernel
theorem dX3_change_57 : decode cX3_change 57 = .ok (.aload_n 0, 1) := by decide +kernel
theorem dX3_change_58 : decode cX3_change 58 = .ok (.getfield 12, 3) := by decide +kernel
theorem dX3_change_61 : decode cX3_change 61 = .ok (.getfield 117, 3) := by decide +kernel
theorem dX3_change_64 : decode cX3_change 64 = .ok (.aload_n 1, 1) := by decide +kernel
theorem dX3_change_65 : decode cX3_change 65 = .ok (.getfield 120, 3) := by decide +kernel
theorem dX3_change_68 : decode cX3_change 68 = .ok (.iload_n 2, 1) := by decide +kernel
theorem dX3_change_69 : decode cX3_change 69 = .ok (.iaload, 1) := by decide +kernel
theorem dX3_change_70 : decode cX3_change 70 = .ok (.aload_n 1, 1) := by decide +kernel
theorem dX3_change_71 : decode cX3_change 71 = .ok (.getfield 133, 3) := by decide +kernel
theorem dX3_change_74 : decode cX3_change 74 = .ok (.iload_n 2, 1) := by decide +kernel
theorem dX3_change_75 : decode cX3_change 75 = .ok (.iaload, 1) := by decide +kernel
theorem dX3_change_76 : decode cX3_change 76 = .ok (.aload_n 0, 1) := by decide +kernel
theorem dX3_change_77 : decode cX3_change 77 = .ok (.getfield 28, 3) := by decide +kernel
theorem dX3_change_80 : decode cX3_change 80 = .ok (.invokevirtual 136, 3) := by decide +kernel
theorem dX3_change_83 : decode cX3_change 83 = .ok (.aload_n 0, 1) := by decide +kernel
theorem dX3_change_84 : decode cX3_change 84 = .ok (.getfield 12, 3) := by decide +kernel
theorem dX3_change_87 : decode cX3_change 87 = .ok (.aload_n 0, 1) := by decide +kernel
theorem dX3_change_88 : decode cX3_change 88 = .ok (.getfield 28, 3) := by decide +kernel
theorem dX3_change_91 : decode cX3_change 91 = .ok (.getfield 140, 3) := by decide +kernel
theorem dX3_change_94 : decode cX3_change 94 = .ok (.invokevirtual 143, 3) := by decide +kernel
theorem dX3_change_97 : decode cX3_change 97 = .ok (.istore_n 3, 1) := by decide +kernel
theorem dX3_change_98 : decode cX3_change 98 = .ok (.iconst 0, 1) := by decide +kernel
theorem dX3_change_99 : decode cX3_change 99 = .ok (.istore 4, 2) := by decide +kernel
theorem dX3_change_101 : decode cX3_change 101 = .ok (.iload 4, 2) := by decide +kernel
theorem dX3_change_103 : decode cX3_change 103 = .ok (.aload_n 0, 1) := by decide +kernel
theorem dX3_change_104 : decode cX3_change 104 = .ok (.getfield 28, 3) := by decide +kernel
theorem dX3_change_107 : decode cX3_change 107 = .ok (.getfield 140, 3) := by decide +kernel
theorem dX3_change_110 : decode cX3_change 110 = .ok (.if_icmp .ge 72, 3) := by decide +kernel
theorem dX3_change_113 : decode cX3_change 113 = .ok (.iload_n 3, 1) := by decide +kernel
theorem dX3_change_114 : decode cX3_change 114 = .ok (.ifCond .eq 68, 3) := by decide +kernel
theorem dX3_change_117 : decode cX3_change 117 = .ok (.aload_n 0, 1) := by decide +kernel
theorem dX3_change_118 : decode cX3_change 118 = .ok (.getfield 12, 3) := by decide +kernel
theorem dX3_change_121 : decode cX3_change 121 = .ok (.aload_n 0, 1) := by decide +kernel
theorem dX3_change_122 : decode cX3_change 122 = .ok (.getfield 28, 3) := by decide +kernel
theorem dX3_change_125 : decode cX3_change 125 = .ok (.iload 4, 2) := by decide +kernel
theorem dX3_change_127 : decode cX3_change 127 = .ok (.invokevirtual 147, 3) := by decide +kernel
theorem dX3_change_130 : decode cX3_change 130 = .ok (.aload_n 0, 1) := by decide +kernel
theorem dX3_change_131 : decode cX3_change 131 = .ok (.getfield 28, 3) := by decide +kernel
theorem dX3_change_134 : decode cX3_change 134 = .ok (.iload 4, 2) := by decide +kernel
theorem dX3_change_136 : decode cX3_change 136 = .ok (.invokevirtual 151, 3) := by decide +kernel
theorem dX3_change_139 : decode cX3_change 139 = .ok (.ifCond .eq 19, 3) := by decide +kernel
theorem dX3_change_142 : decode cX3_change 142 = .ok (.aload_n 0, 1) := by decide +kernel
theorem dX3_change_143 : decode cX3_change 143 = .ok (.getfield 61, 3) := by decide +kernel
theorem dX3_change_146 : decode cX3_change 146 = .ok (.getfield 111, 3) := by decide +kernel
theorem dX3_change_149 : decode cX3_change 149 = .ok (.iconst 4, 1) := by decide +kernel
theorem dX3_change_150 : decode cX3_change 150 = .ok (.dup2, 1) := by decide +kernel
theorem dX3_change_151 : decode cX3_change 151 = .ok (.iaload, 1) := by decide +kernel
theorem dX3_change_152 : decode cX3_change 152 = .ok (.iconst 1, 1) := by decide +kernel
theorem dX3_change_153 : decode cX3_change 153 = .ok (.iadd, 1) := by decide +kernel
theorem dX3_change_154 : decode cX3_change 154 = .ok (.iastore, 1) := by decide +kernel
theorem dX3_change_155 : decode cX3_change 155 = .ok (.goto 21, 3) := by decide +kernel
theorem dX3_change_158 : decode cX3_change 158 = .ok (.aload_n 0, 1) := by decide +kernel
theorem dX3_change_159 : decode cX3_change 159 = .ok (.getfield 61, 3) := by decide +kernel
theorem dX3_change_162 : decode cX3_change 162 = .ok (.getfield 111, 3) := by decide +kernel
theorem dX3_change_165 : decode cX3_change 165 = .ok (.iconst 3, 1) := by decide +kernel
theorem dX3_change_166 : decode cX3_change 166 = .ok (.dup2, 1) := by decide +kernel
theorem dX3_change_167 : decode cX3_change 167 = .ok (.iaload, 1) := by decide +kernel
theorem dX3_change_168 : decode cX3_change 168 = .ok (.iconst 1, 1) := by decide +kernel
theorem dX3_change_169 : decode cX3_change 169 = .ok (.iadd, 1) := by decide +kernel
theorem dX3_change_170 : decode cX3_change 170 = .ok (.iastore, 1) := by decide +kernel
theorem dX3_change_171 : decode cX3_change 171 = .ok (.aload_n 0, 1) := by decide +kernel
theorem dX3_change_172 : decode cX3_change 172 = .ok (.invokevirtual 91, 3) := by decide +kernel
theorem dX3_change_175 : decode cX3_change 175 = .ok (.istore_n 3, 1) := by decide +kernel
theorem dX3_change_176 : decode cX3_change 176 = .ok (.iinc 4 1, 3) := by decide +kernel
theorem dX3_change_179 : decode cX3_change 179 = .ok (.goto (-78), 3) := by decide +kernel
theorem dX3_change_182 : decode cX3_change 182 = .ok (.iload_n 3, 1) := by decide +kernel
theorem dX3_change_183 : decode cX3_change 183 = .ok (.ireturn, 1) := by decide +kernel
theorem dX3_lookAround_0 : decode cX3_lookAround 0 = .ok (.aload_n 0, 1) := by decide +kernel
theorem dX3_lookAround_1 : decode cX3_lookAround 1 = .ok (.getfield 21, 3) := by decide +kernel
theorem dX3_lookAround_4 : decode cX3_lookAround 4 = .ok (.aload_n 0, 1) := by decide +kernel
theorem dX3_lookAround_5 : decode cX3_lookAround 5 = .ok (.getfield 12, 3) := by decide +kernel
theorem dX3_lookAround_8 : decode cX3_lookAround 8 = .ok (.invokevirtual 154, 3) := by decide +kernel
theorem dX3_lookAround_11 : decode cX3_lookAround 11 = .ok (.aload_n 0, 1) := by decide +kernel
theorem dX3_lookAround_12 : decode cX3_lookAround 12 = .ok (.getfield 21, 3) := by decide +kernel
theorem dX3_lookAround_15 : decode cX3_lookAround 15 = .ok (.getfield 158, 3) := by decide +kernel
theorem dX3_lookAround_18 : decode cX3_lookAround 18 = .ok (.istore_n 1, 1) := by decide +kernel
theorem dX3_lookAround_19 : decode cX3_lookAround 19 = .ok (.iload_n 1, 1) := by decide +kernel
theorem dX3_lookAround_20 : decode cX3_lookAround 20 = .ok (.sipush 4096, 3) := by decide +kernel
theorem dX3_lookAround_23 : decode cX3_lookAround 23 = .ok (.if_icmp .le 5, 3) := by decide +kernel
theorem dX3_lookAround_26 : decode cX3_lookAround 26 = .ok (.iconst 0, 1) := by decide +kernel
theorem dX3_lookAround_27 : decode cX3_lookAround 27 = .ok (.ireturn, 1) := by decide +kernel
theorem dX3_lookAround_28 : decode cX3_lookAround 28 = .ok (.iconst 0, 1) := by decide +kernel
theorem dX3_lookAround_29 : decode cX3_lookAround 29 = .ok (.istore_n 2, 1) := by decide +kernel
theorem dX3_lookAround_30 : decode cX3_lookAround 30 = .ok (.iload_n 2, 1) := by decide +kernel
theorem dX3_lookAround_31 : decode cX3_lookAround 31 = .ok (.iload_n 1, 1) := by decide +kernel
theorem dX3_lookAround_32 : decode cX3_lookAround 32 = .ok (.if_icmp .ge 40, 3) := by decide +kernel
theorem dX3_lookAround_35 : decode cX3_lookAround 35 = .ok (.aload_n 0, 1) := by decide +kernel
theorem dX3_lookAround_36 : decode cX3_lookAround 36 = .ok (.getfield 21, 3) := by decide +kernel
theorem dX3_lookAround_39 : decode cX3_lookAround 39 = .ok (.iload_n 2, 1) := by decide +kernel
theorem dX3_lookAround_40 : decode cX3_lookAround 40 = .ok (.invokevirtual 161, 3) := by decide +kernel
theorem dX3_lookAround_43 : decode cX3_lookAround 43 = .ok (.aload_n 0, 1) := by decide +kernel
theorem dX3_lookAround_44 : decode cX3_lookAround 44 = .ok (.aload_n 0, 1) := by decide +kernel
theorem dX3_lookAround_45 : decode cX3_lookAround 45 = .ok (.getfield 21, 3) := by decide +kernel
theorem dX3_lookAround_48 : decode cX3_lookAround 48 = .ok (.getfield 164, 3) := by decide +kernel
theorem dX3_lookAround_51 : decode cX3_lookAround 51 = .ok (.invokevirtual 167, 3) := by decide +kernel
theorem dX3_lookAround_54 : decode cX3_lookAround 54 = .ok (.aload_n 0, 1) := by decide +kernel
theorem dX3_lookAround_55 : decode cX3_lookAround 55 = .ok (.invokevirtual 171, 3) := by decide +kernel
theorem dX3_lookAround_58 : decode cX3_lookAround 58 = .ok (.ifCond .ne 8, 3) := by decide +kernel
theorem dX3_lookAround_61 : decode cX3_lookAround 61 = .ok (.aload_n 0, 1) := by decide +kernel
theorem dX3_lookAround_62 : decode cX3_lookAround 62 = .ok (.iload_n 2, 1) := by decide +kernel
theorem dX3_lookAround_63 : decode cX3_lookAround 63 = .ok (.invokevirtual 174, 3) := by decide +kernel
theorem dX3_lookAround_66 : decode cX3_lookAround 66 = .ok (.iinc 2 1, 3) := by decide +kernel
theorem dX3_lookAround_69 : decode cX3_lookAround 69 = .ok (.goto (-39), 3) := by decide +kernel
theorem dX3_lookAround_72 : decode cX3_lookAround 72 = .ok (.aload_n 0, 1) := by decide +kernel
theorem dX3_lookAround_73 : decode cX3_lookAround 73 = .ok (.getfield 61, 3) := by decide +kernel
theorem dX3_lookAround_76 : decode cX3_lookAround 76 = .ok (.getfield 111, 3) := by decide +kernel
theorem dX3_lookAround_79 : decode cX3_lookAround 79 = .ok (.astore_n 2, 1) := by decide +kernel
theorem dX3_lookAround_80 : decode cX3_lookAround 80 = .ok (.aload_n 2, 1) := by decide +kernel
theorem dX3_lookAround_81 : decode cX3_lookAround 81 = .ok (.iconst 0, 1) := by decide +kernel
theorem dX3_lookAround_82 : decode cX3_lookAround 82 = .ok (.dup2, 1) := by decide +kernel
theorem dX3_lookAround_83 : decode cX3_lookAround 83 = .ok (.iaload, 1) := by decide +kernel
theorem dX3_lookAround_84 : decode cX3_lookAround 84 = .ok (.iconst 1, 1) := by decide +kernel
theorem dX3_lookAround_85 : decode cX3_lookAround 85 = .ok (.iadd, 1) := by decide +kernel
theorem dX3_lookAround_86 : decode cX3_lookAround 86 = .ok (.iastore, 1) := by decide +kernel
theorem dX3_lookAround_87 : decode cX3_lookAround 87 = .ok (.aload_n 2, 1) := by decide +kernel
theorem dX3_lookAround_88 : decode cX3_lookAround 88 = .ok (.iconst 1, 1) := by decide +kernel
theorem dX3_lookAround_89 : decode cX3_lookAround 89 = .ok (.dup2, 1) := by decide +kernel
theorem dX3_lookAround_90 : decode cX3_lookAround 90 = .ok (.iaload, 1) := by decide +kernel
theorem dX3_lookAround_91 : decode cX3_lookAround 91 = .ok (.iload_n 1, 1) := by decide +kernel
theorem dX3_lookAround_92 : decode cX3_lookAround 92 = .ok (.iadd, 1) := by decide +kernel
theorem dX3_lookAround_93 : decode cX3_lookAround 93 = .ok (.iastore, 1) := by decide +kernel
theorem dX3_lookAround_94 : decode cX3_lookAround 94 = .ok (.aload_n 2, 1) := by decide +kernel
theorem dX3_lookAround_95 : decode cX3_lookAround 95 = .ok (.bipush 6, 2) := by decide +kernel
theorem dX3_lookAround_97 : decode cX3_lookAround 97 = .ok (.aload_n 2, 1) := by decide +kernel
theorem dX3_lookAround_98 : decode cX3_lookAround 98 = .ok (.bipush 6, 2) := by decide +kernel
theorem dX3_lookAround_100 : decode cX3_lookAround 100 = .ok (.iaload, 1) := by decide +kernel
theorem dX3_lookAround_101 : decode cX3_lookAround 101 = .ok (.iload_n 1, 1) := by decide +kernel
theorem dX3_lookAround_102 : decode cX3_lookAround 102 = .ok (.invokestatic 177, 3) := by decide +kernel
theorem dX3_lookAround_105 : decode cX3_lookAround 105 = .ok (.iastore, 1) := by decide +kernel
theorem dX3_lookAround_106 : decode cX3_lookAround 106 = .ok (.aload_n 0, 1) := by decide +kernel
theorem dX3_lookAround_107 : decode cX3_lookAround 107 = .ok (.getfield 74, 3) := by decide +kernel
theorem dX3_lookAround_110 : decode cX3_lookAround 110 = .ok (.ifCond .eq 9, 3) := by decide +kernel
theorem dX3_lookAround_113 : decode cX3_lookAround 113 = .ok (.aload_n 2, 1) := by decide +kernel
theorem dX3_lookAround_114 : decode cX3_lookAround 114 = .ok (.iconst 2, 1) := by decide +kernel
theorem dX3_lookAround_115 : decode cX3_lookAround 115 = .ok (.iaload, 1) := by decide +kernel
theorem dX3_lookAround_116 : decode cX3_lookAround 116 = .ok (.ifCond .ne 7, 3) := by decide +kernel
theorem dX3_lookAround_119 : decode cX3_lookAround 119 = .ok (.iconst 1, 1) := by decide +kernel
theorem dX3_lookAround_120 : decode cX3_lookAround 120 = .ok (.goto 4, 3) := by decide +kernel
theorem dX3_lookAround_123 : decode cX3_lookAround 123 = .ok (.iconst 0, 1) := by decide +kernel
theorem dX3_lookAround_124 : decode cX3_lookAround 124 = .ok (.ireturn, 1) := by decide +kernel
theorem dX3_riseFrom_0 : decode cX3_riseFrom 0 = .ok (.aload_n 0, 1) := by decide +kernel
theorem dX3_riseFrom_1 : decode cX3_riseFrom 1 = .ok (.getfield 32, 3) := by decide +kernel
theorem dX3_riseFrom_4 : decode cX3_riseFrom 4 = .ok (.aload_n 0, 1) := by decide +kernel
theorem dX3_riseFrom_5 : decode cX3_riseFrom 5 = .ok (.getfield 64, 3) := by decide +kernel
theorem dX3_riseFrom_8 : decode cX3_riseFrom 8 = .ok (.invokevirtual 114, 3) := by decide +kernel
theorem dX3_riseFrom_11 : decode cX3_riseFrom 11 = .ok (.aload_n 0, 1) := by decide +kernel
theorem dX3_riseFrom_12 : decode cX3_riseFrom 12 = .ok (.getfield 50, 3) := by decide +kernel
theorem dX3_riseFrom_15 : decode cX3_riseFrom 15 = .ok (.aload_n 1, 1) := by decide +kernel
theorem dX3_riseFrom_16 : decode cX3_riseFrom 16 = .ok (.aload_n 0, 1) := by decide +kernel
theorem dX3_riseFrom_17 : decode cX3_riseFrom 17 = .ok (.getfield 32, 3) := by decide +kernel
theorem dX3_riseFrom_20 : decode cX3_riseFrom 20 = .ok (.invokevirtual 183, 3) := by decide +kernel
theorem dX3_riseFrom_23 : decode cX3_riseFrom 23 = .ok (.aload_n 1, 1) := by decide +kernel
theorem dX3_riseFrom_24 : decode cX3_riseFrom 24 = .ok (.astore_n 2, 1) := by decide +kernel
theorem dX3_riseFrom_25 : decode cX3_riseFrom 25 = .ok (.aload_n 0, 1) := by decide +kernel
theorem dX3_riseFrom_26 : decode cX3_riseFrom 26 = .ok (.getfield 32, 3) := by decide +kernel
theorem dX3_riseFrom_29 : decode cX3_riseFrom 29 = .ok (.getfield 140, 3) := by decide +kernel
theorem dX3_riseFrom_32 : decode cX3_riseFrom 32 = .ok (.ifCond .le 31, 3) := by decide +kernel
theorem dX3_riseFrom_35 : decode cX3_riseFrom 35 = .ok (.aload_n 1, 1) := by decide +kernel
theorem dX3_riseFrom_36 : decode cX3_riseFrom 36 = .ok (.iconst 0, 1) := by decide +kernel
theorem dX3_riseFrom_37 : decode cX3_riseFrom 37 = .ok (.aload_n 0, 1) := by decide +kernel
theorem dX3_riseFrom_38 : decode cX3_riseFrom 38 = .ok (.getfield 40, 3) := by decide +kernel
theorem dX3_riseFrom_41 : decode cX3_riseFrom 41 = .ok (.iconst 0, 1) := by decide +kernel
theorem dX3_riseFrom_42 : decode cX3_riseFrom 42 = .ok (.bipush 32, 2) := by decide +kernel
theorem dX3_riseFrom_44 : decode cX3_riseFrom 44 = .ok (.invokestatic 187, 3) := by decide +kernel
theorem dX3_riseFrom_47 : decode cX3_riseFrom 47 = .ok (.aload_n 0, 1) := by decide +kernel
theorem dX3_riseFrom_48 : decode cX3_riseFrom 48 = .ok (.getfield 32, 3) := by decide +kernel
theorem dX3_riseFrom_51 : decode cX3_riseFrom 51 = .ok (.aload_n 0, 1) := by decide +kernel
theorem dX3_riseFrom_52 : decode cX3_riseFrom 52 = .ok (.getfield 40, 3) := by decide +kernel
theorem dX3_riseFrom_55 : decode cX3_riseFrom 55 = .ok (.invokevirtual 193, 3) := by decide +kernel
theorem dX3_riseFrom_58 : decode cX3_riseFrom 58 = .ok (.aload_n 0, 1) := by decide +kernel
theorem dX3_riseFrom_59 : decode cX3_riseFrom 59 = .ok (.getfield 40, 3) := by decide +kernel
theorem dX3_riseFrom_62 : decode cX3_riseFrom 62 = .ok (.astore_n 2, 1) := by decide +kernel
theorem dX3_riseFrom_63 : decode cX3_riseFrom 63 = .ok (.aload_n 0, 1) := by decide +kernel
theorem dX3_riseFrom_64 : decode cX3_riseFrom 64 = .ok (.getfield 50, 3) := by decide +kernel
theorem dX3_riseFrom_67 : decode cX3_riseFrom 67 = .ok (.aload_n 2, 1) := by decide +kernel
theorem dX3_riseFrom_68 : decode cX3_riseFrom 68 = .ok (.invokevirtual 196, 3) := by decide +kernel
theorem dX3_riseFrom_71 : decode cX3_riseFrom 71 = .ok (.istore_n 3, 1) := by decide +kernel
theorem dX3_riseFrom_72 : decode cX3_riseFrom 72 = .ok (.iconst 0, 1) := by decide +kernel
theorem dX3_riseFrom_73 : decode cX3_riseFrom 73 = .ok (.istore 4, 2) := by decide +kernel
theorem dX3_riseFrom_75 : decode cX3_riseFrom 75 = .ok (.iload 4, 2) := by decide +kernel
theorem dX3_riseFrom_77 : decode cX3_riseFrom 77 = .ok (.bipush 6, 2) := by decide +kernel
theorem dX3_riseFrom_79 : decode cX3_riseFrom 79 = .ok (.if_icmp .ge 33, 3) := by decide +kernel
theorem dX3_riseFrom_82 : decode cX3_riseFrom 82 = .ok (.aload_n 0, 1) := by decide +kernel
theorem dX3_riseFrom_83 : decode cX3_riseFrom 83 = .ok (.getfield 44, 3) := by decide +kernel
theorem dX3_riseFrom_86 : decode cX3_riseFrom 86 = .ok (.iload 4, 2) := by decide +kernel
theorem dX3_riseFrom_88 : decode cX3_riseFrom 88 = .ok (.iload_n 3, 1) := by decide +kernel
theorem dX3_riseFrom_89 : decode cX3_riseFrom 89 = .ok (.iconst (-1), 1) := by decide +kernel
theorem dX3_riseFrom_90 : decode cX3_riseFrom 90 = .ok (.if_icmp .ne 7, 3) := by decide +kernel
theorem dX3_riseFrom_93 : decode cX3_riseFrom 93 = .ok (.iconst 0, 1) := by decide +kernel
theorem dX3_riseFrom_94 : decode cX3_riseFrom 94 = .ok (.goto 11, 3) := by decide +kernel
theorem dX3_riseFrom_97 : decode cX3_riseFrom 97 = .ok (.aload_n 2, 1) := by decide +kernel
theorem dX3_riseFrom_98 : decode cX3_riseFrom 98 = .ok (.iconst 2, 1) := by decide +kernel
theorem dX3_riseFrom_99 : decode cX3_riseFrom 99 = .ok (.iload_n 3, 1) := by decide +kernel
theorem dX3_riseFrom_100 : decode cX3_riseFrom 100 = .ok (.imul, 1) := by decide +kernel
theorem dX3_riseFrom_101 : decode cX3_riseFrom 101 = .ok (.iload 4, 2) := by decide +kernel
theorem dX3_riseFrom_103 : decode cX3_riseFrom 103 = .ok (.iadd, 1) := by decide +kernel
theorem dX3_riseFrom_104 : decode cX3_riseFrom 104 = .ok (.iaload, 1) := by decide +kernel
theorem dX3_riseFrom_105 : decode cX3_riseFrom 105 = .ok (.iastore, 1) := by decide +kernel
theorem dX3_riseFrom_106 : decode cX3_riseFrom 106 = .ok (.iinc 4 1, 3) := by decide +kernel
theorem dX3_riseFrom_109 : decode cX3_riseFrom 109 = .ok (.goto (-34), 3) := by decide +kernel
theorem dX3_riseFrom_112 : decode cX3_riseFrom 112 = .ok (.return_, 1) := by decide +kernel
theorem dX3_isRight_0 : decode cX3_isRight 0 = .ok (.aload_n 0, 1) := by decide +kernel
theorem dX3_isRight_1 : decode cX3_isRight 1 = .ok (.getfield 71, 3) := by decide +kernel
theorem dX3_isRight_4 : decode cX3_isRight 4 = .ok (.istore_n 1, 1) := by decide +kernel
theorem dX3_isRight_5 : decode cX3_isRight 5 = .ok (.iload_n 1, 1) := by decide +kernel
theorem dX3_isRight_6 : decode cX3_isRight 6 = .ok (.aload_n 0, 1) := by decide +kernel
theorem dX3_isRight_7 : decode cX3_isRight 7 = .ok (.getfield 68, 3) := by decide +kernel
theorem dX3_isRight_10 : decode cX3_isRight 10 = .ok (.if_icmp .gt 50, 3) := by decide +kernel
theorem dX3_isRight_13 : decode cX3_isRight 13 = .ok (.aload_n 0, 1) := by decide +kernel
theorem dX3_isRight_14 : decode cX3_isRight 14 = .ok (.getfield 37, 3) := by decide +kernel
theorem dX3_isRight_17 : decode cX3_isRight 17 = .ok (.iload_n 1, 1) := by decide +kernel
theorem dX3_isRight_18 : decode cX3_isRight 18 = .ok (.aaload, 1) := by decide +kernel
theorem dX3_isRight_19 : decode cX3_isRight 19 = .ok (.astore_n 2, 1) := by decide +kernel
theorem dX3_isRight_20 : decode cX3_isRight 20 = .ok (.iconst 0, 1) := by decide +kernel
theorem dX3_isRight_21 : decode cX3_isRight 21 = .ok (.istore_n 3, 1) := by decide +kernel
theorem dX3_isRight_22 : decode cX3_isRight 22 = .ok (.iload_n 3, 1) := by decide +kernel
theorem dX3_isRight_23 : decode cX3_isRight 23 = .ok (.bipush 6, 2) := by decide +kernel
theorem dX3_isRight_25 : decode cX3_isRight 25 = .ok (.if_icmp .ge 21, 3) := by decide +kernel
theorem dX3_isRight_28 : decode cX3_isRight 28 = .ok (.aload_n 2, 1) := by decide +kernel
theorem dX3_isRight_29 : decode cX3_isRight 29 = .ok (.iload_n 3, 1) := by decide +kernel
theorem dX3_isRight_30 : decode cX3_isRight 30 = .ok (.iaload, 1) := by decide +kernel
theorem dX3_isRight_31 : decode cX3_isRight 31 = .ok (.aload_n 0, 1) := by decide +kernel
theorem dX3_isRight_32 : decode cX3_isRight 32 = .ok (.getfield 44, 3) := by decide +kernel
theorem dX3_isRight_35 : decode cX3_isRight 35 = .ok (.iload_n 3, 1) := by decide +kernel
theorem dX3_isRight_36 : decode cX3_isRight 36 = .ok (.iaload, 1) := by decide +kernel
theorem dX3_isRight_37 : decode cX3_isRight 37 = .ok (.if_icmp .ne 9, 3) := by decide +kernel
theorem dX3_isRight_40 : decode cX3_isRight 40 = .ok (.iinc 3 1, 3) := by decide +kernel
theorem dX3_isRight_43 : decode cX3_isRight 43 = .ok (.goto (-21), 3) := by decide +kernel
theorem dX3_isRight_46 : decode cX3_isRight 46 = .ok (.iload_n 3, 1) := by decide +kernel
theorem dX3_isRight_47 : decode cX3_isRight 47 = .ok (.bipush 6, 2) := by decide +kernel
theorem dX3_isRight_49 : decode cX3_isRight 49 = .ok (.if_icmp .ne 5, 3) := by decide +kernel
theorem dX3_isRight_52 : decode cX3_isRight 52 = .ok (.iconst 1, 1) := by decide +kernel
theorem dX3_isRight_53 : decode cX3_isRight 53 = .ok (.ireturn, 1) := by decide +kernel
theorem dX3_isRight_54 : decode cX3_isRight 54 = .ok (.iinc 1 1, 3) := by decide +kernel
theorem dX3_isRight_57 : decode cX3_isRight 57 = .ok (.goto (-52), 3) := by decide +kernel
theorem dX3_isRight_60 : decode cX3_isRight 60 = .ok (.iconst 0, 1) := by decide +kernel
theorem dX3_isRight_61 : decode cX3_isRight 61 = .ok (.ireturn, 1) := by decide +kernel
theorem dX3_keepBad_0 : decode cX3_keepBad 0 = .ok (.aload_n 0, 1) := by decide +kernel
theorem dX3_keepBad_1 : decode cX3_keepBad 1 = .ok (.getfield 61, 3) := by decide +kernel
theorem dX3_keepBad_4 : decode cX3_keepBad 4 = .ok (.getfield 111, 3) := by decide +kernel
theorem dX3_keepBad_7 : decode cX3_keepBad 7 = .ok (.iconst 2, 1) := by decide +kernel
theorem dX3_keepBad_8 : decode cX3_keepBad 8 = .ok (.dup2, 1) := by decide +kernel
theorem dX3_keepBad_9 : decode cX3_keepBad 9 = .ok (.iaload, 1) := by decide +kernel
theorem dX3_keepBad_10 : decode cX3_keepBad 10 = .ok (.iconst 1, 1) := by decide +kernel
theorem dX3_keepBad_11 : decode cX3_keepBad 11 = .ok (.iadd, 1) := by decide +kernel
theorem dX3_keepBad_12 : decode cX3_keepBad 12 = .ok (.iastore, 1) := by decide +kernel
theorem dX3_keepBad_13 : decode cX3_keepBad 13 = .ok (.aload_n 0, 1) := by decide +kernel
theorem dX3_keepBad_14 : decode cX3_keepBad 14 = .ok (.getfield 61, 3) := by decide +kernel
theorem dX3_keepBad_17 : decode cX3_keepBad 17 = .ok (.getfield 200, 3) := by decide +kernel
theorem dX3_keepBad_20 : decode cX3_keepBad 20 = .ok (.bipush 50, 2) := by decide +kernel
theorem dX3_keepBad_22 : decode cX3_keepBad 22 = .ok (.if_icmp .ge 107, 3) := by decide +kernel
theorem dX3_keepBad_25 : decode cX3_keepBad 25 = .ok (.aload_n 0, 1) := by decide +kernel
theorem dX3_keepBad_26 : decode cX3_keepBad 26 = .ok (.getfield 61, 3) := by decide +kernel
theorem dX3_keepBad_29 : decode cX3_keepBad 29 = .ok (.getfield 200, 3) := by decide +kernel
theorem dX3_keepBad_32 : decode cX3_keepBad 32 = .ok (.bipush 10, 2) := by decide +kernel
theorem dX3_keepBad_34 : decode cX3_keepBad 34 = .ok (.imul, 1) := by decide +kernel
theorem dX3_keepBad_35 : decode cX3_keepBad 35 = .ok (.istore_n 2, 1) := by decide +kernel
theorem dX3_keepBad_36 : decode cX3_keepBad 36 = .ok (.aload_n 0, 1) := by decide +kernel
theorem dX3_keepBad_37 : decode cX3_keepBad 37 = .ok (.getfield 61, 3) := by decide +kernel
theorem dX3_keepBad_40 : decode cX3_keepBad 40 = .ok (.getfield 203, 3) := by decide +kernel
theorem dX3_keepBad_43 : decode cX3_keepBad 43 = .ok (.iload_n 2, 1) := by decide +kernel
theorem dX3_keepBad_44 : decode cX3_keepBad 44 = .ok (.aload_n 0, 1) := by decide +kernel
theorem dX3_keepBad_45 : decode cX3_keepBad 45 = .ok (.getfield 61, 3) := by decide +kernel
theorem dX3_keepBad_48 : decode cX3_keepBad 48 = .ok (.getfield 111, 3) := by decide +kernel
theorem dX3_keepBad_51 : decode cX3_keepBad 51 = .ok (.iconst 0, 1) := by decide +kernel
theorem dX3_keepBad_52 : decode cX3_keepBad 52 = .ok (.iaload, 1) := by decide +kernel
theorem dX3_keepBad_53 : decode cX3_keepBad 53 = .ok (.iastore, 1) := by decide +kernel
theorem dX3_keepBad_54 : decode cX3_keepBad 54 = .ok (.aload_n 0, 1) := by decide +kernel
theorem dX3_keepBad_55 : decode cX3_keepBad 55 = .ok (.getfield 61, 3) := by decide +kernel
theorem dX3_keepBad_58 : decode cX3_keepBad 58 = .ok (.getfield 203, 3) := by decide +kernel
theorem dX3_keepBad_61 : decode cX3_keepBad 61 = .ok (.iload_n 2, 1) := by decide +kernel
theorem dX3_keepBad_62 : decode cX3_keepBad 62 = .ok (.iconst 1, 1) := by decide +kernel
theorem dX3_keepBad_63 : decode cX3_keepBad 63 = .ok (.iadd, 1) := by decide +kernel
theorem dX3_keepBad_64 : decode cX3_keepBad 64 = .ok (.iload_n 1, 1) := by decide +kernel
theorem dX3_keepBad_65 : decode cX3_keepBad 65 = .ok (.iastore, 1) := by decide +kernel
theorem dX3_keepBad_66 : decode cX3_keepBad 66 = .ok (.aload_n 0, 1) := by decide +kernel
theorem dX3_keepBad_67 : decode cX3_keepBad 67 = .ok (.getfield 61, 3) := by decide +kernel
theorem dX3_keepBad_70 : decode cX3_keepBad 70 = .ok (.getfield 203, 3) := by decide +kernel
theorem dX3_keepBad_73 : decode cX3_keepBad 73 = .ok (.iload_n 2, 1) := by decide +kernel
theorem dX3_keepBad_74 : decode cX3_keepBad 74 = .ok (.iconst 2, 1) := by decide +kernel
theorem dX3_keepBad_75 : decode cX3_keepBad 75 = .ok (.iadd, 1) := by decide +kernel
theorem dX3_keepBad_76 : decode cX3_keepBad 76 = .ok (.aload_n 0, 1) := by decide +kernel
theorem dX3_keepBad_77 : decode cX3_keepBad 77 = .ok (.getfield 68, 3) := by decide +kernel
theorem dX3_keepBad_80 : decode cX3_keepBad 80 = .ok (.iastore, 1) := by decide +kernel
theorem dX3_keepBad_81 : decode cX3_keepBad 81 = .ok (.aload_n 0, 1) := by decide +kernel
theorem dX3_keepBad_82 : decode cX3_keepBad 82 = .ok (.getfield 61, 3) := by decide +kernel
theorem dX3_keepBad_85 : decode cX3_keepBad 85 = .ok (.getfield 203, 3) := by decide +kernel
theorem dX3_keepBad_88 : decode cX3_keepBad 88 = .ok (.iload_n 2, 1) := by decide +kernel
theorem dX3_keepBad_89 : decode cX3_keepBad 89 = .ok (.iconst 3, 1) := by decide +kernel
theorem dX3_keepBad_90 : decode cX3_keepBad 90 = .ok (.iadd, 1) := by decide +kernel
theorem dX3_keepBad_91 : decode cX3_keepBad 91 = .ok (.aload_n 0, 1) := by decide +kernel
theorem dX3_keepBad_92 : decode cX3_keepBad 92 = .ok (.getfield 71, 3) := by decide +kernel
theorem dX3_keepBad_95 : decode cX3_keepBad 95 = .ok (.iastore, 1) := by decide +kernel
theorem dX3_keepBad_96 : decode cX3_keepBad 96 = .ok (.aload_n 0, 1) := by decide +kernel
theorem dX3_keepBad_97 : decode cX3_keepBad 97 = .ok (.getfield 44, 3) := by decide +kernel
theorem dX3_keepBad_100 : decode cX3_keepBad 100 = .ok (.iconst 0, 1) := by decide +kernel
theorem dX3_keepBad_101 : decode cX3_keepBad 101 = .ok (.aload_n 0, 1) := by decide +kernel
theorem dX3_keepBad_102 : decode cX3_keepBad 102 = .ok (.getfield 61, 3) := by decide +kernel
theorem dX3_keepBad_105 : decode cX3_keepBad 105 = .ok (.getfield 203, 3) := by decide +kernel
theorem dX3_keepBad_108 : decode cX3_keepBad 108 = .ok (.iload_n 2, 1) := by decide +kernel
theorem dX3_keepBad_109 : decode cX3_keepBad 109 = .ok (.iconst 4, 1) := by decide +kernel
theorem dX3_keepBad_110 : decode cX3_keepBad 110 = .ok (.iadd, 1) := by decide +kernel
theorem dX3_keepBad_111 : decode cX3_keepBad 111 = .ok (.bipush 6, 2) := by decide +kernel
theorem dX3_keepBad_113 : decode cX3_keepBad 113 = .ok (.invokestatic 187, 3) := by decide +kernel
theorem dX3_keepBad_116 : decode cX3_keepBad 116 = .ok (.aload_n 0, 1) := by decide +kernel
theorem dX3_keepBad_117 : decode cX3_keepBad 117 = .ok (.getfield 61, 3) := by decide +kernel
theorem dX3_keepBad_120 : decode cX3_keepBad 120 = .ok (.dup, 1) := by decide +kernel
theorem dX3_keepBad_121 : decode cX3_keepBad 121 = .ok (.getfield 200, 3) := by decide +kernel
theorem dX3_keepBad_124 : decode cX3_keepBad 124 = .ok (.iconst 1, 1) := by decide +kernel
theorem dX3_keepBad_125 : decode cX3_keepBad 125 = .ok (.iadd, 1) := by decide +kernel
theorem dX3_keepBad_126 : decode cX3_keepBad 126 = .ok (.putfield 200, 3) := by decide +kernel
theorem dX3_keepBad_129 : decode cX3_keepBad 129 = .ok (.return_, 1) := by decide +kernel
theorem dX4_init_0 : decode cX4_init 0 = .ok (.aload_n 0, 1) := by decide +kernel
theorem dX4_init_1 : decode cX4_init 1 = .ok (.invokespecial 3, 3) := by decide +kernel
theorem dX4_init_4 : decode cX4_init 4 = .ok (.return_, 1) := by decide +kernel
theorem dX4_fences_0 : decode cX4_fences 0 = .ok (.iconst 0, 1) := by decide +kernel
theorem dX4_fences_1 : decode cX4_fences 1 = .ok (.ireturn, 1) := by decide +kernel
theorem dX4_homeOfKeys_0 : decode cX4_homeOfKeys 0 = .ok (.iconst 0, 1) := by decide +kernel
theorem dX4_homeOfKeys_1 : decode cX4_homeOfKeys 1 = .ok (.ireturn, 1) := by decide +kernel
theorem dX4_allIsWell_0 : decode cX4_allIsWell 0 = .ok (.iconst 1, 1) := by decide +kernel
theorem dX4_allIsWell_1 : decode cX4_allIsWell 1 = .ok (.ireturn, 1) := by decide +kernel
theorem dX4_planChange_0 : decode cX4_planChange 0 = .ok (.aload 8, 2) := by decide +kernel
theorem dX4_planChange_2 : decode cX4_planChange 2 = .ok (.iload_n 2, 1) := by decide +kernel
theorem dX4_planChange_3 : decode cX4_planChange 3 = .ok (.lload_n 3, 1) := by decide +kernel
theorem dX4_planChange_4 : decode cX4_planChange 4 = .ok (.invokestatic 9, 3) := by decide +kernel
theorem dX4_planChange_7 : decode cX4_planChange 7 = .ok (.lload_n 3, 1) := by decide +kernel
theorem dX4_planChange_8 : decode cX4_planChange 8 = .ok (.invokestatic 13, 3) := by decide +kernel
theorem dX4_planChange_11 : decode cX4_planChange 11 = .ok (.invokevirtual 16, 3) := by decide +kernel
theorem dX4_planChange_14 : decode cX4_planChange 14 = .ok (.iload 5, 2) := by decide +kernel
theorem dX4_planChange_16 : decode cX4_planChange 16 = .ok (.iconst (-1), 1) := by decide +kernel
theorem dX4_planChange_17 : decode cX4_planChange 17 = .ok (.if_icmp .eq 20, 3) := by decide +kernel
theorem dX4_planChange_20 : decode cX4_planChange 20 = .ok (.aload 8, 2) := by decide +kernel
theorem dX4_planChange_22 : decode cX4_planChange 22 = .ok (.iload 5, 2) := by decide +kernel
theorem dX4_planChange_24 : decode cX4_planChange 24 = .ok (.lload 6, 2) := by decide +kernel
theorem dX4_planChange_26 : decode cX4_planChange 26 = .ok (.invokestatic 9, 3) := by decide +kernel
theorem dX4_planChange_29 : decode cX4_planChange 29 = .ok (.lload 6, 2) := by decide +kernel
theorem dX4_planChange_31 : decode cX4_planChange 31 = .ok (.invokestatic 13, 3) := by decide +kernel
theorem dX4_planChange_34 : decode cX4_planChange 34 = .ok (.invokevirtual 16, 3) := by decide +kernel
theorem dX4_planChange_37 : decode cX4_planChange 37 = .ok (.return_, 1) := by decide +kernel
theorem dX5_init_0 : decode cX5_init 0 = .ok (.aload_n 0, 1) := by decide +kernel
theorem dX5_init_1 : decode cX5_init 1 = .ok (.invokespecial 1, 3) := by decide +kernel
theorem dX5_init_4 : decode cX5_init 4 = .ok (.aload_n 0, 1) := by decide +kernel
theorem dX5_init_5 : decode cX5_init 5 = .ok (.bipush 11, 2) := by decide +kernel
theorem dX5_init_7 : decode cX5_init 7 = .ok (.newarray .int, 2) := by decide +kernel
theorem dX5_init_9 : decode cX5_init 9 = .ok (.putfield 9, 3) := by decide +kernel
theorem dX5_init_12 : decode cX5_init 12 = .ok (.aload_n 0, 1) := by decide +kernel
theorem dX5_init_13 : decode cX5_init 13 = .ok (.bipush 11, 2) := by decide +kernel
theorem dX5_init_15 : decode cX5_init 15 = .ok (.newarray .int, 2) := by decide +kernel
theorem dX5_init_17 : decode cX5_init 17 = .ok (.putfield 13, 3) := by decide +kernel
theorem dX5_init_20 : decode cX5_init 20 = .ok (.aload_n 0, 1) := by decide +kernel
theorem dX5_init_21 : decode cX5_init 21 = .ok (.bipush 11, 2) := by decide +kernel
theorem dX5_init_23 : decode cX5_init 23 = .ok (.newarray .int, 2) := by decide +kernel
theorem dX5_init_25 : decode cX5_init 25 = .ok (.putfield 16, 3) := by decide +kernel
theorem dX5_init_28 : decode cX5_init 28 = .ok (.aload_n 0, 1) := by decide +kernel
theorem dX5_init_29 : decode cX5_init 29 = .ok (.iconst 0, 1) := by decide +kernel
theorem dX5_init_30 : decode cX5_init 30 = .ok (.putfield 19, 3) := by decide +kernel
theorem dX5_init_33 : decode cX5_init 33 = .ok (.aload_n 0, 1) := by decide +kernel
theorem dX5_init_34 : decode cX5_init 34 = .ok (.iconst 0, 1) := by decide +kernel
theorem dX5_init_35 : decode cX5_init 35 = .ok (.putfield 23, 3) := by decide +kernel
theorem dX5_init_38 : decode cX5_init 38 = .ok (.return_, 1) := by decide +kernel
theorem dX5_begin_0 : decode cX5_begin 0 = .ok (.aload_n 0, 1) := by decide +kernel
theorem dX5_begin_1 : decode cX5_begin 1 = .ok (.iconst 0, 1) := by decide +kernel
theorem dX5_begin_2 : decode cX5_begin 2 = .ok (.putfield 19, 3) := by decide +kernel
theorem dX5_begin_5 : decode cX5_begin 5 = .ok (.aload_n 0, 1) := by decide +kernel
theorem dX5_begin_6 : decode cX5_begin 6 = .ok (.iload_n 1, 1) := by decide +kernel
theorem dX5_begin_7 : decode cX5_begin 7 = .ok (.putfield 23, 3) := by decide +kernel
theorem dX5_begin_10 : decode cX5_begin 10 = .ok (.return_, 1) := by decide +kernel
theorem dX5_planWrite_0 : decode cX5_planWrite 0 = .ok (.aload_n 0, 1) := by decide +kernel
theorem dX5_planWrite_1 : decode cX5_planWrite 1 = .ok (.getfield 19, 3) := by decide +kernel
theorem dX5_planWrite_4 : decode cX5_planWrite 4 = .ok (.bipush 11, 2) := by decide +kernel
theorem dX5_planWrite_6 : decode cX5_planWrite 6 = .ok (.if_icmp .ge 43, 3) := by decide +kernel
theorem dX5_planWrite_9 : decode cX5_planWrite 9 = .ok (.aload_n 0, 1) := by decide +kernel
theorem dX5_planWrite_10 : decode cX5_planWrite 10 = .ok (.getfield 9, 3) := by decide +kernel
theorem dX5_planWrite_13 : decode cX5_planWrite 13 = .ok (.aload_n 0, 1) := by decide +kernel
theorem dX5_planWrite_14 : decode cX5_planWrite 14 = .ok (.getfield 19, 3) := by decide +kernel
theorem dX5_planWrite_17 : decode cX5_planWrite 17 = .ok (.iload_n 1, 1) := by decide +kernel
theorem dX5_planWrite_18 : decode cX5_planWrite 18 = .ok (.iastore, 1) := by decide +kernel
theorem dX5_planWrite_19 : decode cX5_planWrite 19 = .ok (.aload_n 0, 1) := by decide +kernel
theorem dX5_planWrite_20 : decode cX5_planWrite 20 = .ok (.getfield 13, 3) := by decide +kernel
theorem dX5_planWrite_23 : decode cX5_planWrite 23 = .ok (.aload_n 0, 1) := by decide +kernel
theorem dX5_planWrite_24 : decode cX5_planWrite 24 = .ok (.getfield 19, 3) := by decide +kernel
theorem dX5_planWrite_27 : decode cX5_planWrite 27 = .ok (.iload_n 2, 1) := by decide +kernel
theorem dX5_planWrite_28 : decode cX5_planWrite 28 = .ok (.iastore, 1) := by decide +kernel
theorem dX5_planWrite_29 : decode cX5_planWrite 29 = .ok (.aload_n 0, 1) := by decide +kernel
theorem dX5_planWrite_30 : decode cX5_planWrite 30 = .ok (.getfield 16, 3) := by decide +kernel
theorem dX5_planWrite_33 : decode cX5_planWrite 33 = .ok (.aload_n 0, 1) := by decide +kernel
theorem dX5_planWrite_34 : decode cX5_planWrite 34 = .ok (.getfield 19, 3) := by decide +kernel
theorem dX5_planWrite_37 : decode cX5_planWrite 37 = .ok (.iload_n 3, 1) := by decide +kernel
theorem dX5_planWrite_38 : decode cX5_planWrite 38 = .ok (.iastore, 1) := by decide +kernel
theorem dX5_planWrite_39 : decode cX5_planWrite 39 = .ok (.aload_n 0, 1) := by decide +kernel
theorem dX5_planWrite_40 : decode cX5_planWrite 40 = .ok (.dup, 1) := by decide +kernel
theorem dX5_planWrite_41 : decode cX5_planWrite 41 = .ok (.getfield 19, 3) := by decide +kernel
theorem dX5_planWrite_44 : decode cX5_planWrite 44 = .ok (.iconst 1, 1) := by decide +kernel
theorem dX5_planWrite_45 : decode cX5_planWrite 45 = .ok (.iadd, 1) := by decide +kernel
theorem dX5_planWrite_46 : decode cX5_planWrite 46 = .ok (.putfield 19, 3) := by decide +kernel
theorem dX5_planWrite_49 : decode cX5_planWrite 49 = .ok (.return_, 1) := by decide +kernel
theorem dX5_planFence_0 : decode cX5_planFence 0 = .ok (.aload_n 0, 1) := by decide +kernel
theorem dX5_planFence_1 : decode cX5_planFence 1 = .ok (.getfield 19, 3) := by decide +kernel
theorem dX5_planFence_4 : decode cX5_planFence 4 = .ok (.bipush 11, 2) := by decide +kernel
theorem dX5_planFence_6 : decode cX5_planFence 6 = .ok (.if_icmp .ge 34, 3) := by decide +kernel
theorem dX5_planFence_9 : decode cX5_planFence 9 = .ok (.aload_n 0, 1) := by decide +kernel
theorem dX5_planFence_10 : decode cX5_planFence 10 = .ok (.getfield 23, 3) := by decide +kernel
theorem dX5_planFence_13 : decode cX5_planFence 13 = .ok (.iload_n 1, 1) := by decide +kernel
theorem dX5_planFence_14 : decode cX5_planFence 14 = .ok (.ishr, 1) := by decide +kernel
theorem dX5_planFence_15 : decode cX5_planFence 15 = .ok (.iconst 1, 1) := by decide +kernel
theorem dX5_planFence_16 : decode cX5_planFence 16 = .ok (.iand, 1) := by decide +kernel
theorem dX5_planFence_17 : decode cX5_planFence 17 = .ok (.ifCond .ne 23, 3) := by decide +kernel
theorem dX5_planFence_20 : decode cX5_planFence 20 = .ok (.aload_n 0, 1) := by decide +kernel
theorem dX5_planFence_21 : decode cX5_planFence 21 = .ok (.getfield 9, 3) := by decide +kernel
theorem dX5_planFence_24 : decode cX5_planFence 24 = .ok (.aload_n 0, 1) := by decide +kernel
theorem dX5_planFence_25 : decode cX5_planFence 25 = .ok (.getfield 19, 3) := by decide +kernel
theorem dX5_planFence_28 : decode cX5_planFence 28 = .ok (.iconst (-1), 1) := by decide +kernel
theorem dX5_planFence_29 : decode cX5_planFence 29 = .ok (.iastore, 1) := by decide +kernel
theorem dX5_planFence_30 : decode cX5_planFence 30 = .ok (.aload_n 0, 1) := by decide +kernel
theorem dX5_planFence_31 : decode cX5_planFence 31 = .ok (.dup, 1) := by decide +kernel
theorem dX5_planFence_32 : decode cX5_planFence 32 = .ok (.getfield 19, 3) := by decide +kernel
theorem dX5_planFence_35 : decode cX5_planFence 35 = .ok (.iconst 1, 1) := by decide +kernel
theorem dX5_planFence_36 : decode cX5_planFence 36 = .ok (.iadd, 1) := by decide +kernel
theorem dX5_planFence_37 : decode cX5_planFence 37 = .ok (.putfield 19, 3) := by decide +kernel
theorem dX5_planFence_40 : decode cX5_planFence 40 = .ok (.return_, 1) := by decide +kernel
theorem dX5_isFence_0 : decode cX5_isFence 0 = .ok (.aload_n 0, 1) := by decide +kernel
theorem dX5_isFence_1 : decode cX5_isFence 1 = .ok (.getfield 9, 3) := by decide +kernel
theorem dX5_isFence_4 : decode cX5_isFence 4 = .ok (.iload_n 1, 1) := by decide +kernel
theorem dX5_isFence_5 : decode cX5_isFence 5 = .ok (.iaload, 1) := by decide +kernel
theorem dX5_isFence_6 : decode cX5_isFence 6 = .ok (.iconst (-1), 1) := by decide +kernel
theorem dX5_isFence_7 : decode cX5_isFence 7 = .ok (.if_icmp .ne 7, 3) := by decide +kernel
theorem dX5_isFence_10 : decode cX5_isFence 10 = .ok (.iconst 1, 1) := by decide +kernel
theorem dX5_isFence_11 : decode cX5_isFence 11 = .ok (.goto 4, 3) := by decide +kernel
theorem dX5_isFence_14 : decode cX5_isFence 14 = .ok (.iconst 0, 1) := by decide +kernel
theorem dX5_isFence_15 : decode cX5_isFence 15 = .ok (.ireturn, 1) := by decide +kernel
theorem dX5_writeInto_0 : decode cX5_writeInto 0 = .ok (.iconst 0, 1) := by decide +kernel
theorem dX5_writeInto_1 : decode cX5_writeInto 1 = .ok (.istore_n 2, 1) := by decide +kernel
theorem dX5_writeInto_2 : decode cX5_writeInto 2 = .ok (.iload_n 2, 1) := by decide +kernel
theorem dX5_writeInto_3 : decode cX5_writeInto 3 = .ok (.aload_n 0, 1) := by decide +kernel
theorem dX5_writeInto_4 : decode cX5_writeInto 4 = .ok (.getfield 19, 3) := by decide +kernel
theorem dX5_writeInto_7 : decode cX5_writeInto 7 = .ok (.if_icmp .ge 51, 3) := by decide +kernel
theorem dX5_writeInto_10 : decode cX5_writeInto 10 = .ok (.aload_n 0, 1) := by decide +kernel
theorem dX5_writeInto_11 : decode cX5_writeInto 11 = .ok (.iload_n 2, 1) := by decide +kernel
theorem dX5_writeInto_12 : decode cX5_writeInto 12 = .ok (.invokevirtual 28, 3) := by decide +kernel
theorem dX5_writeInto_15 : decode cX5_writeInto 15 = .ok (.ifCond .ne 37, 3) := by decide +kernel
theorem dX5_writeInto_18 : decode cX5_writeInto 18 = .ok (.aload_n 1, 1) := by decide +kernel
theorem dX5_writeInto_19 : decode cX5_writeInto 19 = .ok (.iconst 2, 1) := by decide +kernel
theorem dX5_writeInto_20 : decode cX5_writeInto 20 = .ok (.aload_n 0, 1) := by decide +kernel
theorem dX5_writeInto_21 : decode cX5_writeInto 21 = .ok (.getfield 9, 3) := by decide +kernel
theorem dX5_writeInto_24 : decode cX5_writeInto 24 = .ok (.iload_n 2, 1) := by decide +kernel
theorem dX5_writeInto_25 : decode cX5_writeInto 25 = .ok (.iaload, 1) := by decide +kernel
theorem dX5_writeInto_26 : decode cX5_writeInto 26 = .ok (.imul, 1) := by decide +kernel
theorem dX5_writeInto_27 : decode cX5_writeInto 27 = .ok (.aload_n 0, 1) := by decide +kernel
theorem dX5_writeInto_28 : decode cX5_writeInto 28 = .ok (.getfield 13, 3) := by decide +kernel
theorem dX5_writeInto_31 : decode cX5_writeInto 31 = .ok (.iload_n 2, 1) := by decide +kernel
theorem dX5_writeInto_32 : decode cX5_writeInto 32 = .ok (.iaload, 1) := by decide +kernel
theorem dX5_writeInto_33 : decode cX5_writeInto 33 = .ok (.iastore, 1) := by decide +kernel
theorem dX5_writeInto_34 : decode cX5_writeInto 34 = .ok (.aload_n 1, 1) := by decide +kernel
theorem dX5_writeInto_35 : decode cX5_writeInto 35 = .ok (.iconst 2, 1) := by decide +kernel
theorem dX5_writeInto_36 : decode cX5_writeInto 36 = .ok (.aload_n 0, 1) := by decide +kernel
theorem dX5_writeInto_37 : decode cX5_writeInto 37 = .ok (.getfield 9, 3) := by decide +kernel
theorem dX5_writeInto_40 : decode cX5_writeInto 40 = .ok (.iload_n 2, 1) := by decide +kernel
theorem dX5_writeInto_41 : decode cX5_writeInto 41 = .ok (.iaload, 1) := by decide +kernel
theorem dX5_writeInto_42 : decode cX5_writeInto 42 = .ok (.imul, 1) := by decide +kernel
theorem dX5_writeInto_43 : decode cX5_writeInto 43 = .ok (.iconst 1, 1) := by decide +kernel
theorem dX5_writeInto_44 : decode cX5_writeInto 44 = .ok (.iadd, 1) := by decide +kernel
theorem dX5_writeInto_45 : decode cX5_writeInto 45 = .ok (.aload_n 0, 1) := by decide +kernel
theorem dX5_writeInto_46 : decode cX5_writeInto 46 = .ok (.getfield 16, 3) := by decide +kernel
theorem dX5_writeInto_49 : decode cX5_writeInto 49 = .ok (.iload_n 2, 1) := by decide +kernel
theorem dX5_writeInto_50 : decode cX5_writeInto 50 = .ok (.iaload, 1) := by decide +kernel
theorem dX5_writeInto_51 : decode cX5_writeInto 51 = .ok (.iastore, 1) := by decide +kernel
theorem dX5_writeInto_52 : decode cX5_writeInto 52 = .ok (.iinc 2 1, 3) := by decide +kernel
theorem dX5_writeInto_55 : decode cX5_writeInto 55 = .ok (.goto (-53), 3) := by decide +kernel
theorem dX5_writeInto_58 : decode cX5_writeInto 58 = .ok (.return_, 1) := by decide +kernel
theorem dX6_init_0 : decode cX6_init 0 = .ok (.aload_n 0, 1) := by decide +kernel
theorem dX6_init_1 : decode cX6_init 1 = .ok (.invokespecial 3, 3) := by decide +kernel
theorem dX6_init_4 : decode cX6_init 4 = .ok (.aload_n 0, 1) := by decide +kernel
theorem dX6_init_5 : decode cX6_init 5 = .ok (.bipush 7, 2) := by decide +kernel
theorem dX6_init_7 : decode cX6_init 7 = .ok (.newarray .int, 2) := by decide +kernel
theorem dX6_init_9 : decode cX6_init 9 = .ok (.putfield 11, 3) := by decide +kernel
theorem dX6_init_12 : decode cX6_init 12 = .ok (.aload_n 0, 1) := by decide +kernel
theorem dX6_init_13 : decode cX6_init 13 = .ok (.sipush 500, 3) := by decide +kernel
theorem dX6_init_16 : decode cX6_init 16 = .ok (.newarray .int, 2) := by decide +kernel
theorem dX6_init_18 : decode cX6_init 18 = .ok (.putfield 15, 3) := by decide +kernel
theorem dX6_init_21 : decode cX6_init 21 = .ok (.aload_n 0, 1) := by decide +kernel
theorem dX6_init_22 : decode cX6_init 22 = .ok (.iconst 0, 1) := by decide +kernel
theorem dX6_init_23 : decode cX6_init 23 = .ok (.putfield 18, 3) := by decide +kernel
theorem dX6_init_26 : decode cX6_init 26 = .ok (.return_, 1) := by decide +kernel
theorem dX6_begin_0 : decode cX6_begin 0 = .ok (.aload_n 0, 1) := by decide +kernel
theorem dX6_begin_1 : decode cX6_begin 1 = .ok (.getfield 11, 3) := by decide +kernel
theorem dX6_begin_4 : decode cX6_begin 4 = .ok (.iconst 0, 1) := by decide +kernel
theorem dX6_begin_5 : decode cX6_begin 5 = .ok (.invokestatic 22, 3) := by decide +kernel
theorem dX6_begin_8 : decode cX6_begin 8 = .ok (.aload_n 0, 1) := by decide +kernel
theorem dX6_begin_9 : decode cX6_begin 9 = .ok (.iconst 0, 1) := by decide +kernel
theorem dX6_begin_10 : decode cX6_begin 10 = .ok (.putfield 18, 3) := by decide +kernel
theorem dX6_begin_13 : decode cX6_begin 13 = .ok (.return_, 1) := by decide +kernel
theorem dX7_init_0 : decode cX7_init 0 = .ok (.aload_n 0, 1) := by decide +kernel
theorem dX7_init_1 : decode cX7_init 1 = .ok (.invokespecial 3, 3) := by decide +kernel
theorem dX7_init_4 : decode cX7_init 4 = .ok (.aload_n 0, 1) := by decide +kernel
theorem dX7_init_5 : decode cX7_init 5 = .ok (.bipush 8, 2) := by decide +kernel
theorem dX7_init_7 : decode cX7_init 7 = .ok (.newarray .int, 2) := by decide +kernel
theorem dX7_init_9 : decode cX7_init 9 = .ok (.putfield 9, 3) := by decide +kernel
theorem dX7_init_12 : decode cX7_init 12 = .ok (.aload_n 0, 1) := by decide +kernel
theorem dX7_init_13 : decode cX7_init 13 = .ok (.bipush 8, 2) := by decide +kernel
theorem dX7_init_15 : decode cX7_init 15 = .ok (.newarray .int, 2) := by decide +kernel
theorem dX7_init_17 : decode cX7_init 17 = .ok (.putfield 15, 3) := by decide +kernel
theorem dX7_init_20 : decode cX7_init 20 = .ok (.aload_n 0, 1) := by decide +kernel
theorem dX7_init_21 : decode cX7_init 21 = .ok (.bipush 8, 2) := by decide +kernel
theorem dX7_init_23 : decode cX7_init 23 = .ok (.newarray .int, 2) := by decide +kernel
theorem dX7_init_25 : decode cX7_init 25 = .ok (.putfield 18, 3) := by decide +kernel
theorem dX7_init_28 : decode cX7_init 28 = .ok (.aload_n 0, 1) := by decide +kernel
theorem dX7_init_29 : decode cX7_init 29 = .ok (.bipush 8, 2) := by decide +kernel
theorem dX7_init_31 : decode cX7_init 31 = .ok (.newarray .long, 2) := by decide +kernel
theorem dX7_init_33 : decode cX7_init 33 = .ok (.putfield 21, 3) := by decide +kernel
theorem dX7_init_36 : decode cX7_init 36 = .ok (.aload_n 0, 1) := by decide +kernel
theorem dX7_init_37 : decode cX7_init 37 = .ok (.iconst 0, 1) := by decide +kernel
theorem dX7_init_38 : decode cX7_init 38 = .ok (.putfield 25, 3) := by decide +kernel
theorem dX7_init_41 : decode cX7_init 41 = .ok (.return_, 1) := by decide +kernel
theorem dX7_append_0 : decode cX7_append 0 = .ok (.aload_n 0, 1) := by decide +kernel
theorem dX7_append_1 : decode cX7_append 1 = .ok (.getfield 25, 3) := by decide +kernel
theorem dX7_append_4 : decode cX7_append 4 = .ok (.bipush 8, 2) := by decide +kernel
theorem dX7_append_6 : decode cX7_append 6 = .ok (.if_icmp .ge 54, 3) := by decide +kernel
theorem dX7_append_9 : decode cX7_append 9 = .ok (.aload_n 0, 1) := by decide +kernel
theorem dX7_append_10 : decode cX7_append 10 = .ok (.getfield 9, 3) := by decide +kernel
theorem dX7_append_13 : decode cX7_append 13 = .ok (.aload_n 0, 1) := by decide +kernel
theorem dX7_append_14 : decode cX7_append 14 = .ok (.getfield 25, 3) := by decide +kernel
theorem dX7_append_17 : decode cX7_append 17 = .ok (.iload_n 1, 1) := by decide +kernel
theorem dX7_append_18 : decode cX7_append 18 = .ok (.iastore, 1) := by decide +kernel
theorem dX7_append_19 : decode cX7_append 19 = .ok (.aload_n 0, 1) := by decide +kernel
theorem dX7_append_20 : decode cX7_append 20 = .ok (.getfield 15, 3) := by decide +kernel
theorem dX7_append_23 : decode cX7_append 23 = .ok (.aload_n 0, 1) := by decide +kernel
theorem dX7_append_24 : decode cX7_append 24 = .ok (.getfield 25, 3) := by decide +kernel
theorem dX7_append_27 : decode cX7_append 27 = .ok (.iload_n 2, 1) := by decide +kernel
theorem dX7_append_28 : decode cX7_append 28 = .ok (.iastore, 1) := by decide +kernel
theorem dX7_append_29 : decode cX7_append 29 = .ok (.aload_n 0, 1) := by decide +kernel
theorem dX7_append_30 : decode cX7_append 30 = .ok (.getfield 18, 3) := by decide +kernel
theorem dX7_append_33 : decode cX7_append 33 = .ok (.aload_n 0, 1) := by decide +kernel
theorem dX7_append_34 : decode cX7_append 34 = .ok (.getfield 25, 3) := by decide +kernel
theorem dX7_append_37 : decode cX7_append 37 = .ok (.iload_n 3, 1) := by decide +kernel
theorem dX7_append_38 : decode cX7_append 38 = .ok (.iastore, 1) := by decide +kernel
theorem dX7_append_39 : decode cX7_append 39 = .ok (.aload_n 0, 1) := by decide +kernel
theorem dX7_append_40 : decode cX7_append 40 = .ok (.getfield 21, 3) := by decide +kernel
theorem dX7_append_43 : decode cX7_append 43 = .ok (.aload_n 0, 1) := by decide +kernel
theorem dX7_append_44 : decode cX7_append 44 = .ok (.getfield 25, 3) := by decide +kernel
theorem dX7_append_47 : decode cX7_append 47 = .ok (.lload 4, 2) := by decide +kernel
theorem dX7_append_49 : decode cX7_append 49 = .ok (.lastore, 1) := by decide +kernel
theorem dX7_append_50 : decode cX7_append 50 = .ok (.aload_n 0, 1) := by decide +kernel
theorem dX7_append_51 : decode cX7_append 51 = .ok (.dup, 1) := by decide +kernel
theorem dX7_append_52 : decode cX7_append 52 = .ok (.getfield 25, 3) := by decide +kernel
theorem dX7_append_55 : decode cX7_append 55 = .ok (.iconst 1, 1) := by decide +kernel
theorem dX7_append_56 : decode cX7_append 56 = .ok (.iadd, 1) := by decide +kernel
theorem dX7_append_57 : decode cX7_append 57 = .ok (.putfield 25, 3) := by decide +kernel
theorem dX7_append_60 : decode cX7_append 60 = .ok (.return_, 1) := by decide +kernel
theorem dX7_foresee_0 : decode cX7_foresee 0 = .ok (.aload_n 1, 1) := by decide +kernel
theorem dX7_foresee_1 : decode cX7_foresee 1 = .ok (.iconst 0, 1) := by decide +kernel
theorem dX7_foresee_2 : decode cX7_foresee 2 = .ok (.aaload, 1) := by decide +kernel
theorem dX7_foresee_3 : decode cX7_foresee 3 = .ok (.iconst 0, 1) := by decide +kernel
theorem dX7_foresee_4 : decode cX7_foresee 4 = .ok (.invokestatic 29, 3) := by decide +kernel
theorem dX7_foresee_7 : decode cX7_foresee 7 = .ok (.iconst 0, 1) := by decide +kernel
theorem dX7_foresee_8 : decode cX7_foresee 8 = .ok (.istore_n 2, 1) := by decide +kernel
theorem dX7_foresee_9 : decode cX7_foresee 9 = .ok (.iload_n 2, 1) := by decide +kernel
theorem dX7_foresee_10 : decode cX7_foresee 10 = .ok (.aload_n 0, 1) := by decide +kernel
theorem dX7_foresee_11 : decode cX7_foresee 11 = .ok (.getfield 25, 3) := by decide +kernel
theorem dX7_foresee_14 : decode cX7_foresee 14 = .ok (.if_icmp .ge 128, 3) := by decide +kernel
theorem dX7_foresee_17 : decode cX7_foresee 17 = .ok (.aload_n 1, 1) := by decide +kernel
theorem dX7_foresee_18 : decode cX7_foresee 18 = .ok (.iload_n 2, 1) := by decide +kernel
theorem dX7_foresee_19 : decode cX7_foresee 19 = .ok (.iconst 1, 1) := by decide +kernel
theorem dX7_foresee_20 : decode cX7_foresee 20 = .ok (.iadd, 1) := by decide +kernel
theorem dX7_foresee_21 : decode cX7_foresee 21 = .ok (.aaload, 1) := by decide +kernel
theorem dX7_foresee_22 : decode cX7_foresee 22 = .ok (.astore_n 3, 1) := by decide +kernel
theorem dX7_foresee_23 : decode cX7_foresee 23 = .ok (.aload_n 1, 1) := by decide +kernel
theorem dX7_foresee_24 : decode cX7_foresee 24 = .ok (.iload_n 2, 1) := by decide +kernel
theorem dX7_foresee_25 : decode cX7_foresee 25 = .ok (.aaload, 1) := by decide +kernel
theorem dX7_foresee_26 : decode cX7_foresee 26 = .ok (.iconst 0, 1) := by decide +kernel
theorem dX7_foresee_27 : decode cX7_foresee 27 = .ok (.aload_n 3, 1) := by decide +kernel
theorem dX7_foresee_28 : decode cX7_foresee 28 = .ok (.iconst 0, 1) := by decide +kernel
theorem dX7_foresee_29 : decode cX7_foresee 29 = .ok (.bipush 6, 2) := by decide +kernel
theorem dX7_foresee_31 : decode cX7_foresee 31 = .ok (.invokestatic 35, 3) := by decide +kernel
theorem dX7_foresee_34 : decode cX7_foresee 34 = .ok (.iconst 2, 1) := by decide +kernel
theorem dX7_foresee_35 : decode cX7_foresee 35 = .ok (.aload_n 0, 1) := by decide +kernel
theorem dX7_foresee_36 : decode cX7_foresee 36 = .ok (.getfield 15, 3) := by decide +kernel
theorem dX7_foresee_39 : decode cX7_foresee 39 = .ok (.iload_n 2, 1) := by decide +kernel
theorem dX7_foresee_40 : decode cX7_foresee 40 = .ok (.iaload, 1) := by decide +kernel
theorem dX7_foresee_41 : decode cX7_foresee 41 = .ok (.imul, 1) := by decide +kernel
theorem dX7_foresee_42 : decode cX7_foresee 42 = .ok (.istore 4, 2) := by decide +kernel
theorem dX7_foresee_44 : decode cX7_foresee 44 = .ok (.iconst 2, 1) := by decide +kernel
theorem dX7_foresee_45 : decode cX7_foresee 45 = .ok (.aload_n 0, 1) := by decide +kernel
theorem dX7_foresee_46 : decode cX7_foresee 46 = .ok (.getfield 18, 3) := by decide +kernel
theorem dX7_foresee_49 : decode cX7_foresee 49 = .ok (.iload_n 2, 1) := by decide +kernel
theorem dX7_foresee_50 : decode cX7_foresee 50 = .ok (.iaload, 1) := by decide +kernel
theorem dX7_foresee_51 : decode cX7_foresee 51 = .ok (.imul, 1) := by decide +kernel
theorem dX7_foresee_52 : decode cX7_foresee 52 = .ok (.istore 5, 2) := by decide +kernel
theorem dX7_foresee_54 : decode cX7_foresee 54 = .ok (.aload_n 0, 1) := by decide +kernel
theorem dX7_foresee_55 : decode cX7_foresee 55 = .ok (.getfield 9, 3) := by decide +kernel
theorem dX7_foresee_58 : decode cX7_foresee 58 = .ok (.iload_n 2, 1) := by decide +kernel
theorem dX7_foresee_59 : decode cX7_foresee 59 = .ok (.iaload, 1) := by decide +kernel
theorem dX7_foresee_60 : decode cX7_foresee 60 = .ok (.ifCond .ne 34, 3) := by decide +kernel
theorem dX7_foresee_63 : decode cX7_foresee 63 = .ok (.aload_n 3, 1) := by decide +kernel
theorem dX7_foresee_64 : decode cX7_foresee 64 = .ok (.iload 4, 2) := by decide +kernel
theorem dX7_foresee_66 : decode cX7_foresee 66 = .ok (.aload_n 0, 1) := by decide +kernel
theorem dX7_foresee_67 : decode cX7_foresee 67 = .ok (.getfield 21, 3) := by decide +kernel
theorem dX7_foresee_70 : decode cX7_foresee 70 = .ok (.iload_n 2, 1) := by decide +kernel
theorem dX7_foresee_71 : decode cX7_foresee 71 = .ok (.laload, 1) := by decide +kernel
theorem dX7_foresee_72 : decode cX7_foresee 72 = .ok (.invokestatic 41, 3) := by decide +kernel
theorem dX7_foresee_75 : decode cX7_foresee 75 = .ok (.iastore, 1) := by decide +kernel
theorem dX7_foresee_76 : decode cX7_foresee 76 = .ok (.aload_n 3, 1) := by decide +kernel
theorem dX7_foresee_77 : decode cX7_foresee 77 = .ok (.iload 4, 2) := by decide +kernel
theorem dX7_foresee_79 : decode cX7_foresee 79 = .ok (.iconst 1, 1) := by decide +kernel
theorem dX7_foresee_80 : decode cX7_foresee 80 = .ok (.iadd, 1) := by decide +kernel
theorem dX7_foresee_81 : decode cX7_foresee 81 = .ok (.aload_n 0, 1) := by decide +kernel
theorem dX7_foresee_82 : decode cX7_foresee 82 = .ok (.getfield 21, 3) := by decide +kernel
theorem dX7_foresee_85 : decode cX7_foresee 85 = .ok (.iload_n 2, 1) := by decide +kernel
theorem dX7_foresee_86 : decode cX7_foresee 86 = .ok (.laload, 1) := by decide +kernel
theorem dX7_foresee_87 : decode cX7_foresee 87 = .ok (.invokestatic 45, 3) := by decide +kernel
theorem dX7_foresee_90 : decode cX7_foresee 90 = .ok (.iastore, 1) := by decide +kernel
theorem dX7_foresee_91 : decode cX7_foresee 91 = .ok (.goto 45, 3) := by decide +kernel
theorem dX7_foresee_94 : decode cX7_foresee 94 = .ok (.aload_n 0, 1) := by decide +kernel
theorem dX7_foresee_95 : decode cX7_foresee 95 = .ok (.getfield 9, 3) := by decide +kernel
theorem dX7_foresee_98 : decode cX7_foresee 98 = .ok (.iload_n 2, 1) := by decide +kernel
theorem dX7_foresee_99 : decode cX7_foresee 99 = .ok (.iaload, 1) := by decide +kernel
theorem dX7_foresee_100 : decode cX7_foresee 100 = .ok (.iconst 1, 1) := by decide +kernel
theorem dX7_foresee_101 : decode cX7_foresee 101 = .ok (.if_icmp .ne 35, 3) := by decide +kernel
theorem dX7_foresee_104 : decode cX7_foresee 104 = .ok (.aload_n 3, 1) := by decide +kernel
theorem dX7_foresee_105 : decode cX7_foresee 105 = .ok (.iload 5, 2) := by decide +kernel
theorem dX7_foresee_107 : decode cX7_foresee 107 = .ok (.aload_n 3, 1) := by decide +kernel
theorem dX7_foresee_108 : decode cX7_foresee 108 = .ok (.iload 4, 2) := by decide +kernel
theorem dX7_foresee_110 : decode cX7_foresee 110 = .ok (.iaload, 1) := by decide +kernel
theorem dX7_foresee_111 : decode cX7_foresee 111 = .ok (.iastore, 1) := by decide +kernel
theorem dX7_foresee_112 : decode cX7_foresee 112 = .ok (.aload_n 3, 1) := by decide +kernel
theorem dX7_foresee_113 : decode cX7_foresee 113 = .ok (.iload 5, 2) := by decide +kernel
theorem dX7_foresee_115 : decode cX7_foresee 115 = .ok (.iconst 1, 1) := by decide +kernel
theorem dX7_foresee_116 : decode cX7_foresee 116 = .ok (.iadd, 1) := by decide +kernel
theorem dX7_foresee_117 : decode cX7_foresee 117 = .ok (.aload_n 3, 1) := by decide +kernel
theorem dX7_foresee_118 : decode cX7_foresee 118 = .ok (.iload 4, 2) := by decide +kernel
theorem dX7_foresee_120 : decode cX7_foresee 120 = .ok (.iconst 1, 1) := by decide +kernel
theorem dX7_foresee_121 : decode cX7_foresee 121 = .ok (.iadd, 1) := by decide +kernel
theorem dX7_foresee_122 : decode cX7_foresee 122 = .ok (.iaload, 1) := by decide +kernel
theorem dX7_foresee_123 : decode cX7_foresee 123 = .ok (.iastore, 1) := by decide +kernel
theorem dX7_foresee_124 : decode cX7_foresee 124 = .ok (.aload_n 3, 1) := by decide +kernel
theorem dX7_foresee_125 : decode cX7_foresee 125 = .ok (.iload 4, 2) := by decide +kernel
theorem dX7_foresee_127 : decode cX7_foresee 127 = .ok (.iconst 0, 1) := by decide +kernel
theorem dX7_foresee_128 : decode cX7_foresee 128 = .ok (.iastore, 1) := by decide +kernel
theorem dX7_foresee_129 : decode cX7_foresee 129 = .ok (.aload_n 3, 1) := by decide +kernel
theorem dX7_foresee_130 : decode cX7_foresee 130 = .ok (.iload 4, 2) := by decide +kernel
theorem dX7_foresee_132 : decode cX7_foresee 132 = .ok (.iconst 1, 1) := by decide +kernel
theorem dX7_foresee_133 : decode cX7_foresee 133 = .ok (.iadd, 1) := by decide +kernel
theorem dX7_foresee_134 : decode cX7_foresee 134 = .ok (.iconst 0, 1) := by decide +kernel
theorem dX7_foresee_135 : decode cX7_foresee 135 = .ok (.iastore, 1) := by decide +kernel
theorem dX7_foresee_136 : decode cX7_foresee 136 = .ok (.iinc 2 1, 3) := by decide +kernel
theorem dX7_foresee_139 : decode cX7_foresee 139 = .ok (.goto (-130), 3) := by decide +kernel
theorem dX7_foresee_142 : decode cX7_foresee 142 = .ok (.return_, 1) := by decide +kernel
theorem dX8_init_0 : decode cX8_init 0 = .ok (.aload_n 0, 1) := by decide +kernel
theorem dX8_init_1 : decode cX8_init 1 = .ok (.invokespecial 3, 3) := by decide +kernel
theorem dX8_init_4 : decode cX8_init 4 = .ok (.return_, 1) := by decide +kernel
theorem dX8_fences_0 : decode cX8_fences 0 = .ok (.iconst 2, 1) := by decide +kernel
theorem dX8_fences_1 : decode cX8_fences 1 = .ok (.ireturn, 1) := by decide +kernel
theorem dX8_homeOfKeys_0 : decode cX8_homeOfKeys 0 = .ok (.aload_n 0, 1) := by decide +kernel
theorem dX8_homeOfKeys_1 : decode cX8_homeOfKeys 1 = .ok (.aload_n 1, 1) := by decide +kernel
theorem dX8_homeOfKeys_2 : decode cX8_homeOfKeys 2 = .ok (.invokevirtual 9, 3) := by decide +kernel
theorem dX8_homeOfKeys_5 : decode cX8_homeOfKeys 5 = .ok (.istore_n 2, 1) := by decide +kernel
theorem dX8_homeOfKeys_6 : decode cX8_homeOfKeys 6 = .ok (.iload_n 2, 1) := by decide +kernel
theorem dX8_homeOfKeys_7 : decode cX8_homeOfKeys 7 = .ok (.ifCond .ne 7, 3) := by decide +kernel
theorem dX8_homeOfKeys_10 : decode cX8_homeOfKeys 10 = .ok (.iconst (-1), 1) := by decide +kernel
theorem dX8_homeOfKeys_11 : decode cX8_homeOfKeys 11 = .ok (.goto 7, 3) := by decide +kernel
theorem dX8_homeOfKeys_14 : decode cX8_homeOfKeys 14 = .ok (.iload_n 2, 1) := by decide +kernel
theorem dX8_homeOfKeys_15 : decode cX8_homeOfKeys 15 = .ok (.invokestatic 15, 3) := by decide +kernel
theorem dX8_homeOfKeys_18 : decode cX8_homeOfKeys 18 = .ok (.ireturn, 1) := by decide +kernel
theorem dX8_allIsWell_0 : decode cX8_allIsWell 0 = .ok (.aload_n 0, 1) := by decide +kernel
theorem dX8_allIsWell_1 : decode cX8_allIsWell 1 = .ok (.aload_n 1, 1) := by decide +kernel
theorem dX8_allIsWell_2 : decode cX8_allIsWell 2 = .ok (.invokevirtual 9, 3) := by decide +kernel
theorem dX8_allIsWell_5 : decode cX8_allIsWell 5 = .ok (.ifCond .le 7, 3) := by decide +kernel
theorem dX8_allIsWell_8 : decode cX8_allIsWell 8 = .ok (.iconst 1, 1) := by decide +kernel
theorem dX8_allIsWell_9 : decode cX8_allIsWell 9 = .ok (.goto 4, 3) := by decide +kernel
theorem dX8_allIsWell_12 : decode cX8_allIsWell 12 = .ok (.iconst 0, 1) := by decide +kernel
theorem dX8_allIsWell_13 : decode cX8_allIsWell 13 = .ok (.ireturn, 1) := by decide +kernel
theorem dX8_planChange_0 : decode cX8_planChange 0 = .ok (.aload_n 0, 1) := by decide +kernel
theorem dX8_planChange_1 : decode cX8_planChange 1 = .ok (.aload_n 1, 1) := by decide +kernel
theorem dX8_planChange_2 : decode cX8_planChange 2 = .ok (.invokevirtual 9, 3) := by decide +kernel
theorem dX8_planChange_5 : decode cX8_planChange 5 = .ok (.iconst 1, 1) := by decide +kernel
theorem dX8_planChange_6 : decode cX8_planChange 6 = .ok (.iadd, 1) := by decide +kernel
theorem dX8_planChange_7 : decode cX8_planChange 7 = .ok (.istore 9, 2) := by decide +kernel
theorem dX8_planChange_9 : decode cX8_planChange 9 = .ok (.aload_n 0, 1) := by decide +kernel
theorem dX8_planChange_10 : decode cX8_planChange 10 = .ok (.aload_n 1, 1) := by decide +kernel
theorem dX8_planChange_11 : decode cX8_planChange 11 = .ok (.invokevirtual 19, 3) := by decide +kernel
theorem dX8_planChange_14 : decode cX8_planChange 14 = .ok (.istore 10, 2) := by decide +kernel
theorem dX8_planChange_16 : decode cX8_planChange 16 = .ok (.iconst 0, 1) := by decide +kernel
theorem dX8_planChange_17 : decode cX8_planChange 17 = .ok (.istore 11, 2) := by decide +kernel
theorem dX8_planChange_19 : decode cX8_planChange 19 = .ok (.iload 11, 2) := by decide +kernel
theorem dX8_planChange_21 : decode cX8_planChange 21 = .ok (.iconst 3, 1) := by decide +kernel
theorem dX8_planChange_22 : decode cX8_planChange 22 = .ok (.if_icmp .ge 64, 3) := by decide +kernel
theorem dX8_planChange_25 : decode cX8_planChange 25 = .ok (.iload 11, 2) := by decide +kernel
theorem dX8_planChange_27 : decode cX8_planChange 27 = .ok (.iload_n 2, 1) := by decide +kernel
theorem dX8_planChange_28 : decode cX8_planChange 28 = .ok (.if_icmp .ne 7, 3) := by decide +kernel
theorem dX8_planChange_31 : decode cX8_planChange 31 = .ok (.lload_n 3, 1) := by decide +kernel
theorem dX8_planChange_32 : decode cX8_planChange 32 = .ok (.goto 23, 3) := by decide +kernel
theorem dX8_planChange_35 : decode cX8_planChange 35 = .ok (.iload 11, 2) := by decide +kernel
theorem dX8_planChange_37 : decode cX8_planChange 37 = .ok (.iload 5, 2) := by decide +kernel
theorem dX8_planChange_39 : decode cX8_planChange 39 = .ok (.if_icmp .ne 8, 3) := by decide +kernel
theorem dX8_planChange_42 : decode cX8_planChange 42 = .ok (.lload 6, 2) := by decide +kernel
theorem dX8_planChange_44 : decode cX8_planChange 44 = .ok (.goto 11, 3) := by decide +kernel
theorem dX8_planChange_47 : decode cX8_planChange 47 = .ok (.aload_n 1, 1) := by decide +kernel
theorem dX8_planChange_48 : decode cX8_planChange 48 = .ok (.iload 10, 2) := by decide +kernel
theorem dX8_planChange_50 : decode cX8_planChange 50 = .ok (.iload 11, 2) := by decide +kernel
theorem dX8_planChange_52 : decode cX8_planChange 52 = .ok (.invokestatic 22, 3) := by decide +kernel
theorem dX8_planChange_55 : decode cX8_planChange 55 = .ok (.lstore 12, 2) := by decide +kernel
theorem dX8_planChange_57 : decode cX8_planChange 57 = .ok (.aload 8, 2) := by decide +kernel
theorem dX8_planChange_59 : decode cX8_planChange 59 = .ok (.iload 9, 2) := by decide +kernel
theorem dX8_planChange_61 : decode cX8_planChange 61 = .ok (.invokestatic 15, 3) := by decide +kernel
theorem dX8_planChange_64 : decode cX8_planChange 64 = .ok (.iload 11, 2) := by decide +kernel
theorem dX8_planChange_66 : decode cX8_planChange 66 = .ok (.iadd, 1) := by decide +kernel
theorem dX8_planChange_67 : decode cX8_planChange 67 = .ok (.lload 12, 2) := by decide +kernel
theorem dX8_planChange_69 : decode cX8_planChange 69 = .ok (.invokestatic 26, 3) := by decide +kernel
theorem dX8_planChange_72 : decode cX8_planChange 72 = .ok (.lload 12, 2) := by decide +kernel
theorem dX8_planChange_74 : decode cX8_planChange 74 = .ok (.invokestatic 30, 3) := by decide +kernel
theorem dX8_planChange_77 : decode cX8_planChange 77 = .ok (.invokevirtual 33, 3) := by decide +kernel
theorem dX8_planChange_80 : decode cX8_planChange 80 = .ok (.iinc 11 1, 3) := by decide +kernel
theorem dX8_planChange_83 : decode cX8_planChange 83 = .ok (.goto (-64), 3) := by decide +kernel
theorem dX8_planChange_86 : decode cX8_planChange 86 = .ok (.aload 8, 2) := by decide +kernel
theorem dX8_planChange_88 : decode cX8_planChange 88 = .ok (.iconst 0, 1) := by decide +kernel
theorem dX8_planChange_89 : decode cX8_planChange 89 = .ok (.invokevirtual 39, 3) := by decide +kernel
theorem dX8_planChange_92 : decode cX8_planChange 92 = .ok (.aload 8, 2) := by decide +kernel
theorem dX8_planChange_94 : decode cX8_planChange 94 = .ok (.iload 9, 2) := by decide +kernel
theorem dX8_planChange_96 : decode cX8_planChange 96 = .ok (.invokestatic 43, 3) := by decide +kernel
theorem dX8_planChange_99 : decode cX8_planChange 99 = .ok (.ifCond .eq 7, 3) := by decide +kernel
theorem dX8_planChange_102 : decode cX8_planChange 102 = .ok (.iconst 3, 1) := by decide +kernel
theorem dX8_planChange_103 : decode cX8_planChange 103 = .ok (.goto 5, 3) := by decide +kernel
theorem dX8_planChange_106 : decode cX8_planChange 106 = .ok (.bipush 7, 2) := by decide +kernel
theorem dX8_planChange_108 : decode cX8_planChange 108 = .ok (.iload 9, 2) := by decide +kernel
theorem dX8_planChange_110 : decode cX8_planChange 110 = .ok (.iload 9, 2) := by decide +kernel
theorem dX8_planChange_112 : decode cX8_planChange 112 = .ok (.invokestatic 47, 3) := by decide +kernel
theorem dX8_planChange_115 : decode cX8_planChange 115 = .ok (.invokevirtual 33, 3) := by decide +kernel
theorem dX8_planChange_118 : decode cX8_planChange 118 = .ok (.aload 8, 2) := by decide +kernel
theorem dX8_planChange_120 : decode cX8_planChange 120 = .ok (.iconst 1, 1) := by decide +kernel
theorem dX8_planChange_121 : decode cX8_planChange 121 = .ok (.invokevirtual 39, 3) := by decide +kernel
theorem dX8_planChange_124 : decode cX8_planChange 124 = .ok (.return_, 1) := by decide +kernel
theorem dX8_layOut_0 : decode cX8_layOut 0 = .ok (.aload_n 1, 1) := by decide +kernel
theorem dX8_layOut_1 : decode cX8_layOut 1 = .ok (.bipush 6, 2) := by decide +kernel
theorem dX8_layOut_3 : decode cX8_layOut 3 = .ok (.iconst 1, 1) := by decide +kernel
theorem dX8_layOut_4 : decode cX8_layOut 4 = .ok (.iastore, 1) := by decide +kernel
theorem dX8_layOut_5 : decode cX8_layOut 5 = .ok (.aload_n 1, 1) := by decide +kernel
theorem dX8_layOut_6 : decode cX8_layOut 6 = .ok (.bipush 7, 2) := by decide +kernel
theorem dX8_layOut_8 : decode cX8_layOut 8 = .ok (.iconst 1, 1) := by decide +kernel
theorem dX8_layOut_9 : decode cX8_layOut 9 = .ok (.invokestatic 47, 3) := by decide +kernel
theorem dX8_layOut_12 : decode cX8_layOut 12 = .ok (.iastore, 1) := by decide +kernel
theorem dX8_layOut_13 : decode cX8_layOut 13 = .ok (.return_, 1) := by decide +kernel
theorem dX8_version_0 : decode cX8_version 0 = .ok (.aload_n 1, 1) := by decide +kernel
theorem dX8_version_1 : decode cX8_version 1 = .ok (.bipush 6, 2) := by decide +kernel
theorem dX8_version_3 : decode cX8_version 3 = .ok (.iaload, 1) := by decide +kernel
theorem dX8_version_4 : decode cX8_version 4 = .ok (.istore_n 2, 1) := by decide +kernel
theorem dX8_version_5 : decode cX8_version 5 = .ok (.aload_n 1, 1) := by decide +kernel
theorem dX8_version_6 : decode cX8_version 6 = .ok (.bipush 14, 2) := by decide +kernel
theorem dX8_version_8 : decode cX8_version 8 = .ok (.iaload, 1) := by decide +kernel
theorem dX8_version_9 : decode cX8_version 9 = .ok (.istore_n 3, 1) := by decide +kernel
theorem dX8_version_10 : decode cX8_version 10 = .ok (.iload_n 2, 1) := by decide +kernel
theorem dX8_version_11 : decode cX8_version 11 = .ok (.ifCond .le 25, 3) := by decide +kernel
theorem dX8_version_14 : decode cX8_version 14 = .ok (.iload_n 2, 1) := by decide +kernel
theorem dX8_version_15 : decode cX8_version 15 = .ok (.invokestatic 43, 3) := by decide +kernel
theorem dX8_version_18 : decode cX8_version 18 = .ok (.ifCond .eq 18, 3) := by decide +kernel
theorem dX8_version_21 : decode cX8_version 21 = .ok (.aload_n 1, 1) := by decide +kernel
theorem dX8_version_22 : decode cX8_version 22 = .ok (.bipush 7, 2) := by decide +kernel
theorem dX8_version_24 : decode cX8_version 24 = .ok (.iaload, 1) := by decide +kernel
theorem dX8_version_25 : decode cX8_version 25 = .ok (.iload_n 2, 1) := by decide +kernel
theorem dX8_version_26 : decode cX8_version 26 = .ok (.invokestatic 47, 3) := by decide +kernel
theorem dX8_version_29 : decode cX8_version 29 = .ok (.if_icmp .ne 7, 3) := by decide +kernel
theorem dX8_version_32 : decode cX8_version 32 = .ok (.iconst 1, 1) := by decide +kernel
theorem dX8_version_33 : decode cX8_version 33 = .ok (.goto 4, 3) := by decide +kernel
theorem dX8_version_36 : decode cX8_version 36 = .ok (.iconst 0, 1) := by decide +kernel
theorem dX8_version_37 : decode cX8_version 37 = .ok (.istore 4, 2) := by decide +kernel
theorem dX8_version_39 : decode cX8_version 39 = .ok (.iload_n 3, 1) := by decide +kernel
theorem dX8_version_40 : decode cX8_version 40 = .ok (.ifCond .le 25, 3) := by decide +kernel
theorem dX8_version_43 : decode cX8_version 43 = .ok (.iload_n 3, 1) := by decide +kernel
theorem dX8_version_44 : decode cX8_version 44 = .ok (.invokestatic 43, 3) := by decide +kernel
theorem dX8_version_47 : decode cX8_version 47 = .ok (.ifCond .ne 18, 3) := by decide +kernel
theorem dX8_version_50 : decode cX8_version 50 = .ok (.aload_n 1, 1) := by decide +kernel
theorem dX8_version_51 : decode cX8_version 51 = .ok (.bipush 15, 2) := by decide +kernel
theorem dX8_version_53 : decode cX8_version 53 = .ok (.iaload, 1) := by decide +kernel
theorem dX8_version_54 : decode cX8_version 54 = .ok (.iload_n 3, 1) := by decide +kernel
theorem dX8_version_55 : decode cX8_version 55 = .ok (.invokestatic 47, 3) := by decide +kernel
theorem dX8_version_58 : decode cX8_version 58 = .ok (.if_icmp .ne 7, 3) := by decide +kernel
theorem dX8_version_61 : decode cX8_version 61 = .ok (.iconst 1, 1) := by decide +kernel
theorem dX8_version_62 : decode cX8_version 62 = .ok (.goto 4, 3) := by decide +kernel
theorem dX8_version_65 : decode cX8_version 65 = .ok (.iconst 0, 1) := by decide +kernel
theorem dX8_version_66 : decode cX8_version 66 = .ok (.istore 5, 2) := by decide +kernel
theorem dX8_version_68 : decode cX8_version 68 = .ok (.iload 4, 2) := by decide +kernel
theorem dX8_version_70 : decode cX8_version 70 = .ok (.ifCond .eq 7, 3) := by decide +kernel
theorem dX8_version_73 : decode cX8_version 73 = .ok (.iload_n 2, 1) := by decide +kernel
theorem dX8_version_74 : decode cX8_version 74 = .ok (.goto 4, 3) := by decide +kernel
theorem dX8_version_77 : decode cX8_version 77 = .ok (.iconst 0, 1) := by decide +kernel
theorem dX8_version_78 : decode cX8_version 78 = .ok (.iload 5, 2) := by decide +kernel
theorem dX8_version_80 : decode cX8_version 80 = .ok (.ifCond .eq 7, 3) := by decide +kernel
theorem dX8_version_83 : decode cX8_version 83 = .ok (.iload_n 3, 1) := by decide +kernel
theorem dX8_version_84 : decode cX8_version 84 = .ok (.goto 4, 3) := by decide +kernel
theorem dX8_version_87 : decode cX8_version 87 = .ok (.iconst 0, 1) := by decide +kernel
theorem dX8_version_88 : decode cX8_version 88 = .ok (.invokestatic 50, 3) := by decide +kernel
theorem dX8_version_91 : decode cX8_version 91 = .ok (.ireturn, 1) := by decide +kernel
theorem dX8_homeWith_0 : decode cX8_homeWith 0 = .ok (.iload_n 0, 1) := by decide +kernel
theorem dX8_homeWith_1 : decode cX8_homeWith 1 = .ok (.invokestatic 43, 3) := by decide +kernel
theorem dX8_homeWith_4 : decode cX8_homeWith 4 = .ok (.ifCond .eq 7, 3) := by decide +kernel
theorem dX8_homeWith_7 : decode cX8_homeWith 7 = .ok (.iconst 0, 1) := by decide +kernel
theorem dX8_homeWith_8 : decode cX8_homeWith 8 = .ok (.goto 4, 3) := by decide +kernel
theorem dX8_homeWith_11 : decode cX8_homeWith 11 = .ok (.iconst 4, 1) := by decide +kernel
theorem dX8_homeWith_12 : decode cX8_homeWith 12 = .ok (.ireturn, 1) := by decide +kernel
theorem dX8_isOdd_0 : decode cX8_isOdd 0 = .ok (.iload_n 0, 1) := by decide +kernel
theorem dX8_isOdd_1 : decode cX8_isOdd 1 = .ok (.iconst 1, 1) := by decide +kernel
theorem dX8_isOdd_2 : decode cX8_isOdd 2 = .ok (.iand, 1) := by decide +kernel
theorem dX8_isOdd_3 : decode cX8_isOdd 3 = .ok (.ifCond .eq 7, 3) := by decide +kernel
theorem dX8_isOdd_6 : decode cX8_isOdd 6 = .ok (.iconst 1, 1) := by decide +kernel
theorem dX8_isOdd_7 : decode cX8_isOdd 7 = .ok (.goto 4, 3) := by decide +kernel
theorem dX8_isOdd_10 : decode cX8_isOdd 10 = .ok (.iconst 0, 1) := by decide +kernel
theorem dX8_isOdd_11 : decode cX8_isOdd 11 = .ok (.ireturn, 1) := by decide +kernel
theorem dX8_seal_0 : decode cX8_seal 0 = .ok (.bipush 31, 2) := by decide +kernel
theorem dX8_seal_2 : decode cX8_seal 2 = .ok (.iload_n 0, 1) := by decide +kernel
theorem dX8_seal_3 : decode cX8_seal 3 = .ok (.imul, 1) := by decide +kernel
theorem dX8_seal_4 : decode cX8_seal 4 = .ok (.bipush 7, 2) := by decide +kernel
theorem dX8_seal_6 : decode cX8_seal 6 = .ok (.iadd, 1) := by decide +kernel
theorem dX8_seal_7 : decode cX8_seal 7 = .ok (.ireturn, 1) := by decide +kernel
theorem dX9_init_0 : decode cX9_init 0 = .ok (.aload_n 0, 1) := by decide +kernel
theorem dX9_init_1 : decode cX9_init 1 = .ok (.invokespecial 3, 3) := by decide +kernel
theorem dX9_init_4 : decode cX9_init 4 = .ok (.aload_n 0, 1) := by decide +kernel
theorem dX9_init_5 : decode cX9_init 5 = .ok (.bipush 32, 2) := by decide +kernel
theorem dX9_init_7 : decode cX9_init 7 = .ok (.newarray .int, 2) := by decide +kernel
theorem dX9_init_9 : decode cX9_init 9 = .ok (.putfield 9, 3) := by decide +kernel
theorem dX9_init_12 : decode cX9_init 12 = .ok (.aload_n 0, 1) := by decide +kernel
theorem dX9_init_13 : decode cX9_init 13 = .ok (.bipush 32, 2) := by decide +kernel
theorem dX9_init_15 : decode cX9_init 15 = .ok (.newarray .int, 2) := by decide +kernel
theorem dX9_init_17 : decode cX9_init 17 = .ok (.putfield 15, 3) := by decide +kernel
theorem dX9_init_20 : decode cX9_init 20 = .ok (.aload_n 0, 1) := by decide +kernel
theorem dX9_init_21 : decode cX9_init 21 = .ok (.bipush 33, 2) := by decide +kernel
theorem dX9_init_23 : decode cX9_init 23 = .ok (.newarray .int, 2) := by decide +kernel
theorem dX9_init_25 : decode cX9_init 25 = .ok (.putfield 18, 3) := by decide +kernel
theorem dX9_init_28 : decode cX9_init 28 = .ok (.aload_n 0, 1) := by decide +kernel
theorem dX9_init_29 : decode cX9_init 29 = .ok (.sipush 152, 3) := by decide +kernel
theorem dX9_init_32 : decode cX9_init 32 = .ok (.newarray .int, 2) := by decide +kernel
theorem dX9_init_34 : decode cX9_init 34 = .ok (.putfield 21, 3) := by decide +kernel
theorem dX9_init_37 : decode cX9_init 37 = .ok (.aload_n 0, 1) := by decide +kernel
theorem dX9_init_38 : decode cX9_init 38 = .ok (.sipush 152, 3) := by decide +kernel
theorem dX9_init_41 : decode cX9_init 41 = .ok (.newarray .int, 2) := by decide +kernel
theorem dX9_init_43 : decode cX9_init 43 = .ok (.putfield 24, 3) := by decide +kernel
theorem dX9_init_46 : decode cX9_init 46 = .ok (.aload_n 0, 1) := by decide +kernel
theorem dX9_init_47 : decode cX9_init 47 = .ok (.sipush 990, 3) := by decide +kernel
theorem dX9_init_50 : decode cX9_init 50 = .ok (.newarray .int, 2) := by decide +kernel
theorem dX9_init_52 : decode cX9_init 52 = .ok (.putfield 27, 3) := by decide +kernel
theorem dX9_init_55 : decode cX9_init 55 = .ok (.aload_n 0, 1) := by decide +kernel
theorem dX9_init_56 : decode cX9_init 56 = .ok (.bipush 32, 2) := by decide +kernel
theorem dX9_init_58 : decode cX9_init 58 = .ok (.newarray .int, 2) := by decide +kernel
theorem dX9_init_60 : decode cX9_init 60 = .ok (.putfield 30, 3) := by decide +kernel
theorem dX9_init_63 : decode cX9_init 63 = .ok (.aload_n 0, 1) := by decide +kernel
theorem dX9_init_64 : decode cX9_init 64 = .ok (.bipush 33, 2) := by decide +kernel
theorem dX9_init_66 : decode cX9_init 66 = .ok (.newarray .int, 2) := by decide +kernel
theorem dX9_init_68 : decode cX9_init 68 = .ok (.putfield 33, 3) := by decide +kernel
theorem dX9_init_71 : decode cX9_init 71 = .ok (.aload_n 0, 1) := by decide +kernel
theorem dX9_init_72 : decode cX9_init 72 = .ok (.iconst 0, 1) := by decide +kernel
theorem dX9_init_73 : decode cX9_init 73 = .ok (.putfield 36, 3) := by decide +kernel
theorem dX9_init_76 : decode cX9_init 76 = .ok (.aload_n 0, 1) := by decide +kernel
theorem dX9_init_77 : decode cX9_init 77 = .ok (.iconst 0, 1) := by decide +kernel
theorem dX9_init_78 : decode cX9_init 78 = .ok (.putfield 40, 3) := by decide +kernel
theorem dX9_init_81 : decode cX9_init 81 = .ok (.aload_n 0, 1) := by decide +kernel
theorem dX9_init_82 : decode cX9_init 82 = .ok (.iconst 1, 1) := by decide +kernel
theorem dX9_init_83 : decode cX9_init 83 = .ok (.putfield 43, 3) := by decide +kernel
theorem dX9_init_86 : decode cX9_init 86 = .ok (.aload_n 0, 1) := by decide +kernel
theorem dX9_init_87 : decode cX9_init 87 = .ok (.iconst 1, 1) := by decide +kernel
theorem dX9_init_88 : decode cX9_init 88 = .ok (.putfield 46, 3) := by decide +kernel
theorem dX9_init_91 : decode cX9_init 91 = .ok (.aload_n 0, 1) := by decide +kernel
theorem dX9_init_92 : decode cX9_init 92 = .ok (.iconst (-1), 1) := by decide +kernel
theorem dX9_init_93 : decode cX9_init 93 = .ok (.putfield 49, 3) := by decide +kernel
theorem dX9_init_96 : decode cX9_init 96 = .ok (.aload_n 0, 1) := by decide +kernel
theorem dX9_init_97 : decode cX9_init 97 = .ok (.iconst (-1), 1) := by decide +kernel
theorem dX9_init_98 : decode cX9_init 98 = .ok (.putfield 52, 3) := by decide +kernel
theorem dX9_init_101 : decode cX9_init 101 = .ok (.return_, 1) := by decide +kernel
theorem dX9_refresh_0 : decode cX9_refresh 0 = .ok (.aload_n 0, 1) := by decide +kernel
theorem dX9_refresh_1 : decode cX9_refresh 1 = .ok (.getfield 52, 3) := by decide +kernel
theorem dX9_refresh_4 : decode cX9_refresh 4 = .ok (.aload_n 1, 1) := by decide +kernel
theorem dX9_refresh_5 : decode cX9_refresh 5 = .ok (.getfield 55, 3) := by decide +kernel
theorem dX9_refresh_8 : decode cX9_refresh 8 = .ok (.if_icmp .ne 4, 3) := by decide +kernel
theorem dX9_refresh_11 : decode cX9_refresh 11 = .ok (.return_, 1) := by decide +kernel
theorem dX9_refresh_12 : decode cX9_refresh 12 = .ok (.aload_n 0, 1) := by decide +kernel
theorem dX9_refresh_13 : decode cX9_refresh 13 = .ok (.aload_n 1, 1) := by decide +kernel
theorem dX9_refresh_14 : decode cX9_refresh 14 = .ok (.getfield 55, 3) := by decide +kernel
theorem dX9_refresh_17 : decode cX9_refresh 17 = .ok (.putfield 52, 3) := by decide +kernel
theorem dX9_refresh_20 : decode cX9_refresh 20 = .ok (.aload_n 0, 1) := by decide +kernel
theorem dX9_refresh_21 : decode cX9_refresh 21 = .ok (.iconst (-1), 1) := by decide +kernel
theorem dX9_refresh_22 : decode cX9_refresh 22 = .ok (.putfield 49, 3) := by decide +kernel
theorem dX9_refresh_25 : decode cX9_refresh 25 = .ok (.aload_n 0, 1) := by decide +kernel
theorem dX9_refresh_26 : decode cX9_refresh 26 = .ok (.iconst 0, 1) := by decide +kernel
theorem dX9_refresh_27 : decode cX9_refresh 27 = .ok (.putfield 36, 3) := by decide +kernel
theorem dX9_refresh_30 : decode cX9_refresh 30 = .ok (.aload_n 0, 1) := by decide +kernel
theorem dX9_refresh_31 : decode cX9_refresh 31 = .ok (.iconst 0, 1) := by decide +kernel
theorem dX9_refresh_32 : decode cX9_refresh 32 = .ok (.putfield 40, 3) := by decide +kernel
theorem dX9_refresh_35 : decode cX9_refresh 35 = .ok (.aload_n 0, 1) := by decide +kernel
theorem dX9_refresh_36 : decode cX9_refresh 36 = .ok (.aload_n 1, 1) := by decide +kernel
theorem dX9_refresh_37 : decode cX9_refresh 37 = .ok (.getfield 60, 3) := by decide +kernel
theorem dX9_refresh_40 : decode cX9_refresh 40 = .ok (.iconst 1, 1) := by decide +kernel
theorem dX9_refresh_41 : decode cX9_refresh 41 = .ok (.invokestatic 61, 3) := by decide +kernel
theorem dX9_refresh_44 : decode cX9_refresh 44 = .ok (.bipush 30, 2) := by decide +kernel
theorem dX9_refresh_46 : decode cX9_refresh 46 = .ok (.invokestatic 67, 3) := by decide +kernel
theorem dX9_refresh_49 : decode cX9_refresh 49 = .ok (.putfield 43, 3) := by decide +kernel
theorem dX9_refresh_52 : decode cX9_refresh 52 = .ok (.iconst 0, 1) := by decide +kernel
theorem dX9_refresh_53 : decode cX9_refresh 53 = .ok (.istore_n 2, 1) := by decide +kernel
theorem dX9_refresh_54 : decode cX9_refresh 54 = .ok (.iload_n 2, 1) := by decide +kernel
theorem dX9_refresh_55 : decode cX9_refresh 55 = .ok (.bipush 32, 2) := by decide +kernel
theorem dX9_refresh_57 : decode cX9_refresh 57 = .ok (.if_icmp .ge 40, 3) := by decide +kernel
theorem dX9_refresh_60 : decode cX9_refresh 60 = .ok (.aload_n 0, 1) := by decide +kernel
theorem dX9_refresh_61 : decode cX9_refresh 61 = .ok (.getfield 9, 3) := by decide +kernel
theorem dX9_refresh_64 : decode cX9_refresh 64 = .ok (.iload_n 2, 1) := by decide +kernel
theorem dX9_refresh_65 : decode cX9_refresh 65 = .ok (.aload_n 1, 1) := by decide +kernel
theorem dX9_refresh_66 : decode cX9_refresh 66 = .ok (.getfield 70, 3) := by decide +kernel
theorem dX9_refresh_69 : decode cX9_refresh 69 = .ok (.iload_n 2, 1) := by decide +kernel
theorem dX9_refresh_70 : decode cX9_refresh 70 = .ok (.iaload, 1) := by decide +kernel
theorem dX9_refresh_71 : decode cX9_refresh 71 = .ok (.iastore, 1) := by decide +kernel
theorem dX9_refresh_72 : decode cX9_refresh 72 = .ok (.aload_n 1, 1) := by decide +kernel
theorem dX9_refresh_73 : decode cX9_refresh 73 = .ok (.getfield 73, 3) := by decide +kernel
theorem dX9_refresh_76 : decode cX9_refresh 76 = .ok (.iload_n 2, 1) := by decide +kernel
theorem dX9_refresh_77 : decode cX9_refresh 77 = .ok (.iconst 1, 1) := by decide +kernel
theorem dX9_refresh_78 : decode cX9_refresh 78 = .ok (.ishr, 1) := by decide +kernel
theorem dX9_refresh_79 : decode cX9_refresh 79 = .ok (.ishr, 1) := by decide +kernel
theorem dX9_refresh_80 : decode cX9_refresh 80 = .ok (.iconst 1, 1) := by decide +kernel
theorem dX9_refresh_81 : decode cX9_refresh 81 = .ok (.iand, 1) := by decide +kernel
theorem dX9_refresh_82 : decode cX9_refresh 82 = .ok (.ifCond .eq 9, 3) := by decide +kernel
theorem dX9_refresh_85 : decode cX9_refresh 85 = .ok (.aload_n 0, 1) := by decide +kernel
theorem dX9_refresh_86 : decode cX9_refresh 86 = .ok (.aload_n 1, 1) := by decide +kernel
theorem dX9_refresh_87 : decode cX9_refresh 87 = .ok (.iload_n 2, 1) := by decide +kernel
theorem dX9_refresh_88 : decode cX9_refresh 88 = .ok (.invokevirtual 76, 3) := by decide +kernel
theorem dX9_refresh_91 : decode cX9_refresh 91 = .ok (.iinc 2 1, 3) := by decide +kernel
theorem dX9_refresh_94 : decode cX9_refresh 94 = .ok (.goto (-40), 3) := by decide +kernel
theorem dX9_refresh_97 : decode cX9_refresh 97 = .ok (.aload_n 0, 1) := by decide +kernel
theorem dX9_refresh_98 : decode cX9_refresh 98 = .ok (.invokevirtual 80, 3) := by decide +kernel
theorem dX9_refresh_101 : decode cX9_refresh 101 = .ok (.aload_n 0, 1) := by decide +kernel
theorem dX9_refresh_102 : decode cX9_refresh 102 = .ok (.getfield 33, 3) := by decide +kernel
theorem dX9_refresh_105 : decode cX9_refresh 105 = .ok (.iconst 0, 1) := by decide +kernel
theorem dX9_refresh_106 : decode cX9_refresh 106 = .ok (.iconst 0, 1) := by decide +kernel
theorem dX9_refresh_107 : decode cX9_refresh 107 = .ok (.aload_n 0, 1) := by decide +kernel
theorem dX9_refresh_108 : decode cX9_refresh 108 = .ok (.getfield 43, 3) := by decide +kernel
theorem dX9_refresh_111 : decode cX9_refresh 111 = .ok (.iconst 1, 1) := by decide +kernel
theorem dX9_refresh_112 : decode cX9_refresh 112 = .ok (.isub, 1) := by decide +kernel
theorem dX9_refresh_113 : decode cX9_refresh 113 = .ok (.invokestatic 83, 3) := by decide +kernel
theorem dX9_refresh_116 : decode cX9_refresh 116 = .ok (.iastore, 1) := by decide +kernel
theorem dX9_refresh_117 : decode cX9_refresh 117 = .ok (.aload_n 0, 1) := by decide +kernel
theorem dX9_refresh_118 : decode cX9_refresh 118 = .ok (.aload_n 0, 1) := by decide +kernel
theorem dX9_refresh_119 : decode cX9_refresh 119 = .ok (.iconst 0, 1) := by decide +kernel
theorem dX9_refresh_120 : decode cX9_refresh 120 = .ok (.aload_n 0, 1) := by decide +kernel
theorem dX9_refresh_121 : decode cX9_refresh 121 = .ok (.getfield 33, 3) := by decide +kernel
theorem dX9_refresh_124 : decode cX9_refresh 124 = .ok (.iconst 0, 1) := by decide +kernel
theorem dX9_refresh_125 : decode cX9_refresh 125 = .ok (.iaload, 1) := by decide +kernel
theorem dX9_refresh_126 : decode cX9_refresh 126 = .ok (.invokevirtual 86, 3) := by decide +kernel
theorem dX9_refresh_129 : decode cX9_refresh 129 = .ok (.putfield 46, 3) := by decide +kernel
theorem dX9_refresh_132 : decode cX9_refresh 132 = .ok (.return_, 1) := by decide +kernel
theorem dX9_gather_0 : decode cX9_gather 0 = .ok (.iload_n 2, 1) := by decide +kernel
theorem dX9_gather_1 : decode cX9_gather 1 = .ok (.iconst 1, 1) := by decide +kernel
theorem dX9_gather_2 : decode cX9_gather 2 = .ok (.iand, 1) := by decide +kernel
theorem dX9_gather_3 : decode cX9_gather 3 = .ok (.ifCond .ne 10, 3) := by decide +kernel
theorem dX9_gather_6 : decode cX9_gather 6 = .ok (.aload_n 1, 1) := by decide +kernel
theorem dX9_gather_7 : decode cX9_gather 7 = .ok (.getfield 89, 3) := by decide +kernel
theorem dX9_gather_10 : decode cX9_gather 10 = .ok (.goto 7, 3) := by decide +kernel
theorem dX9_gather_13 : decode cX9_gather 13 = .ok (.aload_n 1, 1) := by decide +kernel
theorem dX9_gather_14 : decode cX9_gather 14 = .ok (.getfield 92, 3) := by decide +kernel
theorem dX9_gather_17 : decode cX9_gather 17 = .ok (.astore_n 3, 1) := by decide +kernel
theorem dX9_gather_18 : decode cX9_gather 18 = .ok (.aload_n 1, 1) := by decide +kernel
theorem dX9_gather_19 : decode cX9_gather 19 = .ok (.getfield 70, 3) := by decide +kernel
theorem dX9_gather_22 : decode cX9_gather 22 = .ok (.iload_n 2, 1) := by decide +kernel
theorem dX9_gather_23 : decode cX9_gather 23 = .ok (.iaload, 1) := by decide +kernel
theorem dX9_gather_24 : decode cX9_gather 24 = .ok (.istore 4, 2) := by decide +kernel
theorem dX9_gather_26 : decode cX9_gather 26 = .ok (.iconst 0, 1) := by decide +kernel
theorem dX9_gather_27 : decode cX9_gather 27 = .ok (.istore 5, 2) := by decide +kernel
theorem dX9_gather_29 : decode cX9_gather 29 = .ok (.aload_n 0, 1) := by decide +kernel
theorem dX9_gather_30 : decode cX9_gather 30 = .ok (.getfield 18, 3) := by decide +kernel
theorem dX9_gather_33 : decode cX9_gather 33 = .ok (.aload_n 0, 1) := by decide +kernel
theorem dX9_gather_34 : decode cX9_gather 34 = .ok (.getfield 36, 3) := by decide +kernel
theorem dX9_gather_37 : decode cX9_gather 37 = .ok (.aload_n 0, 1) := by decide +kernel
theorem dX9_gather_38 : decode cX9_gather 38 = .ok (.getfield 40, 3) := by decide +kernel
theorem dX9_gather_41 : decode cX9_gather 41 = .ok (.iastore, 1) := by decide +kernel
theorem dX9_gather_42 : decode cX9_gather 42 = .ok (.iconst 0, 1) := by decide +kernel
theorem dX9_gather_43 : decode cX9_gather 43 = .ok (.istore 6, 2) := by decide +kernel
theorem dX9_gather_45 : decode cX9_gather 45 = .ok (.iload 6, 2) := by decide +kernel
theorem dX9_gather_47 : decode cX9_gather 47 = .ok (.aload_n 1, 1) := by decide +kernel
theorem dX9_gather_48 : decode cX9_gather 48 = .ok (.getfield 95, 3) := by decide +kernel
theorem dX9_gather_51 : decode cX9_gather 51 = .ok (.if_icmp .ge 79, 3) := by decide +kernel
theorem dX9_gather_54 : decode cX9_gather 54 = .ok (.aload_n 1, 1) := by decide +kernel
theorem dX9_gather_55 : decode cX9_gather 55 = .ok (.getfield 98, 3) := by decide +kernel
theorem dX9_gather_58 : decode cX9_gather 58 = .ok (.iload 6, 2) := by decide +kernel
theorem dX9_gather_60 : decode cX9_gather 60 = .ok (.iaload, 1) := by decide +kernel
theorem dX9_gather_61 : decode cX9_gather 61 = .ok (.iload_n 2, 1) := by decide +kernel
theorem dX9_gather_62 : decode cX9_gather 62 = .ok (.iconst 1, 1) := by decide +kernel
theorem dX9_gather_63 : decode cX9_gather 63 = .ok (.ishr, 1) := by decide +kernel
theorem dX9_gather_64 : decode cX9_gather 64 = .ok (.if_icmp .eq 6, 3) := by decide +kernel
theorem dX9_gather_67 : decode cX9_gather 67 = .ok (.goto 57, 3) := by decide +kernel
theorem dX9_gather_70 : decode cX9_gather 70 = .ok (.aload_n 1, 1) := by decide +kernel
theorem dX9_gather_71 : decode cX9_gather 71 = .ok (.getfield 101, 3) := by decide +kernel
theorem dX9_gather_74 : decode cX9_gather 74 = .ok (.iload 6, 2) := by decide +kernel
theorem dX9_gather_76 : decode cX9_gather 76 = .ok (.iaload, 1) := by decide +kernel
theorem dX9_gather_77 : decode cX9_gather 77 = .ok (.istore 7, 2) := by decide +kernel
theorem dX9_gather_79 : decode cX9_gather 79 = .ok (.iload 7, 2) := by decide +kernel
theorem dX9_gather_81 : decode cX9_gather 81 = .ok (.iload 5, 2) := by decide +kernel
theorem dX9_gather_83 : decode cX9_gather 83 = .ok (.if_icmp .lt 22, 3) := by decide +kernel
theorem dX9_gather_86 : decode cX9_gather 86 = .ok (.aload_n 0, 1) := by decide +kernel
theorem dX9_gather_87 : decode cX9_gather 87 = .ok (.iload 4, 2) := by decide +kernel
theorem dX9_gather_89 : decode cX9_gather 89 = .ok (.iload 5, 2) := by decide +kernel
theorem dX9_gather_91 : decode cX9_gather 91 = .ok (.iload 7, 2) := by decide +kernel
theorem dX9_gather_93 : decode cX9_gather 93 = .ok (.invokestatic 83, 3) := by decide +kernel
theorem dX9_gather_96 : decode cX9_gather 96 = .ok (.invokevirtual 104, 3) := by decide +kernel
theorem dX9_gather_99 : decode cX9_gather 99 = .ok (.iload 7, 2) := by decide +kernel
theorem dX9_gather_101 : decode cX9_gather 101 = .ok (.iconst 1, 1) := by decide +kernel
theorem dX9_gather_102 : decode cX9_gather 102 = .ok (.iadd, 1) := by decide +kernel
theorem dX9_gather_103 : decode cX9_gather 103 = .ok (.istore 5, 2) := by decide +kernel
theorem dX9_gather_105 : decode cX9_gather 105 = .ok (.aload_n 3, 1) := by decide +kernel
theorem dX9_gather_106 : decode cX9_gather 106 = .ok (.iload 6, 2) := by decide +kernel
theorem dX9_gather_108 : decode cX9_gather 108 = .ok (.iaload, 1) := by decide +kernel
theorem dX9_gather_109 : decode cX9_gather 109 = .ok (.istore 4, 2) := by decide +kernel
theorem dX9_gather_111 : decode cX9_gather 111 = .ok (.aload_n 0, 1) := by decide +kernel
theorem dX9_gather_112 : decode cX9_gather 112 = .ok (.iload 4, 2) := by decide +kernel
theorem dX9_gather_114 : decode cX9_gather 114 = .ok (.iload 7, 2) := by decide +kernel
theorem dX9_gather_116 : decode cX9_gather 116 = .ok (.iload 7, 2) := by decide +kernel
theorem dX9_gather_118 : decode cX9_gather 118 = .ok (.invokestatic 83, 3) := by decide +kernel
theorem dX9_gather_121 : decode cX9_gather 121 = .ok (.invokevirtual 104, 3) := by decide +kernel
theorem dX9_gather_124 : decode cX9_gather 124 = .ok (.iinc 6 1, 3) := by decide +kernel
theorem dX9_gather_127 : decode cX9_gather 127 = .ok (.goto (-82), 3) := by decide +kernel
theorem dX9_gather_130 : decode cX9_gather 130 = .ok (.iload 5, 2) := by decide +kernel
theorem dX9_gather_132 : decode cX9_gather 132 = .ok (.aload_n 0, 1) := by decide +kernel
theorem dX9_gather_133 : decode cX9_gather 133 = .ok (.getfield 43, 3) := by decide +kernel
theorem dX9_gather_136 : decode cX9_gather 136 = .ok (.if_icmp .ge 20, 3) := by decide +kernel
theorem dX9_gather_139 : decode cX9_gather 139 = .ok (.aload_n 0, 1) := by decide +kernel
theorem dX9_gather_140 : decode cX9_gather 140 = .ok (.iload 4, 2) := by decide +kernel
theorem dX9_gather_142 : decode cX9_gather 142 = .ok (.iload 5, 2) := by decide +kernel
theorem dX9_gather_144 : decode cX9_gather 144 = .ok (.aload_n 0, 1) := by decide +kernel
theorem dX9_gather_145 : decode cX9_gather 145 = .ok (.getfield 43, 3) := by decide +kernel
theorem dX9_gather_148 : decode cX9_gather 148 = .ok (.iconst 1, 1) := by decide +kernel
theorem dX9_gather_149 : decode cX9_gather 149 = .ok (.isub, 1) := by decide +kernel
theorem dX9_gather_150 : decode cX9_gather 150 = .ok (.invokestatic 83, 3) := by decide +kernel
theorem dX9_gather_153 : decode cX9_gather 153 = .ok (.invokevirtual 104, 3) := by decide +kernel
theorem dX9_gather_156 : decode cX9_gather 156 = .ok (.aload_n 0, 1) := by decide +kernel
theorem dX9_gather_157 : decode cX9_gather 157 = .ok (.getfield 40, 3) := by decide +kernel
theorem dX9_gather_160 : decode cX9_gather 160 = .ok (.aload_n 0, 1) := by decide +kernel
theorem dX9_gather_161 : decode cX9_gather 161 = .ok (.getfield 18, 3) := by decide +kernel
theorem dX9_gather_164 : decode cX9_gather 164 = .ok (.aload_n 0, 1) := by decide +kernel
theorem dX9_gather_165 : decode cX9_gather 165 = .ok (.getfield 36, 3) := by decide +kernel
theorem dX9_gather_168 : decode cX9_gather 168 = .ok (.iaload, 1) := by decide +kernel
theorem dX9_gather_169 : decode cX9_gather 169 = .ok (.isub, 1) := by decide +kernel
theorem dX9_gather_170 : decode cX9_gather 170 = .ok (.iconst 1, 1) := by decide +kernel
theorem dX9_gather_171 : decode cX9_gather 171 = .ok (.if_icmp .le 39, 3) := by decide +kernel
theorem dX9_gather_174 : decode cX9_gather 174 = .ok (.aload_n 0, 1) := by decide +kernel
theorem dX9_gather_175 : decode cX9_gather 175 = .ok (.getfield 15, 3) := by decide +kernel
theorem dX9_gather_178 : decode cX9_gather 178 = .ok (.aload_n 0, 1) := by decide +kernel
theorem dX9_gather_179 : decode cX9_gather 179 = .ok (.getfield 36, 3) := by decide +kernel
theorem dX9_gather_182 : decode cX9_gather 182 = .ok (.iload_n 2, 1) := by decide +kernel
theorem dX9_gather_183 : decode cX9_gather 183 = .ok (.iastore, 1) := by decide +kernel
theorem dX9_gather_184 : decode cX9_gather 184 = .ok (.aload_n 0, 1) := by decide +kernel
theorem dX9_gather_185 : decode cX9_gather 185 = .ok (.dup, 1) := by decide +kernel
theorem dX9_gather_186 : decode cX9_gather 186 = .ok (.getfield 36, 3) := by decide +kernel
theorem dX9_gather_189 : decode cX9_gather 189 = .ok (.iconst 1, 1) := by decide +kernel
theorem dX9_gather_190 : decode cX9_gather 190 = .ok (.iadd, 1) := by decide +kernel
theorem dX9_gather_191 : decode cX9_gather 191 = .ok (.putfield 36, 3) := by decide +kernel
theorem dX9_gather_194 : decode cX9_gather 194 = .ok (.aload_n 0, 1) := by decide +kernel
theorem dX9_gather_195 : decode cX9_gather 195 = .ok (.getfield 18, 3) := by decide +kernel
theorem dX9_gather_198 : decode cX9_gather 198 = .ok (.aload_n 0, 1) := by decide +kernel
theorem dX9_gather_199 : decode cX9_gather 199 = .ok (.getfield 36, 3) := by decide +kernel
theorem dX9_gather_202 : decode cX9_gather 202 = .ok (.aload_n 0, 1) := by decide +kernel
theorem dX9_gather_203 : decode cX9_gather 203 = .ok (.getfield 40, 3) := by decide +kernel
theorem dX9_gather_206 : decode cX9_gather 206 = .ok (.iastore, 1) := by decide +kernel
theorem dX9_gather_207 : decode cX9_gather 207 = .ok (.goto 16, 3) := by decide +kernel
theorem dX9_gather_210 : decode cX9_gather 210 = .ok (.aload_n 0, 1) := by decide +kernel
theorem dX9_gather_211 : decode cX9_gather 211 = .ok (.aload_n 0, 1) := by decide +kernel
theorem dX9_gather_212 : decode cX9_gather 212 = .ok (.getfield 18, 3) := by decide +kernel
theorem dX9_gather_215 : decode cX9_gather 215 = .ok (.aload_n 0, 1) := by decide +kernel
theorem dX9_gather_216 : decode cX9_gather 216 = .ok (.getfield 36, 3) := by decide +kernel
theorem dX9_gather_219 : decode cX9_gather 219 = .ok (.iaload, 1) := by decide +kernel
theorem dX9_gather_220 : decode cX9_gather 220 = .ok (.putfield 40, 3) := by decide +kernel
theorem dX9_gather_223 : decode cX9_gather 223 = .ok (.return_, 1) := by decide +kernel
theorem dX9_allow_0 : decode cX9_allow 0 = .ok (.aload_n 0, 1) := by decide +kernel
theorem dX9_allow_1 : decode cX9_allow 1 = .ok (.getfield 18, 3) := by decide +kernel
theorem dX9_allow_4 : decode cX9_allow 4 = .ok (.aload_n 0, 1) := by decide +kernel
theorem dX9_allow_5 : decode cX9_allow 5 = .ok (.getfield 36, 3) := by decide +kernel
theorem dX9_allow_8 : decode cX9_allow 8 = .ok (.iaload, 1) := by decide +kernel
theorem dX9_allow_9 : decode cX9_allow 9 = .ok (.istore_n 3, 1) := by decide +kernel
theorem dX9_allow_10 : decode cX9_allow 10 = .ok (.iload_n 3, 1) := by decide +kernel
theorem dX9_allow_11 : decode cX9_allow 11 = .ok (.aload_n 0, 1) := by decide +kernel
theorem dX9_allow_12 : decode cX9_allow 12 = .ok (.getfield 40, 3) := by decide +kernel
theorem dX9_allow_15 : decode cX9_allow 15 = .ok (.if_icmp .ge 19, 3) := by decide +kernel
theorem dX9_allow_18 : decode cX9_allow 18 = .ok (.aload_n 0, 1) := by decide +kernel
theorem dX9_allow_19 : decode cX9_allow 19 = .ok (.getfield 21, 3) := by decide +kernel
theorem dX9_allow_22 : decode cX9_allow 22 = .ok (.iload_n 3, 1) := by decide +kernel
theorem dX9_allow_23 : decode cX9_allow 23 = .ok (.iaload, 1) := by decide +kernel
theorem dX9_allow_24 : decode cX9_allow 24 = .ok (.iload_n 1, 1) := by decide +kernel
theorem dX9_allow_25 : decode cX9_allow 25 = .ok (.if_icmp .ge 9, 3) := by decide +kernel
theorem dX9_allow_28 : decode cX9_allow 28 = .ok (.iinc 3 1, 3) := by decide +kernel
theorem dX9_allow_31 : decode cX9_allow 31 = .ok (.goto (-21), 3) := by decide +kernel
theorem dX9_allow_34 : decode cX9_allow 34 = .ok (.iload_n 3, 1) := by decide +kernel
theorem dX9_allow_35 : decode cX9_allow 35 = .ok (.aload_n 0, 1) := by decide +kernel
theorem dX9_allow_36 : decode cX9_allow 36 = .ok (.getfield 40, 3) := by decide +kernel
theorem dX9_allow_39 : decode cX9_allow 39 = .ok (.if_icmp .ge 24, 3) := by decide +kernel
theorem dX9_allow_42 : decode cX9_allow 42 = .ok (.aload_n 0, 1) := by decide +kernel
theorem dX9_allow_43 : decode cX9_allow 43 = .ok (.getfield 21, 3) := by decide +kernel
theorem dX9_allow_46 : decode cX9_allow 46 = .ok (.iload_n 3, 1) := by decide +kernel
theorem dX9_allow_47 : decode cX9_allow 47 = .ok (.iaload, 1) := by decide +kernel
theorem dX9_allow_48 : decode cX9_allow 48 = .ok (.iload_n 1, 1) := by decide +kernel
theorem dX9_allow_49 : decode cX9_allow 49 = .ok (.if_icmp .ne 14, 3) := by decide +kernel
theorem dX9_allow_52 : decode cX9_allow 52 = .ok (.aload_n 0, 1) := by decide +kernel
theorem dX9_allow_53 : decode cX9_allow 53 = .ok (.getfield 24, 3) := by decide +kernel
theorem dX9_allow_56 : decode cX9_allow 56 = .ok (.iload_n 3, 1) := by decide +kernel
theorem dX9_allow_57 : decode cX9_allow 57 = .ok (.dup2, 1) := by decide +kernel
theorem dX9_allow_58 : decode cX9_allow 58 = .ok (.iaload, 1) := by decide +kernel
theorem dX9_allow_59 : decode cX9_allow 59 = .ok (.iload_n 2, 1) := by decide +kernel
theorem dX9_allow_60 : decode cX9_allow 60 = .ok (.ior, 1) := by decide +kernel
theorem dX9_allow_61 : decode cX9_allow 61 = .ok (.iastore, 1) := by decide +kernel
theorem dX9_allow_62 : decode cX9_allow 62 = .ok (.return_, 1) := by decide +kernel
theorem dX9_allow_63 : decode cX9_allow 63 = .ok (.aload_n 0, 1) := by decide +kernel
theorem dX9_allow_64 : decode cX9_allow 64 = .ok (.getfield 40, 3) := by decide +kernel
theorem dX9_allow_67 : decode cX9_allow 67 = .ok (.sipush 152, 3) := by decide +kernel
theorem dX9_allow_70 : decode cX9_allow 70 = .ok (.if_icmp .lt 4, 3) := by decide +kernel
theorem dX9_allow_73 : decode cX9_allow 73 = .ok (.return_, 1) := by decide +kernel
theorem dX9_allow_74 : decode cX9_allow 74 = .ok (.aload_n 0, 1) := by decide +kernel
theorem dX9_allow_75 : decode cX9_allow 75 = .ok (.getfield 40, 3) := by decide +kernel
theorem dX9_allow_78 : decode cX9_allow 78 = .ok (.istore 4, 2) := by decide +kernel
theorem dX9_allow_80 : decode cX9_allow 80 = .ok (.iload 4, 2) := by decide +kernel
theorem dX9_allow_82 : decode cX9_allow 82 = .ok (.iload_n 3, 1) := by decide +kernel
theorem dX9_allow_83 : decode cX9_allow 83 = .ok (.if_icmp .le 41, 3) := by decide +kernel
theorem dX9_allow_86 : decode cX9_allow 86 = .ok (.aload_n 0, 1) := by decide +kernel
theorem dX9_allow_87 : decode cX9_allow 87 = .ok (.getfield 21, 3) := by decide +kernel
theorem dX9_allow_90 : decode cX9_allow 90 = .ok (.iload 4, 2) := by decide +kernel
theorem dX9_allow_92 : decode cX9_allow 92 = .ok (.aload_n 0, 1) := by decide +kernel
theorem dX9_allow_93 : decode cX9_allow 93 = .ok (.getfield 21, 3) := by decide +kernel
theorem dX9_allow_96 : decode cX9_allow 96 = .ok (.iload 4, 2) := by decide +kernel
theorem dX9_allow_98 : decode cX9_allow 98 = .ok (.iconst 1, 1) := by decide +kernel
theorem dX9_allow_99 : decode cX9_allow 99 = .ok (.isub, 1) := by decide +kernel
theorem dX9_allow_100 : decode cX9_allow 100 = .ok (.iaload, 1) := by decide +kernel
theorem dX9_allow_101 : decode cX9_allow 101 = .ok (.iastore, 1) := by decide +kernel
theorem dX9_allow_102 : decode cX9_allow 102 = .ok (.aload_n 0, 1) := by decide +kernel
theorem dX9_allow_103 : decode cX9_allow 103 = .ok (.getfield 24, 3) := by decide +kernel
theorem dX9_allow_106 : decode cX9_allow 106 = .ok (.iload 4, 2) := by decide +kernel
theorem dX9_allow_108 : decode cX9_allow 108 = .ok (.aload_n 0, 1) := by decide +kernel
theorem dX9_allow_109 : decode cX9_allow 109 = .ok (.getfield 24, 3) := by decide +kernel
theorem dX9_allow_112 : decode cX9_allow 112 = .ok (.iload 4, 2) := by decide +kernel
theorem dX9_allow_114 : decode cX9_allow 114 = .ok (.iconst 1, 1) := by decide +kernel
theorem dX9_allow_115 : decode cX9_allow 115 = .ok (.isub, 1) := by decide +kernel
theorem dX9_allow_116 : decode cX9_allow 116 = .ok (.iaload, 1) := by decide +kernel
theorem dX9_allow_117 : decode cX9_allow 117 = .ok (.iastore, 1) := by decide +kernel
theorem dX9_allow_118 : decode cX9_allow 118 = .ok (.iinc 4 (-1), 3) := by decide +kernel
theorem dX9_allow_121 : decode cX9_allow 121 = .ok (.goto (-41), 3) := by decide +kernel
theorem dX9_allow_124 : decode cX9_allow 124 = .ok (.aload_n 0, 1) := by decide +kernel
theorem dX9_allow_125 : decode cX9_allow 125 = .ok (.getfield 21, 3) := by decide +kernel
theorem dX9_allow_128 : decode cX9_allow 128 = .ok (.iload_n 3, 1) := by decide +kernel
theorem dX9_allow_129 : decode cX9_allow 129 = .ok (.iload_n 1, 1) := by decide +kernel
theorem dX9_allow_130 : decode cX9_allow 130 = .ok (.iastore, 1) := by decide +kernel
theorem dX9_allow_131 : decode cX9_allow 131 = .ok (.aload_n 0, 1) := by decide +kernel
theorem dX9_allow_132 : decode cX9_allow 132 = .ok (.getfield 24, 3) := by decide +kernel
theorem dX9_allow_135 : decode cX9_allow 135 = .ok (.iload_n 3, 1) := by decide +kernel
theorem dX9_allow_136 : decode cX9_allow 136 = .ok (.iload_n 2, 1) := by decide +kernel
theorem dX9_allow_137 : decode cX9_allow 137 = .ok (.iastore, 1) := by decide +kernel
theorem dX9_allow_138 : decode cX9_allow 138 = .ok (.aload_n 0, 1) := by decide +kernel
theorem dX9_allow_139 : decode cX9_allow 139 = .ok (.dup, 1) := by decide +kernel
theorem dX9_allow_140 : decode cX9_allow 140 = .ok (.getfield 40, 3) := by decide +kernel
theorem dX9_allow_143 : decode cX9_allow 143 = .ok (.iconst 1, 1) := by decide +kernel
theorem dX9_allow_144 : decode cX9_allow 144 = .ok (.iadd, 1) := by decide +kernel
theorem dX9_allow_145 : decode cX9_allow 145 = .ok (.putfield 40, 3) := by decide +kernel
theorem dX9_allow_148 : decode cX9_allow 148 = .ok (.return_, 1) := by decide +kernel
theorem dX9_span_0 : decode cX9_span 0 = .ok (.iconst 1, 1) := by decide +kernel
theorem dX9_span_1 : decode cX9_span 1 = .ok (.iload_n 1, 1) := by decide +kernel
theorem dX9_span_2 : decode cX9_span 2 = .ok (.iload_n 0, 1) := by decide +kernel
theorem dX9_span_3 : decode cX9_span 3 = .ok (.isub, 1) := by decide +kernel
theorem dX9_span_4 : decode cX9_span 4 = .ok (.iconst 1, 1) := by decide +kernel
theorem dX9_span_5 : decode cX9_span 5 = .ok (.iadd, 1) := by decide +kernel
theorem dX9_span_6 : decode cX9_span 6 = .ok (.ishl, 1) := by decide +kernel
theorem dX9_span_7 : decode cX9_span 7 = .ok (.iconst 1, 1) := by decide +kernel
theorem dX9_span_8 : decode cX9_span 8 = .ok (.isub, 1) := by decide +kernel
theorem dX9_span_9 : decode cX9_span 9 = .ok (.iload_n 0, 1) := by decide +kernel
theorem dX9_span_10 : decode cX9_span 10 = .ok (.ishl, 1) := by decide +kernel
theorem dX9_span_11 : decode cX9_span 11 = .ok (.ireturn, 1) := by decide +kernel
theorem dX9_countAlone_0 : decode cX9_countAlone 0 = .ok (.iconst 0, 1) := by decide +kernel
theorem dX9_countAlone_1 : decode cX9_countAlone 1 = .ok (.istore_n 1, 1) := by decide +kernel
theorem dX9_countAlone_2 : decode cX9_countAlone 2 = .ok (.iload_n 1, 1) := by decide +kernel
theorem dX9_countAlone_3 : decode cX9_countAlone 3 = .ok (.aload_n 0, 1) := by decide +kernel
theorem dX9_countAlone_4 : decode cX9_countAlone 4 = .ok (.getfield 43, 3) := by decide +kernel
theorem dX9_countAlone_7 : decode cX9_countAlone 7 = .ok (.if_icmp .ge 78, 3) := by decide +kernel
theorem dX9_countAlone_10 : decode cX9_countAlone 10 = .ok (.iload_n 1, 1) := by decide +kernel
theorem dX9_countAlone_11 : decode cX9_countAlone 11 = .ok (.bipush 33, 2) := by decide +kernel
theorem dX9_countAlone_13 : decode cX9_countAlone 13 = .ok (.imul, 1) := by decide +kernel
theorem dX9_countAlone_14 : decode cX9_countAlone 14 = .ok (.istore_n 2, 1) := by decide +kernel
theorem dX9_countAlone_15 : decode cX9_countAlone 15 = .ok (.aload_n 0, 1) := by decide +kernel
theorem dX9_countAlone_16 : decode cX9_countAlone 16 = .ok (.getfield 27, 3) := by decide +kernel
theorem dX9_countAlone_19 : decode cX9_countAlone 19 = .ok (.iload_n 2, 1) := by decide +kernel
theorem dX9_countAlone_20 : decode cX9_countAlone 20 = .ok (.aload_n 0, 1) := by decide +kernel
theorem dX9_countAlone_21 : decode cX9_countAlone 21 = .ok (.getfield 36, 3) := by decide +kernel
theorem dX9_countAlone_24 : decode cX9_countAlone 24 = .ok (.iadd, 1) := by decide +kernel
theorem dX9_countAlone_25 : decode cX9_countAlone 25 = .ok (.iconst 1, 1) := by decide +kernel
theorem dX9_countAlone_26 : decode cX9_countAlone 26 = .ok (.iastore, 1) := by decide +kernel
theorem dX9_countAlone_27 : decode cX9_countAlone 27 = .ok (.aload_n 0, 1) := by decide +kernel
theorem dX9_countAlone_28 : decode cX9_countAlone 28 = .ok (.getfield 36, 3) := by decide +kernel
theorem dX9_countAlone_31 : decode cX9_countAlone 31 = .ok (.iconst 1, 1) := by decide +kernel
theorem dX9_countAlone_32 : decode cX9_countAlone 32 = .ok (.isub, 1) := by decide +kernel
theorem dX9_countAlone_33 : decode cX9_countAlone 33 = .ok (.istore_n 3, 1) := by decide +kernel
theorem dX9_countAlone_34 : decode cX9_countAlone 34 = .ok (.iload_n 3, 1) := by decide +kernel
theorem dX9_countAlone_35 : decode cX9_countAlone 35 = .ok (.ifCond .lt 44, 3) := by decide +kernel
theorem dX9_countAlone_38 : decode cX9_countAlone 38 = .ok (.aload_n 0, 1) := by decide +kernel
theorem dX9_countAlone_39 : decode cX9_countAlone 39 = .ok (.getfield 27, 3) := by decide +kernel
theorem dX9_countAlone_42 : decode cX9_countAlone 42 = .ok (.iload_n 2, 1) := by decide +kernel
theorem dX9_countAlone_43 : decode cX9_countAlone 43 = .ok (.iload_n 3, 1) := by decide +kernel
theorem dX9_countAlone_44 : decode cX9_countAlone 44 = .ok (.iadd, 1) := by decide +kernel
theorem dX9_countAlone_45 : decode cX9_countAlone 45 = .ok (.iconst 1, 1) := by decide +kernel
theorem dX9_countAlone_46 : decode cX9_countAlone 46 = .ok (.iadd, 1) := by decide +kernel
theorem dX9_countAlone_47 : decode cX9_countAlone 47 = .ok (.iaload, 1) := by decide +kernel
theorem dX9_countAlone_48 : decode cX9_countAlone 48 = .ok (.aload_n 0, 1) := by decide +kernel
theorem dX9_countAlone_49 : decode cX9_countAlone 49 = .ok (.iload_n 1, 1) := by decide +kernel
theorem dX9_countAlone_50 : decode cX9_countAlone 50 = .ok (.iload_n 3, 1) := by decide +kernel
theorem dX9_countAlone_51 : decode cX9_countAlone 51 = .ok (.invokevirtual 108, 3) := by decide +kernel
theorem dX9_countAlone_54 : decode cX9_countAlone 54 = .ok (.imul, 1) := by decide +kernel
theorem dX9_countAlone_55 : decode cX9_countAlone 55 = .ok (.istore 4, 2) := by decide +kernel
theorem dX9_countAlone_57 : decode cX9_countAlone 57 = .ok (.aload_n 0, 1) := by decide +kernel
theorem dX9_countAlone_58 : decode cX9_countAlone 58 = .ok (.getfield 27, 3) := by decide +kernel
theorem dX9_countAlone_61 : decode cX9_countAlone 61 = .ok (.iload_n 2, 1) := by decide +kernel
theorem dX9_countAlone_62 : decode cX9_countAlone 62 = .ok (.iload_n 3, 1) := by decide +kernel
theorem dX9_countAlone_63 : decode cX9_countAlone 63 = .ok (.iadd, 1) := by decide +kernel
theorem dX9_countAlone_64 : decode cX9_countAlone 64 = .ok (.sipush 4097, 3) := by decide +kernel
theorem dX9_countAlone_67 : decode cX9_countAlone 67 = .ok (.iload 4, 2) := by decide +kernel
theorem dX9_countAlone_69 : decode cX9_countAlone 69 = .ok (.invokestatic 67, 3) := by decide +kernel
theorem dX9_countAlone_72 : decode cX9_countAlone 72 = .ok (.iastore, 1) := by decide +kernel
theorem dX9_countAlone_73 : decode cX9_countAlone 73 = .ok (.iinc 3 (-1), 3) := by decide +kernel
theorem dX9_countAlone_76 : decode cX9_countAlone 76 = .ok (.goto (-42), 3) := by decide +kernel
theorem dX9_countAlone_79 : decode cX9_countAlone 79 = .ok (.iinc 1 1, 3) := by decide +kernel
theorem dX9_countAlone_82 : decode cX9_countAlone 82 = .ok (.goto (-80), 3) := by decide +kernel
theorem dX9_countAlone_85 : decode cX9_countAlone 85 = .ok (.return_, 1) := by decide +kernel
theorem dX9_choicesOf_0 : decode cX9_choicesOf 0 = .ok (.iconst 0, 1) := by decide +kernel
theorem dX9_choicesOf_1 : decode cX9_choicesOf 1 = .ok (.istore_n 3, 1) := by decide +kernel
theorem dX9_choicesOf_2 : decode cX9_choicesOf 2 = .ok (.aload_n 0, 1) := by decide +kernel
theorem dX9_choicesOf_3 : decode cX9_choicesOf 3 = .ok (.getfield 18, 3) := by decide +kernel
theorem dX9_choicesOf_6 : decode cX9_choicesOf 6 = .ok (.iload_n 2, 1) := by decide +kernel
theorem dX9_choicesOf_7 : decode cX9_choicesOf 7 = .ok (.iaload, 1) := by decide +kernel
theorem dX9_choicesOf_8 : decode cX9_choicesOf 8 = .ok (.istore 4, 2) := by decide +kernel
theorem dX9_choicesOf_10 : decode cX9_choicesOf 10 = .ok (.iload 4, 2) := by decide +kernel
theorem dX9_choicesOf_12 : decode cX9_choicesOf 12 = .ok (.aload_n 0, 1) := by decide +kernel
theorem dX9_choicesOf_13 : decode cX9_choicesOf 13 = .ok (.getfield 18, 3) := by decide +kernel
theorem dX9_choicesOf_16 : decode cX9_choicesOf 16 = .ok (.iload_n 2, 1) := by decide +kernel
theorem dX9_choicesOf_17 : decode cX9_choicesOf 17 = .ok (.iconst 1, 1) := by decide +kernel
theorem dX9_choicesOf_18 : decode cX9_choicesOf 18 = .ok (.iadd, 1) := by decide +kernel
theorem dX9_choicesOf_19 : decode cX9_choicesOf 19 = .ok (.iaload, 1) := by decide +kernel
theorem dX9_choicesOf_20 : decode cX9_choicesOf 20 = .ok (.if_icmp .ge 23, 3) := by decide +kernel
theorem dX9_choicesOf_23 : decode cX9_choicesOf 23 = .ok (.iload_n 3, 1) := by decide +kernel
theorem dX9_choicesOf_24 : decode cX9_choicesOf 24 = .ok (.aload_n 0, 1) := by decide +kernel
theorem dX9_choicesOf_25 : decode cX9_choicesOf 25 = .ok (.getfield 24, 3) := by decide +kernel
theorem dX9_choicesOf_28 : decode cX9_choicesOf 28 = .ok (.iload 4, 2) := by decide +kernel
theorem dX9_choicesOf_30 : decode cX9_choicesOf 30 = .ok (.iaload, 1) := by decide +kernel
theorem dX9_choicesOf_31 : decode cX9_choicesOf 31 = .ok (.iload_n 1, 1) := by decide +kernel
theorem dX9_choicesOf_32 : decode cX9_choicesOf 32 = .ok (.ishr, 1) := by decide +kernel
theorem dX9_choicesOf_33 : decode cX9_choicesOf 33 = .ok (.iconst 1, 1) := by decide +kernel
theorem dX9_choicesOf_34 : decode cX9_choicesOf 34 = .ok (.iand, 1) := by decide +kernel
theorem dX9_choicesOf_35 : decode cX9_choicesOf 35 = .ok (.iadd, 1) := by decide +kernel
theorem dX9_choicesOf_36 : decode cX9_choicesOf 36 = .ok (.istore_n 3, 1) := by decide +kernel
theorem dX9_choicesOf_37 : decode cX9_choicesOf 37 = .ok (.iinc 4 1, 3) := by decide +kernel
theorem dX9_choicesOf_40 : decode cX9_choicesOf 40 = .ok (.goto (-30), 3) := by decide +kernel
theorem dX9_choicesOf_43 : decode cX9_choicesOf 43 = .ok (.iload_n 3, 1) := by decide +kernel
theorem dX9_choicesOf_44 : decode cX9_choicesOf 44 = .ok (.ireturn, 1) := by decide +kernel
theorem dX9_countFrom_0 : decode cX9_countFrom 0 = .ok (.iload_n 2, 1) := by decide +kernel
theorem dX9_countFrom_1 : decode cX9_countFrom 1 = .ok (.ifCond .ne 5, 3) := by decide +kernel
theorem dX9_countFrom_4 : decode cX9_countFrom 4 = .ok (.iconst 0, 1) := by decide +kernel
theorem dX9_countFrom_5 : decode cX9_countFrom 5 = .ok (.ireturn, 1) := by decide +kernel
theorem dX9_countFrom_6 : decode cX9_countFrom 6 = .ok (.iload_n 1, 1) := by decide +kernel
theorem dX9_countFrom_7 : decode cX9_countFrom 7 = .ok (.aload_n 0, 1) := by decide +kernel
theorem dX9_countFrom_8 : decode cX9_countFrom 8 = .ok (.getfield 36, 3) := by decide +kernel
theorem dX9_countFrom_11 : decode cX9_countFrom 11 = .ok (.if_icmp .lt 5, 3) := by decide +kernel
theorem dX9_countFrom_14 : decode cX9_countFrom 14 = .ok (.iconst 1, 1) := by decide +kernel
theorem dX9_countFrom_15 : decode cX9_countFrom 15 = .ok (.ireturn, 1) := by decide +kernel
theorem dX9_countFrom_16 : decode cX9_countFrom 16 = .ok (.iload_n 2, 1) := by decide +kernel
theorem dX9_countFrom_17 : decode cX9_countFrom 17 = .ok (.iload_n 2, 1) := by decide +kernel
theorem dX9_countFrom_18 : decode cX9_countFrom 18 = .ok (.iconst 1, 1) := by decide +kernel
theorem dX9_countFrom_19 : decode cX9_countFrom 19 = .ok (.isub, 1) := by decide +kernel
theorem dX9_countFrom_20 : decode cX9_countFrom 20 = .ok (.iand, 1) := by decide +kernel
theorem dX9_countFrom_21 : decode cX9_countFrom 21 = .ok (.ifCond .ne 20, 3) := by decide +kernel
theorem dX9_countFrom_24 : decode cX9_countFrom 24 = .ok (.aload_n 0, 1) := by decide +kernel
theorem dX9_countFrom_25 : decode cX9_countFrom 25 = .ok (.getfield 27, 3) := by decide +kernel
theorem dX9_countFrom_28 : decode cX9_countFrom 28 = .ok (.iload_n 2, 1) := by decide +kernel
theorem dX9_countFrom_29 : decode cX9_countFrom 29 = .ok (.iconst 1, 1) := by decide +kernel
theorem dX9_countFrom_30 : decode cX9_countFrom 30 = .ok (.isub, 1) := by decide +kernel
theorem dX9_countFrom_31 : decode cX9_countFrom 31 = .ok (.invokestatic 111, 3) := by decide +kernel
theorem dX9_countFrom_34 : decode cX9_countFrom 34 = .ok (.bipush 33, 2) := by decide +kernel
theorem dX9_countFrom_36 : decode cX9_countFrom 36 = .ok (.imul, 1) := by decide +kernel
theorem dX9_countFrom_37 : decode cX9_countFrom 37 = .ok (.iload_n 1, 1) := by decide +kernel
theorem dX9_countFrom_38 : decode cX9_countFrom 38 = .ok (.iadd, 1) := by decide +kernel
theorem dX9_countFrom_39 : decode cX9_countFrom 39 = .ok (.iaload, 1) := by decide +kernel
theorem dX9_countFrom_40 : decode cX9_countFrom 40 = .ok (.ireturn, 1) := by decide +kernel
theorem dX9_countFrom_41 : decode cX9_countFrom 41 = .ok (.iconst 0, 1) := by decide +kernel
theorem dX9_countFrom_42 : decode cX9_countFrom 42 = .ok (.istore_n 3, 1) := by decide +kernel
theorem dX9_countFrom_43 : decode cX9_countFrom 43 = .ok (.aload_n 0, 1) := by decide +kernel
theorem dX9_countFrom_44 : decode cX9_countFrom 44 = .ok (.getfield 18, 3) := by decide +kernel
theorem dX9_countFrom_47 : decode cX9_countFrom 47 = .ok (.iload_n 1, 1) := by decide +kernel
theorem dX9_countFrom_48 : decode cX9_countFrom 48 = .ok (.iaload, 1) := by decide +kernel
theorem dX9_countFrom_49 : decode cX9_countFrom 49 = .ok (.istore 4, 2) := by decide +kernel
theorem dX9_countFrom_51 : decode cX9_countFrom 51 = .ok (.iload 4, 2) := by decide +kernel
theorem dX9_countFrom_53 : decode cX9_countFrom 53 = .ok (.aload_n 0, 1) := by decide +kernel
theorem dX9_countFrom_54 : decode cX9_countFrom 54 = .ok (.getfield 18, 3) := by decide +kernel
theorem dX9_countFrom_57 : decode cX9_countFrom 57 = .ok (.iload_n 1, 1) := by decide +kernel
theorem dX9_countFrom_58 : decode cX9_countFrom 58 = .ok (.iconst 1, 1) := by decide +kernel
theorem dX9_countFrom_59 : decode cX9_countFrom 59 = .ok (.iadd, 1) := by decide +kernel
theorem dX9_countFrom_60 : decode cX9_countFrom 60 = .ok (.iaload, 1) := by decide +kernel
theorem dX9_countFrom_61 : decode cX9_countFrom 61 = .ok (.if_icmp .ge 35, 3) := by decide +kernel
theorem dX9_countFrom_64 : decode cX9_countFrom 64 = .ok (.iload_n 3, 1) := by decide +kernel
theorem dX9_countFrom_65 : decode cX9_countFrom 65 = .ok (.sipush 4096, 3) := by decide +kernel
theorem dX9_countFrom_68 : decode cX9_countFrom 68 = .ok (.if_icmp .gt 28, 3) := by decide +kernel
theorem dX9_countFrom_71 : decode cX9_countFrom 71 = .ok (.iload_n 3, 1) := by decide +kernel
theorem dX9_countFrom_72 : decode cX9_countFrom 72 = .ok (.aload_n 0, 1) := by decide +kernel
theorem dX9_countFrom_73 : decode cX9_countFrom 73 = .ok (.iload_n 1, 1) := by decide +kernel
theorem dX9_countFrom_74 : decode cX9_countFrom 74 = .ok (.iconst 1, 1) := by decide +kernel
theorem dX9_countFrom_75 : decode cX9_countFrom 75 = .ok (.iadd, 1) := by decide +kernel
theorem dX9_countFrom_76 : decode cX9_countFrom 76 = .ok (.iload_n 2, 1) := by decide +kernel
theorem dX9_countFrom_77 : decode cX9_countFrom 77 = .ok (.aload_n 0, 1) := by decide +kernel
theorem dX9_countFrom_78 : decode cX9_countFrom 78 = .ok (.getfield 24, 3) := by decide +kernel
theorem dX9_countFrom_81 : decode cX9_countFrom 81 = .ok (.iload 4, 2) := by decide +kernel
theorem dX9_countFrom_83 : decode cX9_countFrom 83 = .ok (.iaload, 1) := by decide +kernel
theorem dX9_countFrom_84 : decode cX9_countFrom 84 = .ok (.iand, 1) := by decide +kernel
theorem dX9_countFrom_85 : decode cX9_countFrom 85 = .ok (.invokevirtual 86, 3) := by decide +kernel
theorem dX9_countFrom_88 : decode cX9_countFrom 88 = .ok (.iadd, 1) := by decide +kernel
theorem dX9_countFrom_89 : decode cX9_countFrom 89 = .ok (.istore_n 3, 1) := by decide +kernel
theorem dX9_countFrom_90 : decode cX9_countFrom 90 = .ok (.iinc 4 1, 3) := by decide +kernel
theorem dX9_countFrom_93 : decode cX9_countFrom 93 = .ok (.goto (-42), 3) := by decide +kernel
theorem dX9_countFrom_96 : decode cX9_countFrom 96 = .ok (.sipush 4097, 3) := by decide +kernel
theorem dX9_countFrom_99 : decode cX9_countFrom 99 = .ok (.iload_n 3, 1) := by decide +kernel
theorem dX9_countFrom_100 : decode cX9_countFrom 100 = .ok (.invokestatic 67, 3) := by decide +kernel
theorem dX9_countFrom_103 : decode cX9_countFrom 103 = .ok (.ireturn, 1) := by decide +kernel
theorem dX9_seek_0 : decode cX9_seek 0 = .ok (.aload_n 0, 1) := by decide +kernel
theorem dX9_seek_1 : decode cX9_seek 1 = .ok (.getfield 49, 3) := by decide +kernel
theorem dX9_seek_4 : decode cX9_seek 4 = .ok (.ifCond .lt 20, 3) := by decide +kernel
theorem dX9_seek_7 : decode cX9_seek 7 = .ok (.iload_n 1, 1) := by decide +kernel
theorem dX9_seek_8 : decode cX9_seek 8 = .ok (.aload_n 0, 1) := by decide +kernel
theorem dX9_seek_9 : decode cX9_seek 9 = .ok (.getfield 49, 3) := by decide +kernel
theorem dX9_seek_12 : decode cX9_seek 12 = .ok (.iconst 1, 1) := by decide +kernel
theorem dX9_seek_13 : decode cX9_seek 13 = .ok (.iadd, 1) := by decide +kernel
theorem dX9_seek_14 : decode cX9_seek 14 = .ok (.if_icmp .ne 10, 3) := by decide +kernel
theorem dX9_seek_17 : decode cX9_seek 17 = .ok (.aload_n 0, 1) := by decide +kernel
theorem dX9_seek_18 : decode cX9_seek 18 = .ok (.invokevirtual 117, 3) := by decide +kernel
theorem dX9_seek_21 : decode cX9_seek 21 = .ok (.goto 16, 3) := by decide +kernel
theorem dX9_seek_24 : decode cX9_seek 24 = .ok (.iload_n 1, 1) := by decide +kernel
theorem dX9_seek_25 : decode cX9_seek 25 = .ok (.aload_n 0, 1) := by decide +kernel
theorem dX9_seek_26 : decode cX9_seek 26 = .ok (.getfield 49, 3) := by decide +kernel
theorem dX9_seek_29 : decode cX9_seek 29 = .ok (.if_icmp .eq 8, 3) := by decide +kernel
theorem dX9_seek_32 : decode cX9_seek 32 = .ok (.aload_n 0, 1) := by decide +kernel
theorem dX9_seek_33 : decode cX9_seek 33 = .ok (.iload_n 1, 1) := by decide +kernel
theorem dX9_seek_34 : decode cX9_seek 34 = .ok (.invokevirtual 120, 3) := by decide +kernel
theorem dX9_seek_37 : decode cX9_seek 37 = .ok (.aload_n 0, 1) := by decide +kernel
theorem dX9_seek_38 : decode cX9_seek 38 = .ok (.iload_n 1, 1) := by decide +kernel
theorem dX9_seek_39 : decode cX9_seek 39 = .ok (.putfield 49, 3) := by decide +kernel
theorem dX9_seek_42 : decode cX9_seek 42 = .ok (.return_, 1) := by decide +kernel
theorem dX9_advance_0 : decode cX9_advance 0 = .ok (.aload_n 0, 1) := by decide +kernel
theorem dX9_advance_1 : decode cX9_advance 1 = .ok (.getfield 36, 3) := by decide +kernel
theorem dX9_advance_4 : decode cX9_advance 4 = .ok (.iconst 1, 1) := by decide +kernel
theorem dX9_advance_5 : decode cX9_advance 5 = .ok (.isub, 1) := by decide +kernel
theorem dX9_advance_6 : decode cX9_advance 6 = .ok (.istore_n 1, 1) := by decide +kernel
theorem dX9_advance_7 : decode cX9_advance 7 = .ok (.iload_n 1, 1) := by decide +kernel
theorem dX9_advance_8 : decode cX9_advance 8 = .ok (.ifCond .lt 17, 3) := by decide +kernel
theorem dX9_advance_11 : decode cX9_advance 11 = .ok (.aload_n 0, 1) := by decide +kernel
theorem dX9_advance_12 : decode cX9_advance 12 = .ok (.iload_n 1, 1) := by decide +kernel
theorem dX9_advance_13 : decode cX9_advance 13 = .ok (.invokevirtual 124, 3) := by decide +kernel
theorem dX9_advance_16 : decode cX9_advance 16 = .ok (.ifCond .ne 9, 3) := by decide +kernel
theorem dX9_advance_19 : decode cX9_advance 19 = .ok (.iinc 1 (-1), 3) := by decide +kernel
theorem dX9_advance_22 : decode cX9_advance 22 = .ok (.goto (-15), 3) := by decide +kernel
theorem dX9_advance_25 : decode cX9_advance 25 = .ok (.iload_n 1, 1) := by decide +kernel
theorem dX9_advance_26 : decode cX9_advance 26 = .ok (.iconst 1, 1) := by decide +kernel
theorem dX9_advance_27 : decode cX9_advance 27 = .ok (.iadd, 1) := by decide +kernel
theorem dX9_advance_28 : decode cX9_advance 28 = .ok (.istore_n 2, 1) := by decide +kernel
theorem dX9_advance_29 : decode cX9_advance 29 = .ok (.iload_n 2, 1) := by decide +kernel
theorem dX9_advance_30 : decode cX9_advance 30 = .ok (.aload_n 0, 1) := by decide +kernel
theorem dX9_advance_31 : decode cX9_advance 31 = .ok (.getfield 36, 3) := by decide +kernel
theorem dX9_advance_34 : decode cX9_advance 34 = .ok (.if_icmp .ge 29, 3) := by decide +kernel
theorem dX9_advance_37 : decode cX9_advance 37 = .ok (.aload_n 0, 1) := by decide +kernel
theorem dX9_advance_38 : decode cX9_advance 38 = .ok (.getfield 30, 3) := by decide +kernel
theorem dX9_advance_41 : decode cX9_advance 41 = .ok (.iload_n 2, 1) := by decide +kernel
theorem dX9_advance_42 : decode cX9_advance 42 = .ok (.aload_n 0, 1) := by decide +kernel
theorem dX9_advance_43 : decode cX9_advance 43 = .ok (.getfield 18, 3) := by decide +kernel
theorem dX9_advance_46 : decode cX9_advance 46 = .ok (.iload_n 2, 1) := by decide +kernel
theorem dX9_advance_47 : decode cX9_advance 47 = .ok (.iaload, 1) := by decide +kernel
theorem dX9_advance_48 : decode cX9_advance 48 = .ok (.iconst 1, 1) := by decide +kernel
theorem dX9_advance_49 : decode cX9_advance 49 = .ok (.isub, 1) := by decide +kernel
theorem dX9_advance_50 : decode cX9_advance 50 = .ok (.iastore, 1) := by decide +kernel
theorem dX9_advance_51 : decode cX9_advance 51 = .ok (.aload_n 0, 1) := by decide +kernel
theorem dX9_advance_52 : decode cX9_advance 52 = .ok (.iload_n 2, 1) := by decide +kernel
theorem dX9_advance_53 : decode cX9_advance 53 = .ok (.invokevirtual 124, 3) := by decide +kernel
theorem dX9_advance_56 : decode cX9_advance 56 = .ok (.pop, 1) := by decide +kernel
theorem dX9_advance_57 : decode cX9_advance 57 = .ok (.iinc 2 1, 3) := by decide +kernel
theorem dX9_advance_60 : decode cX9_advance 60 = .ok (.goto (-31), 3) := by decide +kernel
theorem dX9_advance_63 : decode cX9_advance 63 = .ok (.return_, 1) := by decide +kernel
theorem dX9_step_0 : decode cX9_step 0 = .ok (.aload_n 0, 1) := by decide +kernel
theorem dX9_step_1 : decode cX9_step 1 = .ok (.getfield 30, 3) := by decide +kernel
theorem dX9_step_4 : decode cX9_step 4 = .ok (.iload_n 1, 1) := by decide +kernel
theorem dX9_step_5 : decode cX9_step 5 = .ok (.iaload, 1) := by decide +kernel
theorem dX9_step_6 : decode cX9_step 6 = .ok (.iconst 1, 1) := by decide +kernel
theorem dX9_step_7 : decode cX9_step 7 = .ok (.iadd, 1) := by decide +kernel
theorem dX9_step_8 : decode cX9_step 8 = .ok (.istore_n 2, 1) := by decide +kernel
theorem dX9_step_9 : decode cX9_step 9 = .ok (.iload_n 2, 1) := by decide +kernel
theorem dX9_step_10 : decode cX9_step 10 = .ok (.aload_n 0, 1) := by decide +kernel
theorem dX9_step_11 : decode cX9_step 11 = .ok (.getfield 18, 3) := by decide +kernel
theorem dX9_step_14 : decode cX9_step 14 = .ok (.iload_n 1, 1) := by decide +kernel
theorem dX9_step_15 : decode cX9_step 15 = .ok (.iconst 1, 1) := by decide +kernel
theorem dX9_step_16 : decode cX9_step 16 = .ok (.iadd, 1) := by decide +kernel
theorem dX9_step_17 : decode cX9_step 17 = .ok (.iaload, 1) := by decide +kernel
theorem dX9_step_18 : decode cX9_step 18 = .ok (.if_icmp .ge 33, 3) := by decide +kernel
theorem dX9_step_21 : decode cX9_step 21 = .ok (.aload_n 0, 1) := by decide +kernel
theorem dX9_step_22 : decode cX9_step 22 = .ok (.getfield 33, 3) := by decide +kernel
theorem dX9_step_25 : decode cX9_step 25 = .ok (.iload_n 1, 1) := by decide +kernel
theorem dX9_step_26 : decode cX9_step 26 = .ok (.iaload, 1) := by decide +kernel
theorem dX9_step_27 : decode cX9_step 27 = .ok (.aload_n 0, 1) := by decide +kernel
theorem dX9_step_28 : decode cX9_step 28 = .ok (.getfield 24, 3) := by decide +kernel
theorem dX9_step_31 : decode cX9_step 31 = .ok (.iload_n 2, 1) := by decide +kernel
theorem dX9_step_32 : decode cX9_step 32 = .ok (.iaload, 1) := by decide +kernel
theorem dX9_step_33 : decode cX9_step 33 = .ok (.iand, 1) := by decide +kernel
theorem dX9_step_34 : decode cX9_step 34 = .ok (.ifCond .eq 11, 3) := by decide +kernel
theorem dX9_step_37 : decode cX9_step 37 = .ok (.aload_n 0, 1) := by decide +kernel
theorem dX9_step_38 : decode cX9_step 38 = .ok (.iload_n 1, 1) := by decide +kernel
theorem dX9_step_39 : decode cX9_step 39 = .ok (.iload_n 2, 1) := by decide +kernel
theorem dX9_step_40 : decode cX9_step 40 = .ok (.invokevirtual 128, 3) := by decide +kernel
theorem dX9_step_43 : decode cX9_step 43 = .ok (.iconst 1, 1) := by decide +kernel
theorem dX9_step_44 : decode cX9_step 44 = .ok (.ireturn, 1) := by decide +kernel
theorem dX9_step_45 : decode cX9_step 45 = .ok (.iinc 2 1, 3) := by decide +kernel
theorem dX9_step_48 : decode cX9_step 48 = .ok (.goto (-39), 3) := by decide +kernel
theorem dX9_step_51 : decode cX9_step 51 = .ok (.iconst 0, 1) := by decide +kernel
theorem dX9_step_52 : decode cX9_step 52 = .ok (.ireturn, 1) := by decide +kernel
theorem dX9_descend_0 : decode cX9_descend 0 = .ok (.iload_n 1, 1) := by decide +kernel
theorem dX9_descend_1 : decode cX9_descend 1 = .ok (.istore_n 2, 1) := by decide +kernel
theorem dX9_descend_2 : decode cX9_descend 2 = .ok (.iconst 0, 1) := by decide +kernel
theorem dX9_descend_3 : decode cX9_descend 3 = .ok (.istore_n 3, 1) := by decide +kernel
theorem dX9_descend_4 : decode cX9_descend 4 = .ok (.iload_n 3, 1) := by decide +kernel
theorem dX9_descend_5 : decode cX9_descend 5 = .ok (.aload_n 0, 1) := by decide +kernel
theorem dX9_descend_6 : decode cX9_descend 6 = .ok (.getfield 36, 3) := by decide +kernel
theorem dX9_descend_9 : decode cX9_descend 9 = .ok (.if_icmp .ge 80, 3) := by decide +kernel
theorem dX9_descend_12 : decode cX9_descend 12 = .ok (.aload_n 0, 1) := by decide +kernel
theorem dX9_descend_13 : decode cX9_descend 13 = .ok (.getfield 18, 3) := by decide +kernel
theorem dX9_descend_16 : decode cX9_descend 16 = .ok (.iload_n 3, 1) := by decide +kernel
theorem dX9_descend_17 : decode cX9_descend 17 = .ok (.iaload, 1) := by decide +kernel
theorem dX9_descend_18 : decode cX9_descend 18 = .ok (.istore 4, 2) := by decide +kernel
theorem dX9_descend_20 : decode cX9_descend 20 = .ok (.iload 4, 2) := by decide +kernel
theorem dX9_descend_22 : decode cX9_descend 22 = .ok (.aload_n 0, 1) := by decide +kernel
theorem dX9_descend_23 : decode cX9_descend 23 = .ok (.getfield 18, 3) := by decide +kernel
theorem dX9_descend_26 : decode cX9_descend 26 = .ok (.iload_n 3, 1) := by decide +kernel
theorem dX9_descend_27 : decode cX9_descend 27 = .ok (.iconst 1, 1) := by decide +kernel
theorem dX9_descend_28 : decode cX9_descend 28 = .ok (.iadd, 1) := by decide +kernel
theorem dX9_descend_29 : decode cX9_descend 29 = .ok (.iaload, 1) := by decide +kernel
theorem dX9_descend_30 : decode cX9_descend 30 = .ok (.if_icmp .ge 53, 3) := by decide +kernel
theorem dX9_descend_33 : decode cX9_descend 33 = .ok (.aload_n 0, 1) := by decide +kernel
theorem dX9_descend_34 : decode cX9_descend 34 = .ok (.iload_n 3, 1) := by decide +kernel
theorem dX9_descend_35 : decode cX9_descend 35 = .ok (.iconst 1, 1) := by decide +kernel
theorem dX9_descend_36 : decode cX9_descend 36 = .ok (.iadd, 1) := by decide +kernel
theorem dX9_descend_37 : decode cX9_descend 37 = .ok (.aload_n 0, 1) := by decide +kernel
theorem dX9_descend_38 : decode cX9_descend 38 = .ok (.getfield 33, 3) := by decide +kernel
theorem dX9_descend_41 : decode cX9_descend 41 = .ok (.iload_n 3, 1) := by decide +kernel
theorem dX9_descend_42 : decode cX9_descend 42 = .ok (.iaload, 1) := by decide +kernel
theorem dX9_descend_43 : decode cX9_descend 43 = .ok (.aload_n 0, 1) := by decide +kernel
theorem dX9_descend_44 : decode cX9_descend 44 = .ok (.getfield 24, 3) := by decide +kernel
theorem dX9_descend_47 : decode cX9_descend 47 = .ok (.iload 4, 2) := by decide +kernel
theorem dX9_descend_49 : decode cX9_descend 49 = .ok (.iaload, 1) := by decide +kernel
theorem dX9_descend_50 : decode cX9_descend 50 = .ok (.iand, 1) := by decide +kernel
theorem dX9_descend_51 : decode cX9_descend 51 = .ok (.invokevirtual 86, 3) := by decide +kernel
theorem dX9_descend_54 : decode cX9_descend 54 = .ok (.istore 5, 2) := by decide +kernel
theorem dX9_descend_56 : decode cX9_descend 56 = .ok (.iload_n 2, 1) := by decide +kernel
theorem dX9_descend_57 : decode cX9_descend 57 = .ok (.iload 5, 2) := by decide +kernel
theorem dX9_descend_59 : decode cX9_descend 59 = .ok (.if_icmp .ge 13, 3) := by decide +kernel
theorem dX9_descend_62 : decode cX9_descend 62 = .ok (.aload_n 0, 1) := by decide +kernel
theorem dX9_descend_63 : decode cX9_descend 63 = .ok (.iload_n 3, 1) := by decide +kernel
theorem dX9_descend_64 : decode cX9_descend 64 = .ok (.iload 4, 2) := by decide +kernel
theorem dX9_descend_66 : decode cX9_descend 66 = .ok (.invokevirtual 128, 3) := by decide +kernel
theorem dX9_descend_69 : decode cX9_descend 69 = .ok (.goto 14, 3) := by decide +kernel
theorem dX9_descend_72 : decode cX9_descend 72 = .ok (.iload_n 2, 1) := by decide +kernel
theorem dX9_descend_73 : decode cX9_descend 73 = .ok (.iload 5, 2) := by decide +kernel
theorem dX9_descend_75 : decode cX9_descend 75 = .ok (.isub, 1) := by decide +kernel
theorem dX9_descend_76 : decode cX9_descend 76 = .ok (.istore_n 2, 1) := by decide +kernel
theorem dX9_descend_77 : decode cX9_descend 77 = .ok (.iinc 4 1, 3) := by decide +kernel
theorem dX9_descend_80 : decode cX9_descend 80 = .ok (.goto (-60), 3) := by decide +kernel
theorem dX9_descend_83 : decode cX9_descend 83 = .ok (.iinc 3 1, 3) := by decide +kernel
theorem dX9_descend_86 : decode cX9_descend 86 = .ok (.goto (-82), 3) := by decide +kernel
theorem dX9_descend_89 : decode cX9_descend 89 = .ok (.return_, 1) := by decide +kernel
theorem dX9_pick_0 : decode cX9_pick 0 = .ok (.aload_n 0, 1) := by decide +kernel
theorem dX9_pick_1 : decode cX9_pick 1 = .ok (.getfield 30, 3) := by decide +kernel
theorem dX9_pick_4 : decode cX9_pick 4 = .ok (.iload_n 1, 1) := by decide +kernel
theorem dX9_pick_5 : decode cX9_pick 5 = .ok (.iload_n 2, 1) := by decide +kernel
theorem dX9_pick_6 : decode cX9_pick 6 = .ok (.iastore, 1) := by decide +kernel
theorem dX9_pick_7 : decode cX9_pick 7 = .ok (.aload_n 0, 1) := by decide +kernel
theorem dX9_pick_8 : decode cX9_pick 8 = .ok (.getfield 9, 3) := by decide +kernel
theorem dX9_pick_11 : decode cX9_pick 11 = .ok (.aload_n 0, 1) := by decide +kernel
theorem dX9_pick_12 : decode cX9_pick 12 = .ok (.getfield 15, 3) := by decide +kernel
theorem dX9_pick_15 : decode cX9_pick 15 = .ok (.iload_n 1, 1) := by decide +kernel
theorem dX9_pick_16 : decode cX9_pick 16 = .ok (.iaload, 1) := by decide +kernel
theorem dX9_pick_17 : decode cX9_pick 17 = .ok (.aload_n 0, 1) := by decide +kernel
theorem dX9_pick_18 : decode cX9_pick 18 = .ok (.getfield 21, 3) := by decide +kernel
theorem dX9_pick_21 : decode cX9_pick 21 = .ok (.iload_n 2, 1) := by decide +kernel
theorem dX9_pick_22 : decode cX9_pick 22 = .ok (.iaload, 1) := by decide +kernel
theorem dX9_pick_23 : decode cX9_pick 23 = .ok (.iastore, 1) := by decide +kernel
theorem dX9_pick_24 : decode cX9_pick 24 = .ok (.aload_n 0, 1) := by decide +kernel
theorem dX9_pick_25 : decode cX9_pick 25 = .ok (.getfield 33, 3) := by decide +kernel
theorem dX9_pick_28 : decode cX9_pick 28 = .ok (.iload_n 1, 1) := by decide +kernel
theorem dX9_pick_29 : decode cX9_pick 29 = .ok (.iconst 1, 1) := by decide +kernel
theorem dX9_pick_30 : decode cX9_pick 30 = .ok (.iadd, 1) := by decide +kernel
theorem dX9_pick_31 : decode cX9_pick 31 = .ok (.aload_n 0, 1) := by decide +kernel
theorem dX9_pick_32 : decode cX9_pick 32 = .ok (.getfield 33, 3) := by decide +kernel
theorem dX9_pick_35 : decode cX9_pick 35 = .ok (.iload_n 1, 1) := by decide +kernel
theorem dX9_pick_36 : decode cX9_pick 36 = .ok (.iaload, 1) := by decide +kernel
theorem dX9_pick_37 : decode cX9_pick 37 = .ok (.aload_n 0, 1) := by decide +kernel
theorem dX9_pick_38 : decode cX9_pick 38 = .ok (.getfield 24, 3) := by decide +kernel
theorem dX9_pick_41 : decode cX9_pick 41 = .ok (.iload_n 2, 1) := by decide +kernel
theorem dX9_pick_42 : decode cX9_pick 42 = .ok (.iaload, 1) := by decide +kernel
theorem dX9_pick_43 : decode cX9_pick 43 = .ok (.iand, 1) := by decide +kernel
theorem dX9_pick_44 : decode cX9_pick 44 = .ok (.iastore, 1) := by decide +kernel
theorem dX9_pick_45 : decode cX9_pick 45 = .ok (.return_, 1) := by decide +kernel
theorem dX10_init_0 : decode cX10_init 0 = .ok (.aload_n 0, 1) := by decide +kernel
theorem dX10_init_1 : decode cX10_init 1 = .ok (.invokespecial 3, 3) := by decide +kernel
theorem dX10_init_4 : decode cX10_init 4 = .ok (.aload_n 0, 1) := by decide +kernel
theorem dX10_init_5 : decode cX10_init 5 = .ok (.new 9, 3) := by decide +kernel
theorem dX10_init_8 : decode cX10_init 8 = .ok (.dup, 1) := by decide +kernel
theorem dX10_init_9 : decode cX10_init 9 = .ok (.invokespecial 11, 3) := by decide +kernel
theorem dX10_init_12 : decode cX10_init 12 = .ok (.putfield 12, 3) := by decide +kernel
theorem dX10_init_15 : decode cX10_init 15 = .ok (.aload_n 0, 1) := by decide +kernel
theorem dX10_init_16 : decode cX10_init 16 = .ok (.new 16, 3) := by decide +kernel
theorem dX10_init_19 : decode cX10_init 19 = .ok (.dup, 1) := by decide +kernel
theorem dX10_init_20 : decode cX10_init 20 = .ok (.invokespecial 18, 3) := by decide +kernel
theorem dX10_init_23 : decode cX10_init 23 = .ok (.putfield 19, 3) := by decide +kernel
theorem dX10_init_26 : decode cX10_init 26 = .ok (.aload_n 0, 1) := by decide +kernel
theorem dX10_init_27 : decode cX10_init 27 = .ok (.new 23, 3) := by decide +kernel
theorem dX10_init_30 : decode cX10_init 30 = .ok (.dup, 1) := by decide +kernel
theorem dX10_init_31 : decode cX10_init 31 = .ok (.invokespecial 25, 3) := by decide +kernel
theorem dX10_init_34 : decode cX10_init 34 = .ok (.putfield 26, 3) := by decide +kernel
theorem dX10_init_37 : decode cX10_init 37 = .ok (.aload_n 0, 1) := by decide +kernel
theorem dX10_init_38 : decode cX10_init 38 = .ok (.new 30, 3) := by decide +kernel
theorem dX10_init_41 : decode cX10_init 41 = .ok (.dup, 1) := by decide +kernel
theorem dX10_init_42 : decode cX10_init 42 = .ok (.invokespecial 32, 3) := by decide +kernel
theorem dX10_init_45 : decode cX10_init 45 = .ok (.putfield 33, 3) := by decide +kernel
theorem dX10_init_48 : decode cX10_init 48 = .ok (.aload_n 0, 1) := by decide +kernel
theorem dX10_init_49 : decode cX10_init 49 = .ok (.new 37, 3) := by decide +kernel
theorem dX10_init_52 : decode cX10_init 52 = .ok (.dup, 1) := by decide +kernel
theorem dX10_init_53 : decode cX10_init 53 = .ok (.invokespecial 39, 3) := by decide +kernel
theorem dX10_init_56 : decode cX10_init 56 = .ok (.putfield 40, 3) := by decide +kernel
theorem dX10_init_59 : decode cX10_init 59 = .ok (.aload_n 0, 1) := by decide +kernel
theorem dX10_init_60 : decode cX10_init 60 = .ok (.iconst 3, 1) := by decide +kernel
theorem dX10_init_61 : decode cX10_init 61 = .ok (.anewarray 44, 3) := by decide +kernel
theorem dX10_init_64 : decode cX10_init 64 = .ok (.dup, 1) := by decide +kernel
theorem dX10_init_65 : decode cX10_init 65 = .ok (.iconst 0, 1) := by decide +kernel
theorem dX10_init_66 : decode cX10_init 66 = .ok (.new 46, 3) := by decide +kernel
theorem dX10_init_69 : decode cX10_init 69 = .ok (.dup, 1) := by decide +kernel
theorem dX10_init_70 : decode cX10_init 70 = .ok (.invokespecial 48, 3) := by decide +kernel
theorem dX10_init_73 : decode cX10_init 73 = .ok (.aastore, 1) := by decide +kernel
theorem dX10_init_74 : decode cX10_init 74 = .ok (.dup, 1) := by decide +kernel
theorem dX10_init_75 : decode cX10_init 75 = .ok (.iconst 1, 1) := by decide +kernel
theorem dX10_init_76 : decode cX10_init 76 = .ok (.new 49, 3) := by decide +kernel
theorem dX10_init_79 : decode cX10_init 79 = .ok (.dup, 1) := by decide +kernel
theorem dX10_init_80 : decode cX10_init 80 = .ok (.invokespecial 51, 3) := by decide +kernel
theorem dX10_init_83 : decode cX10_init 83 = .ok (.aastore, 1) := by decide +kernel
theorem dX10_init_84 : decode cX10_init 84 = .ok (.dup, 1) := by decide +kernel
theorem dX10_init_85 : decode cX10_init 85 = .ok (.iconst 2, 1) := by decide +kernel
theorem dX10_init_86 : decode cX10_init 86 = .ok (.new 52, 3) := by decide +kernel
theorem dX10_init_89 : decode cX10_init 89 = .ok (.dup, 1) := by decide +kernel
theorem dX10_init_90 : decode cX10_init 90 = .ok (.invokespecial 54, 3) := by decide +kernel
theorem dX10_init_93 : decode cX10_init 93 = .ok (.aastore, 1) := by decide +kernel
theorem dX10_init_94 : decode cX10_init 94 = .ok (.putfield 55, 3) := by decide +kernel
theorem dX10_init_97 : decode cX10_init 97 = .ok (.aload_n 0, 1) := by decide +kernel
theorem dX10_init_98 : decode cX10_init 98 = .ok (.aload_n 0, 1) := by decide +kernel
theorem dX10_init_99 : decode cX10_init 99 = .ok (.getfield 55, 3) := by decide +kernel
theorem dX10_init_102 : decode cX10_init 102 = .ok (.arraylength, 1) := by decide +kernel
theorem dX10_init_103 : decode cX10_init 103 = .ok (.newarray .int, 2) := by decide +kernel
theorem dX10_init_105 : decode cX10_init 105 = .ok (.putfield 59, 3) := by decide +kernel
theorem dX10_init_108 : decode cX10_init 108 = .ok (.aload_n 0, 1) := by decide +kernel
theorem dX10_init_109 : decode cX10_init 109 = .ok (.bipush 7, 2) := by decide +kernel
theorem dX10_init_111 : decode cX10_init 111 = .ok (.newarray .int, 2) := by decide +kernel
theorem dX10_init_113 : decode cX10_init 113 = .ok (.putfield 63, 3) := by decide +kernel
theorem dX10_init_116 : decode cX10_init 116 = .ok (.aload_n 0, 1) := by decide +kernel
theorem dX10_init_117 : decode cX10_init 117 = .ok (.iconst (-1), 1) := by decide +kernel
theorem dX10_init_118 : decode cX10_init 118 = .ok (.putfield 66, 3) := by decide +kernel
theorem dX10_init_121 : decode cX10_init 121 = .ok (.aload_n 0, 1) := by decide +kernel
theorem dX10_init_122 : decode cX10_init 122 = .ok (.iconst 0, 1) := by decide +kernel
theorem dX10_init_123 : decode cX10_init 123 = .ok (.putfield 70, 3) := by decide +kernel
theorem dX10_init_126 : decode cX10_init 126 = .ok (.return_, 1) := by decide +kernel
theorem dX10_write_0 : decode cX10_write 0 = .ok (.iload_n 1, 1) := by decide +kernel
theorem dX10_write_1 : decode cX10_write 1 = .ok (.invokestatic 73, 3) := by decide +kernel
theorem dX10_write_4 : decode cX10_write 4 = .ok (.ifCond .ne 9, 3) := by decide +kernel
theorem dX10_write_7 : decode cX10_write 7 = .ok (.aload_n 0, 1) := by decide +kernel
theorem dX10_write_8 : decode cX10_write 8 = .ok (.iconst (-1), 1) := by decide +kernel
theorem dX10_write_9 : decode cX10_write 9 = .ok (.invokevirtual 77, 3) := by decide +kernel
theorem dX10_write_12 : decode cX10_write 12 = .ok (.ireturn, 1) := by decide +kernel
theorem dX10_write_13 : decode cX10_write 13 = .ok (.aload_n 0, 1) := by decide +kernel
theorem dX10_write_14 : decode cX10_write 14 = .ok (.getfield 12, 3) := by decide +kernel
theorem dX10_write_17 : decode cX10_write 17 = .ok (.iconst 1, 1) := by decide +kernel
theorem dX10_write_18 : decode cX10_write 18 = .ok (.invokevirtual 81, 3) := by decide +kernel
theorem dX10_write_21 : decode cX10_write 21 = .ok (.ifCond .ne 10, 3) := by decide +kernel
theorem dX10_write_24 : decode cX10_write 24 = .ok (.aload_n 0, 1) := by decide +kernel
theorem dX10_write_25 : decode cX10_write 25 = .ok (.bipush (-6), 2) := by decide +kernel
theorem dX10_write_27 : decode cX10_write 27 = .ok (.invokevirtual 77, 3) := by decide +kernel
theorem dX10_write_30 : decode cX10_write 30 = .ok (.ireturn, 1) := by decide +kernel
theorem dX10_write_31 : decode cX10_write 31 = .ok (.aload_n 0, 1) := by decide +kernel
theorem dX10_write_32 : decode cX10_write 32 = .ok (.getfield 12, 3) := by decide +kernel
theorem dX10_write_35 : decode cX10_write 35 = .ok (.iload_n 1, 1) := by decide +kernel
theorem dX10_write_36 : decode cX10_write 36 = .ok (.iload_n 2, 1) := by decide +kernel
theorem dX10_write_37 : decode cX10_write 37 = .ok (.iload_n 3, 1) := by decide +kernel
theorem dX10_write_38 : decode cX10_write 38 = .ok (.invokevirtual 84, 3) := by decide +kernel
theorem dX10_write_41 : decode cX10_write 41 = .ok (.aload_n 0, 1) := by decide +kernel
theorem dX10_write_42 : decode cX10_write 42 = .ok (.getfield 12, 3) := by decide +kernel
theorem dX10_write_45 : decode cX10_write 45 = .ok (.getfield 88, 3) := by decide +kernel
theorem dX10_write_48 : decode cX10_write 48 = .ok (.ireturn, 1) := by decide +kernel
theorem dX10_fence_0 : decode cX10_fence 0 = .ok (.aload_n 0, 1) := by decide +kernel
theorem dX10_fence_1 : decode cX10_fence 1 = .ok (.getfield 12, 3) := by decide +kernel
theorem dX10_fence_4 : decode cX10_fence 4 = .ok (.iconst 1, 1) := by decide +kernel
theorem dX10_fence_5 : decode cX10_fence 5 = .ok (.invokevirtual 81, 3) := by decide +kernel
theorem dX10_fence_8 : decode cX10_fence 8 = .ok (.ifCond .ne 10, 3) := by decide +kernel
theorem dX10_fence_11 : decode cX10_fence 11 = .ok (.aload_n 0, 1) := by decide +kernel
theorem dX10_fence_12 : decode cX10_fence 12 = .ok (.bipush (-6), 2) := by decide +kernel
theorem dX10_fence_14 : decode cX10_fence 14 = .ok (.invokevirtual 77, 3) := by decide +kernel
theorem dX10_fence_17 : decode cX10_fence 17 = .ok (.ireturn, 1) := by decide +kernel
theorem dX10_fence_18 : decode cX10_fence 18 = .ok (.aload_n 0, 1) := by decide +kernel
theorem dX10_fence_19 : decode cX10_fence 19 = .ok (.getfield 12, 3) := by decide +kernel
theorem dX10_fence_22 : decode cX10_fence 22 = .ok (.invokevirtual 91, 3) := by decide +kernel
theorem dX10_fence_25 : decode cX10_fence 25 = .ok (.aload_n 0, 1) := by decide +kernel
theorem dX10_fence_26 : decode cX10_fence 26 = .ok (.getfield 12, 3) := by decide +kernel
theorem dX10_fence_29 : decode cX10_fence 29 = .ok (.getfield 88, 3) := by decide +kernel
theorem dX10_fence_32 : decode cX10_fence 32 = .ok (.ireturn, 1) := by decide +kernel
theorem dX10_flush_0 : decode cX10_flush 0 = .ok (.aload_n 0, 1) := by decide +kernel
theorem dX10_flush_1 : decode cX10_flush 1 = .ok (.getfield 12, 3) := by decide +kernel
theorem dX10_flush_4 : decode cX10_flush 4 = .ok (.getfield 94, 3) := by decide +kernel
theorem dX10_flush_7 : decode cX10_flush 7 = .ok (.istore_n 1, 1) := by decide +kernel
