theorem dX4_init_29 : decode cX4_init 29 = .ok (.iconst 4, 1) := by decide +kernel
theorem dX4_init_30 : decode cX4_init 30 = .ok (.newarray .long, 2) := by decide +kernel
theorem dX4_init_32 : decode cX4_init 32 = .ok (.putfield 20, 3) := by decide +kernel
theorem dX4_init_35 : decode cX4_init 35 = .ok (.aload_n 0, 1) := by decide +kernel
theorem dX4_init_36 : decode cX4_init 36 = .ok (.bipush 16, 2) := by decide +kernel
theorem dX4_init_38 : decode cX4_init 38 = .ok (.newarray .long, 2) := by decide +kernel
theorem dX4_init_40 : decode cX4_init 40 = .ok (.putfield 23, 3) := by decide +kernel
theorem dX4_init_43 : decode cX4_init 43 = .ok (.aload_n 0, 1) := by decide +kernel
theorem dX4_init_44 : decode cX4_init 44 = .ok (.ldc2_w 26, 3) := by decide +kernel
theorem dX4_init_47 : decode cX4_init 47 = .ok (.putfield 28, 3) := by decide +kernel
theorem dX4_init_50 : decode cX4_init 50 = .ok (.aload_n 0, 1) := by decide +kernel
theorem dX4_init_51 : decode cX4_init 51 = .ok (.iconst 5, 1) := by decide +kernel
theorem dX4_init_52 : decode cX4_init 52 = .ok (.newarray .long, 2) := by decide +kernel
theorem dX4_init_54 : decode cX4_init 54 = .ok (.putfield 32, 3) := by decide +kernel
theorem dX4_init_57 : decode cX4_init 57 = .ok (.iconst 0, 1) := by decide +kernel
theorem dX4_init_58 : decode cX4_init 58 = .ok (.istore_n 1, 1) := by decide +kernel
theorem dX4_init_59 : decode cX4_init 59 = .ok (.iload_n 1, 1) := by decide +kernel
theorem dX4_init_60 : decode cX4_init 60 = .ok (.iconst 4, 1) := by decide +kernel
theorem dX4_init_61 : decode cX4_init 61 = .ok (.if_icmp .ge 18, 3) := by decide +kernel
theorem dX4_init_64 : decode cX4_init 64 = .ok (.aload_n 0, 1) := by decide +kernel
theorem dX4_init_65 : decode cX4_init 65 = .ok (.getfield 20, 3) := by decide +kernel
theorem dX4_init_68 : decode cX4_init 68 = .ok (.iload_n 1, 1) := by decide +kernel
theorem dX4_init_69 : decode cX4_init 69 = .ok (.ldc2_w 35, 3) := by decide +kernel
theorem dX4_init_72 : decode cX4_init 72 = .ok (.lastore, 1) := by decide +kernel
theorem dX4_init_73 : decode cX4_init 73 = .ok (.iinc 1 1, 3) := by decide +kernel
theorem dX4_init_76 : decode cX4_init 76 = .ok (.goto (-17), 3) := by decide +kernel
theorem dX4_init_79 : decode cX4_init 79 = .ok (.return_, 1) := by decide +kernel
theorem dX4_within_0 : decode cX4_within 0 = .ok (.lload_n 0, 1) := by decide +kernel
theorem dX4_within_1 : decode cX4_within 1 = .ok (.lload_n 2, 1) := by decide +kernel
theorem dX4_within_2 : decode cX4_within 2 = .ok (.lcmp, 1) := by decide +kernel
theorem dX4_within_3 : decode cX4_within 3 = .ok (.ifCond .lt 14, 3) := by decide +kernel
theorem dX4_within_6 : decode cX4_within 6 = .ok (.lload_n 0, 1) := by decide +kernel
theorem dX4_within_7 : decode cX4_within 7 = .ok (.lload 4, 2) := by decide +kernel
theorem dX4_within_9 : decode cX4_within 9 = .ok (.lcmp, 1) := by decide +kernel
theorem dX4_within_10 : decode cX4_within 10 = .ok (.ifCond .gt 7, 3) := by decide +kernel
theorem dX4_within_13 : decode cX4_within 13 = .ok (.iconst 1, 1) := by decide +kernel
theorem dX4_within_14 : decode cX4_within 14 = .ok (.goto 4, 3) := by decide +kernel
theorem dX4_within_17 : decode cX4_within 17 = .ok (.iconst 0, 1) := by decide +kernel
theorem dX4_within_18 : decode cX4_within 18 = .ok (.ireturn, 1) := by decide +kernel
theorem dX4_quotient_0 : decode cX4_quotient 0 = .ok (.lload_n 0, 1) := by decide +kernel
theorem dX4_quotient_1 : decode cX4_quotient 1 = .ok (.lload_n 2, 1) := by decide +kernel
theorem dX4_quotient_2 : decode cX4_quotient 2 = .ok (.ldiv, 1) := by decide +kernel
theorem dX4_quotient_3 : decode cX4_quotient 3 = .ok (.lstore 4, 2) := by decide +kernel
theorem dX4_quotient_5 : decode cX4_quotient 5 = .ok (.lload_n 0, 1) := by decide +kernel
theorem dX4_quotient_6 : decode cX4_quotient 6 = .ok (.lload_n 2, 1) := by decide +kernel
theorem dX4_quotient_7 : decode cX4_quotient 7 = .ok (.lrem, 1) := by decide +kernel
theorem dX4_quotient_8 : decode cX4_quotient 8 = .ok (.lconst 0, 1) := by decide +kernel
theorem dX4_quotient_9 : decode cX4_quotient 9 = .ok (.lcmp, 1) := by decide +kernel
theorem dX4_quotient_10 : decode cX4_quotient 10 = .ok (.ifCond .eq 35, 3) := by decide +kernel
theorem dX4_quotient_13 : decode cX4_quotient 13 = .ok (.lload_n 0, 1) := by decide +kernel
theorem dX4_quotient_14 : decode cX4_quotient 14 = .ok (.lconst 0, 1) := by decide +kernel
theorem dX4_quotient_15 : decode cX4_quotient 15 = .ok (.lcmp, 1) := by decide +kernel
theorem dX4_quotient_16 : decode cX4_quotient 16 = .ok (.ifCond .ge 7, 3) := by decide +kernel
theorem dX4_quotient_19 : decode cX4_quotient 19 = .ok (.iconst 1, 1) := by decide +kernel
theorem dX4_quotient_20 : decode cX4_quotient 20 = .ok (.goto 4, 3) := by decide +kernel
theorem dX4_quotient_23 : decode cX4_quotient 23 = .ok (.iconst 0, 1) := by decide +kernel
theorem dX4_quotient_24 : decode cX4_quotient 24 = .ok (.lload_n 2, 1) := by decide +kernel
theorem dX4_quotient_25 : decode cX4_quotient 25 = .ok (.lconst 0, 1) := by decide +kernel
theorem dX4_quotient_26 : decode cX4_quotient 26 = .ok (.lcmp, 1) := by decide +kernel
theorem dX4_quotient_27 : decode cX4_quotient 27 = .ok (.ifCond .ge 7, 3) := by decide +kernel
theorem dX4_quotient_30 : decode cX4_quotient 30 = .ok (.iconst 1, 1) := by decide +kernel
theorem dX4_quotient_31 : decode cX4_quotient 31 = .ok (.goto 4, 3) := by decide +kernel
theorem dX4_quotient_34 : decode cX4_quotient 34 = .ok (.iconst 0, 1) := by decide +kernel
theorem dX4_quotient_35 : decode cX4_quotient 35 = .ok (.if_icmp .eq 10, 3) := by decide +kernel
theorem dX4_quotient_38 : decode cX4_quotient 38 = .ok (.lload 4, 2) := by decide +kernel
theorem dX4_quotient_40 : decode cX4_quotient 40 = .ok (.lconst 1, 1) := by decide +kernel
theorem dX4_quotient_41 : decode cX4_quotient 41 = .ok (.lsub, 1) := by decide +kernel
theorem dX4_quotient_42 : decode cX4_quotient 42 = .ok (.goto 5, 3) := by decide +kernel
theorem dX4_quotient_45 : decode cX4_quotient 45 = .ok (.lload 4, 2) := by decide +kernel
theorem dX4_quotient_47 : decode cX4_quotient 47 = .ok (.lreturn, 1) := by decide +kernel
set_option maxRecDepth 20000 in
theorem ggX4_append_X4_within : GoodIn wsX4_append wsX4_within := goodIn_r _ [10] (by decide +kernel) (by decide +kernel)
set_option maxRecDepth 20000 in
theorem gX4_append_X4_within : GoodIn wsX4_append (va_wsS RX4 41 yX4_within wsX4_within) := goodIn_app (goodIn_of _ (by decide +kernel)) ggX4_append_X4_within
theorem dX4_append_0 : decode cX4_append 0 = .ok (.iload_n 1, 1) := by decide +kernel
theorem dX4_append_1 : decode cX4_append 1 = .ok (.i2l, 1) := by decide +kernel
theorem dX4_append_2 : decode cX4_append 2 = .ok (.ldc2_w 37, 3) := by decide +kernel
theorem dX4_append_5 : decode cX4_append 5 = .ok (.ldc2_w 39, 3) := by decide +kernel
theorem dX4_append_8 : decode cX4_append 8 = .ok (.invokestatic 41, 3) := by decide +kernel
theorem dX4_append_11 : decode cX4_append 11 = .ok (.ifCond .ne 7, 3) := by decide +kernel
theorem dX4_append_14 : decode cX4_append 14 = .ok (.ldc2_w 45, 3) := by decide +kernel
theorem dX4_append_17 : decode cX4_append 17 = .ok (.lreturn, 1) := by decide +kernel
theorem dX4_append_18 : decode cX4_append 18 = .ok (.aload_n 0, 1) := by decide +kernel
theorem dX4_append_19 : decode cX4_append 19 = .ok (.getfield 47, 3) := by decide +kernel
theorem dX4_append_22 : decode cX4_append 22 = .ok (.bipush 40, 2) := by decide +kernel
theorem dX4_append_24 : decode cX4_append 24 = .ok (.if_icmp .ne 7, 3) := by decide +kernel
theorem dX4_append_27 : decode cX4_append 27 = .ok (.ldc2_w 51, 3) := by decide +kernel
theorem dX4_append_30 : decode cX4_append 30 = .ok (.lreturn, 1) := by decide +kernel
theorem dX4_append_31 : decode cX4_append 31 = .ok (.aload_n 0, 1) := by decide +kernel
theorem dX4_append_32 : decode cX4_append 32 = .ok (.getfield 7, 3) := by decide +kernel
theorem dX4_append_35 : decode cX4_append 35 = .ok (.aload_n 0, 1) := by decide +kernel
theorem dX4_append_36 : decode cX4_append 36 = .ok (.getfield 47, 3) := by decide +kernel
theorem dX4_append_39 : decode cX4_append 39 = .ok (.iload_n 1, 1) := by decide +kernel
theorem dX4_append_40 : decode cX4_append 40 = .ok (.iastore, 1) := by decide +kernel
theorem dX4_append_41 : decode cX4_append 41 = .ok (.aload_n 0, 1) := by decide +kernel
theorem dX4_append_42 : decode cX4_append 42 = .ok (.dup, 1) := by decide +kernel
theorem dX4_append_43 : decode cX4_append 43 = .ok (.getfield 47, 3) := by decide +kernel
theorem dX4_append_46 : decode cX4_append 46 = .ok (.iconst 1, 1) := by decide +kernel
theorem dX4_append_47 : decode cX4_append 47 = .ok (.iadd, 1) := by decide +kernel
theorem dX4_append_48 : decode cX4_append 48 = .ok (.putfield 47, 3) := by decide +kernel
theorem dX4_append_51 : decode cX4_append 51 = .ok (.aload_n 0, 1) := by decide +kernel
theorem dX4_append_52 : decode cX4_append 52 = .ok (.getfield 47, 3) := by decide +kernel
theorem dX4_append_55 : decode cX4_append 55 = .ok (.i2l, 1) := by decide +kernel
theorem dX4_append_56 : decode cX4_append 56 = .ok (.lreturn, 1) := by decide +kernel
theorem dX4_clearBuffer_0 : decode cX4_clearBuffer 0 = .ok (.aload_n 0, 1) := by decide +kernel
theorem dX4_clearBuffer_1 : decode cX4_clearBuffer 1 = .ok (.getfield 47, 3) := by decide +kernel
theorem dX4_clearBuffer_4 : decode cX4_clearBuffer 4 = .ok (.istore_n 1, 1) := by decide +kernel
theorem dX4_clearBuffer_5 : decode cX4_clearBuffer 5 = .ok (.aload_n 0, 1) := by decide +kernel
theorem dX4_clearBuffer_6 : decode cX4_clearBuffer 6 = .ok (.iconst 0, 1) := by decide +kernel
theorem dX4_clearBuffer_7 : decode cX4_clearBuffer 7 = .ok (.putfield 47, 3) := by decide +kernel
theorem dX4_clearBuffer_10 : decode cX4_clearBuffer 10 = .ok (.iload_n 1, 1) := by decide +kernel
theorem dX4_clearBuffer_11 : decode cX4_clearBuffer 11 = .ok (.i2l, 1) := by decide +kernel
theorem dX4_clearBuffer_12 : decode cX4_clearBuffer 12 = .ok (.lreturn, 1) := by decide +kernel
theorem dX4_greatest_0 : decode cX4_greatest 0 = .ok (.iload_n 0, 1) := by decide +kernel
theorem dX4_greatest_1 : decode cX4_greatest 1 = .ok (.tableswitch 47 0 3 #[31, 35, 39, 43], 31) := by decide +kernel
theorem dX4_greatest_32 : decode cX4_greatest 32 = .ok (.ldc2_w 53, 3) := by decide +kernel
theorem dX4_greatest_35 : decode cX4_greatest 35 = .ok (.lreturn, 1) := by decide +kernel
theorem dX4_greatest_36 : decode cX4_greatest 36 = .ok (.ldc2_w 55, 3) := by decide +kernel
theorem dX4_greatest_39 : decode cX4_greatest 39 = .ok (.lreturn, 1) := by decide +kernel
theorem dX4_greatest_40 : decode cX4_greatest 40 = .ok (.ldc2_w 57, 3) := by decide +kernel
theorem dX4_greatest_43 : decode cX4_greatest 43 = .ok (.lreturn, 1) := by decide +kernel
theorem dX4_greatest_44 : decode cX4_greatest 44 = .ok (.ldc2_w 59, 3) := by decide +kernel
theorem dX4_greatest_47 : decode cX4_greatest 47 = .ok (.lreturn, 1) := by decide +kernel
theorem dX4_greatest_48 : decode cX4_greatest 48 = .ok (.ldc2_w 61, 3) := by decide +kernel
theorem dX4_greatest_51 : decode cX4_greatest 51 = .ok (.lreturn, 1) := by decide +kernel
set_option maxRecDepth 20000 in
theorem ggX4_parse_X4_within : GoodIn wsX4_parse wsX4_within := goodIn_r _ [12] (by decide +kernel) (by decide +kernel)
set_option maxRecDepth 20000 in
theorem gX4_parse_X4_within : GoodIn wsX4_parse (va_wsS RX4 41 yX4_within wsX4_within) := goodIn_app (goodIn_of _ (by decide +kernel)) ggX4_parse_X4_within
set_option maxRecDepth 20000 in
theorem ggX4_parse_X4_greatest : GoodIn wsX4_parse wsX4_greatest := goodIn_r _ [15, 16, 17, 18, 19, 20] (by decide +kernel) (by decide +kernel)
set_option maxRecDepth 20000 in
theorem gX4_parse_X4_greatest : GoodIn wsX4_parse (va_wsS RX4 72 yX4_greatest wsX4_greatest) := goodIn_app (goodIn_of _ (by decide +kernel)) ggX4_parse_X4_greatest
theorem dX4_parse_0 : decode cX4_parse 0 = .ok (.iconst 0, 1) := by decide +kernel
theorem dX4_parse_1 : decode cX4_parse 1 = .ok (.istore_n 1, 1) := by decide +kernel
theorem dX4_parse_2 : decode cX4_parse 2 = .ok (.iconst 0, 1) := by decide +kernel
theorem dX4_parse_3 : decode cX4_parse 3 = .ok (.istore_n 2, 1) := by decide +kernel
theorem dX4_parse_4 : decode cX4_parse 4 = .ok (.iconst 0, 1) := by decide +kernel
theorem dX4_parse_5 : decode cX4_parse 5 = .ok (.istore_n 3, 1) := by decide +kernel
theorem dX4_parse_6 : decode cX4_parse 6 = .ok (.lconst 0, 1) := by decide +kernel
theorem dX4_parse_7 : decode cX4_parse 7 = .ok (.lstore 4, 2) := by decide +kernel
theorem dX4_parse_9 : decode cX4_parse 9 = .ok (.aload_n 0, 1) := by decide +kernel
theorem dX4_parse_10 : decode cX4_parse 10 = .ok (.iconst 0, 1) := by decide +kernel
theorem dX4_parse_11 : decode cX4_parse 11 = .ok (.putfield 63, 3) := by decide +kernel
theorem dX4_parse_14 : decode cX4_parse 14 = .ok (.iconst 1, 1) := by decide +kernel
theorem dX4_parse_15 : decode cX4_parse 15 = .ok (.istore 6, 2) := by decide +kernel
theorem dX4_parse_17 : decode cX4_parse 17 = .ok (.iload 6, 2) := by decide +kernel
theorem dX4_parse_19 : decode cX4_parse 19 = .ok (.ifCond .eq 236, 3) := by decide +kernel
theorem dX4_parse_22 : decode cX4_parse 22 = .ok (.aload_n 0, 1) := by decide +kernel
theorem dX4_parse_23 : decode cX4_parse 23 = .ok (.getfield 63, 3) := by decide +kernel
theorem dX4_parse_26 : decode cX4_parse 26 = .ok (.aload_n 0, 1) := by decide +kernel
theorem dX4_parse_27 : decode cX4_parse 27 = .ok (.getfield 47, 3) := by decide +kernel
theorem dX4_parse_30 : decode cX4_parse 30 = .ok (.if_icmp .ge 225, 3) := by decide +kernel
theorem dX4_parse_33 : decode cX4_parse 33 = .ok (.aload_n 0, 1) := by decide +kernel
theorem dX4_parse_34 : decode cX4_parse 34 = .ok (.getfield 7, 3) := by decide +kernel
theorem dX4_parse_37 : decode cX4_parse 37 = .ok (.aload_n 0, 1) := by decide +kernel
theorem dX4_parse_38 : decode cX4_parse 38 = .ok (.getfield 63, 3) := by decide +kernel
theorem dX4_parse_41 : decode cX4_parse 41 = .ok (.iaload, 1) := by decide +kernel
theorem dX4_parse_42 : decode cX4_parse 42 = .ok (.istore 7, 2) := by decide +kernel
theorem dX4_parse_44 : decode cX4_parse 44 = .ok (.iload 7, 2) := by decide +kernel
theorem dX4_parse_46 : decode cX4_parse 46 = .ok (.i2l, 1) := by decide +kernel
theorem dX4_parse_47 : decode cX4_parse 47 = .ok (.ldc2_w 66, 3) := by decide +kernel
theorem dX4_parse_50 : decode cX4_parse 50 = .ok (.ldc2_w 68, 3) := by decide +kernel
theorem dX4_parse_53 : decode cX4_parse 53 = .ok (.invokestatic 41, 3) := by decide +kernel
theorem dX4_parse_56 : decode cX4_parse 56 = .ok (.ifCond .eq 119, 3) := by decide +kernel
theorem dX4_parse_59 : decode cX4_parse 59 = .ok (.iload 7, 2) := by decide +kernel
theorem dX4_parse_61 : decode cX4_parse 61 = .ok (.bipush 48, 2) := by decide +kernel
theorem dX4_parse_63 : decode cX4_parse 63 = .ok (.isub, 1) := by decide +kernel
theorem dX4_parse_64 : decode cX4_parse 64 = .ok (.istore 8, 2) := by decide +kernel
theorem dX4_parse_66 : decode cX4_parse 66 = .ok (.iload_n 2, 1) := by decide +kernel
theorem dX4_parse_67 : decode cX4_parse 67 = .ok (.ifCond .ne 16, 3) := by decide +kernel
theorem dX4_parse_70 : decode cX4_parse 70 = .ok (.iload 8, 2) := by decide +kernel
theorem dX4_parse_72 : decode cX4_parse 72 = .ok (.ifCond .gt 7, 3) := by decide +kernel
theorem dX4_parse_75 : decode cX4_parse 75 = .ok (.iload_n 3, 1) := by decide +kernel
theorem dX4_parse_76 : decode cX4_parse 76 = .ok (.ifCond .ne 7, 3) := by decide +kernel
theorem dX4_parse_79 : decode cX4_parse 79 = .ok (.iconst 1, 1) := by decide +kernel
theorem dX4_parse_80 : decode cX4_parse 80 = .ok (.goto 4, 3) := by decide +kernel
theorem dX4_parse_83 : decode cX4_parse 83 = .ok (.iconst 0, 1) := by decide +kernel
theorem dX4_parse_84 : decode cX4_parse 84 = .ok (.istore 9, 2) := by decide +kernel
theorem dX4_parse_86 : decode cX4_parse 86 = .ok (.iload 9, 2) := by decide +kernel
theorem dX4_parse_88 : decode cX4_parse 88 = .ok (.ifCond .ne 14, 3) := by decide +kernel
theorem dX4_parse_91 : decode cX4_parse 91 = .ok (.iload_n 2, 1) := by decide +kernel
theorem dX4_parse_92 : decode cX4_parse 92 = .ok (.ifCond .le 14, 3) := by decide +kernel
theorem dX4_parse_95 : decode cX4_parse 95 = .ok (.lload 4, 2) := by decide +kernel
theorem dX4_parse_97 : decode cX4_parse 97 = .ok (.lconst 0, 1) := by decide +kernel
theorem dX4_parse_98 : decode cX4_parse 98 = .ok (.lcmp, 1) := by decide +kernel
theorem dX4_parse_99 : decode cX4_parse 99 = .ok (.ifCond .le 7, 3) := by decide +kernel
theorem dX4_parse_102 : decode cX4_parse 102 = .ok (.iconst 1, 1) := by decide +kernel
theorem dX4_parse_103 : decode cX4_parse 103 = .ok (.goto 4, 3) := by decide +kernel
theorem dX4_parse_106 : decode cX4_parse 106 = .ok (.iconst 0, 1) := by decide +kernel
theorem dX4_parse_107 : decode cX4_parse 107 = .ok (.istore 6, 2) := by decide +kernel
theorem dX4_parse_109 : decode cX4_parse 109 = .ok (.iload 6, 2) := by decide +kernel
theorem dX4_parse_111 : decode cX4_parse 111 = .ok (.ifCond .eq 25, 3) := by decide +kernel
theorem dX4_parse_114 : decode cX4_parse 114 = .ok (.ldc2_w 70, 3) := by decide +kernel
theorem dX4_parse_117 : decode cX4_parse 117 = .ok (.lload 4, 2) := by decide +kernel
theorem dX4_parse_119 : decode cX4_parse 119 = .ok (.lmul, 1) := by decide +kernel
theorem dX4_parse_120 : decode cX4_parse 120 = .ok (.iload 8, 2) := by decide +kernel
theorem dX4_parse_122 : decode cX4_parse 122 = .ok (.i2l, 1) := by decide +kernel
theorem dX4_parse_123 : decode cX4_parse 123 = .ok (.ladd, 1) := by decide +kernel
theorem dX4_parse_124 : decode cX4_parse 124 = .ok (.iload_n 1, 1) := by decide +kernel
theorem dX4_parse_125 : decode cX4_parse 125 = .ok (.invokestatic 72, 3) := by decide +kernel
theorem dX4_parse_128 : decode cX4_parse 128 = .ok (.lcmp, 1) := by decide +kernel
theorem dX4_parse_129 : decode cX4_parse 129 = .ok (.ifCond .gt 7, 3) := by decide +kernel
theorem dX4_parse_132 : decode cX4_parse 132 = .ok (.iconst 1, 1) := by decide +kernel
theorem dX4_parse_133 : decode cX4_parse 133 = .ok (.goto 4, 3) := by decide +kernel
theorem dX4_parse_136 : decode cX4_parse 136 = .ok (.iconst 0, 1) := by decide +kernel
theorem dX4_parse_137 : decode cX4_parse 137 = .ok (.istore 6, 2) := by decide +kernel
theorem dX4_parse_139 : decode cX4_parse 139 = .ok (.ldc2_w 70, 3) := by decide +kernel
theorem dX4_parse_142 : decode cX4_parse 142 = .ok (.lload 4, 2) := by decide +kernel
theorem dX4_parse_144 : decode cX4_parse 144 = .ok (.lmul, 1) := by decide +kernel
theorem dX4_parse_145 : decode cX4_parse 145 = .ok (.iload 8, 2) := by decide +kernel
theorem dX4_parse_147 : decode cX4_parse 147 = .ok (.i2l, 1) := by decide +kernel
theorem dX4_parse_148 : decode cX4_parse 148 = .ok (.ladd, 1) := by decide +kernel
theorem dX4_parse_149 : decode cX4_parse 149 = .ok (.lstore 4, 2) := by decide +kernel
theorem dX4_parse_151 : decode cX4_parse 151 = .ok (.iinc 2 1, 3) := by decide +kernel
theorem dX4_parse_154 : decode cX4_parse 154 = .ok (.aload_n 0, 1) := by decide +kernel
theorem dX4_parse_155 : decode cX4_parse 155 = .ok (.getfield 32, 3) := by decide +kernel
theorem dX4_parse_158 : decode cX4_parse 158 = .ok (.iload_n 1, 1) := by decide +kernel
theorem dX4_parse_159 : decode cX4_parse 159 = .ok (.iload_n 3, 1) := by decide +kernel
theorem dX4_parse_160 : decode cX4_parse 160 = .ok (.ifCond .eq 9, 3) := by decide +kernel
theorem dX4_parse_163 : decode cX4_parse 163 = .ok (.lload 4, 2) := by decide +kernel
theorem dX4_parse_165 : decode cX4_parse 165 = .ok (.lneg, 1) := by decide +kernel
theorem dX4_parse_166 : decode cX4_parse 166 = .ok (.goto 5, 3) := by decide +kernel
theorem dX4_parse_169 : decode cX4_parse 169 = .ok (.lload 4, 2) := by decide +kernel
theorem dX4_parse_171 : decode cX4_parse 171 = .ok (.lastore, 1) := by decide +kernel
theorem dX4_parse_172 : decode cX4_parse 172 = .ok (.goto 61, 3) := by decide +kernel
theorem dX4_parse_175 : decode cX4_parse 175 = .ok (.iload 7, 2) := by decide +kernel
theorem dX4_parse_177 : decode cX4_parse 177 = .ok (.bipush 44, 2) := by decide +kernel
theorem dX4_parse_179 : decode cX4_parse 179 = .ok (.if_icmp .ne 25, 3) := by decide +kernel
theorem dX4_parse_182 : decode cX4_parse 182 = .ok (.iload_n 2, 1) := by decide +kernel
theorem dX4_parse_183 : decode cX4_parse 183 = .ok (.ifCond .le 21, 3) := by decide +kernel
theorem dX4_parse_186 : decode cX4_parse 186 = .ok (.iload_n 1, 1) := by decide +kernel
theorem dX4_parse_187 : decode cX4_parse 187 = .ok (.iconst 4, 1) := by decide +kernel
theorem dX4_parse_188 : decode cX4_parse 188 = .ok (.if_icmp .ge 16, 3) := by decide +kernel
theorem dX4_parse_191 : decode cX4_parse 191 = .ok (.iinc 1 1, 3) := by decide +kernel
theorem dX4_parse_194 : decode cX4_parse 194 = .ok (.iconst 0, 1) := by decide +kernel
theorem dX4_parse_195 : decode cX4_parse 195 = .ok (.istore_n 2, 1) := by decide +kernel
theorem dX4_parse_196 : decode cX4_parse 196 = .ok (.iconst 0, 1) := by decide +kernel
theorem dX4_parse_197 : decode cX4_parse 197 = .ok (.istore_n 3, 1) := by decide +kernel
theorem dX4_parse_198 : decode cX4_parse 198 = .ok (.lconst 0, 1) := by decide +kernel
theorem dX4_parse_199 : decode cX4_parse 199 = .ok (.lstore 4, 2) := by decide +kernel
theorem dX4_parse_201 : decode cX4_parse 201 = .ok (.goto 32, 3) := by decide +kernel
theorem dX4_parse_204 : decode cX4_parse 204 = .ok (.iload 7, 2) := by decide +kernel
theorem dX4_parse_206 : decode cX4_parse 206 = .ok (.bipush 45, 2) := by decide +kernel
theorem dX4_parse_208 : decode cX4_parse 208 = .ok (.if_icmp .ne 20, 3) := by decide +kernel
theorem dX4_parse_211 : decode cX4_parse 211 = .ok (.iload_n 1, 1) := by decide +kernel
theorem dX4_parse_212 : decode cX4_parse 212 = .ok (.iconst 3, 1) := by decide +kernel
theorem dX4_parse_213 : decode cX4_parse 213 = .ok (.if_icmp .ne 15, 3) := by decide +kernel
theorem dX4_parse_216 : decode cX4_parse 216 = .ok (.iload_n 2, 1) := by decide +kernel
theorem dX4_parse_217 : decode cX4_parse 217 = .ok (.ifCond .ne 11, 3) := by decide +kernel
theorem dX4_parse_220 : decode cX4_parse 220 = .ok (.iload_n 3, 1) := by decide +kernel
theorem dX4_parse_221 : decode cX4_parse 221 = .ok (.ifCond .ne 7, 3) := by decide +kernel
theorem dX4_parse_224 : decode cX4_parse 224 = .ok (.iconst 1, 1) := by decide +kernel
theorem dX4_parse_225 : decode cX4_parse 225 = .ok (.goto 4, 3) := by decide +kernel
theorem dX4_parse_228 : decode cX4_parse 228 = .ok (.iconst 0, 1) := by decide +kernel
theorem dX4_parse_229 : decode cX4_parse 229 = .ok (.istore 6, 2) := by decide +kernel
theorem dX4_parse_231 : decode cX4_parse 231 = .ok (.iconst 1, 1) := by decide +kernel
theorem dX4_parse_232 : decode cX4_parse 232 = .ok (.istore_n 3, 1) := by decide +kernel
theorem dX4_parse_233 : decode cX4_parse 233 = .ok (.aload_n 0, 1) := by decide +kernel
theorem dX4_parse_234 : decode cX4_parse 234 = .ok (.dup, 1) := by decide +kernel
theorem dX4_parse_235 : decode cX4_parse 235 = .ok (.getfield 63, 3) := by decide +kernel
theorem dX4_parse_238 : decode cX4_parse 238 = .ok (.iload 6, 2) := by decide +kernel
theorem dX4_parse_240 : decode cX4_parse 240 = .ok (.ifCond .eq 7, 3) := by decide +kernel
theorem dX4_parse_243 : decode cX4_parse 243 = .ok (.iconst 1, 1) := by decide +kernel
theorem dX4_parse_244 : decode cX4_parse 244 = .ok (.goto 4, 3) := by decide +kernel
theorem dX4_parse_247 : decode cX4_parse 247 = .ok (.iconst 0, 1) := by decide +kernel
theorem dX4_parse_248 : decode cX4_parse 248 = .ok (.iadd, 1) := by decide +kernel
theorem dX4_parse_249 : decode cX4_parse 249 = .ok (.putfield 63, 3) := by decide +kernel
theorem dX4_parse_252 : decode cX4_parse 252 = .ok (.goto (-235), 3) := by decide +kernel
theorem dX4_parse_255 : decode cX4_parse 255 = .ok (.aload_n 0, 1) := by decide +kernel
theorem dX4_parse_256 : decode cX4_parse 256 = .ok (.iload 6, 2) := by decide +kernel
theorem dX4_parse_258 : decode cX4_parse 258 = .ok (.ifCond .eq 16, 3) := by decide +kernel
theorem dX4_parse_261 : decode cX4_parse 261 = .ok (.iload_n 1, 1) := by decide +kernel
theorem dX4_parse_262 : decode cX4_parse 262 = .ok (.iconst 4, 1) := by decide +kernel
theorem dX4_parse_263 : decode cX4_parse 263 = .ok (.if_icmp .ne 11, 3) := by decide +kernel
theorem dX4_parse_266 : decode cX4_parse 266 = .ok (.iload_n 2, 1) := by decide +kernel
theorem dX4_parse_267 : decode cX4_parse 267 = .ok (.ifCond .le 7, 3) := by decide +kernel
theorem dX4_parse_270 : decode cX4_parse 270 = .ok (.iconst 1, 1) := by decide +kernel
theorem dX4_parse_271 : decode cX4_parse 271 = .ok (.goto 4, 3) := by decide +kernel
theorem dX4_parse_274 : decode cX4_parse 274 = .ok (.iconst 0, 1) := by decide +kernel
theorem dX4_parse_275 : decode cX4_parse 275 = .ok (.putfield 76, 3) := by decide +kernel
theorem dX4_parse_278 : decode cX4_parse 278 = .ok (.return_, 1) := by decide +kernel
set_option maxRecDepth 20000 in
theorem ggX4_errorPosition_X4_parse : GoodIn wsX4_errorPosition wsX4_parse := goodIn_r _ [6, 1, 7, 8, 9, 10, 11, 12, 13, 14, 15, 5, 16, 17, 18, 19, 20, 21, 22, 23, 24, 25, 26, 27, 28, 29, 30, 31, 32, 33, 34, 35, 36, 37] (by decide +kernel) (by decide +kernel)
set_option maxRecDepth 20000 in
theorem gX4_errorPosition_X4_parse : GoodIn wsX4_errorPosition (wsV RX4 80 RX4 yX4_parse wsX4_parse) := goodIn_app (goodIn_of _ (by decide +kernel)) ggX4_errorPosition_X4_parse
theorem dX4_errorPosition_0 : decode cX4_errorPosition 0 = .ok (.aload_n 0, 1) := by decide +kernel
theorem dX4_errorPosition_1 : decode cX4_errorPosition 1 = .ok (.invokevirtual 80, 3) := by decide +kernel
theorem dX4_errorPosition_4 : decode cX4_errorPosition 4 = .ok (.aload_n 0, 1) := by decide +kernel
theorem dX4_errorPosition_5 : decode cX4_errorPosition 5 = .ok (.getfield 63, 3) := by decide +kernel
theorem dX4_errorPosition_8 : decode cX4_errorPosition 8 = .ok (.i2l, 1) := by decide +kernel
theorem dX4_errorPosition_9 : decode cX4_errorPosition 9 = .ok (.lreturn, 1) := by decide +kernel
theorem dX4_cell_0 : decode cX4_cell 0 = .ok (.aload_n 0, 1) := by decide +kernel
theorem dX4_cell_1 : decode cX4_cell 1 = .ok (.getfield 13, 3) := by decide +kernel
theorem dX4_cell_4 : decode cX4_cell 4 = .ok (.iconst 5, 1) := by decide +kernel
theorem dX4_cell_5 : decode cX4_cell 5 = .ok (.iload_n 1, 1) := by decide +kernel
theorem dX4_cell_6 : decode cX4_cell 6 = .ok (.imul, 1) := by decide +kernel
theorem dX4_cell_7 : decode cX4_cell 7 = .ok (.iload_n 2, 1) := by decide +kernel
theorem dX4_cell_8 : decode cX4_cell 8 = .ok (.iadd, 1) := by decide +kernel
theorem dX4_cell_9 : decode cX4_cell 9 = .ok (.laload, 1) := by decide +kernel
theorem dX4_cell_10 : decode cX4_cell 10 = .ok (.lreturn, 1) := by decide +kernel
set_option maxRecDepth 20000 in
theorem ggX4_addRow_X4_parse : GoodIn wsX4_addRow wsX4_parse := goodIn_r _ [13, 14, 8, 15, 16, 17, 18, 5, 1, 19, 20, 12, 21, 22, 23, 24, 25, 26, 27, 28, 29, 34, 35, 36, 37, 38, 39, 40, 41, 42, 43, 44, 45, 46] (by decide +kernel) (by decide +kernel)
set_option maxRecDepth 20000 in
theorem gX4_addRow_X4_parse : GoodIn wsX4_addRow (wsV RX4 80 RX4 yX4_parse wsX4_parse) := goodIn_app (goodIn_of _ (by decide +kernel)) ggX4_addRow_X4_parse
set_option maxRecDepth 20000 in
theorem ggX4_addRow_X4_cell : GoodIn wsX4_addRow wsX4_cell := goodIn_r _ [33, 7, 34, 35, 36, 37, 38, 39, 40, 41, 42, 43, 44, 45, 46] (by decide +kernel) (by decide +kernel)
set_option maxRecDepth 20000 in
theorem gX4_addRow_X4_cell : GoodIn wsX4_addRow (wsV RX4 88 RX4 yX4_cell wsX4_cell) := goodIn_app (goodIn_of _ (by decide +kernel)) ggX4_addRow_X4_cell
theorem dX4_addRow_0 : decode cX4_addRow 0 = .ok (.aload_n 0, 1) := by decide +kernel
theorem dX4_addRow_1 : decode cX4_addRow 1 = .ok (.invokevirtual 80, 3) := by decide +kernel
theorem dX4_addRow_4 : decode cX4_addRow 4 = .ok (.aload_n 0, 1) := by decide +kernel
theorem dX4_addRow_5 : decode cX4_addRow 5 = .ok (.getfield 76, 3) := by decide +kernel
theorem dX4_addRow_8 : decode cX4_addRow 8 = .ok (.ifCond .ne 7, 3) := by decide +kernel
theorem dX4_addRow_11 : decode cX4_addRow 11 = .ok (.ldc2_w 83, 3) := by decide +kernel
theorem dX4_addRow_14 : decode cX4_addRow 14 = .ok (.lreturn, 1) := by decide +kernel
theorem dX4_addRow_15 : decode cX4_addRow 15 = .ok (.aload_n 0, 1) := by decide +kernel
theorem dX4_addRow_16 : decode cX4_addRow 16 = .ok (.getfield 85, 3) := by decide +kernel
theorem dX4_addRow_19 : decode cX4_addRow 19 = .ok (.bipush 10, 2) := by decide +kernel
theorem dX4_addRow_21 : decode cX4_addRow 21 = .ok (.if_icmp .ne 7, 3) := by decide +kernel
theorem dX4_addRow_24 : decode cX4_addRow 24 = .ok (.ldc2_w 51, 3) := by decide +kernel
theorem dX4_addRow_27 : decode cX4_addRow 27 = .ok (.lreturn, 1) := by decide +kernel
theorem dX4_addRow_28 : decode cX4_addRow 28 = .ok (.aload_n 0, 1) := by decide +kernel
theorem dX4_addRow_29 : decode cX4_addRow 29 = .ok (.getfield 85, 3) := by decide +kernel
theorem dX4_addRow_32 : decode cX4_addRow 32 = .ok (.ifCond .le 49, 3) := by decide +kernel
theorem dX4_addRow_35 : decode cX4_addRow 35 = .ok (.aload_n 0, 1) := by decide +kernel
theorem dX4_addRow_36 : decode cX4_addRow 36 = .ok (.getfield 32, 3) := by decide +kernel
theorem dX4_addRow_39 : decode cX4_addRow 39 = .ok (.iconst 0, 1) := by decide +kernel
theorem dX4_addRow_40 : decode cX4_addRow 40 = .ok (.laload, 1) := by decide +kernel
theorem dX4_addRow_41 : decode cX4_addRow 41 = .ok (.aload_n 0, 1) := by decide +kernel
theorem dX4_addRow_42 : decode cX4_addRow 42 = .ok (.aload_n 0, 1) := by decide +kernel
theorem dX4_addRow_43 : decode cX4_addRow 43 = .ok (.getfield 85, 3) := by decide +kernel
theorem dX4_addRow_46 : decode cX4_addRow 46 = .ok (.iconst 1, 1) := by decide +kernel
theorem dX4_addRow_47 : decode cX4_addRow 47 = .ok (.isub, 1) := by decide +kernel
theorem dX4_addRow_48 : decode cX4_addRow 48 = .ok (.iconst 0, 1) := by decide +kernel
theorem dX4_addRow_49 : decode cX4_addRow 49 = .ok (.invokevirtual 88, 3) := by decide +kernel
theorem dX4_addRow_52 : decode cX4_addRow 52 = .ok (.lcmp, 1) := by decide +kernel
theorem dX4_addRow_53 : decode cX4_addRow 53 = .ok (.ifCond .le 24, 3) := by decide +kernel
theorem dX4_addRow_56 : decode cX4_addRow 56 = .ok (.aload_n 0, 1) := by decide +kernel
theorem dX4_addRow_57 : decode cX4_addRow 57 = .ok (.getfield 32, 3) := by decide +kernel
theorem dX4_addRow_60 : decode cX4_addRow 60 = .ok (.iconst 1, 1) := by decide +kernel
theorem dX4_addRow_61 : decode cX4_addRow 61 = .ok (.laload, 1) := by decide +kernel
theorem dX4_addRow_62 : decode cX4_addRow 62 = .ok (.aload_n 0, 1) := by decide +kernel
theorem dX4_addRow_63 : decode cX4_addRow 63 = .ok (.aload_n 0, 1) := by decide +kernel
theorem dX4_addRow_64 : decode cX4_addRow 64 = .ok (.getfield 85, 3) := by decide +kernel
theorem dX4_addRow_67 : decode cX4_addRow 67 = .ok (.iconst 1, 1) := by decide +kernel
theorem dX4_addRow_68 : decode cX4_addRow 68 = .ok (.isub, 1) := by decide +kernel
theorem dX4_addRow_69 : decode cX4_addRow 69 = .ok (.iconst 1, 1) := by decide +kernel
theorem dX4_addRow_70 : decode cX4_addRow 70 = .ok (.invokevirtual 88, 3) := by decide +kernel
theorem dX4_addRow_73 : decode cX4_addRow 73 = .ok (.lcmp, 1) := by decide +kernel
theorem dX4_addRow_74 : decode cX4_addRow 74 = .ok (.ifCond .ge 7, 3) := by decide +kernel
theorem dX4_addRow_77 : decode cX4_addRow 77 = .ok (.ldc2_w 92, 3) := by decide +kernel
theorem dX4_addRow_80 : decode cX4_addRow 80 = .ok (.lreturn, 1) := by decide +kernel
theorem dX4_addRow_81 : decode cX4_addRow 81 = .ok (.iconst 0, 1) := by decide +kernel
theorem dX4_addRow_82 : decode cX4_addRow 82 = .ok (.istore_n 1, 1) := by decide +kernel
theorem dX4_addRow_83 : decode cX4_addRow 83 = .ok (.iload_n 1, 1) := by decide +kernel
theorem dX4_addRow_84 : decode cX4_addRow 84 = .ok (.iconst 5, 1) := by decide +kernel
theorem dX4_addRow_85 : decode cX4_addRow 85 = .ok (.if_icmp .ge 28, 3) := by decide +kernel
theorem dX4_addRow_88 : decode cX4_addRow 88 = .ok (.aload_n 0, 1) := by decide +kernel
theorem dX4_addRow_89 : decode cX4_addRow 89 = .ok (.getfield 13, 3) := by decide +kernel
theorem dX4_addRow_92 : decode cX4_addRow 92 = .ok (.iconst 5, 1) := by decide +kernel
theorem dX4_addRow_93 : decode cX4_addRow 93 = .ok (.aload_n 0, 1) := by decide +kernel
theorem dX4_addRow_94 : decode cX4_addRow 94 = .ok (.getfield 85, 3) := by decide +kernel
theorem dX4_addRow_97 : decode cX4_addRow 97 = .ok (.imul, 1) := by decide +kernel
theorem dX4_addRow_98 : decode cX4_addRow 98 = .ok (.iload_n 1, 1) := by decide +kernel
theorem dX4_addRow_99 : decode cX4_addRow 99 = .ok (.iadd, 1) := by decide +kernel
theorem dX4_addRow_100 : decode cX4_addRow 100 = .ok (.aload_n 0, 1) := by decide +kernel
theorem dX4_addRow_101 : decode cX4_addRow 101 = .ok (.getfield 32, 3) := by decide +kernel
theorem dX4_addRow_104 : decode cX4_addRow 104 = .ok (.iload_n 1, 1) := by decide +kernel
theorem dX4_addRow_105 : decode cX4_addRow 105 = .ok (.laload, 1) := by decide +kernel
theorem dX4_addRow_106 : decode cX4_addRow 106 = .ok (.lastore, 1) := by decide +kernel
theorem dX4_addRow_107 : decode cX4_addRow 107 = .ok (.iinc 1 1, 3) := by decide +kernel
theorem dX4_addRow_110 : decode cX4_addRow 110 = .ok (.goto (-27), 3) := by decide +kernel
theorem dX4_addRow_113 : decode cX4_addRow 113 = .ok (.aload_n 0, 1) := by decide +kernel
theorem dX4_addRow_114 : decode cX4_addRow 114 = .ok (.dup, 1) := by decide +kernel
theorem dX4_addRow_115 : decode cX4_addRow 115 = .ok (.getfield 85, 3) := by decide +kernel
theorem dX4_addRow_118 : decode cX4_addRow 118 = .ok (.iconst 1, 1) := by decide +kernel
theorem dX4_addRow_119 : decode cX4_addRow 119 = .ok (.iadd, 1) := by decide +kernel
theorem dX4_addRow_120 : decode cX4_addRow 120 = .ok (.putfield 85, 3) := by decide +kernel
theorem dX4_addRow_123 : decode cX4_addRow 123 = .ok (.aload_n 0, 1) := by decide +kernel
theorem dX4_addRow_124 : decode cX4_addRow 124 = .ok (.iconst 0, 1) := by decide +kernel
theorem dX4_addRow_125 : decode cX4_addRow 125 = .ok (.putfield 47, 3) := by decide +kernel
theorem dX4_addRow_128 : decode cX4_addRow 128 = .ok (.aload_n 0, 1) := by decide +kernel
theorem dX4_addRow_129 : decode cX4_addRow 129 = .ok (.getfield 85, 3) := by decide +kernel
theorem dX4_addRow_132 : decode cX4_addRow 132 = .ok (.i2l, 1) := by decide +kernel
theorem dX4_addRow_133 : decode cX4_addRow 133 = .ok (.lreturn, 1) := by decide +kernel
theorem dX4_clearTable_0 : decode cX4_clearTable 0 = .ok (.aload_n 0, 1) := by decide +kernel
theorem dX4_clearTable_1 : decode cX4_clearTable 1 = .ok (.getfield 85, 3) := by decide +kernel
theorem dX4_clearTable_4 : decode cX4_clearTable 4 = .ok (.istore_n 1, 1) := by decide +kernel
theorem dX4_clearTable_5 : decode cX4_clearTable 5 = .ok (.aload_n 0, 1) := by decide +kernel
theorem dX4_clearTable_6 : decode cX4_clearTable 6 = .ok (.iconst 0, 1) := by decide +kernel
theorem dX4_clearTable_7 : decode cX4_clearTable 7 = .ok (.putfield 85, 3) := by decide +kernel
theorem dX4_clearTable_10 : decode cX4_clearTable 10 = .ok (.iload_n 1, 1) := by decide +kernel
theorem dX4_clearTable_11 : decode cX4_clearTable 11 = .ok (.i2l, 1) := by decide +kernel
theorem dX4_clearTable_12 : decode cX4_clearTable 12 = .ok (.lreturn, 1) := by decide +kernel
set_option maxRecDepth 20000 in
theorem ggX4_rowDraft_X4_within : GoodIn wsX4_rowDraft wsX4_within := goodIn_r _ [6] (by decide +kernel) (by decide +kernel)
set_option maxRecDepth 20000 in
theorem gX4_rowDraft_X4_within : GoodIn wsX4_rowDraft (va_wsS RX4 41 yX4_within wsX4_within) := goodIn_app (goodIn_of _ (by decide +kernel)) ggX4_rowDraft_X4_within
set_option maxRecDepth 20000 in
theorem ggX4_rowDraft_X4_cell : GoodIn wsX4_rowDraft wsX4_cell := goodIn_r _ [10, 11, 12, 13, 14, 15, 16, 17, 18, 19, 20, 21, 22, 23, 24] (by decide +kernel) (by decide +kernel)
set_option maxRecDepth 20000 in
theorem gX4_rowDraft_X4_cell : GoodIn wsX4_rowDraft (wsV RX4 88 RX4 yX4_cell wsX4_cell) := goodIn_app (goodIn_of _ (by decide +kernel)) ggX4_rowDraft_X4_cell
theorem dX4_rowDraft_0 : decode cX4_rowDraft 0 = .ok (.iload_n 1, 1) := by decide +kernel
theorem dX4_rowDraft_1 : decode cX4_rowDraft 1 = .ok (.i2l, 1) := by decide +kernel
theorem dX4_rowDraft_2 : decode cX4_rowDraft 2 = .ok (.lconst 0, 1) := by decide +kernel
theorem dX4_rowDraft_3 : decode cX4_rowDraft 3 = .ok (.aload_n 0, 1) := by decide +kernel
theorem dX4_rowDraft_4 : decode cX4_rowDraft 4 = .ok (.getfield 85, 3) := by decide +kernel
theorem dX4_rowDraft_7 : decode cX4_rowDraft 7 = .ok (.iconst 1, 1) := by decide +kernel
theorem dX4_rowDraft_8 : decode cX4_rowDraft 8 = .ok (.isub, 1) := by decide +kernel
theorem dX4_rowDraft_9 : decode cX4_rowDraft 9 = .ok (.i2l, 1) := by decide +kernel
theorem dX4_rowDraft_10 : decode cX4_rowDraft 10 = .ok (.invokestatic 41, 3) := by decide +kernel
theorem dX4_rowDraft_13 : decode cX4_rowDraft 13 = .ok (.ifCond .eq 12, 3) := by decide +kernel
theorem dX4_rowDraft_16 : decode cX4_rowDraft 16 = .ok (.aload_n 0, 1) := by decide +kernel
theorem dX4_rowDraft_17 : decode cX4_rowDraft 17 = .ok (.iload_n 1, 1) := by decide +kernel
theorem dX4_rowDraft_18 : decode cX4_rowDraft 18 = .ok (.iconst 0, 1) := by decide +kernel
theorem dX4_rowDraft_19 : decode cX4_rowDraft 19 = .ok (.invokevirtual 88, 3) := by decide +kernel
theorem dX4_rowDraft_22 : decode cX4_rowDraft 22 = .ok (.goto 6, 3) := by decide +kernel
theorem dX4_rowDraft_25 : decode cX4_rowDraft 25 = .ok (.ldc2_w 94, 3) := by decide +kernel
theorem dX4_rowDraft_28 : decode cX4_rowDraft 28 = .ok (.lreturn, 1) := by decide +kernel
set_option maxRecDepth 20000 in
theorem ggX4_isCovered_X4_cell : GoodIn wsX4_isCovered wsX4_cell := goodIn_r _ [6, 7, 11, 12, 13, 14, 15, 16, 17, 18, 19, 20, 21, 22, 23] (by decide +kernel) (by decide +kernel)
set_option maxRecDepth 20000 in
theorem gX4_isCovered_X4_cell : GoodIn wsX4_isCovered (wsV RX4 88 RX4 yX4_cell wsX4_cell) := goodIn_app (goodIn_of _ (by decide +kernel)) ggX4_isCovered_X4_cell
set_option maxRecDepth 20000 in
theorem ggX4_isCovered_X4_within : GoodIn wsX4_isCovered wsX4_within := goodIn_r _ [10] (by decide +kernel) (by decide +kernel)
set_option maxRecDepth 20000 in
theorem gX4_isCovered_X4_within : GoodIn wsX4_isCovered (va_wsS RX4 41 yX4_within wsX4_within) := goodIn_app (goodIn_of _ (by decide +kernel)) ggX4_isCovered_X4_within
theorem dX4_isCovered_0 : decode cX4_isCovered 0 = .ok (.aload_n 0, 1) := by decide +kernel
theorem dX4_isCovered_1 : decode cX4_isCovered 1 = .ok (.getfield 85, 3) := by decide +kernel
theorem dX4_isCovered_4 : decode cX4_isCovered 4 = .ok (.ifCond .le 31, 3) := by decide +kernel
theorem dX4_isCovered_7 : decode cX4_isCovered 7 = .ok (.lload_n 1, 1) := by decide +kernel
theorem dX4_isCovered_8 : decode cX4_isCovered 8 = .ok (.aload_n 0, 1) := by decide +kernel
theorem dX4_isCovered_9 : decode cX4_isCovered 9 = .ok (.iconst 0, 1) := by decide +kernel
theorem dX4_isCovered_10 : decode cX4_isCovered 10 = .ok (.iconst 0, 1) := by decide +kernel
theorem dX4_isCovered_11 : decode cX4_isCovered 11 = .ok (.invokevirtual 88, 3) := by decide +kernel
theorem dX4_isCovered_14 : decode cX4_isCovered 14 = .ok (.aload_n 0, 1) := by decide +kernel
theorem dX4_isCovered_15 : decode cX4_isCovered 15 = .ok (.aload_n 0, 1) := by decide +kernel
theorem dX4_isCovered_16 : decode cX4_isCovered 16 = .ok (.getfield 85, 3) := by decide +kernel
theorem dX4_isCovered_19 : decode cX4_isCovered 19 = .ok (.iconst 1, 1) := by decide +kernel
theorem dX4_isCovered_20 : decode cX4_isCovered 20 = .ok (.isub, 1) := by decide +kernel
theorem dX4_isCovered_21 : decode cX4_isCovered 21 = .ok (.iconst 0, 1) := by decide +kernel
theorem dX4_isCovered_22 : decode cX4_isCovered 22 = .ok (.invokevirtual 88, 3) := by decide +kernel
theorem dX4_isCovered_25 : decode cX4_isCovered 25 = .ok (.invokestatic 41, 3) := by decide +kernel
theorem dX4_isCovered_28 : decode cX4_isCovered 28 = .ok (.ifCond .eq 7, 3) := by decide +kernel
theorem dX4_isCovered_31 : decode cX4_isCovered 31 = .ok (.iconst 1, 1) := by decide +kernel
theorem dX4_isCovered_32 : decode cX4_isCovered 32 = .ok (.goto 4, 3) := by decide +kernel
theorem dX4_isCovered_35 : decode cX4_isCovered 35 = .ok (.iconst 0, 1) := by decide +kernel
theorem dX4_isCovered_36 : decode cX4_isCovered 36 = .ok (.ireturn, 1) := by decide +kernel
set_option maxRecDepth 20000 in
theorem ggX4_at_X4_cell : GoodIn wsX4_at wsX4_cell := goodIn_r _ [6, 7, 11, 12, 13, 14, 15, 16, 17, 18, 19, 20, 21, 22, 23] (by decide +kernel) (by decide +kernel)
set_option maxRecDepth 20000 in
theorem gX4_at_X4_cell : GoodIn wsX4_at (wsV RX4 88 RX4 yX4_cell wsX4_cell) := goodIn_app (goodIn_of _ (by decide +kernel)) ggX4_at_X4_cell
set_option maxRecDepth 20000 in
theorem ggX4_at_X4_quotient : GoodIn wsX4_at wsX4_quotient := goodIn_r _ [10] (by decide +kernel) (by decide +kernel)
set_option maxRecDepth 20000 in
theorem gX4_at_X4_quotient : GoodIn wsX4_at (va_wsS RX4 96 yX4_quotient wsX4_quotient) := goodIn_app (goodIn_of _ (by decide +kernel)) ggX4_at_X4_quotient
theorem dX4_at_0 : decode cX4_at 0 = .ok (.iconst 0, 1) := by decide +kernel
theorem dX4_at_1 : decode cX4_at 1 = .ok (.istore 4, 2) := by decide +kernel
theorem dX4_at_3 : decode cX4_at 3 = .ok (.iload 4, 2) := by decide +kernel
theorem dX4_at_5 : decode cX4_at 5 = .ok (.iconst 1, 1) := by decide +kernel
theorem dX4_at_6 : decode cX4_at 6 = .ok (.iadd, 1) := by decide +kernel
theorem dX4_at_7 : decode cX4_at 7 = .ok (.aload_n 0, 1) := by decide +kernel
theorem dX4_at_8 : decode cX4_at 8 = .ok (.getfield 85, 3) := by decide +kernel
theorem dX4_at_11 : decode cX4_at 11 = .ok (.if_icmp .ge 23, 3) := by decide +kernel
theorem dX4_at_14 : decode cX4_at 14 = .ok (.aload_n 0, 1) := by decide +kernel
theorem dX4_at_15 : decode cX4_at 15 = .ok (.iload 4, 2) := by decide +kernel
theorem dX4_at_17 : decode cX4_at 17 = .ok (.iconst 1, 1) := by decide +kernel
theorem dX4_at_18 : decode cX4_at 18 = .ok (.iadd, 1) := by decide +kernel
theorem dX4_at_19 : decode cX4_at 19 = .ok (.iconst 0, 1) := by decide +kernel
theorem dX4_at_20 : decode cX4_at 20 = .ok (.invokevirtual 88, 3) := by decide +kernel
theorem dX4_at_23 : decode cX4_at 23 = .ok (.lload_n 2, 1) := by decide +kernel
theorem dX4_at_24 : decode cX4_at 24 = .ok (.lcmp, 1) := by decide +kernel
theorem dX4_at_25 : decode cX4_at 25 = .ok (.ifCond .gt 9, 3) := by decide +kernel
theorem dX4_at_28 : decode cX4_at 28 = .ok (.iinc 4 1, 3) := by decide +kernel
theorem dX4_at_31 : decode cX4_at 31 = .ok (.goto (-28), 3) := by decide +kernel
theorem dX4_at_34 : decode cX4_at 34 = .ok (.aload_n 0, 1) := by decide +kernel
theorem dX4_at_35 : decode cX4_at 35 = .ok (.iload 4, 2) := by decide +kernel
theorem dX4_at_37 : decode cX4_at 37 = .ok (.iload_n 1, 1) := by decide +kernel
theorem dX4_at_38 : decode cX4_at 38 = .ok (.iconst 1, 1) := by decide +kernel
theorem dX4_at_39 : decode cX4_at 39 = .ok (.iadd, 1) := by decide +kernel
