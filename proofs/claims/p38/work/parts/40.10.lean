def Fx0 (M M' : Mem) : Prop := M' 18 1 = 0 → M 18 1 = 0
def Ge0 (M : Mem) (z : Int) : Prop := M 18 1 = 0 → 0 ≤ z
def Lt0 (M : Mem) (a b : Int) : Prop := M 18 1 = 0 → a < b
theorem dX11_town_0 : decode cX11_town 0 = .ok (.iload_n 1, 1) := by decide +kernel
theorem dX11_town_1 : decode cX11_town 1 = .ok (.ifCond .lt 11, 3) := by decide +kernel
theorem dX11_town_12 : decode cX11_town 12 = .ok (.new 101, 3) := by decide +kernel
theorem dX11_town_15 : decode cX11_town 15 = .ok (.dup, 1) := by decide +kernel
theorem dX11_town_16 : decode cX11_town 16 = .ok (.ldc 103, 2) := by decide +kernel
theorem dX11_town_18 : decode cX11_town 18 = .ok (.invokespecial 105, 3) := by decide +kernel
theorem dX11_town_21 : decode cX11_town 21 = .ok (.athrow, 1) := by decide +kernel
theorem dX11_town_22 : decode cX11_town 22 = .ok (.aload_n 0, 1) := by decide +kernel
theorem dX11_town_23 : decode cX11_town 23 = .ok (.getfield 25, 3) := by decide +kernel
theorem dX11_town_26 : decode cX11_town 26 = .ok (.iload_n 1, 1) := by decide +kernel
theorem dX11_town_27 : decode cX11_town 27 = .ok (.invokevirtual 108, 3) := by decide +kernel
theorem dX11_town_30 : decode cX11_town 30 = .ok (.aload_n 0, 1) := by decide +kernel
theorem dX11_town_31 : decode cX11_town 31 = .ok (.iconst 0, 1) := by decide +kernel
theorem dX11_town_32 : decode cX11_town 32 = .ok (.putfield 93, 3) := by decide +kernel
theorem dX11_town_35 : decode cX11_town 35 = .ok (.aload_n 0, 1) := by decide +kernel
theorem dX11_town_36 : decode cX11_town 36 = .ok (.getfield 25, 3) := by decide +kernel
theorem dX11_town_39 : decode cX11_town 39 = .ok (.getfield 111, 3) := by decide +kernel
theorem dX11_town_4 : decode cX11_town 4 = .ok (.iload_n 1, 1) := by decide +kernel
theorem dX11_town_42 : decode cX11_town 42 = .ok (.ifCond .eq 14, 3) := by decide +kernel
theorem dX11_town_45 : decode cX11_town 45 = .ok (.bipush (-10), 2) := by decide +kernel
theorem dX11_town_47 : decode cX11_town 47 = .ok (.aload_n 0, 1) := by decide +kernel
theorem dX11_town_48 : decode cX11_town 48 = .ok (.getfield 25, 3) := by decide +kernel
theorem dX11_town_5 : decode cX11_town 5 = .ok (.aload_n 0, 1) := by decide +kernel
theorem dX11_town_51 : decode cX11_town 51 = .ok (.getfield 111, 3) := by decide +kernel
theorem dX11_town_54 : decode cX11_town 54 = .ok (.isub, 1) := by decide +kernel
theorem dX11_town_55 : decode cX11_town 55 = .ok (.ireturn, 1) := by decide +kernel
theorem dX11_town_56 : decode cX11_town 56 = .ok (.aload_n 0, 1) := by decide +kernel
theorem dX11_town_57 : decode cX11_town 57 = .ok (.getfield 16, 3) := by decide +kernel
theorem dX11_town_6 : decode cX11_town 6 = .ok (.getfield 93, 3) := by decide +kernel
theorem dX11_town_60 : decode cX11_town 60 = .ok (.aload_n 0, 1) := by decide +kernel
theorem dX11_town_61 : decode cX11_town 61 = .ok (.getfield 25, 3) := by decide +kernel
theorem dX11_town_64 : decode cX11_town 64 = .ok (.getfield 114, 3) := by decide +kernel
theorem dX11_town_67 : decode cX11_town 67 = .ok (.invokevirtual 117, 3) := by decide +kernel
theorem dX11_town_70 : decode cX11_town 70 = .ok (.aload_n 0, 1) := by decide +kernel
theorem dX11_town_71 : decode cX11_town 71 = .ok (.getfield 34, 3) := by decide +kernel
theorem dX11_town_74 : decode cX11_town 74 = .ok (.invokevirtual 120, 3) := by decide +kernel
theorem dX11_town_77 : decode cX11_town 77 = .ok (.aload_n 0, 1) := by decide +kernel
theorem dX11_town_78 : decode cX11_town 78 = .ok (.getfield 41, 3) := by decide +kernel
theorem dX11_town_81 : decode cX11_town 81 = .ok (.invokevirtual 123, 3) := by decide +kernel
theorem dX11_town_84 : decode cX11_town 84 = .ok (.aload_n 0, 1) := by decide +kernel
theorem dX11_town_85 : decode cX11_town 85 = .ok (.getfield 16, 3) := by decide +kernel
theorem dX11_town_88 : decode cX11_town 88 = .ok (.getfield 126, 3) := by decide +kernel
theorem dX11_town_9 : decode cX11_town 9 = .ok (.if_icmp .le 13, 3) := by decide +kernel
theorem dX11_town_91 : decode cX11_town 91 = .ok (.ireturn, 1) := by decide +kernel
theorem dX6_readLine_0 : decode cX6_readLine 0 = .ok (.aload_n 0, 1) := by decide +kernel
theorem dX6_readLine_1 : decode cX6_readLine 1 = .ok (.ldc 127, 2) := by decide +kernel
theorem dX6_readLine_10 : decode cX6_readLine 10 = .ok (.invokevirtual 129, 3) := by decide +kernel
theorem dX6_readLine_13 : decode cX6_readLine 13 = .ok (.goto 82, 3) := by decide +kernel
theorem dX6_readLine_16 : decode cX6_readLine 16 = .ok (.aload_n 0, 1) := by decide +kernel
theorem dX6_readLine_17 : decode cX6_readLine 17 = .ok (.ldc 132, 2) := by decide +kernel
theorem dX6_readLine_19 : decode cX6_readLine 19 = .ok (.invokevirtual 86, 3) := by decide +kernel
theorem dX6_readLine_22 : decode cX6_readLine 22 = .ok (.ifCond .eq 10, 3) := by decide +kernel
theorem dX6_readLine_25 : decode cX6_readLine 25 = .ok (.aload_n 0, 1) := by decide +kernel
theorem dX6_readLine_26 : decode cX6_readLine 26 = .ok (.invokevirtual 134, 3) := by decide +kernel
theorem dX6_readLine_29 : decode cX6_readLine 29 = .ok (.goto 66, 3) := by decide +kernel
theorem dX6_readLine_3 : decode cX6_readLine 3 = .ok (.invokevirtual 86, 3) := by decide +kernel
theorem dX6_readLine_32 : decode cX6_readLine 32 = .ok (.aload_n 0, 1) := by decide +kernel
theorem dX6_readLine_33 : decode cX6_readLine 33 = .ok (.ldc 137, 2) := by decide +kernel
theorem dX6_readLine_35 : decode cX6_readLine 35 = .ok (.invokevirtual 86, 3) := by decide +kernel
theorem dX6_readLine_38 : decode cX6_readLine 38 = .ok (.ifCond .eq 10, 3) := by decide +kernel
theorem dX6_readLine_41 : decode cX6_readLine 41 = .ok (.aload_n 0, 1) := by decide +kernel
theorem dX6_readLine_42 : decode cX6_readLine 42 = .ok (.invokevirtual 139, 3) := by decide +kernel
theorem dX6_readLine_45 : decode cX6_readLine 45 = .ok (.goto 50, 3) := by decide +kernel
theorem dX6_readLine_48 : decode cX6_readLine 48 = .ok (.aload_n 0, 1) := by decide +kernel
theorem dX6_readLine_49 : decode cX6_readLine 49 = .ok (.ldc 142, 2) := by decide +kernel
theorem dX6_readLine_51 : decode cX6_readLine 51 = .ok (.invokevirtual 144, 3) := by decide +kernel
theorem dX6_readLine_54 : decode cX6_readLine 54 = .ok (.ifCond .eq 10, 3) := by decide +kernel
theorem dX6_readLine_57 : decode cX6_readLine 57 = .ok (.aload_n 0, 1) := by decide +kernel
theorem dX6_readLine_58 : decode cX6_readLine 58 = .ok (.invokevirtual 147, 3) := by decide +kernel
theorem dX6_readLine_6 : decode cX6_readLine 6 = .ok (.ifCond .eq 10, 3) := by decide +kernel
theorem dX6_readLine_61 : decode cX6_readLine 61 = .ok (.goto 34, 3) := by decide +kernel
theorem dX6_readLine_64 : decode cX6_readLine 64 = .ok (.aload_n 0, 1) := by decide +kernel
theorem dX6_readLine_65 : decode cX6_readLine 65 = .ok (.ldc 150, 2) := by decide +kernel
theorem dX6_readLine_67 : decode cX6_readLine 67 = .ok (.invokevirtual 144, 3) := by decide +kernel
theorem dX6_readLine_70 : decode cX6_readLine 70 = .ok (.ifCond .eq 21, 3) := by decide +kernel
theorem dX6_readLine_73 : decode cX6_readLine 73 = .ok (.aload_n 0, 1) := by decide +kernel
theorem dX6_readLine_74 : decode cX6_readLine 74 = .ok (.getfield 12, 3) := by decide +kernel
theorem dX6_readLine_77 : decode cX6_readLine 77 = .ok (.getfield 152, 3) := by decide +kernel
theorem dX6_readLine_80 : decode cX6_readLine 80 = .ok (.invokevirtual 155, 3) := by decide +kernel
theorem dX6_readLine_83 : decode cX6_readLine 83 = .ok (.aload_n 0, 1) := by decide +kernel
theorem dX6_readLine_84 : decode cX6_readLine 84 = .ok (.iconst 0, 1) := by decide +kernel
theorem dX6_readLine_85 : decode cX6_readLine 85 = .ok (.invokevirtual 160, 3) := by decide +kernel
theorem dX6_readLine_88 : decode cX6_readLine 88 = .ok (.goto 7, 3) := by decide +kernel
theorem dX6_readLine_9 : decode cX6_readLine 9 = .ok (.aload_n 0, 1) := by decide +kernel
theorem dX6_readLine_91 : decode cX6_readLine 91 = .ok (.aload_n 0, 1) := by decide +kernel
theorem dX6_readLine_92 : decode cX6_readLine 92 = .ok (.invokevirtual 90, 3) := by decide +kernel
theorem dX6_readLine_95 : decode cX6_readLine 95 = .ok (.aload_n 0, 1) := by decide +kernel
theorem dX6_readLine_96 : decode cX6_readLine 96 = .ok (.invokevirtual 117, 3) := by decide +kernel
theorem dX6_readLine_99 : decode cX6_readLine 99 = .ok (.return_, 1) := by decide +kernel
theorem dX6_readPlaces_0 : decode cX6_readPlaces 0 = .ok (.aload_n 0, 1) := by decide +kernel
theorem dX6_readPlaces_1 : decode cX6_readPlaces 1 = .ok (.ldc 104, 2) := by decide +kernel
theorem dX6_readPlaces_10 : decode cX6_readPlaces 10 = .ok (.invokevirtual 110, 3) := by decide +kernel
theorem dX6_readPlaces_13 : decode cX6_readPlaces 13 = .ok (.istore_n 1, 1) := by decide +kernel
theorem dX6_readPlaces_14 : decode cX6_readPlaces 14 = .ok (.aload_n 0, 1) := by decide +kernel
theorem dX6_readPlaces_15 : decode cX6_readPlaces 15 = .ok (.getfield 12, 3) := by decide +kernel
theorem dX6_readPlaces_18 : decode cX6_readPlaces 18 = .ok (.iload_n 1, 1) := by decide +kernel
theorem dX6_readPlaces_19 : decode cX6_readPlaces 19 = .ok (.invokevirtual 114, 3) := by decide +kernel
theorem dX6_readPlaces_22 : decode cX6_readPlaces 22 = .ok (.aload_n 0, 1) := by decide +kernel
theorem dX6_readPlaces_23 : decode cX6_readPlaces 23 = .ok (.invokevirtual 117, 3) := by decide +kernel
theorem dX6_readPlaces_26 : decode cX6_readPlaces 26 = .ok (.return_, 1) := by decide +kernel
theorem dX6_readPlaces_3 : decode cX6_readPlaces 3 = .ok (.invokevirtual 106, 3) := by decide +kernel
theorem dX6_readPlaces_6 : decode cX6_readPlaces 6 = .ok (.aload_n 0, 1) := by decide +kernel
theorem dX6_readPlaces_7 : decode cX6_readPlaces 7 = .ok (.iconst 1, 1) := by decide +kernel
theorem dX6_readPlaces_8 : decode cX6_readPlaces 8 = .ok (.bipush 10, 2) := by decide +kernel
theorem dX6_readThing_0 : decode cX6_readThing 0 = .ok (.aload_n 0, 1) := by decide +kernel
theorem dX6_readThing_1 : decode cX6_readThing 1 = .ok (.aload_n 0, 1) := by decide +kernel
theorem dX6_readThing_10 : decode cX6_readThing 10 = .ok (.invokevirtual 166, 3) := by decide +kernel
theorem dX6_readThing_100 : decode cX6_readThing 100 = .ok (.aload_n 0, 1) := by decide +kernel
theorem dX6_readThing_101 : decode cX6_readThing 101 = .ok (.getfield 36, 3) := by decide +kernel
theorem dX6_readThing_104 : decode cX6_readThing 104 = .ok (.ifCond .ne 95, 3) := by decide +kernel
theorem dX6_readThing_107 : decode cX6_readThing 107 = .ok (.aload_n 0, 1) := by decide +kernel
theorem dX6_readThing_108 : decode cX6_readThing 108 = .ok (.getfield 12, 3) := by decide +kernel
theorem dX6_readThing_111 : decode cX6_readThing 111 = .ok (.getfield 181, 3) := by decide +kernel
theorem dX6_readThing_114 : decode cX6_readThing 114 = .ok (.istore 6, 2) := by decide +kernel
theorem dX6_readThing_116 : decode cX6_readThing 116 = .ok (.aload_n 0, 1) := by decide +kernel
theorem dX6_readThing_117 : decode cX6_readThing 117 = .ok (.getfield 12, 3) := by decide +kernel
theorem dX6_readThing_120 : decode cX6_readThing 120 = .ok (.getfield 195, 3) := by decide +kernel
theorem dX6_readThing_123 : decode cX6_readThing 123 = .ok (.iload 6, 2) := by decide +kernel
theorem dX6_readThing_125 : decode cX6_readThing 125 = .ok (.iload_n 1, 1) := by decide +kernel
theorem dX6_readThing_126 : decode cX6_readThing 126 = .ok (.iastore, 1) := by decide +kernel
theorem dX6_readThing_127 : decode cX6_readThing 127 = .ok (.aload_n 0, 1) := by decide +kernel
theorem dX6_readThing_128 : decode cX6_readThing 128 = .ok (.getfield 12, 3) := by decide +kernel
theorem dX6_readThing_13 : decode cX6_readThing 13 = .ok (.aload_n 0, 1) := by decide +kernel
theorem dX6_readThing_131 : decode cX6_readThing 131 = .ok (.getfield 198, 3) := by decide +kernel
theorem dX6_readThing_134 : decode cX6_readThing 134 = .ok (.iload 6, 2) := by decide +kernel
theorem dX6_readThing_136 : decode cX6_readThing 136 = .ok (.iload_n 2, 1) := by decide +kernel
theorem dX6_readThing_137 : decode cX6_readThing 137 = .ok (.iastore, 1) := by decide +kernel
theorem dX6_readThing_138 : decode cX6_readThing 138 = .ok (.aload_n 0, 1) := by decide +kernel
theorem dX6_readThing_139 : decode cX6_readThing 139 = .ok (.getfield 12, 3) := by decide +kernel
theorem dX6_readThing_14 : decode cX6_readThing 14 = .ok (.iconst 0, 1) := by decide +kernel
theorem dX6_readThing_142 : decode cX6_readThing 142 = .ok (.getfield 201, 3) := by decide +kernel
theorem dX6_readThing_145 : decode cX6_readThing 145 = .ok (.iload 6, 2) := by decide +kernel
theorem dX6_readThing_147 : decode cX6_readThing 147 = .ok (.iload_n 3, 1) := by decide +kernel
theorem dX6_readThing_148 : decode cX6_readThing 148 = .ok (.iastore, 1) := by decide +kernel
theorem dX6_readThing_149 : decode cX6_readThing 149 = .ok (.aload_n 0, 1) := by decide +kernel
theorem dX6_readThing_15 : decode cX6_readThing 15 = .ok (.aload_n 0, 1) := by decide +kernel
theorem dX6_readThing_150 : decode cX6_readThing 150 = .ok (.getfield 12, 3) := by decide +kernel
theorem dX6_readThing_153 : decode cX6_readThing 153 = .ok (.getfield 203, 3) := by decide +kernel
theorem dX6_readThing_156 : decode cX6_readThing 156 = .ok (.iload 6, 2) := by decide +kernel
theorem dX6_readThing_158 : decode cX6_readThing 158 = .ok (.iload 4, 2) := by decide +kernel
theorem dX6_readThing_16 : decode cX6_readThing 16 = .ok (.getfield 12, 3) := by decide +kernel
theorem dX6_readThing_160 : decode cX6_readThing 160 = .ok (.iastore, 1) := by decide +kernel
theorem dX6_readThing_161 : decode cX6_readThing 161 = .ok (.aload_n 0, 1) := by decide +kernel
theorem dX6_readThing_162 : decode cX6_readThing 162 = .ok (.getfield 12, 3) := by decide +kernel
theorem dX6_readThing_165 : decode cX6_readThing 165 = .ok (.dup, 1) := by decide +kernel
theorem dX6_readThing_166 : decode cX6_readThing 166 = .ok (.getfield 205, 3) := by decide +kernel
theorem dX6_readThing_169 : decode cX6_readThing 169 = .ok (.iload 5, 2) := by decide +kernel
theorem dX6_readThing_171 : decode cX6_readThing 171 = .ok (.ifCond .eq 10, 3) := by decide +kernel
theorem dX6_readThing_174 : decode cX6_readThing 174 = .ok (.iconst 1, 1) := by decide +kernel
theorem dX6_readThing_175 : decode cX6_readThing 175 = .ok (.iload 6, 2) := by decide +kernel
theorem dX6_readThing_177 : decode cX6_readThing 177 = .ok (.ishl, 1) := by decide +kernel
theorem dX6_readThing_178 : decode cX6_readThing 178 = .ok (.goto 4, 3) := by decide +kernel
theorem dX6_readThing_181 : decode cX6_readThing 181 = .ok (.iconst 0, 1) := by decide +kernel
theorem dX6_readThing_182 : decode cX6_readThing 182 = .ok (.ior, 1) := by decide +kernel
theorem dX6_readThing_183 : decode cX6_readThing 183 = .ok (.putfield 205, 3) := by decide +kernel
theorem dX6_readThing_186 : decode cX6_readThing 186 = .ok (.aload_n 0, 1) := by decide +kernel
theorem dX6_readThing_187 : decode cX6_readThing 187 = .ok (.getfield 12, 3) := by decide +kernel
theorem dX6_readThing_19 : decode cX6_readThing 19 = .ok (.getfield 170, 3) := by decide +kernel
theorem dX6_readThing_190 : decode cX6_readThing 190 = .ok (.dup, 1) := by decide +kernel
theorem dX6_readThing_191 : decode cX6_readThing 191 = .ok (.getfield 181, 3) := by decide +kernel
theorem dX6_readThing_194 : decode cX6_readThing 194 = .ok (.iconst 1, 1) := by decide +kernel
theorem dX6_readThing_195 : decode cX6_readThing 195 = .ok (.iadd, 1) := by decide +kernel
theorem dX6_readThing_196 : decode cX6_readThing 196 = .ok (.putfield 181, 3) := by decide +kernel
theorem dX6_readThing_199 : decode cX6_readThing 199 = .ok (.return_, 1) := by decide +kernel
theorem dX6_readThing_2 : decode cX6_readThing 2 = .ok (.getfield 12, 3) := by decide +kernel
theorem dX6_readThing_22 : decode cX6_readThing 22 = .ok (.iconst 1, 1) := by decide +kernel
theorem dX6_readThing_23 : decode cX6_readThing 23 = .ok (.isub, 1) := by decide +kernel
theorem dX6_readThing_24 : decode cX6_readThing 24 = .ok (.aload_n 0, 1) := by decide +kernel
theorem dX6_readThing_25 : decode cX6_readThing 25 = .ok (.getfield 12, 3) := by decide +kernel
theorem dX6_readThing_28 : decode cX6_readThing 28 = .ok (.invokevirtual 184, 3) := by decide +kernel
theorem dX6_readThing_31 : decode cX6_readThing 31 = .ok (.invokevirtual 97, 3) := by decide +kernel
theorem dX6_readThing_34 : decode cX6_readThing 34 = .ok (.istore_n 1, 1) := by decide +kernel
theorem dX6_readThing_35 : decode cX6_readThing 35 = .ok (.aload_n 0, 1) := by decide +kernel
theorem dX6_readThing_36 : decode cX6_readThing 36 = .ok (.ldc 187, 2) := by decide +kernel
theorem dX6_readThing_38 : decode cX6_readThing 38 = .ok (.invokevirtual 106, 3) := by decide +kernel
theorem dX6_readThing_41 : decode cX6_readThing 41 = .ok (.aload_n 0, 1) := by decide +kernel
theorem dX6_readThing_42 : decode cX6_readThing 42 = .ok (.iconst 0, 1) := by decide +kernel
theorem dX6_readThing_43 : decode cX6_readThing 43 = .ok (.bipush 99, 2) := by decide +kernel
theorem dX6_readThing_45 : decode cX6_readThing 45 = .ok (.invokevirtual 110, 3) := by decide +kernel
theorem dX6_readThing_48 : decode cX6_readThing 48 = .ok (.istore_n 2, 1) := by decide +kernel
theorem dX6_readThing_49 : decode cX6_readThing 49 = .ok (.aload_n 0, 1) := by decide +kernel
theorem dX6_readThing_5 : decode cX6_readThing 5 = .ok (.getfield 181, 3) := by decide +kernel
theorem dX6_readThing_50 : decode cX6_readThing 50 = .ok (.ldc 189, 2) := by decide +kernel
theorem dX6_readThing_52 : decode cX6_readThing 52 = .ok (.invokevirtual 144, 3) := by decide +kernel
theorem dX6_readThing_55 : decode cX6_readThing 55 = .ok (.ifCond .eq 13, 3) := by decide +kernel
theorem dX6_readThing_58 : decode cX6_readThing 58 = .ok (.aload_n 0, 1) := by decide +kernel
theorem dX6_readThing_59 : decode cX6_readThing 59 = .ok (.iconst 0, 1) := by decide +kernel
theorem dX6_readThing_60 : decode cX6_readThing 60 = .ok (.bipush 9, 2) := by decide +kernel
theorem dX6_readThing_62 : decode cX6_readThing 62 = .ok (.invokevirtual 110, 3) := by decide +kernel
theorem dX6_readThing_65 : decode cX6_readThing 65 = .ok (.goto 4, 3) := by decide +kernel
theorem dX6_readThing_68 : decode cX6_readThing 68 = .ok (.iconst 0, 1) := by decide +kernel
theorem dX6_readThing_69 : decode cX6_readThing 69 = .ok (.istore_n 3, 1) := by decide +kernel
theorem dX6_readThing_70 : decode cX6_readThing 70 = .ok (.aload_n 0, 1) := by decide +kernel
theorem dX6_readThing_71 : decode cX6_readThing 71 = .ok (.ldc 191, 2) := by decide +kernel
theorem dX6_readThing_73 : decode cX6_readThing 73 = .ok (.invokevirtual 144, 3) := by decide +kernel
theorem dX6_readThing_76 : decode cX6_readThing 76 = .ok (.ifCond .eq 13, 3) := by decide +kernel
theorem dX6_readThing_79 : decode cX6_readThing 79 = .ok (.aload_n 0, 1) := by decide +kernel
theorem dX6_readThing_8 : decode cX6_readThing 8 = .ok (.bipush 8, 2) := by decide +kernel
theorem dX6_readThing_80 : decode cX6_readThing 80 = .ok (.iconst 1, 1) := by decide +kernel
theorem dX6_readThing_81 : decode cX6_readThing 81 = .ok (.bipush 9, 2) := by decide +kernel
theorem dX6_readThing_83 : decode cX6_readThing 83 = .ok (.invokevirtual 110, 3) := by decide +kernel
theorem dX6_readThing_86 : decode cX6_readThing 86 = .ok (.goto 4, 3) := by decide +kernel
theorem dX6_readThing_89 : decode cX6_readThing 89 = .ok (.iconst 1, 1) := by decide +kernel
theorem dX6_readThing_90 : decode cX6_readThing 90 = .ok (.istore 4, 2) := by decide +kernel
theorem dX6_readThing_92 : decode cX6_readThing 92 = .ok (.aload_n 0, 1) := by decide +kernel
theorem dX6_readThing_93 : decode cX6_readThing 93 = .ok (.ldc 193, 2) := by decide +kernel
theorem dX6_readThing_95 : decode cX6_readThing 95 = .ok (.invokevirtual 144, 3) := by decide +kernel
theorem dX6_readThing_98 : decode cX6_readThing 98 = .ok (.istore 5, 2) := by decide +kernel
theorem dX6_readTouch_0 : decode cX6_readTouch 0 = .ok (.aload_n 0, 1) := by decide +kernel
theorem dX6_readTouch_1 : decode cX6_readTouch 1 = .ok (.aload_n 0, 1) := by decide +kernel
theorem dX6_readTouch_10 : decode cX6_readTouch 10 = .ok (.invokevirtual 166, 3) := by decide +kernel
theorem dX6_readTouch_13 : decode cX6_readTouch 13 = .ok (.aload_n 0, 1) := by decide +kernel
theorem dX6_readTouch_14 : decode cX6_readTouch 14 = .ok (.iconst 0, 1) := by decide +kernel
theorem dX6_readTouch_15 : decode cX6_readTouch 15 = .ok (.aload_n 0, 1) := by decide +kernel
theorem dX6_readTouch_16 : decode cX6_readTouch 16 = .ok (.getfield 12, 3) := by decide +kernel
theorem dX6_readTouch_19 : decode cX6_readTouch 19 = .ok (.getfield 170, 3) := by decide +kernel
theorem dX6_readTouch_2 : decode cX6_readTouch 2 = .ok (.getfield 12, 3) := by decide +kernel
theorem dX6_readTouch_22 : decode cX6_readTouch 22 = .ok (.iconst 1, 1) := by decide +kernel
theorem dX6_readTouch_23 : decode cX6_readTouch 23 = .ok (.isub, 1) := by decide +kernel
theorem dX6_readTouch_24 : decode cX6_readTouch 24 = .ok (.invokevirtual 110, 3) := by decide +kernel
theorem dX6_readTouch_27 : decode cX6_readTouch 27 = .ok (.istore_n 1, 1) := by decide +kernel
theorem dX6_readTouch_28 : decode cX6_readTouch 28 = .ok (.iload_n 1, 1) := by decide +kernel
theorem dX6_readTouch_29 : decode cX6_readTouch 29 = .ok (.iconst (-1), 1) := by decide +kernel
theorem dX6_readTouch_30 : decode cX6_readTouch 30 = .ok (.if_icmp .ne 7, 3) := by decide +kernel
theorem dX6_readTouch_33 : decode cX6_readTouch 33 = .ok (.iconst 0, 1) := by decide +kernel
theorem dX6_readTouch_34 : decode cX6_readTouch 34 = .ok (.goto 16, 3) := by decide +kernel
theorem dX6_readTouch_37 : decode cX6_readTouch 37 = .ok (.aload_n 0, 1) := by decide +kernel
theorem dX6_readTouch_38 : decode cX6_readTouch 38 = .ok (.getfield 12, 3) := by decide +kernel
theorem dX6_readTouch_41 : decode cX6_readTouch 41 = .ok (.getfield 172, 3) := by decide +kernel
theorem dX6_readTouch_44 : decode cX6_readTouch 44 = .ok (.iload_n 1, 1) := by decide +kernel
theorem dX6_readTouch_45 : decode cX6_readTouch 45 = .ok (.iaload, 1) := by decide +kernel
theorem dX6_readTouch_46 : decode cX6_readTouch 46 = .ok (.iconst 1, 1) := by decide +kernel
theorem dX6_readTouch_47 : decode cX6_readTouch 47 = .ok (.iload_n 1, 1) := by decide +kernel
theorem dX6_readTouch_48 : decode cX6_readTouch 48 = .ok (.ishl, 1) := by decide +kernel
theorem dX6_readTouch_49 : decode cX6_readTouch 49 = .ok (.ior, 1) := by decide +kernel
theorem dX6_readTouch_5 : decode cX6_readTouch 5 = .ok (.getfield 163, 3) := by decide +kernel
theorem dX6_readTouch_50 : decode cX6_readTouch 50 = .ok (.istore_n 2, 1) := by decide +kernel
theorem dX6_readTouch_51 : decode cX6_readTouch 51 = .ok (.aload_n 0, 1) := by decide +kernel
theorem dX6_readTouch_52 : decode cX6_readTouch 52 = .ok (.iconst 0, 1) := by decide +kernel
theorem dX6_readTouch_53 : decode cX6_readTouch 53 = .ok (.aload_n 0, 1) := by decide +kernel
theorem dX6_readTouch_54 : decode cX6_readTouch 54 = .ok (.getfield 12, 3) := by decide +kernel
theorem dX6_readTouch_57 : decode cX6_readTouch 57 = .ok (.getfield 170, 3) := by decide +kernel
theorem dX6_readTouch_60 : decode cX6_readTouch 60 = .ok (.iconst 1, 1) := by decide +kernel
theorem dX6_readTouch_61 : decode cX6_readTouch 61 = .ok (.isub, 1) := by decide +kernel
theorem dX6_readTouch_62 : decode cX6_readTouch 62 = .ok (.iload_n 2, 1) := by decide +kernel
theorem dX6_readTouch_63 : decode cX6_readTouch 63 = .ok (.invokevirtual 97, 3) := by decide +kernel
theorem dX6_readTouch_66 : decode cX6_readTouch 66 = .ok (.istore_n 3, 1) := by decide +kernel
theorem dX6_readTouch_67 : decode cX6_readTouch 67 = .ok (.aload_n 0, 1) := by decide +kernel
theorem dX6_readTouch_68 : decode cX6_readTouch 68 = .ok (.ldc 175, 2) := by decide +kernel
theorem dX6_readTouch_70 : decode cX6_readTouch 70 = .ok (.invokevirtual 144, 3) := by decide +kernel
theorem dX6_readTouch_73 : decode cX6_readTouch 73 = .ok (.istore 4, 2) := by decide +kernel
theorem dX6_readTouch_75 : decode cX6_readTouch 75 = .ok (.aload_n 0, 1) := by decide +kernel
theorem dX6_readTouch_76 : decode cX6_readTouch 76 = .ok (.getfield 36, 3) := by decide +kernel
theorem dX6_readTouch_79 : decode cX6_readTouch 79 = .ok (.ifCond .ne 14, 3) := by decide +kernel
theorem dX6_readTouch_8 : decode cX6_readTouch 8 = .ok (.bipush 20, 2) := by decide +kernel
theorem dX6_readTouch_82 : decode cX6_readTouch 82 = .ok (.aload_n 0, 1) := by decide +kernel
theorem dX6_readTouch_83 : decode cX6_readTouch 83 = .ok (.getfield 12, 3) := by decide +kernel
theorem dX6_readTouch_86 : decode cX6_readTouch 86 = .ok (.iload_n 1, 1) := by decide +kernel
theorem dX6_readTouch_87 : decode cX6_readTouch 87 = .ok (.iload_n 3, 1) := by decide +kernel
theorem dX6_readTouch_88 : decode cX6_readTouch 88 = .ok (.iload 4, 2) := by decide +kernel
theorem dX6_readTouch_90 : decode cX6_readTouch 90 = .ok (.invokevirtual 177, 3) := by decide +kernel
theorem dX6_readTouch_93 : decode cX6_readTouch 93 = .ok (.return_, 1) := by decide +kernel
theorem dX6_read_0 : decode cX6_read 0 = .ok (.aload_n 0, 1) := by decide +kernel
theorem dX6_read_1 : decode cX6_read 1 = .ok (.iload_n 1, 1) := by decide +kernel
theorem dX6_read_11 : decode cX6_read 11 = .ok (.putfield 30, 3) := by decide +kernel
theorem dX6_read_14 : decode cX6_read 14 = .ok (.aload_n 0, 1) := by decide +kernel
theorem dX6_read_15 : decode cX6_read 15 = .ok (.iconst 0, 1) := by decide +kernel
theorem dX6_read_16 : decode cX6_read 16 = .ok (.putfield 33, 3) := by decide +kernel
theorem dX6_read_19 : decode cX6_read 19 = .ok (.aload_n 0, 1) := by decide +kernel
theorem dX6_read_2 : decode cX6_read 2 = .ok (.iconst 0, 1) := by decide +kernel
theorem dX6_read_20 : decode cX6_read 20 = .ok (.iconst 0, 1) := by decide +kernel
theorem dX6_read_21 : decode cX6_read 21 = .ok (.putfield 36, 3) := by decide +kernel
theorem dX6_read_24 : decode cX6_read 24 = .ok (.aload_n 0, 1) := by decide +kernel
theorem dX6_read_25 : decode cX6_read 25 = .ok (.iconst (-1), 1) := by decide +kernel
theorem dX6_read_26 : decode cX6_read 26 = .ok (.putfield 18, 3) := by decide +kernel
theorem dX6_read_29 : decode cX6_read 29 = .ok (.aload_n 0, 1) := by decide +kernel
theorem dX6_read_3 : decode cX6_read 3 = .ok (.aload_n 0, 1) := by decide +kernel
theorem dX6_read_30 : decode cX6_read 30 = .ok (.getfield 12, 3) := by decide +kernel
theorem dX6_read_33 : decode cX6_read 33 = .ok (.invokevirtual 39, 3) := by decide +kernel
theorem dX6_read_36 : decode cX6_read 36 = .ok (.aload_n 0, 1) := by decide +kernel
theorem dX6_read_37 : decode cX6_read 37 = .ok (.invokevirtual 42, 3) := by decide +kernel
theorem dX6_read_4 : decode cX6_read 4 = .ok (.getfield 22, 3) := by decide +kernel
theorem dX6_read_40 : decode cX6_read 40 = .ok (.aload_n 0, 1) := by decide +kernel
theorem dX6_read_41 : decode cX6_read 41 = .ok (.invokevirtual 45, 3) := by decide +kernel
theorem dX6_read_44 : decode cX6_read 44 = .ok (.iconst 0, 1) := by decide +kernel
theorem dX6_read_45 : decode cX6_read 45 = .ok (.istore_n 2, 1) := by decide +kernel
theorem dX6_read_46 : decode cX6_read 46 = .ok (.iload_n 2, 1) := by decide +kernel
theorem dX6_read_47 : decode cX6_read 47 = .ok (.sipush 900, 3) := by decide +kernel
theorem dX6_read_50 : decode cX6_read 50 = .ok (.if_icmp .ge 27, 3) := by decide +kernel
theorem dX6_read_53 : decode cX6_read 53 = .ok (.aload_n 0, 1) := by decide +kernel
theorem dX6_read_54 : decode cX6_read 54 = .ok (.getfield 36, 3) := by decide +kernel
theorem dX6_read_57 : decode cX6_read 57 = .ok (.ifCond .ne 20, 3) := by decide +kernel
theorem dX6_read_60 : decode cX6_read 60 = .ok (.aload_n 0, 1) := by decide +kernel
theorem dX6_read_61 : decode cX6_read 61 = .ok (.getfield 48, 3) := by decide +kernel
theorem dX6_read_64 : decode cX6_read 64 = .ok (.ifCond .eq 13, 3) := by decide +kernel
theorem dX6_read_67 : decode cX6_read 67 = .ok (.aload_n 0, 1) := by decide +kernel
theorem dX6_read_68 : decode cX6_read 68 = .ok (.invokevirtual 51, 3) := by decide +kernel
theorem dX6_read_7 : decode cX6_read 7 = .ok (.arraylength, 1) := by decide +kernel
theorem dX6_read_71 : decode cX6_read 71 = .ok (.iinc 2 1, 3) := by decide +kernel
theorem dX6_read_74 : decode cX6_read 74 = .ok (.goto (-28), 3) := by decide +kernel
theorem dX6_read_77 : decode cX6_read 77 = .ok (.aload_n 0, 1) := by decide +kernel
theorem dX6_read_78 : decode cX6_read 78 = .ok (.getfield 36, 3) := by decide +kernel
theorem dX6_read_8 : decode cX6_read 8 = .ok (.invokestatic 26, 3) := by decide +kernel
theorem dX6_read_81 : decode cX6_read 81 = .ok (.ifCond .ne 10, 3) := by decide +kernel
theorem dX6_read_84 : decode cX6_read 84 = .ok (.aload_n 0, 1) := by decide +kernel
theorem dX6_read_85 : decode cX6_read 85 = .ok (.getfield 12, 3) := by decide +kernel
theorem dX6_read_88 : decode cX6_read 88 = .ok (.invokevirtual 54, 3) := by decide +kernel
theorem dX6_read_91 : decode cX6_read 91 = .ok (.return_, 1) := by decide +kernel
theorem dX9_clear_0 : decode cX9_clear 0 = .ok (.aload_n 0, 1) := by decide +kernel
theorem dX9_clear_1 : decode cX9_clear 1 = .ok (.iconst 0, 1) := by decide +kernel
theorem dX9_clear_10 : decode cX9_clear 10 = .ok (.aload_n 0, 1) := by decide +kernel
theorem dX9_clear_11 : decode cX9_clear 11 = .ok (.iconst 0, 1) := by decide +kernel
theorem dX9_clear_12 : decode cX9_clear 12 = .ok (.putfield 59, 3) := by decide +kernel
theorem dX9_clear_15 : decode cX9_clear 15 = .ok (.aload_n 0, 1) := by decide +kernel
theorem dX9_clear_16 : decode cX9_clear 16 = .ok (.iconst 0, 1) := by decide +kernel
theorem dX9_clear_17 : decode cX9_clear 17 = .ok (.putfield 62, 3) := by decide +kernel
theorem dX9_clear_2 : decode cX9_clear 2 = .ok (.putfield 52, 3) := by decide +kernel
theorem dX9_clear_20 : decode cX9_clear 20 = .ok (.aload_n 0, 1) := by decide +kernel
theorem dX9_clear_21 : decode cX9_clear 21 = .ok (.iconst 0, 1) := by decide +kernel
theorem dX9_clear_22 : decode cX9_clear 22 = .ok (.putfield 65, 3) := by decide +kernel
theorem dX9_clear_25 : decode cX9_clear 25 = .ok (.aload_n 0, 1) := by decide +kernel
theorem dX9_clear_26 : decode cX9_clear 26 = .ok (.iconst 0, 1) := by decide +kernel
theorem dX9_clear_27 : decode cX9_clear 27 = .ok (.putfield 68, 3) := by decide +kernel
theorem dX9_clear_30 : decode cX9_clear 30 = .ok (.aload_n 0, 1) := by decide +kernel
theorem dX9_clear_31 : decode cX9_clear 31 = .ok (.getfield 48, 3) := by decide +kernel
theorem dX9_clear_34 : decode cX9_clear 34 = .ok (.invokevirtual 71, 3) := by decide +kernel
theorem dX9_clear_37 : decode cX9_clear 37 = .ok (.aload_n 0, 1) := by decide +kernel
theorem dX9_clear_38 : decode cX9_clear 38 = .ok (.getfield 48, 3) := by decide +kernel
theorem dX9_clear_41 : decode cX9_clear 41 = .ok (.iconst 1, 1) := by decide +kernel
theorem dX9_clear_42 : decode cX9_clear 42 = .ok (.putfield 74, 3) := by decide +kernel
theorem dX9_clear_45 : decode cX9_clear 45 = .ok (.return_, 1) := by decide +kernel
theorem dX9_clear_5 : decode cX9_clear 5 = .ok (.aload_n 0, 1) := by decide +kernel
theorem dX9_clear_6 : decode cX9_clear 6 = .ok (.iconst 0, 1) := by decide +kernel
theorem dX9_clear_7 : decode cX9_clear 7 = .ok (.putfield 56, 3) := by decide +kernel
theorem dX9_join_0 : decode cX9_join 0 = .ok (.aload_n 0, 1) := by decide +kernel
theorem dX9_join_1 : decode cX9_join 1 = .ok (.getfield 9, 3) := by decide +kernel
theorem dX9_join_10 : decode cX9_join 10 = .ok (.ior, 1) := by decide +kernel
theorem dX9_join_11 : decode cX9_join 11 = .ok (.iastore, 1) := by decide +kernel
theorem dX9_join_12 : decode cX9_join 12 = .ok (.aload_n 0, 1) := by decide +kernel
theorem dX9_join_13 : decode cX9_join 13 = .ok (.getfield 9, 3) := by decide +kernel
theorem dX9_join_16 : decode cX9_join 16 = .ok (.iload_n 2, 1) := by decide +kernel
theorem dX9_join_17 : decode cX9_join 17 = .ok (.dup2, 1) := by decide +kernel
theorem dX9_join_18 : decode cX9_join 18 = .ok (.iaload, 1) := by decide +kernel
theorem dX9_join_19 : decode cX9_join 19 = .ok (.iconst 1, 1) := by decide +kernel
theorem dX9_join_20 : decode cX9_join 20 = .ok (.iload_n 1, 1) := by decide +kernel
theorem dX9_join_21 : decode cX9_join 21 = .ok (.ishl, 1) := by decide +kernel
theorem dX9_join_22 : decode cX9_join 22 = .ok (.ior, 1) := by decide +kernel
theorem dX9_join_23 : decode cX9_join 23 = .ok (.iastore, 1) := by decide +kernel
theorem dX9_join_24 : decode cX9_join 24 = .ok (.iload_n 3, 1) := by decide +kernel
theorem dX9_join_25 : decode cX9_join 25 = .ok (.ifCond .eq 27, 3) := by decide +kernel
theorem dX9_join_28 : decode cX9_join 28 = .ok (.aload_n 0, 1) := by decide +kernel
theorem dX9_join_29 : decode cX9_join 29 = .ok (.getfield 15, 3) := by decide +kernel
theorem dX9_join_32 : decode cX9_join 32 = .ok (.iload_n 1, 1) := by decide +kernel
theorem dX9_join_33 : decode cX9_join 33 = .ok (.dup2, 1) := by decide +kernel
theorem dX9_join_34 : decode cX9_join 34 = .ok (.iaload, 1) := by decide +kernel
theorem dX9_join_35 : decode cX9_join 35 = .ok (.iconst 1, 1) := by decide +kernel
theorem dX9_join_36 : decode cX9_join 36 = .ok (.iload_n 2, 1) := by decide +kernel
theorem dX9_join_37 : decode cX9_join 37 = .ok (.ishl, 1) := by decide +kernel
theorem dX9_join_38 : decode cX9_join 38 = .ok (.ior, 1) := by decide +kernel
theorem dX9_join_39 : decode cX9_join 39 = .ok (.iastore, 1) := by decide +kernel
theorem dX9_join_4 : decode cX9_join 4 = .ok (.iload_n 1, 1) := by decide +kernel
theorem dX9_join_40 : decode cX9_join 40 = .ok (.aload_n 0, 1) := by decide +kernel
theorem dX9_join_41 : decode cX9_join 41 = .ok (.getfield 15, 3) := by decide +kernel
theorem dX9_join_44 : decode cX9_join 44 = .ok (.iload_n 2, 1) := by decide +kernel
theorem dX9_join_45 : decode cX9_join 45 = .ok (.dup2, 1) := by decide +kernel
theorem dX9_join_46 : decode cX9_join 46 = .ok (.iaload, 1) := by decide +kernel
theorem dX9_join_47 : decode cX9_join 47 = .ok (.iconst 1, 1) := by decide +kernel
theorem dX9_join_48 : decode cX9_join 48 = .ok (.iload_n 1, 1) := by decide +kernel
theorem dX9_join_49 : decode cX9_join 49 = .ok (.ishl, 1) := by decide +kernel
theorem dX9_join_5 : decode cX9_join 5 = .ok (.dup2, 1) := by decide +kernel
theorem dX9_join_50 : decode cX9_join 50 = .ok (.ior, 1) := by decide +kernel
theorem dX9_join_51 : decode cX9_join 51 = .ok (.iastore, 1) := by decide +kernel
theorem dX9_join_52 : decode cX9_join 52 = .ok (.aload_n 0, 1) := by decide +kernel
theorem dX9_join_53 : decode cX9_join 53 = .ok (.dup, 1) := by decide +kernel
theorem dX9_join_54 : decode cX9_join 54 = .ok (.getfield 59, 3) := by decide +kernel
theorem dX9_join_57 : decode cX9_join 57 = .ok (.iconst 1, 1) := by decide +kernel
theorem dX9_join_58 : decode cX9_join 58 = .ok (.iadd, 1) := by decide +kernel
theorem dX9_join_59 : decode cX9_join 59 = .ok (.putfield 59, 3) := by decide +kernel
theorem dX9_join_6 : decode cX9_join 6 = .ok (.iaload, 1) := by decide +kernel
theorem dX9_join_62 : decode cX9_join 62 = .ok (.return_, 1) := by decide +kernel
theorem dX9_join_7 : decode cX9_join 7 = .ok (.iconst 1, 1) := by decide +kernel
theorem dX9_join_8 : decode cX9_join 8 = .ok (.iload_n 2, 1) := by decide +kernel
theorem dX9_join_9 : decode cX9_join 9 = .ok (.ishl, 1) := by decide +kernel
theorem dX9_open_0 : decode cX9_open 0 = .ok (.aload_n 0, 1) := by decide +kernel
theorem dX9_open_1 : decode cX9_open 1 = .ok (.iload_n 1, 1) := by decide +kernel
theorem dX9_open_11 : decode cX9_open 11 = .ok (.iconst 0, 1) := by decide +kernel
theorem dX9_open_12 : decode cX9_open 12 = .ok (.istore_n 2, 1) := by decide +kernel
theorem dX9_open_13 : decode cX9_open 13 = .ok (.iload_n 2, 1) := by decide +kernel
theorem dX9_open_14 : decode cX9_open 14 = .ok (.aload_n 0, 1) := by decide +kernel
theorem dX9_open_15 : decode cX9_open 15 = .ok (.getfield 56, 3) := by decide +kernel
theorem dX9_open_18 : decode cX9_open 18 = .ok (.if_icmp .ge 23, 3) := by decide +kernel
theorem dX9_open_2 : decode cX9_open 2 = .ok (.iconst 0, 1) := by decide +kernel
theorem dX9_open_21 : decode cX9_open 21 = .ok (.aload_n 0, 1) := by decide +kernel
theorem dX9_open_22 : decode cX9_open 22 = .ok (.getfield 9, 3) := by decide +kernel
theorem dX9_open_25 : decode cX9_open 25 = .ok (.iload_n 2, 1) := by decide +kernel
theorem dX9_open_26 : decode cX9_open 26 = .ok (.iconst 0, 1) := by decide +kernel
theorem dX9_open_27 : decode cX9_open 27 = .ok (.iastore, 1) := by decide +kernel
theorem dX9_open_28 : decode cX9_open 28 = .ok (.aload_n 0, 1) := by decide +kernel
theorem dX9_open_29 : decode cX9_open 29 = .ok (.getfield 15, 3) := by decide +kernel
theorem dX9_open_3 : decode cX9_open 3 = .ok (.bipush 10, 2) := by decide +kernel
theorem dX9_open_32 : decode cX9_open 32 = .ok (.iload_n 2, 1) := by decide +kernel
theorem dX9_open_33 : decode cX9_open 33 = .ok (.iconst 0, 1) := by decide +kernel
theorem dX9_open_34 : decode cX9_open 34 = .ok (.iastore, 1) := by decide +kernel
theorem dX9_open_35 : decode cX9_open 35 = .ok (.iinc 2 1, 3) := by decide +kernel
theorem dX9_open_38 : decode cX9_open 38 = .ok (.goto (-25), 3) := by decide +kernel
theorem dX9_open_41 : decode cX9_open 41 = .ok (.return_, 1) := by decide +kernel
theorem dX9_open_5 : decode cX9_open 5 = .ok (.invokestatic 101, 3) := by decide +kernel
theorem dX9_open_8 : decode cX9_open 8 = .ok (.putfield 56, 3) := by decide +kernel
set_option maxHeartbeats 4000000 in
set_option maxRecDepth 4000 in
theorem kp_X6_readThing_18 (l : Launch) (M : Mem) (hJ : Iw M) (hp0 : M 18 6 ≤ M 18 5 ∧ M 18 5 ≤ M 18 4) : CV l yX6_readThing cX6_readThing 7 none 9 (fun ad => [.ref (ad 18)]) M (fun M' => Fr [18, 19, 23, 24, 25, 26] M M' ∧ (M' 18 4 = M 18 4 ∧ M' 18 6 ≤ M' 18 5 ∧ M' 18 5 ≤ M' 18 4)) := by
  obtain ⟨hI, hW⟩ := hJ
  have hF : Fr [18, 19, 23, 24, 25, 26] M M := Fr.rf
  refine en_v (by decide +kernel) (fun ad => by exact Nat.le_of_ble_eq_true rfl) (fun D cy ad A p e s m args below meth c Q F hret => ?_)
  refine z_eq (ls' := [(0, .ref (ad 18))]) rfl rfl rfl ?_
  refine z_aload_n F dX6_readThing_0 rfl (q := 0) rfl ?_
  refine z_aload_n F dX6_readThing_1 rfl (q := 0) rfl ?_
  refine rf_X6_12 F gs_18 rfl dX6_readThing_2 ?_
  refine gf_X6_181 F hI gs_19 rfl bd_19_3 dX6_readThing_5 (fun v1 ev1 av1 bv1 => ?_)
  refine z_bipush F dX6_readThing_8 (by decide +kernel) ?_
  refine zv_v (rest := []) F (kp_X6_beginLine_18 l M ⟨hI, hW⟩ v1 (by omega) (by omega) 8 (by omega) (by omega) (by omega)) cs_X6_166 (T := TX6) (N := 9) (ci := 6) rfl gs_18 (by decide) (by decide) rfl rfl rfl (Nat.le_of_ble_eq_true rfl) dX6_readThing_10 (fun M2 hI p3 => ?_)
  obtain ⟨hI, hW⟩ := hI
  obtain ⟨fp3, xp3⟩ := p3
  have hF := hF.call fp3 (by decide)
  obtain ⟨qp3_0, qp3_1, qp3_2, qp3_3, qp3_4⟩ := xp3
  have oqp3_3 : Fx0 M M2 := qp3_3
  clear qp3_3
  have oqp3_4 : Lt0 M2 v1 8 := by unfold Lt0; omega
  clear qp3_4
  refine z_aload_n F dX6_readThing_13 rfl (q := 0) rfl ?_
  refine z_iconst F dX6_readThing_14 ?_
  refine z_aload_n F dX6_readThing_15 rfl (q := 0) rfl ?_
  refine rf_X6_12 F gs_18 rfl dX6_readThing_16 ?_
  refine gf_X6_170 F hI gs_19 rfl bd_19_1 dX6_readThing_19 (fun v4 ev4 av4 bv4 => ?_)
  refine z_iconst F dX6_readThing_22 ?_
  refine z_isub F dX6_readThing_23 ?_
  refine z_aload_n F dX6_readThing_24 rfl (q := 0) rfl ?_
  refine rf_X6_12 F gs_18 rfl dX6_readThing_25 ?_
  refine zv_i (rest := [ii (v4 - 1), ii 0, .ref (ad 18)]) F (k_X9_homes_19 l M2 ⟨hI, hW⟩) cs_X6_184 (T := TX9) (N := 18) (ci := 9) rfl gs_19 (by decide) (by decide) rfl rfl rfl (Nat.le_of_ble_eq_true rfl) dX6_readThing_28 (fun v5 M6 rv5 hI p7 => ?_)
  obtain ⟨hI, hW⟩ := hI
  obtain ⟨⟨av5, bv5⟩, rfl⟩ := p7
  refine zv_i (rest := []) F (kp_X6_takeNumberBut_18 l M2 ⟨hI, hW⟩ 0 (by omega) (by omega) (v4 - 1) (by omega) (by omega) v5 (by omega) (by omega) (by omega)) cs_X6_97 (T := TX6) (N := 9) (ci := 6) rfl gs_18 (by decide) (by decide) rfl rfl rfl (Nat.le_of_ble_eq_true rfl) dX6_readThing_31 (fun v8 M9 rv8 hI p10 => ?_)
  obtain ⟨hI, hW⟩ := hI
  obtain ⟨⟨av8, bv8⟩, fp10, xp10⟩ := p10
  have hF := hF.call fp10 (by decide)
  have hkv8 : -1 ≤ v8 ∧ v8 ≤ 9 := by omega
  obtain ⟨qp10_0, qp10_1, qp10_2, qp10_3, qp10_4⟩ := xp10
  have oqp10_3 : Fx0 M2 M9 := qp10_3
  clear qp10_3
  have oqp10_4 : Ge0 M9 v8 := by unfold Ge0; omega
  clear qp10_4
  refine z_istore_n F dX6_readThing_34 rfl (by decide) (ls' := [(1, ii v8), (0, .ref (ad 18))]) rfl ?_
  refine z_aload_n F dX6_readThing_35 rfl (q := 1) rfl ?_
  refine z_ldcS (j := 6) F dX6_readThing_36 rfl rfl rfl ?_
  refine z_eq (st' := [.ref (ad 1006), .ref (ad 18)]) rfl rfl rfl ?_
  refine zv_v (rest := []) F (kp_X6_needWord_18_1006 l M9 ⟨hI, hW⟩ (by omega)) cs_X6_106 (T := TX6) (N := 9) (ci := 6) rfl gs_18 (by decide) (by decide) rfl rfl rfl (Nat.le_of_ble_eq_true rfl) dX6_readThing_38 (fun M11 hI p12 => ?_)
  obtain ⟨hI, hW⟩ := hI
  obtain ⟨fp12, xp12⟩ := p12
  have hF := hF.call fp12 (by decide)
  obtain ⟨qp12_0, qp12_1, qp12_2, qp12_3⟩ := xp12
  have oqp12_3 : Fx0 M9 M11 := qp12_3
  clear qp12_3
  refine z_aload_n F dX6_readThing_41 rfl (q := 1) rfl ?_
  refine z_iconst F dX6_readThing_42 ?_
  refine z_bipush F dX6_readThing_43 (by decide +kernel) ?_
  refine zv_i (rest := []) F (kp_X6_takeNumber_18 l M11 ⟨hI, hW⟩ 0 (by omega) (by omega) 99 (by omega) (by omega) (by omega)) cs_X6_110 (T := TX6) (N := 9) (ci := 6) rfl gs_18 (by decide) (by decide) rfl rfl rfl (Nat.le_of_ble_eq_true rfl) dX6_readThing_45 (fun v13 M14 rv13 hI p15 => ?_)
  obtain ⟨hI, hW⟩ := hI
  obtain ⟨⟨av13, bv13⟩, fp15, xp15⟩ := p15
  have hF := hF.call fp15 (by decide)
  have hkv13 : -1 ≤ v13 ∧ v13 ≤ 99 := by omega
  obtain ⟨qp15_0, qp15_1, qp15_2, qp15_3, qp15_4⟩ := xp15
  have oqp15_3 : Fx0 M11 M14 := qp15_3
  clear qp15_3
  have oqp15_4 : Ge0 M14 v13 := by unfold Ge0; omega
  clear qp15_4
  refine z_istore_n F dX6_readThing_48 rfl (by decide) (ls' := [(2, ii v13), (1, ii v8), (0, .ref (ad 18))]) rfl ?_
  refine z_aload_n F dX6_readThing_49 rfl (q := 2) rfl ?_
  refine z_ldcS (j := 7) F dX6_readThing_50 rfl rfl rfl ?_
  refine z_eq (st' := [.ref (ad 1007), .ref (ad 18)]) rfl rfl rfl ?_
  refine zv_i (rest := []) F (kp_X6_takeWord_18_1007 l M14 ⟨hI, hW⟩ (by omega)) cs_X6_144 (T := TX6) (N := 9) (ci := 6) rfl gs_18 (by decide) (by decide) rfl rfl rfl (Nat.le_of_ble_eq_true rfl) dX6_readThing_52 (fun v16 M17 rv16 hI p18 => ?_)
  obtain ⟨hI, hW⟩ := hI
  obtain ⟨⟨av16, bv16⟩, fp18, xp18⟩ := p18
  have hF := hF.call fp18 (by decide)
  obtain ⟨qp18_0, qp18_1, qp18_2, qp18_3⟩ := xp18
  refine z_if_eq (tgt := 68) F dX6_readThing_55 (by decide +kernel) (by omega) (fun c19 => ?_) (fun c19 => ?_)
  · refine z_iconst F dX6_readThing_68 ?_
    refine z_istore_n F dX6_readThing_69 rfl (by decide) (ls' := [(3, ii 0), (2, ii v13), (1, ii v8), (0, .ref (ad 18))]) rfl ?_
    refine z_aload_n F dX6_readThing_70 rfl (q := 3) rfl ?_
    refine z_ldcS (j := 8) F dX6_readThing_71 rfl rfl rfl ?_
    refine z_eq (st' := [.ref (ad 1008), .ref (ad 18)]) rfl rfl rfl ?_
    refine zv_i (rest := []) F (kp_X6_takeWord_18_1008 l M17 ⟨hI, hW⟩ (by omega)) cs_X6_144 (T := TX6) (N := 9) (ci := 6) rfl gs_18 (by decide) (by decide) rfl rfl rfl (Nat.le_of_ble_eq_true rfl) dX6_readThing_73 (fun v20 M21 rv20 hI p22 => ?_)
    obtain ⟨hI, hW⟩ := hI
    obtain ⟨⟨av20, bv20⟩, fp22, xp22⟩ := p22
    have hF := hF.call fp22 (by decide)
    obtain ⟨qp22_0, qp22_1, qp22_2, qp22_3⟩ := xp22
    refine z_if_eq (tgt := 89) F dX6_readThing_76 (by decide +kernel) (by omega) (fun c23 => ?_) (fun c23 => ?_)
    · refine z_iconst F dX6_readThing_89 ?_
      refine z_istore F dX6_readThing_90 (by decide) (ls' := [(4, ii 1), (3, ii 0), (2, ii v13), (1, ii v8), (0, .ref (ad 18))]) rfl ?_
      refine z_aload_n F dX6_readThing_92 rfl (q := 4) rfl ?_
      refine z_ldcS (j := 9) F dX6_readThing_93 rfl rfl rfl ?_
      refine z_eq (st' := [.ref (ad 1009), .ref (ad 18)]) rfl rfl rfl ?_
      refine zv_i (rest := []) F (kp_X6_takeWord_18_1009 l M21 ⟨hI, hW⟩ (by omega)) cs_X6_144 (T := TX6) (N := 9) (ci := 6) rfl gs_18 (by decide) (by decide) rfl rfl rfl (Nat.le_of_ble_eq_true rfl) dX6_readThing_95 (fun v24 M25 rv24 hI p26 => ?_)
      obtain ⟨hI, hW⟩ := hI
      obtain ⟨⟨av24, bv24⟩, fp26, xp26⟩ := p26
      have hF := hF.call fp26 (by decide)
      obtain ⟨qp26_0, qp26_1, qp26_2, qp26_3⟩ := xp26
      refine z_istore F dX6_readThing_98 (by decide) (ls' := [(5, ii v24), (4, ii 1), (3, ii 0), (2, ii v13), (1, ii v8), (0, .ref (ad 18))]) rfl ?_
      refine z_aload_n F dX6_readThing_100 rfl (q := 5) rfl ?_
      refine gf_X6_36 F hI gs_18 rfl bd_18_1 dX6_readThing_101 (fun v27 ev27 av27 bv27 => ?_)
      refine z_if_ne (tgt := 199) F dX6_readThing_104 (by decide +kernel) (by omega) (fun c28 => ?_) (fun c28 => ?_)
      · exact hret _ 199 _ ⟨hI, hW⟩ ⟨hF, (by omega)⟩ dX6_readThing_199
      · refine z_aload_n F dX6_readThing_107 rfl (q := 5) rfl ?_
        refine rf_X6_12 F gs_18 rfl dX6_readThing_108 ?_
        refine gf_X6_181 F hI gs_19 rfl bd_19_3 dX6_readThing_111 (fun v29 ev29 av29 bv29 => ?_)
        have q30 : v1 = M2 19 3 := ev1.trans ((fp3.at (by decide)) : M2 19 3 = _).symm
        have q31 : v1 = M9 19 3 := q30.trans ((fp10.at (by decide)) : M9 19 3 = _).symm
        have q32 : v1 = M11 19 3 := q31.trans ((fp12.at (by decide)) : M11 19 3 = _).symm
        have q33 : v1 = M14 19 3 := q32.trans ((fp15.at (by decide)) : M14 19 3 = _).symm
        have q34 : v1 = M17 19 3 := q33.trans ((fp18.at (by decide)) : M17 19 3 = _).symm
        have q35 : v1 = M21 19 3 := q34.trans ((fp22.at (by decide)) : M21 19 3 = _).symm
        have q36 : v1 = M25 19 3 := q35.trans ((fp26.at (by decide)) : M25 19 3 = _).symm
        have zv29 : v1 = v29 := q36.trans ev29.symm
        subst zv29
        have z37 : M25 18 1 = 0 := by omega
        have z38 : M21 18 1 = 0 := by omega
        have z39 : M17 18 1 = 0 := by omega
        have z40 : M14 18 1 = 0 := by omega
        have goqp15_4 := oqp15_4 z40
        have goqp15_4 := goqp15_4
        have z41 : M11 18 1 = 0 := oqp15_3 z40
        have z42 : M9 18 1 = 0 := oqp12_3 z41
        have goqp10_4 := oqp10_4 z42
        have goqp10_4 := goqp10_4
        have z43 : M2 18 1 = 0 := oqp10_3 z42
        have goqp3_4 := oqp3_4 z43
        have goqp3_4 := goqp3_4
        have z44 : M 18 1 = 0 := oqp3_3 z43
        have k45 : 0 ≤ v1 ∧ v1 ≤ 7 := by omega
        refine z_istore F dX6_readThing_114 (by decide) (ls' := [(6, ii v1), (5, ii v24), (4, ii 1), (3, ii 0), (2, ii v13), (1, ii v8), (0, .ref (ad 18))]) rfl ?_
        refine z_aload_n F dX6_readThing_116 rfl (q := 6) rfl ?_
        refine rf_X6_12 F gs_18 rfl dX6_readThing_117 ?_
        refine rf_X6_195 F gs_19 rfl dX6_readThing_120 ?_
        refine z_iload F dX6_readThing_123 (q := 0) rfl ?_
        refine z_iload_n F dX6_readThing_125 rfl (q := 5) rfl ?_
        have k46 : 0 ≤ v8 ∧ v8 ≤ 9 := by omega
        refine z_iast F hI gs_23 (by omega) (by omega) (by decide) bd_23 dX6_readThing_126 (by omega) (by omega) (fun M48 hI sf47 f47 => ?_)
        have tM48_18_1 : M48 18 1 = M25 18 1 := f47 18 1 (fun q => absurd q.1 (by decide))
        have tM48_18_4 : M48 18 4 = M25 18 4 := f47 18 4 (fun q => absurd q.1 (by decide))
        have tM48_18_5 : M48 18 5 = M25 18 5 := f47 18 5 (fun q => absurd q.1 (by decide))
        have tM48_18_6 : M48 18 6 = M25 18 6 := f47 18 6 (fun q => absurd q.1 (by decide))
        have hF := hF.wr f47 (by decide) (by decide)
        have hW : WFk M48 := hW.site f47 (by decide)
        refine z_aload_n F dX6_readThing_127 rfl (q := 6) rfl ?_
        refine rf_X6_12 F gs_18 rfl dX6_readThing_128 ?_
        refine rf_X6_198 F gs_19 rfl dX6_readThing_131 ?_
        refine z_iload F dX6_readThing_134 (q := 0) rfl ?_
        refine z_iload_n F dX6_readThing_136 rfl (q := 4) rfl ?_
        refine z_iast F hI gs_24 (by omega) (by omega) (by decide) bd_24 dX6_readThing_137 (by omega) (by omega) (fun M50 hI sf49 f49 => ?_)
        have tM50_18_1 : M50 18 1 = M48 18 1 := f49 18 1 (fun q => absurd q.1 (by decide))
        have tM50_18_4 : M50 18 4 = M48 18 4 := f49 18 4 (fun q => absurd q.1 (by decide))
        have tM50_18_5 : M50 18 5 = M48 18 5 := f49 18 5 (fun q => absurd q.1 (by decide))
        have tM50_18_6 : M50 18 6 = M48 18 6 := f49 18 6 (fun q => absurd q.1 (by decide))
        have hF := hF.wr f49 (by decide) (by decide)
        have hW : WFk M50 := hW.site f49 (by decide)
        refine z_aload_n F dX6_readThing_138 rfl (q := 6) rfl ?_
        refine rf_X6_12 F gs_18 rfl dX6_readThing_139 ?_
        refine rf_X6_201 F gs_19 rfl dX6_readThing_142 ?_
        refine z_iload F dX6_readThing_145 (q := 0) rfl ?_
        refine z_iload_n F dX6_readThing_147 rfl (q := 3) rfl ?_
        refine z_iast F hI gs_25 (by omega) (by omega) (by decide) bd_25 dX6_readThing_148 (by omega) (by omega) (fun M52 hI sf51 f51 => ?_)
        have tM52_18_1 : M52 18 1 = M50 18 1 := f51 18 1 (fun q => absurd q.1 (by decide))
        have tM52_18_4 : M52 18 4 = M50 18 4 := f51 18 4 (fun q => absurd q.1 (by decide))
        have tM52_18_5 : M52 18 5 = M50 18 5 := f51 18 5 (fun q => absurd q.1 (by decide))
        have tM52_18_6 : M52 18 6 = M50 18 6 := f51 18 6 (fun q => absurd q.1 (by decide))
        have hF := hF.wr f51 (by decide) (by decide)
        have hW : WFk M52 := hW.site f51 (by decide)
        refine z_aload_n F dX6_readThing_149 rfl (q := 6) rfl ?_
        refine rf_X6_12 F gs_18 rfl dX6_readThing_150 ?_
        refine rf_X6_203 F gs_19 rfl dX6_readThing_153 ?_
        refine z_iload F dX6_readThing_156 (q := 0) rfl ?_
        refine z_iload F dX6_readThing_158 (q := 2) rfl ?_
        refine z_iast F hI gs_26 (by omega) (by omega) (by decide) bd_26 dX6_readThing_160 (by omega) (by omega) (fun M54 hI sf53 f53 => ?_)
        have tM54_18_1 : M54 18 1 = M52 18 1 := f53 18 1 (fun q => absurd q.1 (by decide))
        have tM54_18_4 : M54 18 4 = M52 18 4 := f53 18 4 (fun q => absurd q.1 (by decide))
        have tM54_18_5 : M54 18 5 = M52 18 5 := f53 18 5 (fun q => absurd q.1 (by decide))
        have tM54_18_6 : M54 18 6 = M52 18 6 := f53 18 6 (fun q => absurd q.1 (by decide))
        have hF := hF.wr f53 (by decide) (by decide)
        have hW : WFk M54 := hW.site f53 (by decide)
        refine z_aload_n F dX6_readThing_161 rfl (q := 6) rfl ?_
        refine rf_X6_12 F gs_18 rfl dX6_readThing_162 ?_
        refine z_dup F dX6_readThing_165 rfl ?_
        refine gf_X6_205 F hI gs_19 rfl bd_19_12 dX6_readThing_166 (fun v55 ev55 av55 bv55 => ?_)
        refine z_iload F dX6_readThing_169 (q := 1) rfl ?_
        refine z_if_eq (tgt := 181) F dX6_readThing_171 (by decide +kernel) (by omega) (fun c56 => ?_) (fun c56 => ?_)
        · refine z_iconst F dX6_readThing_181 ?_
          refine z_ior0 F dX6_readThing_182 (fun v57 ev57 rv57 => ?_)
          refine pf_X6_205 F hI gs_19 rfl bd_19_12 rfl rfl dX6_readThing_183 (by omega) (by omega) (fun M59 hI sf58 f58 => ?_)
          have tM59_18_1 : M59 18 1 = M54 18 1 := f58 18 1 (fun q => absurd q.1 (by decide))
          have tM59_18_4 : M59 18 4 = M54 18 4 := f58 18 4 (fun q => absurd q.1 (by decide))
          have tM59_18_5 : M59 18 5 = M54 18 5 := f58 18 5 (fun q => absurd q.1 (by decide))
          have tM59_18_6 : M59 18 6 = M54 18 6 := f58 18 6 (fun q => absurd q.1 (by decide))
          have hF := hF.wr f58 (by decide) (by decide)
          have hW : WFk M59 := hW.site f58 (by decide)
          refine z_aload_n F dX6_readThing_186 rfl (q := 6) rfl ?_
          refine rf_X6_12 F gs_18 rfl dX6_readThing_187 ?_
          refine z_dup F dX6_readThing_190 rfl ?_
          refine gf_X6_181 F hI gs_19 rfl bd_19_3 dX6_readThing_191 (fun v60 ev60 av60 bv60 => ?_)
          have q61 : v1 = M48 19 3 := q36.trans (f47 19 3 (fun q => absurd q.1 (by decide))).symm
          have q62 : v1 = M50 19 3 := q61.trans (f49 19 3 (fun q => absurd q.1 (by decide))).symm
          have q63 : v1 = M52 19 3 := q62.trans (f51 19 3 (fun q => absurd q.1 (by decide))).symm
          have q64 : v1 = M54 19 3 := q63.trans (f53 19 3 (fun q => absurd q.1 (by decide))).symm
          have q65 : v1 = M59 19 3 := q64.trans (f58 19 3 (fun q => absurd q.2 (by decide))).symm
          have zv60 : v1 = v60 := q65.trans ev60.symm
          subst zv60
          refine z_iconst F dX6_readThing_194 ?_
          refine z_iadd F dX6_readThing_195 ?_
          refine z_nm (fun v66 ev66 => ?_)
          refine pf_X6_181 F hI gs_19 rfl bd_19_3 rfl rfl dX6_readThing_196 (by omega) (by omega) (fun M68 hI sf67 f67 => ?_)
          have tM68_18_1 : M68 18 1 = M59 18 1 := f67 18 1 (fun q => absurd q.1 (by decide))
          have tM68_18_4 : M68 18 4 = M59 18 4 := f67 18 4 (fun q => absurd q.1 (by decide))
          have tM68_18_5 : M68 18 5 = M59 18 5 := f67 18 5 (fun q => absurd q.1 (by decide))
          have tM68_18_6 : M68 18 6 = M59 18 6 := f67 18 6 (fun q => absurd q.1 (by decide))
          have hF := hF.wr f67 (by decide) (by decide)
          have hW : WFk M68 := hW.site f67 (by decide)
          exact hret _ 199 _ ⟨hI, hW⟩ ⟨hF, (by omega)⟩ dX6_readThing_199
        · refine z_iconst F dX6_readThing_174 ?_
          refine z_iload F dX6_readThing_175 (q := 0) rfl ?_
          refine z_shl1 (k := 7) F dX6_readThing_177 (by decide) (by omega) (by omega) (fun v69 ev69 av69 bv69 => ?_)
          refine z_goto (tgt := 182) F dX6_readThing_178 (by decide +kernel) ?_
          refine z_ior0 F dX6_readThing_182 (fun v70 ev70 rv70 => ?_)
          refine pf_X6_205 F hI gs_19 rfl bd_19_12 rfl rfl dX6_readThing_183 (by omega) (by omega) (fun M72 hI sf71 f71 => ?_)
          have tM72_18_1 : M72 18 1 = M54 18 1 := f71 18 1 (fun q => absurd q.1 (by decide))
          have tM72_18_4 : M72 18 4 = M54 18 4 := f71 18 4 (fun q => absurd q.1 (by decide))
          have tM72_18_5 : M72 18 5 = M54 18 5 := f71 18 5 (fun q => absurd q.1 (by decide))
          have tM72_18_6 : M72 18 6 = M54 18 6 := f71 18 6 (fun q => absurd q.1 (by decide))
          have hF := hF.wr f71 (by decide) (by decide)
          have hW : WFk M72 := hW.site f71 (by decide)
          refine z_aload_n F dX6_readThing_186 rfl (q := 6) rfl ?_
          refine rf_X6_12 F gs_18 rfl dX6_readThing_187 ?_
          refine z_dup F dX6_readThing_190 rfl ?_
          refine gf_X6_181 F hI gs_19 rfl bd_19_3 dX6_readThing_191 (fun v73 ev73 av73 bv73 => ?_)
          have q74 : v1 = M48 19 3 := q36.trans (f47 19 3 (fun q => absurd q.1 (by decide))).symm
          have q75 : v1 = M50 19 3 := q74.trans (f49 19 3 (fun q => absurd q.1 (by decide))).symm
          have q76 : v1 = M52 19 3 := q75.trans (f51 19 3 (fun q => absurd q.1 (by decide))).symm
          have q77 : v1 = M54 19 3 := q76.trans (f53 19 3 (fun q => absurd q.1 (by decide))).symm
          have q78 : v1 = M72 19 3 := q77.trans (f71 19 3 (fun q => absurd q.2 (by decide))).symm
          have zv73 : v1 = v73 := q78.trans ev73.symm
          subst zv73
          refine z_iconst F dX6_readThing_194 ?_
          refine z_iadd F dX6_readThing_195 ?_
          refine z_nm (fun v79 ev79 => ?_)
          refine pf_X6_181 F hI gs_19 rfl bd_19_3 rfl rfl dX6_readThing_196 (by omega) (by omega) (fun M81 hI sf80 f80 => ?_)
          have tM81_18_1 : M81 18 1 = M72 18 1 := f80 18 1 (fun q => absurd q.1 (by decide))
          have tM81_18_4 : M81 18 4 = M72 18 4 := f80 18 4 (fun q => absurd q.1 (by decide))
          have tM81_18_5 : M81 18 5 = M72 18 5 := f80 18 5 (fun q => absurd q.1 (by decide))
          have tM81_18_6 : M81 18 6 = M72 18 6 := f80 18 6 (fun q => absurd q.1 (by decide))
          have hF := hF.wr f80 (by decide) (by decide)
          have hW : WFk M81 := hW.site f80 (by decide)
          exact hret _ 199 _ ⟨hI, hW⟩ ⟨hF, (by omega)⟩ dX6_readThing_199
    · refine z_aload_n F dX6_readThing_79 rfl (q := 3) rfl ?_
      refine z_iconst F dX6_readThing_80 ?_
      refine z_bipush F dX6_readThing_81 (by decide +kernel) ?_
      refine zv_i (rest := []) F (kp_X6_takeNumber_18 l M21 ⟨hI, hW⟩ 1 (by omega) (by omega) 9 (by omega) (by omega) (by omega)) cs_X6_110 (T := TX6) (N := 9) (ci := 6) rfl gs_18 (by decide) (by decide) rfl rfl rfl (Nat.le_of_ble_eq_true rfl) dX6_readThing_83 (fun v82 M83 rv82 hI p84 => ?_)
      obtain ⟨hI, hW⟩ := hI
      obtain ⟨⟨av82, bv82⟩, fp84, xp84⟩ := p84
      have hF := hF.call fp84 (by decide)
      have hkv82 : -1 ≤ v82 ∧ v82 ≤ 9 := by omega
      obtain ⟨qp84_0, qp84_1, qp84_2, qp84_3, qp84_4⟩ := xp84
      have oqp84_3 : Fx0 M21 M83 := qp84_3
      clear qp84_3
      have oqp84_4 : Ge0 M83 v82 := by unfold Ge0; omega
      clear qp84_4
      refine z_goto (tgt := 90) F dX6_readThing_86 (by decide +kernel) ?_
      refine z_istore F dX6_readThing_90 (by decide) (ls' := [(4, ii v82), (3, ii 0), (2, ii v13), (1, ii v8), (0, .ref (ad 18))]) rfl ?_
      refine z_aload_n F dX6_readThing_92 rfl (q := 4) rfl ?_
      refine z_ldcS (j := 9) F dX6_readThing_93 rfl rfl rfl ?_
      refine z_eq (st' := [.ref (ad 1009), .ref (ad 18)]) rfl rfl rfl ?_
      refine zv_i (rest := []) F (kp_X6_takeWord_18_1009 l M83 ⟨hI, hW⟩ (by omega)) cs_X6_144 (T := TX6) (N := 9) (ci := 6) rfl gs_18 (by decide) (by decide) rfl rfl rfl (Nat.le_of_ble_eq_true rfl) dX6_readThing_95 (fun v85 M86 rv85 hI p87 => ?_)
      obtain ⟨hI, hW⟩ := hI
      obtain ⟨⟨av85, bv85⟩, fp87, xp87⟩ := p87
      have hF := hF.call fp87 (by decide)
      obtain ⟨qp87_0, qp87_1, qp87_2, qp87_3⟩ := xp87
      refine z_istore F dX6_readThing_98 (by decide) (ls' := [(5, ii v85), (4, ii v82), (3, ii 0), (2, ii v13), (1, ii v8), (0, .ref (ad 18))]) rfl ?_
      refine z_aload_n F dX6_readThing_100 rfl (q := 5) rfl ?_
      refine gf_X6_36 F hI gs_18 rfl bd_18_1 dX6_readThing_101 (fun v88 ev88 av88 bv88 => ?_)
      refine z_if_ne (tgt := 199) F dX6_readThing_104 (by decide +kernel) (by omega) (fun c89 => ?_) (fun c89 => ?_)
      · exact hret _ 199 _ ⟨hI, hW⟩ ⟨hF, (by omega)⟩ dX6_readThing_199
      · refine z_aload_n F dX6_readThing_107 rfl (q := 5) rfl ?_
        refine rf_X6_12 F gs_18 rfl dX6_readThing_108 ?_
        refine gf_X6_181 F hI gs_19 rfl bd_19_3 dX6_readThing_111 (fun v90 ev90 av90 bv90 => ?_)
        have q91 : v1 = M2 19 3 := ev1.trans ((fp3.at (by decide)) : M2 19 3 = _).symm
        have q92 : v1 = M9 19 3 := q91.trans ((fp10.at (by decide)) : M9 19 3 = _).symm
        have q93 : v1 = M11 19 3 := q92.trans ((fp12.at (by decide)) : M11 19 3 = _).symm
        have q94 : v1 = M14 19 3 := q93.trans ((fp15.at (by decide)) : M14 19 3 = _).symm
        have q95 : v1 = M17 19 3 := q94.trans ((fp18.at (by decide)) : M17 19 3 = _).symm
        have q96 : v1 = M21 19 3 := q95.trans ((fp22.at (by decide)) : M21 19 3 = _).symm
        have q97 : v1 = M83 19 3 := q96.trans ((fp84.at (by decide)) : M83 19 3 = _).symm
        have q98 : v1 = M86 19 3 := q97.trans ((fp87.at (by decide)) : M86 19 3 = _).symm
        have zv90 : v1 = v90 := q98.trans ev90.symm
        subst zv90
        have z99 : M86 18 1 = 0 := by omega
        have z100 : M83 18 1 = 0 := by omega
        have goqp84_4 := oqp84_4 z100
        have goqp84_4 := goqp84_4
        have z101 : M21 18 1 = 0 := oqp84_3 z100
        have z102 : M17 18 1 = 0 := by omega
        have z103 : M14 18 1 = 0 := by omega
        have goqp15_4 := oqp15_4 z103
        have goqp15_4 := goqp15_4
        have z104 : M11 18 1 = 0 := oqp15_3 z103
        have z105 : M9 18 1 = 0 := oqp12_3 z104
        have goqp10_4 := oqp10_4 z105
        have goqp10_4 := goqp10_4
        have z106 : M2 18 1 = 0 := oqp10_3 z105
        have goqp3_4 := oqp3_4 z106
        have goqp3_4 := goqp3_4
        have z107 : M 18 1 = 0 := oqp3_3 z106
        have k108 : 0 ≤ v1 ∧ v1 ≤ 7 := by omega
        refine z_istore F dX6_readThing_114 (by decide) (ls' := [(6, ii v1), (5, ii v85), (4, ii v82), (3, ii 0), (2, ii v13), (1, ii v8), (0, .ref (ad 18))]) rfl ?_
        refine z_aload_n F dX6_readThing_116 rfl (q := 6) rfl ?_
        refine rf_X6_12 F gs_18 rfl dX6_readThing_117 ?_
        refine rf_X6_195 F gs_19 rfl dX6_readThing_120 ?_
        refine z_iload F dX6_readThing_123 (q := 0) rfl ?_
        refine z_iload_n F dX6_readThing_125 rfl (q := 5) rfl ?_
        have k109 : 0 ≤ v8 ∧ v8 ≤ 9 := by omega
        refine z_iast F hI gs_23 (by omega) (by omega) (by decide) bd_23 dX6_readThing_126 (by omega) (by omega) (fun M111 hI sf110 f110 => ?_)
        have tM111_18_1 : M111 18 1 = M86 18 1 := f110 18 1 (fun q => absurd q.1 (by decide))
        have tM111_18_4 : M111 18 4 = M86 18 4 := f110 18 4 (fun q => absurd q.1 (by decide))
        have tM111_18_5 : M111 18 5 = M86 18 5 := f110 18 5 (fun q => absurd q.1 (by decide))
        have tM111_18_6 : M111 18 6 = M86 18 6 := f110 18 6 (fun q => absurd q.1 (by decide))
        have hF := hF.wr f110 (by decide) (by decide)
        have hW : WFk M111 := hW.site f110 (by decide)
        refine z_aload_n F dX6_readThing_127 rfl (q := 6) rfl ?_
        refine rf_X6_12 F gs_18 rfl dX6_readThing_128 ?_
        refine rf_X6_198 F gs_19 rfl dX6_readThing_131 ?_
        refine z_iload F dX6_readThing_134 (q := 0) rfl ?_
        refine z_iload_n F dX6_readThing_136 rfl (q := 4) rfl ?_
        refine z_iast F hI gs_24 (by omega) (by omega) (by decide) bd_24 dX6_readThing_137 (by omega) (by omega) (fun M113 hI sf112 f112 => ?_)
        have tM113_18_1 : M113 18 1 = M111 18 1 := f112 18 1 (fun q => absurd q.1 (by decide))
        have tM113_18_4 : M113 18 4 = M111 18 4 := f112 18 4 (fun q => absurd q.1 (by decide))
        have tM113_18_5 : M113 18 5 = M111 18 5 := f112 18 5 (fun q => absurd q.1 (by decide))
        have tM113_18_6 : M113 18 6 = M111 18 6 := f112 18 6 (fun q => absurd q.1 (by decide))
        have hF := hF.wr f112 (by decide) (by decide)
        have hW : WFk M113 := hW.site f112 (by decide)
        refine z_aload_n F dX6_readThing_138 rfl (q := 6) rfl ?_
        refine rf_X6_12 F gs_18 rfl dX6_readThing_139 ?_
        refine rf_X6_201 F gs_19 rfl dX6_readThing_142 ?_
        refine z_iload F dX6_readThing_145 (q := 0) rfl ?_
        refine z_iload_n F dX6_readThing_147 rfl (q := 3) rfl ?_
        refine z_iast F hI gs_25 (by omega) (by omega) (by decide) bd_25 dX6_readThing_148 (by omega) (by omega) (fun M115 hI sf114 f114 => ?_)
        have tM115_18_1 : M115 18 1 = M113 18 1 := f114 18 1 (fun q => absurd q.1 (by decide))
        have tM115_18_4 : M115 18 4 = M113 18 4 := f114 18 4 (fun q => absurd q.1 (by decide))
        have tM115_18_5 : M115 18 5 = M113 18 5 := f114 18 5 (fun q => absurd q.1 (by decide))
        have tM115_18_6 : M115 18 6 = M113 18 6 := f114 18 6 (fun q => absurd q.1 (by decide))
        have hF := hF.wr f114 (by decide) (by decide)
        have hW : WFk M115 := hW.site f114 (by decide)
        refine z_aload_n F dX6_readThing_149 rfl (q := 6) rfl ?_
        refine rf_X6_12 F gs_18 rfl dX6_readThing_150 ?_
        refine rf_X6_203 F gs_19 rfl dX6_readThing_153 ?_
        refine z_iload F dX6_readThing_156 (q := 0) rfl ?_
        refine z_iload F dX6_readThing_158 (q := 2) rfl ?_
        refine z_iast F hI gs_26 (by omega) (by omega) (by decide) bd_26 dX6_readThing_160 (by omega) (by omega) (fun M117 hI sf116 f116 => ?_)
        have tM117_18_1 : M117 18 1 = M115 18 1 := f116 18 1 (fun q => absurd q.1 (by decide))
        have tM117_18_4 : M117 18 4 = M115 18 4 := f116 18 4 (fun q => absurd q.1 (by decide))
        have tM117_18_5 : M117 18 5 = M115 18 5 := f116 18 5 (fun q => absurd q.1 (by decide))
        have tM117_18_6 : M117 18 6 = M115 18 6 := f116 18 6 (fun q => absurd q.1 (by decide))
        have hF := hF.wr f116 (by decide) (by decide)
        have hW : WFk M117 := hW.site f116 (by decide)
        refine z_aload_n F dX6_readThing_161 rfl (q := 6) rfl ?_
        refine rf_X6_12 F gs_18 rfl dX6_readThing_162 ?_
        refine z_dup F dX6_readThing_165 rfl ?_
        refine gf_X6_205 F hI gs_19 rfl bd_19_12 dX6_readThing_166 (fun v118 ev118 av118 bv118 => ?_)
        refine z_iload F dX6_readThing_169 (q := 1) rfl ?_
        refine z_if_eq (tgt := 181) F dX6_readThing_171 (by decide +kernel) (by omega) (fun c119 => ?_) (fun c119 => ?_)
        · refine z_iconst F dX6_readThing_181 ?_
          refine z_ior0 F dX6_readThing_182 (fun v120 ev120 rv120 => ?_)
          refine pf_X6_205 F hI gs_19 rfl bd_19_12 rfl rfl dX6_readThing_183 (by omega) (by omega) (fun M122 hI sf121 f121 => ?_)
          have tM122_18_1 : M122 18 1 = M117 18 1 := f121 18 1 (fun q => absurd q.1 (by decide))
          have tM122_18_4 : M122 18 4 = M117 18 4 := f121 18 4 (fun q => absurd q.1 (by decide))
          have tM122_18_5 : M122 18 5 = M117 18 5 := f121 18 5 (fun q => absurd q.1 (by decide))
          have tM122_18_6 : M122 18 6 = M117 18 6 := f121 18 6 (fun q => absurd q.1 (by decide))
          have hF := hF.wr f121 (by decide) (by decide)
          have hW : WFk M122 := hW.site f121 (by decide)
          refine z_aload_n F dX6_readThing_186 rfl (q := 6) rfl ?_
          refine rf_X6_12 F gs_18 rfl dX6_readThing_187 ?_
          refine z_dup F dX6_readThing_190 rfl ?_
          refine gf_X6_181 F hI gs_19 rfl bd_19_3 dX6_readThing_191 (fun v123 ev123 av123 bv123 => ?_)
          have q124 : v1 = M111 19 3 := q98.trans (f110 19 3 (fun q => absurd q.1 (by decide))).symm
          have q125 : v1 = M113 19 3 := q124.trans (f112 19 3 (fun q => absurd q.1 (by decide))).symm
          have q126 : v1 = M115 19 3 := q125.trans (f114 19 3 (fun q => absurd q.1 (by decide))).symm
          have q127 : v1 = M117 19 3 := q126.trans (f116 19 3 (fun q => absurd q.1 (by decide))).symm
          have q128 : v1 = M122 19 3 := q127.trans (f121 19 3 (fun q => absurd q.2 (by decide))).symm
          have zv123 : v1 = v123 := q128.trans ev123.symm
          subst zv123
          refine z_iconst F dX6_readThing_194 ?_
          refine z_iadd F dX6_readThing_195 ?_
          refine z_nm (fun v129 ev129 => ?_)
          refine pf_X6_181 F hI gs_19 rfl bd_19_3 rfl rfl dX6_readThing_196 (by omega) (by omega) (fun M131 hI sf130 f130 => ?_)
          have tM131_18_1 : M131 18 1 = M122 18 1 := f130 18 1 (fun q => absurd q.1 (by decide))
          have tM131_18_4 : M131 18 4 = M122 18 4 := f130 18 4 (fun q => absurd q.1 (by decide))
          have tM131_18_5 : M131 18 5 = M122 18 5 := f130 18 5 (fun q => absurd q.1 (by decide))
          have tM131_18_6 : M131 18 6 = M122 18 6 := f130 18 6 (fun q => absurd q.1 (by decide))
          have hF := hF.wr f130 (by decide) (by decide)
          have hW : WFk M131 := hW.site f130 (by decide)
          exact hret _ 199 _ ⟨hI, hW⟩ ⟨hF, (by omega)⟩ dX6_readThing_199
        · refine z_iconst F dX6_readThing_174 ?_
          refine z_iload F dX6_readThing_175 (q := 0) rfl ?_
          refine z_shl1 (k := 7) F dX6_readThing_177 (by decide) (by omega) (by omega) (fun v132 ev132 av132 bv132 => ?_)
          refine z_goto (tgt := 182) F dX6_readThing_178 (by decide +kernel) ?_
          refine z_ior0 F dX6_readThing_182 (fun v133 ev133 rv133 => ?_)
          refine pf_X6_205 F hI gs_19 rfl bd_19_12 rfl rfl dX6_readThing_183 (by omega) (by omega) (fun M135 hI sf134 f134 => ?_)
          have tM135_18_1 : M135 18 1 = M117 18 1 := f134 18 1 (fun q => absurd q.1 (by decide))
          have tM135_18_4 : M135 18 4 = M117 18 4 := f134 18 4 (fun q => absurd q.1 (by decide))
          have tM135_18_5 : M135 18 5 = M117 18 5 := f134 18 5 (fun q => absurd q.1 (by decide))
          have tM135_18_6 : M135 18 6 = M117 18 6 := f134 18 6 (fun q => absurd q.1 (by decide))
          have hF := hF.wr f134 (by decide) (by decide)
          have hW : WFk M135 := hW.site f134 (by decide)
          refine z_aload_n F dX6_readThing_186 rfl (q := 6) rfl ?_
          refine rf_X6_12 F gs_18 rfl dX6_readThing_187 ?_
          refine z_dup F dX6_readThing_190 rfl ?_
          refine gf_X6_181 F hI gs_19 rfl bd_19_3 dX6_readThing_191 (fun v136 ev136 av136 bv136 => ?_)
          have q137 : v1 = M111 19 3 := q98.trans (f110 19 3 (fun q => absurd q.1 (by decide))).symm
          have q138 : v1 = M113 19 3 := q137.trans (f112 19 3 (fun q => absurd q.1 (by decide))).symm
          have q139 : v1 = M115 19 3 := q138.trans (f114 19 3 (fun q => absurd q.1 (by decide))).symm
          have q140 : v1 = M117 19 3 := q139.trans (f116 19 3 (fun q => absurd q.1 (by decide))).symm
          have q141 : v1 = M135 19 3 := q140.trans (f134 19 3 (fun q => absurd q.2 (by decide))).symm
          have zv136 : v1 = v136 := q141.trans ev136.symm
          subst zv136
          refine z_iconst F dX6_readThing_194 ?_
          refine z_iadd F dX6_readThing_195 ?_
          refine z_nm (fun v142 ev142 => ?_)
          refine pf_X6_181 F hI gs_19 rfl bd_19_3 rfl rfl dX6_readThing_196 (by omega) (by omega) (fun M144 hI sf143 f143 => ?_)
          have tM144_18_1 : M144 18 1 = M135 18 1 := f143 18 1 (fun q => absurd q.1 (by decide))
          have tM144_18_4 : M144 18 4 = M135 18 4 := f143 18 4 (fun q => absurd q.1 (by decide))
          have tM144_18_5 : M144 18 5 = M135 18 5 := f143 18 5 (fun q => absurd q.1 (by decide))
          have tM144_18_6 : M144 18 6 = M135 18 6 := f143 18 6 (fun q => absurd q.1 (by decide))
          have hF := hF.wr f143 (by decide) (by decide)
          have hW : WFk M144 := hW.site f143 (by decide)
          exact hret _ 199 _ ⟨hI, hW⟩ ⟨hF, (by omega)⟩ dX6_readThing_199
  · refine z_aload_n F dX6_readThing_58 rfl (q := 2) rfl ?_
    refine z_iconst F dX6_readThing_59 ?_
    refine z_bipush F dX6_readThing_60 (by decide +kernel) ?_
    refine zv_i (rest := []) F (kp_X6_takeNumber_18 l M17 ⟨hI, hW⟩ 0 (by omega) (by omega) 9 (by omega) (by omega) (by omega)) cs_X6_110 (T := TX6) (N := 9) (ci := 6) rfl gs_18 (by decide) (by decide) rfl rfl rfl (Nat.le_of_ble_eq_true rfl) dX6_readThing_62 (fun v145 M146 rv145 hI p147 => ?_)
    obtain ⟨hI, hW⟩ := hI
    obtain ⟨⟨av145, bv145⟩, fp147, xp147⟩ := p147
    have hF := hF.call fp147 (by decide)
    have hkv145 : -1 ≤ v145 ∧ v145 ≤ 9 := by omega
    obtain ⟨qp147_0, qp147_1, qp147_2, qp147_3, qp147_4⟩ := xp147
    have oqp147_3 : Fx0 M17 M146 := qp147_3
    clear qp147_3
    have oqp147_4 : Ge0 M146 v145 := by unfold Ge0; omega
    clear qp147_4
    refine z_goto (tgt := 69) F dX6_readThing_65 (by decide +kernel) ?_
    refine z_istore_n F dX6_readThing_69 rfl (by decide) (ls' := [(3, ii v145), (2, ii v13), (1, ii v8), (0, .ref (ad 18))]) rfl ?_
    refine z_aload_n F dX6_readThing_70 rfl (q := 3) rfl ?_
    refine z_ldcS (j := 8) F dX6_readThing_71 rfl rfl rfl ?_
    refine z_eq (st' := [.ref (ad 1008), .ref (ad 18)]) rfl rfl rfl ?_
    refine zv_i (rest := []) F (kp_X6_takeWord_18_1008 l M146 ⟨hI, hW⟩ (by omega)) cs_X6_144 (T := TX6) (N := 9) (ci := 6) rfl gs_18 (by decide) (by decide) rfl rfl rfl (Nat.le_of_ble_eq_true rfl) dX6_readThing_73 (fun v148 M149 rv148 hI p150 => ?_)
    obtain ⟨hI, hW⟩ := hI
    obtain ⟨⟨av148, bv148⟩, fp150, xp150⟩ := p150
    have hF := hF.call fp150 (by decide)
    obtain ⟨qp150_0, qp150_1, qp150_2, qp150_3⟩ := xp150
    refine z_if_eq (tgt := 89) F dX6_readThing_76 (by decide +kernel) (by omega) (fun c151 => ?_) (fun c151 => ?_)
    · refine z_iconst F dX6_readThing_89 ?_
      refine z_istore F dX6_readThing_90 (by decide) (ls' := [(4, ii 1), (3, ii v145), (2, ii v13), (1, ii v8), (0, .ref (ad 18))]) rfl ?_
      refine z_aload_n F dX6_readThing_92 rfl (q := 4) rfl ?_
      refine z_ldcS (j := 9) F dX6_readThing_93 rfl rfl rfl ?_
      refine z_eq (st' := [.ref (ad 1009), .ref (ad 18)]) rfl rfl rfl ?_
      refine zv_i (rest := []) F (kp_X6_takeWord_18_1009 l M149 ⟨hI, hW⟩ (by omega)) cs_X6_144 (T := TX6) (N := 9) (ci := 6) rfl gs_18 (by decide) (by decide) rfl rfl rfl (Nat.le_of_ble_eq_true rfl) dX6_readThing_95 (fun v152 M153 rv152 hI p154 => ?_)
      obtain ⟨hI, hW⟩ := hI
      obtain ⟨⟨av152, bv152⟩, fp154, xp154⟩ := p154
      have hF := hF.call fp154 (by decide)
      obtain ⟨qp154_0, qp154_1, qp154_2, qp154_3⟩ := xp154
      refine z_istore F dX6_readThing_98 (by decide) (ls' := [(5, ii v152), (4, ii 1), (3, ii v145), (2, ii v13), (1, ii v8), (0, .ref (ad 18))]) rfl ?_
      refine z_aload_n F dX6_readThing_100 rfl (q := 5) rfl ?_
      refine gf_X6_36 F hI gs_18 rfl bd_18_1 dX6_readThing_101 (fun v155 ev155 av155 bv155 => ?_)
      refine z_if_ne (tgt := 199) F dX6_readThing_104 (by decide +kernel) (by omega) (fun c156 => ?_) (fun c156 => ?_)
      · exact hret _ 199 _ ⟨hI, hW⟩ ⟨hF, (by omega)⟩ dX6_readThing_199
      · refine z_aload_n F dX6_readThing_107 rfl (q := 5) rfl ?_
        refine rf_X6_12 F gs_18 rfl dX6_readThing_108 ?_
        refine gf_X6_181 F hI gs_19 rfl bd_19_3 dX6_readThing_111 (fun v157 ev157 av157 bv157 => ?_)
        have q158 : v1 = M2 19 3 := ev1.trans ((fp3.at (by decide)) : M2 19 3 = _).symm
        have q159 : v1 = M9 19 3 := q158.trans ((fp10.at (by decide)) : M9 19 3 = _).symm
        have q160 : v1 = M11 19 3 := q159.trans ((fp12.at (by decide)) : M11 19 3 = _).symm
        have q161 : v1 = M14 19 3 := q160.trans ((fp15.at (by decide)) : M14 19 3 = _).symm
        have q162 : v1 = M17 19 3 := q161.trans ((fp18.at (by decide)) : M17 19 3 = _).symm
        have q163 : v1 = M146 19 3 := q162.trans ((fp147.at (by decide)) : M146 19 3 = _).symm
        have q164 : v1 = M149 19 3 := q163.trans ((fp150.at (by decide)) : M149 19 3 = _).symm
        have q165 : v1 = M153 19 3 := q164.trans ((fp154.at (by decide)) : M153 19 3 = _).symm
        have zv157 : v1 = v157 := q165.trans ev157.symm
        subst zv157
        have z166 : M153 18 1 = 0 := by omega
        have z167 : M149 18 1 = 0 := by omega
        have z168 : M146 18 1 = 0 := by omega
        have goqp147_4 := oqp147_4 z168
        have goqp147_4 := goqp147_4
        have z169 : M17 18 1 = 0 := oqp147_3 z168
        have z170 : M14 18 1 = 0 := by omega
        have goqp15_4 := oqp15_4 z170
        have goqp15_4 := goqp15_4
        have z171 : M11 18 1 = 0 := oqp15_3 z170
        have z172 : M9 18 1 = 0 := oqp12_3 z171
        have goqp10_4 := oqp10_4 z172
        have goqp10_4 := goqp10_4
        have z173 : M2 18 1 = 0 := oqp10_3 z172
        have goqp3_4 := oqp3_4 z173
        have goqp3_4 := goqp3_4
        have z174 : M 18 1 = 0 := oqp3_3 z173
        have k175 : 0 ≤ v1 ∧ v1 ≤ 7 := by omega
        refine z_istore F dX6_readThing_114 (by decide) (ls' := [(6, ii v1), (5, ii v152), (4, ii 1), (3, ii v145), (2, ii v13), (1, ii v8), (0, .ref (ad 18))]) rfl ?_
        refine z_aload_n F dX6_readThing_116 rfl (q := 6) rfl ?_
        refine rf_X6_12 F gs_18 rfl dX6_readThing_117 ?_
        refine rf_X6_195 F gs_19 rfl dX6_readThing_120 ?_
        refine z_iload F dX6_readThing_123 (q := 0) rfl ?_
        refine z_iload_n F dX6_readThing_125 rfl (q := 5) rfl ?_
        have k176 : 0 ≤ v8 ∧ v8 ≤ 9 := by omega
        refine z_iast F hI gs_23 (by omega) (by omega) (by decide) bd_23 dX6_readThing_126 (by omega) (by omega) (fun M178 hI sf177 f177 => ?_)
        have tM178_18_1 : M178 18 1 = M153 18 1 := f177 18 1 (fun q => absurd q.1 (by decide))
        have tM178_18_4 : M178 18 4 = M153 18 4 := f177 18 4 (fun q => absurd q.1 (by decide))
        have tM178_18_5 : M178 18 5 = M153 18 5 := f177 18 5 (fun q => absurd q.1 (by decide))
        have tM178_18_6 : M178 18 6 = M153 18 6 := f177 18 6 (fun q => absurd q.1 (by decide))
        have hF := hF.wr f177 (by decide) (by decide)
        have hW : WFk M178 := hW.site f177 (by decide)
        refine z_aload_n F dX6_readThing_127 rfl (q := 6) rfl ?_
        refine rf_X6_12 F gs_18 rfl dX6_readThing_128 ?_
        refine rf_X6_198 F gs_19 rfl dX6_readThing_131 ?_
        refine z_iload F dX6_readThing_134 (q := 0) rfl ?_
        refine z_iload_n F dX6_readThing_136 rfl (q := 4) rfl ?_
        refine z_iast F hI gs_24 (by omega) (by omega) (by decide) bd_24 dX6_readThing_137 (by omega) (by omega) (fun M180 hI sf179 f179 => ?_)
        have tM180_18_1 : M180 18 1 = M178 18 1 := f179 18 1 (fun q => absurd q.1 (by decide))
        have tM180_18_4 : M180 18 4 = M178 18 4 := f179 18 4 (fun q => absurd q.1 (by decide))
        have tM180_18_5 : M180 18 5 = M178 18 5 := f179 18 5 (fun q => absurd q.1 (by decide))
        have tM180_18_6 : M180 18 6 = M178 18 6 := f179 18 6 (fun q => absurd q.1 (by decide))
        have hF := hF.wr f179 (by decide) (by decide)
        have hW : WFk M180 := hW.site f179 (by decide)
        refine z_aload_n F dX6_readThing_138 rfl (q := 6) rfl ?_
        refine rf_X6_12 F gs_18 rfl dX6_readThing_139 ?_
        refine rf_X6_201 F gs_19 rfl dX6_readThing_142 ?_
        refine z_iload F dX6_readThing_145 (q := 0) rfl ?_
        refine z_iload_n F dX6_readThing_147 rfl (q := 3) rfl ?_
        refine z_iast F hI gs_25 (by omega) (by omega) (by decide) bd_25 dX6_readThing_148 (by omega) (by omega) (fun M182 hI sf181 f181 => ?_)
        have tM182_18_1 : M182 18 1 = M180 18 1 := f181 18 1 (fun q => absurd q.1 (by decide))
        have tM182_18_4 : M182 18 4 = M180 18 4 := f181 18 4 (fun q => absurd q.1 (by decide))
        have tM182_18_5 : M182 18 5 = M180 18 5 := f181 18 5 (fun q => absurd q.1 (by decide))
        have tM182_18_6 : M182 18 6 = M180 18 6 := f181 18 6 (fun q => absurd q.1 (by decide))
        have hF := hF.wr f181 (by decide) (by decide)
        have hW : WFk M182 := hW.site f181 (by decide)
        refine z_aload_n F dX6_readThing_149 rfl (q := 6) rfl ?_
        refine rf_X6_12 F gs_18 rfl dX6_readThing_150 ?_
        refine rf_X6_203 F gs_19 rfl dX6_readThing_153 ?_
        refine z_iload F dX6_readThing_156 (q := 0) rfl ?_
        refine z_iload F dX6_readThing_158 (q := 2) rfl ?_
        refine z_iast F hI gs_26 (by omega) (by omega) (by decide) bd_26 dX6_readThing_160 (by omega) (by omega) (fun M184 hI sf183 f183 => ?_)
        have tM184_18_1 : M184 18 1 = M182 18 1 := f183 18 1 (fun q => absurd q.1 (by decide))
        have tM184_18_4 : M184 18 4 = M182 18 4 := f183 18 4 (fun q => absurd q.1 (by decide))
        have tM184_18_5 : M184 18 5 = M182 18 5 := f183 18 5 (fun q => absurd q.1 (by decide))
        have tM184_18_6 : M184 18 6 = M182 18 6 := f183 18 6 (fun q => absurd q.1 (by decide))
        have hF := hF.wr f183 (by decide) (by decide)
        have hW : WFk M184 := hW.site f183 (by decide)
        refine z_aload_n F dX6_readThing_161 rfl (q := 6) rfl ?_
        refine rf_X6_12 F gs_18 rfl dX6_readThing_162 ?_
        refine z_dup F dX6_readThing_165 rfl ?_
        refine gf_X6_205 F hI gs_19 rfl bd_19_12 dX6_readThing_166 (fun v185 ev185 av185 bv185 => ?_)
        refine z_iload F dX6_readThing_169 (q := 1) rfl ?_
        refine z_if_eq (tgt := 181) F dX6_readThing_171 (by decide +kernel) (by omega) (fun c186 => ?_) (fun c186 => ?_)
        · refine z_iconst F dX6_readThing_181 ?_
          refine z_ior0 F dX6_readThing_182 (fun v187 ev187 rv187 => ?_)
          refine pf_X6_205 F hI gs_19 rfl bd_19_12 rfl rfl dX6_readThing_183 (by omega) (by omega) (fun M189 hI sf188 f188 => ?_)
          have tM189_18_1 : M189 18 1 = M184 18 1 := f188 18 1 (fun q => absurd q.1 (by decide))
          have tM189_18_4 : M189 18 4 = M184 18 4 := f188 18 4 (fun q => absurd q.1 (by decide))
          have tM189_18_5 : M189 18 5 = M184 18 5 := f188 18 5 (fun q => absurd q.1 (by decide))
          have tM189_18_6 : M189 18 6 = M184 18 6 := f188 18 6 (fun q => absurd q.1 (by decide))
          have hF := hF.wr f188 (by decide) (by decide)
          have hW : WFk M189 := hW.site f188 (by decide)
          refine z_aload_n F dX6_readThing_186 rfl (q := 6) rfl ?_
          refine rf_X6_12 F gs_18 rfl dX6_readThing_187 ?_
          refine z_dup F dX6_readThing_190 rfl ?_
          refine gf_X6_181 F hI gs_19 rfl bd_19_3 dX6_readThing_191 (fun v190 ev190 av190 bv190 => ?_)
          have q191 : v1 = M178 19 3 := q165.trans (f177 19 3 (fun q => absurd q.1 (by decide))).symm
          have q192 : v1 = M180 19 3 := q191.trans (f179 19 3 (fun q => absurd q.1 (by decide))).symm
          have q193 : v1 = M182 19 3 := q192.trans (f181 19 3 (fun q => absurd q.1 (by decide))).symm
          have q194 : v1 = M184 19 3 := q193.trans (f183 19 3 (fun q => absurd q.1 (by decide))).symm
          have q195 : v1 = M189 19 3 := q194.trans (f188 19 3 (fun q => absurd q.2 (by decide))).symm
          have zv190 : v1 = v190 := q195.trans ev190.symm
          subst zv190
          refine z_iconst F dX6_readThing_194 ?_
          refine z_iadd F dX6_readThing_195 ?_
          refine z_nm (fun v196 ev196 => ?_)
          refine pf_X6_181 F hI gs_19 rfl bd_19_3 rfl rfl dX6_readThing_196 (by omega) (by omega) (fun M198 hI sf197 f197 => ?_)
          have tM198_18_1 : M198 18 1 = M189 18 1 := f197 18 1 (fun q => absurd q.1 (by decide))
          have tM198_18_4 : M198 18 4 = M189 18 4 := f197 18 4 (fun q => absurd q.1 (by decide))
          have tM198_18_5 : M198 18 5 = M189 18 5 := f197 18 5 (fun q => absurd q.1 (by decide))
          have tM198_18_6 : M198 18 6 = M189 18 6 := f197 18 6 (fun q => absurd q.1 (by decide))
          have hF := hF.wr f197 (by decide) (by decide)
          have hW : WFk M198 := hW.site f197 (by decide)
          exact hret _ 199 _ ⟨hI, hW⟩ ⟨hF, (by omega)⟩ dX6_readThing_199
        · refine z_iconst F dX6_readThing_174 ?_
          refine z_iload F dX6_readThing_175 (q := 0) rfl ?_
          refine z_shl1 (k := 7) F dX6_readThing_177 (by decide) (by omega) (by omega) (fun v199 ev199 av199 bv199 => ?_)
          refine z_goto (tgt := 182) F dX6_readThing_178 (by decide +kernel) ?_
          refine z_ior0 F dX6_readThing_182 (fun v200 ev200 rv200 => ?_)
          refine pf_X6_205 F hI gs_19 rfl bd_19_12 rfl rfl dX6_readThing_183 (by omega) (by omega) (fun M202 hI sf201 f201 => ?_)
          have tM202_18_1 : M202 18 1 = M184 18 1 := f201 18 1 (fun q => absurd q.1 (by decide))
          have tM202_18_4 : M202 18 4 = M184 18 4 := f201 18 4 (fun q => absurd q.1 (by decide))
          have tM202_18_5 : M202 18 5 = M184 18 5 := f201 18 5 (fun q => absurd q.1 (by decide))
          have tM202_18_6 : M202 18 6 = M184 18 6 := f201 18 6 (fun q => absurd q.1 (by decide))
          have hF := hF.wr f201 (by decide) (by decide)
          have hW : WFk M202 := hW.site f201 (by decide)
          refine z_aload_n F dX6_readThing_186 rfl (q := 6) rfl ?_
          refine rf_X6_12 F gs_18 rfl dX6_readThing_187 ?_
          refine z_dup F dX6_readThing_190 rfl ?_
          refine gf_X6_181 F hI gs_19 rfl bd_19_3 dX6_readThing_191 (fun v203 ev203 av203 bv203 => ?_)
          have q204 : v1 = M178 19 3 := q165.trans (f177 19 3 (fun q => absurd q.1 (by decide))).symm
          have q205 : v1 = M180 19 3 := q204.trans (f179 19 3 (fun q => absurd q.1 (by decide))).symm
          have q206 : v1 = M182 19 3 := q205.trans (f181 19 3 (fun q => absurd q.1 (by decide))).symm
          have q207 : v1 = M184 19 3 := q206.trans (f183 19 3 (fun q => absurd q.1 (by decide))).symm
          have q208 : v1 = M202 19 3 := q207.trans (f201 19 3 (fun q => absurd q.2 (by decide))).symm
          have zv203 : v1 = v203 := q208.trans ev203.symm
          subst zv203
          refine z_iconst F dX6_readThing_194 ?_
          refine z_iadd F dX6_readThing_195 ?_
          refine z_nm (fun v209 ev209 => ?_)
          refine pf_X6_181 F hI gs_19 rfl bd_19_3 rfl rfl dX6_readThing_196 (by omega) (by omega) (fun M211 hI sf210 f210 => ?_)
          have tM211_18_1 : M211 18 1 = M202 18 1 := f210 18 1 (fun q => absurd q.1 (by decide))
          have tM211_18_4 : M211 18 4 = M202 18 4 := f210 18 4 (fun q => absurd q.1 (by decide))
          have tM211_18_5 : M211 18 5 = M202 18 5 := f210 18 5 (fun q => absurd q.1 (by decide))
          have tM211_18_6 : M211 18 6 = M202 18 6 := f210 18 6 (fun q => absurd q.1 (by decide))
          have hF := hF.wr f210 (by decide) (by decide)
          have hW : WFk M211 := hW.site f210 (by decide)
          exact hret _ 199 _ ⟨hI, hW⟩ ⟨hF, (by omega)⟩ dX6_readThing_199
    · refine z_aload_n F dX6_readThing_79 rfl (q := 3) rfl ?_
      refine z_iconst F dX6_readThing_80 ?_
      refine z_bipush F dX6_readThing_81 (by decide +kernel) ?_
      refine zv_i (rest := []) F (kp_X6_takeNumber_18 l M149 ⟨hI, hW⟩ 1 (by omega) (by omega) 9 (by omega) (by omega) (by omega)) cs_X6_110 (T := TX6) (N := 9) (ci := 6) rfl gs_18 (by decide) (by decide) rfl rfl rfl (Nat.le_of_ble_eq_true rfl) dX6_readThing_83 (fun v212 M213 rv212 hI p214 => ?_)
      obtain ⟨hI, hW⟩ := hI
      obtain ⟨⟨av212, bv212⟩, fp214, xp214⟩ := p214
      have hF := hF.call fp214 (by decide)
      have hkv212 : -1 ≤ v212 ∧ v212 ≤ 9 := by omega
      obtain ⟨qp214_0, qp214_1, qp214_2, qp214_3, qp214_4⟩ := xp214
      have oqp214_3 : Fx0 M149 M213 := qp214_3
      clear qp214_3
      have oqp214_4 : Ge0 M213 v212 := by unfold Ge0; omega
      clear qp214_4
      refine z_goto (tgt := 90) F dX6_readThing_86 (by decide +kernel) ?_
      refine z_istore F dX6_readThing_90 (by decide) (ls' := [(4, ii v212), (3, ii v145), (2, ii v13), (1, ii v8), (0, .ref (ad 18))]) rfl ?_
      refine z_aload_n F dX6_readThing_92 rfl (q := 4) rfl ?_
      refine z_ldcS (j := 9) F dX6_readThing_93 rfl rfl rfl ?_
      refine z_eq (st' := [.ref (ad 1009), .ref (ad 18)]) rfl rfl rfl ?_
      refine zv_i (rest := []) F (kp_X6_takeWord_18_1009 l M213 ⟨hI, hW⟩ (by omega)) cs_X6_144 (T := TX6) (N := 9) (ci := 6) rfl gs_18 (by decide) (by decide) rfl rfl rfl (Nat.le_of_ble_eq_true rfl) dX6_readThing_95 (fun v215 M216 rv215 hI p217 => ?_)
      obtain ⟨hI, hW⟩ := hI
      obtain ⟨⟨av215, bv215⟩, fp217, xp217⟩ := p217
      have hF := hF.call fp217 (by decide)
      obtain ⟨qp217_0, qp217_1, qp217_2, qp217_3⟩ := xp217
      refine z_istore F dX6_readThing_98 (by decide) (ls' := [(5, ii v215), (4, ii v212), (3, ii v145), (2, ii v13), (1, ii v8), (0, .ref (ad 18))]) rfl ?_
      refine z_aload_n F dX6_readThing_100 rfl (q := 5) rfl ?_
      refine gf_X6_36 F hI gs_18 rfl bd_18_1 dX6_readThing_101 (fun v218 ev218 av218 bv218 => ?_)
      refine z_if_ne (tgt := 199) F dX6_readThing_104 (by decide +kernel) (by omega) (fun c219 => ?_) (fun c219 => ?_)
      · exact hret _ 199 _ ⟨hI, hW⟩ ⟨hF, (by omega)⟩ dX6_readThing_199
      · refine z_aload_n F dX6_readThing_107 rfl (q := 5) rfl ?_
        refine rf_X6_12 F gs_18 rfl dX6_readThing_108 ?_
        refine gf_X6_181 F hI gs_19 rfl bd_19_3 dX6_readThing_111 (fun v220 ev220 av220 bv220 => ?_)
        have q221 : v1 = M2 19 3 := ev1.trans ((fp3.at (by decide)) : M2 19 3 = _).symm
        have q222 : v1 = M9 19 3 := q221.trans ((fp10.at (by decide)) : M9 19 3 = _).symm
        have q223 : v1 = M11 19 3 := q222.trans ((fp12.at (by decide)) : M11 19 3 = _).symm
        have q224 : v1 = M14 19 3 := q223.trans ((fp15.at (by decide)) : M14 19 3 = _).symm
        have q225 : v1 = M17 19 3 := q224.trans ((fp18.at (by decide)) : M17 19 3 = _).symm
        have q226 : v1 = M146 19 3 := q225.trans ((fp147.at (by decide)) : M146 19 3 = _).symm
        have q227 : v1 = M149 19 3 := q226.trans ((fp150.at (by decide)) : M149 19 3 = _).symm
        have q228 : v1 = M213 19 3 := q227.trans ((fp214.at (by decide)) : M213 19 3 = _).symm
        have q229 : v1 = M216 19 3 := q228.trans ((fp217.at (by decide)) : M216 19 3 = _).symm
        have zv220 : v1 = v220 := q229.trans ev220.symm
        subst zv220
        have z230 : M216 18 1 = 0 := by omega
        have z231 : M213 18 1 = 0 := by omega
        have goqp214_4 := oqp214_4 z231
        have goqp214_4 := goqp214_4
        have z232 : M149 18 1 = 0 := oqp214_3 z231
        have z233 : M146 18 1 = 0 := by omega
        have goqp147_4 := oqp147_4 z233
        have goqp147_4 := goqp147_4
        have z234 : M17 18 1 = 0 := oqp147_3 z233
        have z235 : M14 18 1 = 0 := by omega
        have goqp15_4 := oqp15_4 z235
        have goqp15_4 := goqp15_4
        have z236 : M11 18 1 = 0 := oqp15_3 z235
        have z237 : M9 18 1 = 0 := oqp12_3 z236
        have goqp10_4 := oqp10_4 z237
        have goqp10_4 := goqp10_4
        have z238 : M2 18 1 = 0 := oqp10_3 z237
        have goqp3_4 := oqp3_4 z238
        have goqp3_4 := goqp3_4
        have z239 : M 18 1 = 0 := oqp3_3 z238
        have k240 : 0 ≤ v1 ∧ v1 ≤ 7 := by omega
        refine z_istore F dX6_readThing_114 (by decide) (ls' := [(6, ii v1), (5, ii v215), (4, ii v212), (3, ii v145), (2, ii v13), (1, ii v8), (0, .ref (ad 18))]) rfl ?_
        refine z_aload_n F dX6_readThing_116 rfl (q := 6) rfl ?_
        refine rf_X6_12 F gs_18 rfl dX6_readThing_117 ?_
        refine rf_X6_195 F gs_19 rfl dX6_readThing_120 ?_
        refine z_iload F dX6_readThing_123 (q := 0) rfl ?_
        refine z_iload_n F dX6_readThing_125 rfl (q := 5) rfl ?_
        have k241 : 0 ≤ v8 ∧ v8 ≤ 9 := by omega
        refine z_iast F hI gs_23 (by omega) (by omega) (by decide) bd_23 dX6_readThing_126 (by omega) (by omega) (fun M243 hI sf242 f242 => ?_)
        have tM243_18_1 : M243 18 1 = M216 18 1 := f242 18 1 (fun q => absurd q.1 (by decide))
        have tM243_18_4 : M243 18 4 = M216 18 4 := f242 18 4 (fun q => absurd q.1 (by decide))
        have tM243_18_5 : M243 18 5 = M216 18 5 := f242 18 5 (fun q => absurd q.1 (by decide))
        have tM243_18_6 : M243 18 6 = M216 18 6 := f242 18 6 (fun q => absurd q.1 (by decide))
        have hF := hF.wr f242 (by decide) (by decide)
        have hW : WFk M243 := hW.site f242 (by decide)
        refine z_aload_n F dX6_readThing_127 rfl (q := 6) rfl ?_
        refine rf_X6_12 F gs_18 rfl dX6_readThing_128 ?_
        refine rf_X6_198 F gs_19 rfl dX6_readThing_131 ?_
        refine z_iload F dX6_readThing_134 (q := 0) rfl ?_
        refine z_iload_n F dX6_readThing_136 rfl (q := 4) rfl ?_
        refine z_iast F hI gs_24 (by omega) (by omega) (by decide) bd_24 dX6_readThing_137 (by omega) (by omega) (fun M245 hI sf244 f244 => ?_)
        have tM245_18_1 : M245 18 1 = M243 18 1 := f244 18 1 (fun q => absurd q.1 (by decide))
        have tM245_18_4 : M245 18 4 = M243 18 4 := f244 18 4 (fun q => absurd q.1 (by decide))
        have tM245_18_5 : M245 18 5 = M243 18 5 := f244 18 5 (fun q => absurd q.1 (by decide))
        have tM245_18_6 : M245 18 6 = M243 18 6 := f244 18 6 (fun q => absurd q.1 (by decide))
        have hF := hF.wr f244 (by decide) (by decide)
        have hW : WFk M245 := hW.site f244 (by decide)
        refine z_aload_n F dX6_readThing_138 rfl (q := 6) rfl ?_
        refine rf_X6_12 F gs_18 rfl dX6_readThing_139 ?_
        refine rf_X6_201 F gs_19 rfl dX6_readThing_142 ?_
        refine z_iload F dX6_readThing_145 (q := 0) rfl ?_
        refine z_iload_n F dX6_readThing_147 rfl (q := 3) rfl ?_
        refine z_iast F hI gs_25 (by omega) (by omega) (by decide) bd_25 dX6_readThing_148 (by omega) (by omega) (fun M247 hI sf246 f246 => ?_)
        have tM247_18_1 : M247 18 1 = M245 18 1 := f246 18 1 (fun q => absurd q.1 (by decide))
        have tM247_18_4 : M247 18 4 = M245 18 4 := f246 18 4 (fun q => absurd q.1 (by decide))
        have tM247_18_5 : M247 18 5 = M245 18 5 := f246 18 5 (fun q => absurd q.1 (by decide))
        have tM247_18_6 : M247 18 6 = M245 18 6 := f246 18 6 (fun q => absurd q.1 (by decide))
        have hF := hF.wr f246 (by decide) (by decide)
        have hW : WFk M247 := hW.site f246 (by decide)
        refine z_aload_n F dX6_readThing_149 rfl (q := 6) rfl ?_
        refine rf_X6_12 F gs_18 rfl dX6_readThing_150 ?_
        refine rf_X6_203 F gs_19 rfl dX6_readThing_153 ?_
        refine z_iload F dX6_readThing_156 (q := 0) rfl ?_
        refine z_iload F dX6_readThing_158 (q := 2) rfl ?_
        refine z_iast F hI gs_26 (by omega) (by omega) (by decide) bd_26 dX6_readThing_160 (by omega) (by omega) (fun M249 hI sf248 f248 => ?_)
        have tM249_18_1 : M249 18 1 = M247 18 1 := f248 18 1 (fun q => absurd q.1 (by decide))
        have tM249_18_4 : M249 18 4 = M247 18 4 := f248 18 4 (fun q => absurd q.1 (by decide))
        have tM249_18_5 : M249 18 5 = M247 18 5 := f248 18 5 (fun q => absurd q.1 (by decide))
        have tM249_18_6 : M249 18 6 = M247 18 6 := f248 18 6 (fun q => absurd q.1 (by decide))
        have hF := hF.wr f248 (by decide) (by decide)
        have hW : WFk M249 := hW.site f248 (by decide)
        refine z_aload_n F dX6_readThing_161 rfl (q := 6) rfl ?_
        refine rf_X6_12 F gs_18 rfl dX6_readThing_162 ?_
        refine z_dup F dX6_readThing_165 rfl ?_
        refine gf_X6_205 F hI gs_19 rfl bd_19_12 dX6_readThing_166 (fun v250 ev250 av250 bv250 => ?_)
        refine z_iload F dX6_readThing_169 (q := 1) rfl ?_
        refine z_if_eq (tgt := 181) F dX6_readThing_171 (by decide +kernel) (by omega) (fun c251 => ?_) (fun c251 => ?_)
        · refine z_iconst F dX6_readThing_181 ?_
          refine z_ior0 F dX6_readThing_182 (fun v252 ev252 rv252 => ?_)
          refine pf_X6_205 F hI gs_19 rfl bd_19_12 rfl rfl dX6_readThing_183 (by omega) (by omega) (fun M254 hI sf253 f253 => ?_)
          have tM254_18_1 : M254 18 1 = M249 18 1 := f253 18 1 (fun q => absurd q.1 (by decide))
          have tM254_18_4 : M254 18 4 = M249 18 4 := f253 18 4 (fun q => absurd q.1 (by decide))
          have tM254_18_5 : M254 18 5 = M249 18 5 := f253 18 5 (fun q => absurd q.1 (by decide))
          have tM254_18_6 : M254 18 6 = M249 18 6 := f253 18 6 (fun q => absurd q.1 (by decide))
          have hF := hF.wr f253 (by decide) (by decide)
          have hW : WFk M254 := hW.site f253 (by decide)
          refine z_aload_n F dX6_readThing_186 rfl (q := 6) rfl ?_
          refine rf_X6_12 F gs_18 rfl dX6_readThing_187 ?_
          refine z_dup F dX6_readThing_190 rfl ?_
          refine gf_X6_181 F hI gs_19 rfl bd_19_3 dX6_readThing_191 (fun v255 ev255 av255 bv255 => ?_)
          have q256 : v1 = M243 19 3 := q229.trans (f242 19 3 (fun q => absurd q.1 (by decide))).symm
          have q257 : v1 = M245 19 3 := q256.trans (f244 19 3 (fun q => absurd q.1 (by decide))).symm
          have q258 : v1 = M247 19 3 := q257.trans (f246 19 3 (fun q => absurd q.1 (by decide))).symm
          have q259 : v1 = M249 19 3 := q258.trans (f248 19 3 (fun q => absurd q.1 (by decide))).symm
          have q260 : v1 = M254 19 3 := q259.trans (f253 19 3 (fun q => absurd q.2 (by decide))).symm
          have zv255 : v1 = v255 := q260.trans ev255.symm
          subst zv255
          refine z_iconst F dX6_readThing_194 ?_
          refine z_iadd F dX6_readThing_195 ?_
          refine z_nm (fun v261 ev261 => ?_)
          refine pf_X6_181 F hI gs_19 rfl bd_19_3 rfl rfl dX6_readThing_196 (by omega) (by omega) (fun M263 hI sf262 f262 => ?_)
          have tM263_18_1 : M263 18 1 = M254 18 1 := f262 18 1 (fun q => absurd q.1 (by decide))
          have tM263_18_4 : M263 18 4 = M254 18 4 := f262 18 4 (fun q => absurd q.1 (by decide))
          have tM263_18_5 : M263 18 5 = M254 18 5 := f262 18 5 (fun q => absurd q.1 (by decide))
          have tM263_18_6 : M263 18 6 = M254 18 6 := f262 18 6 (fun q => absurd q.1 (by decide))
          have hF := hF.wr f262 (by decide) (by decide)
          have hW : WFk M263 := hW.site f262 (by decide)
          exact hret _ 199 _ ⟨hI, hW⟩ ⟨hF, (by omega)⟩ dX6_readThing_199
        · refine z_iconst F dX6_readThing_174 ?_
          refine z_iload F dX6_readThing_175 (q := 0) rfl ?_
          refine z_shl1 (k := 7) F dX6_readThing_177 (by decide) (by omega) (by omega) (fun v264 ev264 av264 bv264 => ?_)
          refine z_goto (tgt := 182) F dX6_readThing_178 (by decide +kernel) ?_
          refine z_ior0 F dX6_readThing_182 (fun v265 ev265 rv265 => ?_)
          refine pf_X6_205 F hI gs_19 rfl bd_19_12 rfl rfl dX6_readThing_183 (by omega) (by omega) (fun M267 hI sf266 f266 => ?_)
          have tM267_18_1 : M267 18 1 = M249 18 1 := f266 18 1 (fun q => absurd q.1 (by decide))
          have tM267_18_4 : M267 18 4 = M249 18 4 := f266 18 4 (fun q => absurd q.1 (by decide))
          have tM267_18_5 : M267 18 5 = M249 18 5 := f266 18 5 (fun q => absurd q.1 (by decide))
          have tM267_18_6 : M267 18 6 = M249 18 6 := f266 18 6 (fun q => absurd q.1 (by decide))
          have hF := hF.wr f266 (by decide) (by decide)
          have hW : WFk M267 := hW.site f266 (by decide)
          refine z_aload_n F dX6_readThing_186 rfl (q := 6) rfl ?_
          refine rf_X6_12 F gs_18 rfl dX6_readThing_187 ?_
          refine z_dup F dX6_readThing_190 rfl ?_
          refine gf_X6_181 F hI gs_19 rfl bd_19_3 dX6_readThing_191 (fun v268 ev268 av268 bv268 => ?_)
          have q269 : v1 = M243 19 3 := q229.trans (f242 19 3 (fun q => absurd q.1 (by decide))).symm
          have q270 : v1 = M245 19 3 := q269.trans (f244 19 3 (fun q => absurd q.1 (by decide))).symm
          have q271 : v1 = M247 19 3 := q270.trans (f246 19 3 (fun q => absurd q.1 (by decide))).symm
          have q272 : v1 = M249 19 3 := q271.trans (f248 19 3 (fun q => absurd q.1 (by decide))).symm
          have q273 : v1 = M267 19 3 := q272.trans (f266 19 3 (fun q => absurd q.2 (by decide))).symm
          have zv268 : v1 = v268 := q273.trans ev268.symm
          subst zv268
          refine z_iconst F dX6_readThing_194 ?_
          refine z_iadd F dX6_readThing_195 ?_
          refine z_nm (fun v274 ev274 => ?_)
          refine pf_X6_181 F hI gs_19 rfl bd_19_3 rfl rfl dX6_readThing_196 (by omega) (by omega) (fun M276 hI sf275 f275 => ?_)
          have tM276_18_1 : M276 18 1 = M267 18 1 := f275 18 1 (fun q => absurd q.1 (by decide))
          have tM276_18_4 : M276 18 4 = M267 18 4 := f275 18 4 (fun q => absurd q.1 (by decide))
          have tM276_18_5 : M276 18 5 = M267 18 5 := f275 18 5 (fun q => absurd q.1 (by decide))
          have tM276_18_6 : M276 18 6 = M267 18 6 := f275 18 6 (fun q => absurd q.1 (by decide))
          have hF := hF.wr f275 (by decide) (by decide)
          have hW : WFk M276 := hW.site f275 (by decide)
          exact hret _ 199 _ ⟨hI, hW⟩ ⟨hF, (by omega)⟩ dX6_readThing_199
set_option maxHeartbeats 4000000 in
set_option maxRecDepth 4000 in
theorem kp_X6_takeWord_18_1004 (l : Launch) (M : Mem) (hJ : Iw M) (hp0 : M 18 6 ≤ M 18 5 ∧ M 18 5 ≤ M 18 4) : CI l yX6_takeWord cX6_takeWord 3 (some .boolean) 7 (fun ad => [.ref (ad 18), .ref (ad 1004)]) M (fun z M' => (0 ≤ z ∧ z ≤ 1) ∧ Fr [18] M M' ∧ (M' 18 4 = M 18 4 ∧ M' 18 6 ≤ M' 18 5 ∧ M' 18 5 ≤ M' 18 4 ∧ M' 18 1 = M 18 1)) := by
  obtain ⟨hI, hW⟩ := hJ
  have hF : Fr [18] M M := Fr.rf
  refine en_z (by decide +kernel) (fun ad => by exact Nat.le_of_ble_eq_true rfl) (fun D cy ad A p e s m args below meth c Q F hret => ?_)
  refine z_eq (ls' := [(0, .ref (ad 18)), (1, .ref (ad 1004))]) rfl rfl rfl ?_
  refine z_aload_n F dX6_takeWord_0 rfl (q := 0) rfl ?_
  refine z_aload_n F dX6_takeWord_1 rfl (q := 1) rfl ?_
  refine zv_i (rest := []) F (kp_X6_isWord_18_1004 l M ⟨hI, hW⟩ (by omega)) cs_X6_86 (T := TX6) (N := 9) (ci := 6) rfl gs_18 (by decide) (by decide) rfl rfl rfl (Nat.le_of_ble_eq_true rfl) dX6_takeWord_2 (fun v1 M2 rv1 hI p3 => ?_)
  obtain ⟨hI, hW⟩ := hI
  obtain ⟨⟨av1, bv1⟩, rfl⟩ := p3
  refine z_istore_n F dX6_takeWord_5 rfl (by decide) (ls' := [(2, ii v1), (0, .ref (ad 18)), (1, .ref (ad 1004))]) rfl ?_
  refine z_iload_n F dX6_takeWord_6 rfl (q := 0) rfl ?_
  refine z_if_eq (tgt := 14) F dX6_takeWord_7 (by decide +kernel) (by omega) (fun c4 => ?_) (fun c4 => ?_)
  · refine z_iload_n F dX6_takeWord_14 rfl (q := 0) rfl ?_
    exact hret _ _ 15 _ ⟨by omega, by omega⟩ ⟨hI, hW⟩ ⟨⟨by omega, by omega⟩, hF, (by omega)⟩ dX6_takeWord_15
  · refine z_aload_n F dX6_takeWord_10 rfl (q := 1) rfl ?_
    refine zv_v (rest := []) F (kp_X6_advance_18 l M ⟨hI, hW⟩ (by omega)) cs_X6_42 (T := TX6) (N := 9) (ci := 6) rfl gs_18 (by decide) (by decide) rfl rfl rfl (Nat.le_of_ble_eq_true rfl) dX6_takeWord_11 (fun M5 hI p6 => ?_)
    obtain ⟨hI, hW⟩ := hI
    obtain ⟨fp6, xp6⟩ := p6
    have hF := hF.call fp6 (by decide)
    refine z_iload_n F dX6_takeWord_14 rfl (q := 0) rfl ?_
    exact hret _ _ 15 _ ⟨by omega, by omega⟩ ⟨hI, hW⟩ ⟨⟨by omega, by omega⟩, hF, (by omega)⟩ dX6_takeWord_15
set_option maxRecDepth 4000 in
theorem k_X9_join_19 (l : Launch) (M : Mem) (hJ : Iw M) (x0 : Int) (hx0a : 0 ≤ x0) (hx0b : x0 ≤ 9) (x1 : Int) (hx1a : 0 ≤ x1) (hx1b : x1 ≤ 9) (x2 : Int) (hx2a : 0 ≤ x2) (hx2b : x2 ≤ 1) : CV l yX9_join cX9_join 4 none 1 (fun ad => [.ref (ad 19), ii x0, ii x1, ii x2]) M (fun M' => Fr [19, 20, 21] M M') := by
  obtain ⟨hI, hW⟩ := hJ
  have hF : Fr [19, 20, 21] M M := Fr.rf
  refine en_v (by decide +kernel) (fun ad => by exact Nat.le_of_ble_eq_true rfl) (fun D cy ad A p e s m args below meth c Q F hret => ?_)
  refine z_eq (ls' := [(0, .ref (ad 19)), (1, ii x0), (2, ii x1), (3, ii x2)]) rfl rfl rfl ?_
  refine z_aload_n F dX9_join_0 rfl (q := 0) rfl ?_
  refine rf_X9_9 F gs_19 rfl dX9_join_1 ?_
  refine z_iload_n F dX9_join_4 rfl (q := 1) rfl ?_
  refine z_dup2 F dX9_join_5 rfl rfl ?_
  refine z_iald F hI gs_20 (by omega) (by omega) (by decide) bd_20 dX9_join_6 (fun v1 (ev1 : v1 = M 20 _) av1 bv1 => ?_)
  refine z_iconst F dX9_join_7 ?_
  refine z_iload_n F dX9_join_8 rfl (q := 2) rfl ?_
  refine z_shl1 (k := 9) F dX9_join_9 (by decide) (by omega) (by omega) (fun v2 ev2 av2 bv2 => ?_)
  refine z_ior0 F dX9_join_10 (fun v3 ev3 rv3 => ?_)
  refine z_iast F hI gs_20 (by omega) (by omega) (by decide) bd_20 dX9_join_11 (by omega) (by omega) (fun M5 hI sf4 f4 => ?_)
  have hF := hF.wr f4 (by decide) (by decide)
  have hW : WFk M5 := hW.site f4 (by decide)
  refine z_aload_n F dX9_join_12 rfl (q := 0) rfl ?_
  refine rf_X9_9 F gs_19 rfl dX9_join_13 ?_
  refine z_iload_n F dX9_join_16 rfl (q := 2) rfl ?_
  refine z_dup2 F dX9_join_17 rfl rfl ?_
  refine z_iald F hI gs_20 (by omega) (by omega) (by decide) bd_20 dX9_join_18 (fun v6 (ev6 : v6 = M5 20 _) av6 bv6 => ?_)
  refine z_iconst F dX9_join_19 ?_
  refine z_iload_n F dX9_join_20 rfl (q := 1) rfl ?_
  refine z_shl1 (k := 9) F dX9_join_21 (by decide) (by omega) (by omega) (fun v7 ev7 av7 bv7 => ?_)
  refine z_ior0 F dX9_join_22 (fun v8 ev8 rv8 => ?_)
  refine z_iast F hI gs_20 (by omega) (by omega) (by decide) bd_20 dX9_join_23 (by omega) (by omega) (fun M10 hI sf9 f9 => ?_)
  have hF := hF.wr f9 (by decide) (by decide)
  have hW : WFk M10 := hW.site f9 (by decide)
  refine z_iload_n F dX9_join_24 rfl (q := 3) rfl ?_
  refine z_if_eq (tgt := 52) F dX9_join_25 (by decide +kernel) (by omega) (fun c11 => ?_) (fun c11 => ?_)
  · refine z_aload_n F dX9_join_52 rfl (q := 0) rfl ?_
    refine z_dup F dX9_join_53 rfl ?_
    refine gf_X9_59 F hI gs_19 rfl bd_19_2 dX9_join_54 (fun v12 ev12 av12 bv12 => ?_)
    refine z_iconst F dX9_join_57 ?_
    refine z_iadd F dX9_join_58 ?_
    refine z_wrap (fun v13 rv13 wv13 => ?_)
    refine pf_X9_59 F hI gs_19 rfl bd_19_2 rfl rfl dX9_join_59 (by omega) (by omega) (fun M15 hI sf14 f14 => ?_)
    have hF := hF.wr f14 (by decide) (by decide)
    have hW : WFk M15 := hW.site f14 (by decide)
    exact hret _ 62 _ ⟨hI, hW⟩ hF dX9_join_62
  · refine z_aload_n F dX9_join_28 rfl (q := 0) rfl ?_
    refine rf_X9_15 F gs_19 rfl dX9_join_29 ?_
    refine z_iload_n F dX9_join_32 rfl (q := 1) rfl ?_
    refine z_dup2 F dX9_join_33 rfl rfl ?_
    refine z_iald F hI gs_21 (by omega) (by omega) (by decide) bd_21 dX9_join_34 (fun v16 (ev16 : v16 = M10 21 _) av16 bv16 => ?_)
    refine z_iconst F dX9_join_35 ?_
    refine z_iload_n F dX9_join_36 rfl (q := 2) rfl ?_
    refine z_shl1 (k := 9) F dX9_join_37 (by decide) (by omega) (by omega) (fun v17 ev17 av17 bv17 => ?_)
    refine z_ior0 F dX9_join_38 (fun v18 ev18 rv18 => ?_)
    refine z_iast F hI gs_21 (by omega) (by omega) (by decide) bd_21 dX9_join_39 (by omega) (by omega) (fun M20 hI sf19 f19 => ?_)
    have hF := hF.wr f19 (by decide) (by decide)
    have hW : WFk M20 := hW.site f19 (by decide)
    refine z_aload_n F dX9_join_40 rfl (q := 0) rfl ?_
    refine rf_X9_15 F gs_19 rfl dX9_join_41 ?_
    refine z_iload_n F dX9_join_44 rfl (q := 2) rfl ?_
    refine z_dup2 F dX9_join_45 rfl rfl ?_
    refine z_iald F hI gs_21 (by omega) (by omega) (by decide) bd_21 dX9_join_46 (fun v21 (ev21 : v21 = M20 21 _) av21 bv21 => ?_)
    refine z_iconst F dX9_join_47 ?_
    refine z_iload_n F dX9_join_48 rfl (q := 1) rfl ?_
    refine z_shl1 (k := 9) F dX9_join_49 (by decide) (by omega) (by omega) (fun v22 ev22 av22 bv22 => ?_)
    refine z_ior0 F dX9_join_50 (fun v23 ev23 rv23 => ?_)
    refine z_iast F hI gs_21 (by omega) (by omega) (by decide) bd_21 dX9_join_51 (by omega) (by omega) (fun M25 hI sf24 f24 => ?_)
    have hF := hF.wr f24 (by decide) (by decide)
    have hW : WFk M25 := hW.site f24 (by decide)
    refine z_aload_n F dX9_join_52 rfl (q := 0) rfl ?_
    refine z_dup F dX9_join_53 rfl ?_
    refine gf_X9_59 F hI gs_19 rfl bd_19_2 dX9_join_54 (fun v26 ev26 av26 bv26 => ?_)
    refine z_iconst F dX9_join_57 ?_
    refine z_iadd F dX9_join_58 ?_
    refine z_wrap (fun v27 rv27 wv27 => ?_)
    refine pf_X9_59 F hI gs_19 rfl bd_19_2 rfl rfl dX9_join_59 (by omega) (by omega) (fun M29 hI sf28 f28 => ?_)
    have hF := hF.wr f28 (by decide) (by decide)
    have hW : WFk M29 := hW.site f28 (by decide)
    exact hret _ 62 _ ⟨hI, hW⟩ hF dX9_join_62
set_option maxHeartbeats 4000000 in
set_option maxRecDepth 4000 in
theorem kp_X6_readTouch_18 (l : Launch) (M : Mem) (hJ : Iw M) (hp0 : M 18 6 ≤ M 18 5 ∧ M 18 5 ≤ M 18 4) : CV l yX6_readTouch cX6_readTouch 5 none 9 (fun ad => [.ref (ad 18)]) M (fun M' => Fr [18, 19, 20, 21] M M' ∧ (M' 18 4 = M 18 4 ∧ M' 18 6 ≤ M' 18 5 ∧ M' 18 5 ≤ M' 18 4)) := by
  obtain ⟨hI, hW⟩ := hJ
  have hF : Fr [18, 19, 20, 21] M M := Fr.rf
  refine en_v (by decide +kernel) (fun ad => by exact Nat.le_of_ble_eq_true rfl) (fun D cy ad A p e s m args below meth c Q F hret => ?_)
  refine z_eq (ls' := [(0, .ref (ad 18))]) rfl rfl rfl ?_
  refine z_aload_n F dX6_readTouch_0 rfl (q := 0) rfl ?_
  refine z_aload_n F dX6_readTouch_1 rfl (q := 0) rfl ?_
  refine rf_X6_12 F gs_18 rfl dX6_readTouch_2 ?_
  refine gf_X6_163 F hI gs_19 rfl bd_19_2 dX6_readTouch_5 (fun v1 ev1 av1 bv1 => ?_)
  refine z_bipush F dX6_readTouch_8 (by decide +kernel) ?_
  refine zv_v (rest := []) F (kp_X6_beginLine_18 l M ⟨hI, hW⟩ v1 (by omega) (by omega) 20 (by omega) (by omega) (by omega)) cs_X6_166 (T := TX6) (N := 9) (ci := 6) rfl gs_18 (by decide) (by decide) rfl rfl rfl (Nat.le_of_ble_eq_true rfl) dX6_readTouch_10 (fun M2 hI p3 => ?_)
  obtain ⟨hI, hW⟩ := hI
  obtain ⟨fp3, xp3⟩ := p3
  have hF := hF.call fp3 (by decide)
  refine z_aload_n F dX6_readTouch_13 rfl (q := 0) rfl ?_
  refine z_iconst F dX6_readTouch_14 ?_
  refine z_aload_n F dX6_readTouch_15 rfl (q := 0) rfl ?_
  refine rf_X6_12 F gs_18 rfl dX6_readTouch_16 ?_
  refine gf_X6_170 F hI gs_19 rfl bd_19_1 dX6_readTouch_19 (fun v4 ev4 av4 bv4 => ?_)
  refine z_iconst F dX6_readTouch_22 ?_
  refine z_isub F dX6_readTouch_23 ?_
  refine zv_i (rest := []) F (kp_X6_takeNumber_18 l M2 ⟨hI, hW⟩ 0 (by omega) (by omega) (v4 - 1) (by omega) (by omega) (by omega)) cs_X6_110 (T := TX6) (N := 9) (ci := 6) rfl gs_18 (by decide) (by decide) rfl rfl rfl (Nat.le_of_ble_eq_true rfl) dX6_readTouch_24 (fun v5 M6 rv5 hI p7 => ?_)
  obtain ⟨hI, hW⟩ := hI
  obtain ⟨⟨av5, bv5⟩, fp7, xp7⟩ := p7
  have hF := hF.call fp7 (by decide)
  have hkv5 : -1 ≤ v5 ∧ v5 ≤ 9 := by omega
  refine z_istore_n F dX6_readTouch_27 rfl (by decide) (ls' := [(1, ii v5), (0, .ref (ad 18))]) rfl ?_
  refine z_iload_n F dX6_readTouch_28 rfl (q := 0) rfl ?_
  refine z_iconst F dX6_readTouch_29 ?_
  refine z_icmp_ne (tgt := 37) F dX6_readTouch_30 (by decide +kernel) (by omega) (by omega) (fun c8 => ?_) (fun c8 => ?_)
  · refine z_aload_n F dX6_readTouch_37 rfl (q := 1) rfl ?_
    refine rf_X6_12 F gs_18 rfl dX6_readTouch_38 ?_
    refine rf_X6_172 F gs_19 rfl dX6_readTouch_41 ?_
    refine z_iload_n F dX6_readTouch_44 rfl (q := 0) rfl ?_
    refine z_iald F hI gs_20 (by omega) (by omega) (by decide) bd_20 dX6_readTouch_45 (fun v9 (ev9 : v9 = M6 20 _) av9 bv9 => ?_)
    refine z_iconst F dX6_readTouch_46 ?_
    refine z_iload_n F dX6_readTouch_47 rfl (q := 0) rfl ?_
    refine z_shl1 (k := 9) F dX6_readTouch_48 (by decide) (by omega) (by omega) (fun v10 ev10 av10 bv10 => ?_)
    refine z_ior0 F dX6_readTouch_49 (fun v11 ev11 rv11 => ?_)
    refine z_istore_n F dX6_readTouch_50 rfl (by decide) (ls' := [(2, ii v11), (1, ii v5), (0, .ref (ad 18))]) rfl ?_
    refine z_aload_n F dX6_readTouch_51 rfl (q := 2) rfl ?_
    refine z_iconst F dX6_readTouch_52 ?_
    refine z_aload_n F dX6_readTouch_53 rfl (q := 2) rfl ?_
    refine rf_X6_12 F gs_18 rfl dX6_readTouch_54 ?_
    refine gf_X6_170 F hI gs_19 rfl bd_19_1 dX6_readTouch_57 (fun v12 ev12 av12 bv12 => ?_)
    have q13 : v4 = M6 19 1 := ev4.trans ((fp7.at (by decide)) : M6 19 1 = _).symm
    have zv12 : v4 = v12 := q13.trans ev12.symm
    subst zv12
    refine z_iconst F dX6_readTouch_60 ?_
    refine z_isub F dX6_readTouch_61 ?_
    refine z_iload_n F dX6_readTouch_62 rfl (q := 0) rfl ?_
    refine zv_i (rest := []) F (kp_X6_takeNumberBut_18 l M6 ⟨hI, hW⟩ 0 (by omega) (by omega) (v4 - 1) (by omega) (by omega) v11 (by omega) (by omega) (by omega)) cs_X6_97 (T := TX6) (N := 9) (ci := 6) rfl gs_18 (by decide) (by decide) rfl rfl rfl (Nat.le_of_ble_eq_true rfl) dX6_readTouch_63 (fun v14 M15 rv14 hI p16 => ?_)
    obtain ⟨hI, hW⟩ := hI
    obtain ⟨⟨av14, bv14⟩, fp16, xp16⟩ := p16
    have hF := hF.call fp16 (by decide)
    have hkv14 : -1 ≤ v14 ∧ v14 ≤ 9 := by omega
    refine z_istore_n F dX6_readTouch_66 rfl (by decide) (ls' := [(3, ii v14), (2, ii v11), (1, ii v5), (0, .ref (ad 18))]) rfl ?_
    refine z_aload_n F dX6_readTouch_67 rfl (q := 3) rfl ?_
    refine z_ldcS (j := 4) F dX6_readTouch_68 rfl rfl rfl ?_
    refine z_eq (st' := [.ref (ad 1004), .ref (ad 18)]) rfl rfl rfl ?_
    refine zv_i (rest := []) F (kp_X6_takeWord_18_1004 l M15 ⟨hI, hW⟩ (by omega)) cs_X6_144 (T := TX6) (N := 9) (ci := 6) rfl gs_18 (by decide) (by decide) rfl rfl rfl (Nat.le_of_ble_eq_true rfl) dX6_readTouch_70 (fun v17 M18 rv17 hI p19 => ?_)
    obtain ⟨hI, hW⟩ := hI
    obtain ⟨⟨av17, bv17⟩, fp19, xp19⟩ := p19
    have hF := hF.call fp19 (by decide)
    refine z_istore F dX6_readTouch_73 (by decide) (ls' := [(4, ii v17), (3, ii v14), (2, ii v11), (1, ii v5), (0, .ref (ad 18))]) rfl ?_
    refine z_aload_n F dX6_readTouch_75 rfl (q := 4) rfl ?_
    refine gf_X6_36 F hI gs_18 rfl bd_18_1 dX6_readTouch_76 (fun v20 ev20 av20 bv20 => ?_)
    refine z_if_ne (tgt := 93) F dX6_readTouch_79 (by decide +kernel) (by omega) (fun c21 => ?_) (fun c21 => ?_)
    · exact hret _ 93 _ ⟨hI, hW⟩ ⟨hF, (by omega)⟩ dX6_readTouch_93
    · refine z_aload_n F dX6_readTouch_82 rfl (q := 4) rfl ?_
      refine rf_X6_12 F gs_18 rfl dX6_readTouch_83 ?_
      refine z_iload_n F dX6_readTouch_86 rfl (q := 3) rfl ?_
      refine z_iload_n F dX6_readTouch_87 rfl (q := 1) rfl ?_
      refine z_iload F dX6_readTouch_88 (q := 0) rfl ?_
      have k22 : 0 ≤ v14 ∧ v14 ≤ 9 := by omega
      have k23 : 0 ≤ v5 ∧ v5 ≤ 9 := by omega
      refine zv_v (rest := []) F (k_X9_join_19 l M18 ⟨hI, hW⟩ v5 (by omega) (by omega) v14 (by omega) (by omega) v17 (by omega) (by omega)) cs_X6_177 (T := TX9) (N := 18) (ci := 9) rfl gs_19 (by decide) (by decide) rfl rfl rfl (Nat.le_of_ble_eq_true rfl) dX6_readTouch_90 (fun M24 hI p25 => ?_)
      obtain ⟨hI, hW⟩ := hI
      have fp25 := p25
      have hF := hF.call fp25 (by decide)
      have tM24_18_1 : M24 18 1 = M18 18 1 := fp25.at (by decide)
      have tM24_18_4 : M24 18 4 = M18 18 4 := fp25.at (by decide)
      have tM24_18_5 : M24 18 5 = M18 18 5 := fp25.at (by decide)
      have tM24_18_6 : M24 18 6 = M18 18 6 := fp25.at (by decide)
      exact hret _ 93 _ ⟨hI, hW⟩ ⟨hF, (by omega)⟩ dX6_readTouch_93
  · refine z_iconst F dX6_readTouch_33 ?_
    refine z_goto (tgt := 50) F dX6_readTouch_34 (by decide +kernel) ?_
    refine z_istore_n F dX6_readTouch_50 rfl (by decide) (ls' := [(2, ii 0), (1, ii v5), (0, .ref (ad 18))]) rfl ?_
    refine z_aload_n F dX6_readTouch_51 rfl (q := 2) rfl ?_
    refine z_iconst F dX6_readTouch_52 ?_
    refine z_aload_n F dX6_readTouch_53 rfl (q := 2) rfl ?_
    refine rf_X6_12 F gs_18 rfl dX6_readTouch_54 ?_
    refine gf_X6_170 F hI gs_19 rfl bd_19_1 dX6_readTouch_57 (fun v26 ev26 av26 bv26 => ?_)
    have q27 : v4 = M6 19 1 := ev4.trans ((fp7.at (by decide)) : M6 19 1 = _).symm
    have zv26 : v4 = v26 := q27.trans ev26.symm
    subst zv26
    refine z_iconst F dX6_readTouch_60 ?_
    refine z_isub F dX6_readTouch_61 ?_
    refine z_iload_n F dX6_readTouch_62 rfl (q := 0) rfl ?_
    refine zv_i (rest := []) F (kp_X6_takeNumberBut_18 l M6 ⟨hI, hW⟩ 0 (by omega) (by omega) (v4 - 1) (by omega) (by omega) 0 (by omega) (by omega) (by omega)) cs_X6_97 (T := TX6) (N := 9) (ci := 6) rfl gs_18 (by decide) (by decide) rfl rfl rfl (Nat.le_of_ble_eq_true rfl) dX6_readTouch_63 (fun v28 M29 rv28 hI p30 => ?_)
    obtain ⟨hI, hW⟩ := hI
    obtain ⟨⟨av28, bv28⟩, fp30, xp30⟩ := p30
    have hF := hF.call fp30 (by decide)
    have hkv28 : -1 ≤ v28 ∧ v28 ≤ 9 := by omega
    refine z_istore_n F dX6_readTouch_66 rfl (by decide) (ls' := [(3, ii v28), (2, ii 0), (1, ii v5), (0, .ref (ad 18))]) rfl ?_
    refine z_aload_n F dX6_readTouch_67 rfl (q := 3) rfl ?_
    refine z_ldcS (j := 4) F dX6_readTouch_68 rfl rfl rfl ?_
    refine z_eq (st' := [.ref (ad 1004), .ref (ad 18)]) rfl rfl rfl ?_
    refine zv_i (rest := []) F (kp_X6_takeWord_18_1004 l M29 ⟨hI, hW⟩ (by omega)) cs_X6_144 (T := TX6) (N := 9) (ci := 6) rfl gs_18 (by decide) (by decide) rfl rfl rfl (Nat.le_of_ble_eq_true rfl) dX6_readTouch_70 (fun v31 M32 rv31 hI p33 => ?_)
    obtain ⟨hI, hW⟩ := hI
    obtain ⟨⟨av31, bv31⟩, fp33, xp33⟩ := p33
    have hF := hF.call fp33 (by decide)
    refine z_istore F dX6_readTouch_73 (by decide) (ls' := [(4, ii v31), (3, ii v28), (2, ii 0), (1, ii v5), (0, .ref (ad 18))]) rfl ?_
    refine z_aload_n F dX6_readTouch_75 rfl (q := 4) rfl ?_
    refine gf_X6_36 F hI gs_18 rfl bd_18_1 dX6_readTouch_76 (fun v34 ev34 av34 bv34 => ?_)
    refine z_if_ne (tgt := 93) F dX6_readTouch_79 (by decide +kernel) (by omega) (fun c35 => ?_) (fun c35 => ?_)
    · exact hret _ 93 _ ⟨hI, hW⟩ ⟨hF, (by omega)⟩ dX6_readTouch_93
    · refine z_aload_n F dX6_readTouch_82 rfl (q := 4) rfl ?_
      refine rf_X6_12 F gs_18 rfl dX6_readTouch_83 ?_
      refine z_iload_n F dX6_readTouch_86 rfl (q := 3) rfl ?_
      refine z_iload_n F dX6_readTouch_87 rfl (q := 1) rfl ?_
      refine z_iload F dX6_readTouch_88 (q := 0) rfl ?_
      have k36 : 0 ≤ v28 ∧ v28 ≤ 9 := by omega
      have k37 : 0 ≤ v5 ∧ v5 ≤ 9 := by omega
      refine zv_v (rest := []) F (k_X9_join_19 l M32 ⟨hI, hW⟩ v5 (by omega) (by omega) v28 (by omega) (by omega) v31 (by omega) (by omega)) cs_X6_177 (T := TX9) (N := 18) (ci := 9) rfl gs_19 (by decide) (by decide) rfl rfl rfl (Nat.le_of_ble_eq_true rfl) dX6_readTouch_90 (fun M38 hI p39 => ?_)
      obtain ⟨hI, hW⟩ := hI
      have fp39 := p39
      have hF := hF.call fp39 (by decide)
      have tM38_18_1 : M38 18 1 = M32 18 1 := fp39.at (by decide)
      have tM38_18_4 : M38 18 4 = M32 18 4 := fp39.at (by decide)
      have tM38_18_5 : M38 18 5 = M32 18 5 := fp39.at (by decide)
      have tM38_18_6 : M38 18 6 = M32 18 6 := fp39.at (by decide)
      exact hret _ 93 _ ⟨hI, hW⟩ ⟨hF, (by omega)⟩ dX6_readTouch_93
set_option maxHeartbeats 4000000 in
set_option maxRecDepth 4000 in
theorem kp_X6_readLine_18 (l : Launch) (M : Mem) (hJ : Iw M) (hp0 : M 18 6 ≤ M 18 5 ∧ M 18 5 ≤ M 18 4) : CV l yX6_readLine cX6_readLine 1 none 74 (fun ad => [.ref (ad 18)]) M (fun M' => Fr [18, 19, 20, 21, 23, 24, 25, 26, 27, 28, 29, 31, 32] M M' ∧ (M' 18 4 = M 18 4 ∧ M' 18 6 ≤ M' 18 5 ∧ M' 18 5 ≤ M' 18 4)) := by
  obtain ⟨hI, hW⟩ := hJ
  have hF : Fr [18, 19, 20, 21, 23, 24, 25, 26, 27, 28, 29, 31, 32] M M := Fr.rf
  refine en_v (by decide +kernel) (fun ad => by exact Nat.le_of_ble_eq_true rfl) (fun D cy ad A p e s m args below meth c Q F hret => ?_)
  refine z_eq (ls' := [(0, .ref (ad 18))]) rfl rfl rfl ?_
  refine z_aload_n F dX6_readLine_0 rfl (q := 0) rfl ?_
  refine z_ldcS (j := 3) F dX6_readLine_1 rfl rfl rfl ?_
  refine z_eq (st' := [.ref (ad 1003), .ref (ad 18)]) rfl rfl rfl ?_
  refine zv_i (rest := []) F (kp_X6_isWord_18_1003 l M ⟨hI, hW⟩ (by omega)) cs_X6_86 (T := TX6) (N := 9) (ci := 6) rfl gs_18 (by decide) (by decide) rfl rfl rfl (Nat.le_of_ble_eq_true rfl) dX6_readLine_3 (fun v1 M2 rv1 hI p3 => ?_)
  obtain ⟨hI, hW⟩ := hI
  obtain ⟨⟨av1, bv1⟩, rfl⟩ := p3
  refine z_if_eq (tgt := 16) F dX6_readLine_6 (by decide +kernel) (by omega) (fun c4 => ?_) (fun c4 => ?_)
  · refine z_aload_n F dX6_readLine_16 rfl (q := 0) rfl ?_
    refine z_ldcS (j := 5) F dX6_readLine_17 rfl rfl rfl ?_
    refine z_eq (st' := [.ref (ad 1005), .ref (ad 18)]) rfl rfl rfl ?_
    refine zv_i (rest := []) F (kp_X6_isWord_18_1005 l M ⟨hI, hW⟩ (by omega)) cs_X6_86 (T := TX6) (N := 9) (ci := 6) rfl gs_18 (by decide) (by decide) rfl rfl rfl (Nat.le_of_ble_eq_true rfl) dX6_readLine_19 (fun v5 M6 rv5 hI p7 => ?_)
    obtain ⟨hI, hW⟩ := hI
    obtain ⟨⟨av5, bv5⟩, rfl⟩ := p7
    refine z_if_eq (tgt := 32) F dX6_readLine_22 (by decide +kernel) (by omega) (fun c8 => ?_) (fun c8 => ?_)
    · refine z_aload_n F dX6_readLine_32 rfl (q := 0) rfl ?_
      refine z_ldcS (j := 10) F dX6_readLine_33 rfl rfl rfl ?_
      refine z_eq (st' := [.ref (ad 1010), .ref (ad 18)]) rfl rfl rfl ?_
      refine zv_i (rest := []) F (kp_X6_isWord_18_1010 l M ⟨hI, hW⟩ (by omega)) cs_X6_86 (T := TX6) (N := 9) (ci := 6) rfl gs_18 (by decide) (by decide) rfl rfl rfl (Nat.le_of_ble_eq_true rfl) dX6_readLine_35 (fun v9 M10 rv9 hI p11 => ?_)
      obtain ⟨hI, hW⟩ := hI
      obtain ⟨⟨av9, bv9⟩, rfl⟩ := p11
      refine z_if_eq (tgt := 48) F dX6_readLine_38 (by decide +kernel) (by omega) (fun c12 => ?_) (fun c12 => ?_)
      · refine z_aload_n F dX6_readLine_48 rfl (q := 0) rfl ?_
        refine z_ldcS (j := 13) F dX6_readLine_49 rfl rfl rfl ?_
        refine z_eq (st' := [.ref (ad 1013), .ref (ad 18)]) rfl rfl rfl ?_
        refine zv_i (rest := []) F (kp_X6_takeWord_18_1013 l M ⟨hI, hW⟩ (by omega)) cs_X6_144 (T := TX6) (N := 9) (ci := 6) rfl gs_18 (by decide) (by decide) rfl rfl rfl (Nat.le_of_ble_eq_true rfl) dX6_readLine_51 (fun v13 M14 rv13 hI p15 => ?_)
        obtain ⟨hI, hW⟩ := hI
        obtain ⟨⟨av13, bv13⟩, fp15, xp15⟩ := p15
        have hF := hF.call fp15 (by decide)
        refine z_if_eq (tgt := 64) F dX6_readLine_54 (by decide +kernel) (by omega) (fun c16 => ?_) (fun c16 => ?_)
        · refine z_aload_n F dX6_readLine_64 rfl (q := 0) rfl ?_
          refine z_ldcS (j := 18) F dX6_readLine_65 rfl rfl rfl ?_
          refine z_eq (st' := [.ref (ad 1018), .ref (ad 18)]) rfl rfl rfl ?_
          refine zv_i (rest := []) F (kp_X6_takeWord_18_1018 l M14 ⟨hI, hW⟩ (by omega)) cs_X6_144 (T := TX6) (N := 9) (ci := 6) rfl gs_18 (by decide) (by decide) rfl rfl rfl (Nat.le_of_ble_eq_true rfl) dX6_readLine_67 (fun v17 M18 rv17 hI p19 => ?_)
          obtain ⟨hI, hW⟩ := hI
          obtain ⟨⟨av17, bv17⟩, fp19, xp19⟩ := p19
          have hF := hF.call fp19 (by decide)
          refine z_if_eq (tgt := 91) F dX6_readLine_70 (by decide +kernel) (by omega) (fun c20 => ?_) (fun c20 => ?_)
          · refine z_aload_n F dX6_readLine_91 rfl (q := 0) rfl ?_
            refine zv_v (rest := []) F (kp_X6_refuse_18 l M18 ⟨hI, hW⟩) cs_X6_90 (T := TX6) (N := 9) (ci := 6) rfl gs_18 (by decide) (by decide) rfl rfl rfl (Nat.le_of_ble_eq_true rfl) dX6_readLine_92 (fun M21 hI p22 => ?_)
            obtain ⟨hI, hW⟩ := hI
            obtain ⟨fp22, xp22⟩ := p22
            have hF := hF.call fp22 (by decide)
            refine z_aload_n F dX6_readLine_95 rfl (q := 0) rfl ?_
            refine zv_v (rest := []) F (kp_X6_endLine_18 l M21 ⟨hI, hW⟩ (by omega)) cs_X6_117 (T := TX6) (N := 9) (ci := 6) rfl gs_18 (by decide) (by decide) rfl rfl rfl (Nat.le_of_ble_eq_true rfl) dX6_readLine_96 (fun M23 hI p24 => ?_)
            obtain ⟨hI, hW⟩ := hI
            obtain ⟨fp24, xp24⟩ := p24
            have hF := hF.call fp24 (by decide)
            exact hret _ 99 _ ⟨hI, hW⟩ ⟨hF, (by omega)⟩ dX6_readLine_99
          · refine z_aload_n F dX6_readLine_73 rfl (q := 0) rfl ?_
            refine rf_X6_12 F gs_18 rfl dX6_readLine_74 ?_
            refine rf_X6_152 F gs_19 rfl dX6_readLine_77 ?_
            refine zv_v (rest := []) F (k_X2_strike_31 l M18 ⟨hI, hW⟩) cs_X6_155 (T := TX2) (N := 5) (ci := 2) rfl gs_31 (by decide) (by decide) rfl rfl rfl (Nat.le_of_ble_eq_true rfl) dX6_readLine_80 (fun M25 hI p26 => ?_)
            obtain ⟨hI, hW⟩ := hI
            have fp26 := p26
            have hF := hF.call fp26 (by decide)
            have tM25_18_1 : M25 18 1 = M18 18 1 := fp26.at (by decide)
            have tM25_18_4 : M25 18 4 = M18 18 4 := fp26.at (by decide)
            have tM25_18_5 : M25 18 5 = M18 18 5 := fp26.at (by decide)
            have tM25_18_6 : M25 18 6 = M18 18 6 := fp26.at (by decide)
            refine z_aload_n F dX6_readLine_83 rfl (q := 0) rfl ?_
            refine z_iconst F dX6_readLine_84 ?_
            refine zv_v (rest := []) F ((RdX_all l 61).1 M25 ⟨hI, hW⟩ 0 (by omega) (by omega) (by omega) (by omega)) cs_X6_160 (T := TX6) (N := 9) (ci := 6) rfl gs_18 (by decide) (by decide) rfl rfl rfl (Nat.le_of_ble_eq_true rfl) dX6_readLine_85 (fun M27 hI p28 => ?_)
            obtain ⟨hI, hW⟩ := hI
            obtain ⟨fp28, xp28⟩ := p28
            have hF := hF.call fp28 (by decide)
            refine z_goto (tgt := 95) F dX6_readLine_88 (by decide +kernel) ?_
            refine z_aload_n F dX6_readLine_95 rfl (q := 0) rfl ?_
            refine zv_v (rest := []) F (kp_X6_endLine_18 l M27 ⟨hI, hW⟩ (by omega)) cs_X6_117 (T := TX6) (N := 9) (ci := 6) rfl gs_18 (by decide) (by decide) rfl rfl rfl (Nat.le_of_ble_eq_true rfl) dX6_readLine_96 (fun M29 hI p30 => ?_)
            obtain ⟨hI, hW⟩ := hI
            obtain ⟨fp30, xp30⟩ := p30
            have hF := hF.call fp30 (by decide)
            exact hret _ 99 _ ⟨hI, hW⟩ ⟨hF, (by omega)⟩ dX6_readLine_99
        · refine z_aload_n F dX6_readLine_57 rfl (q := 0) rfl ?_
          refine zv_v (rest := []) F (kp_X6_readZero_18 l M14 ⟨hI, hW⟩ (by omega)) cs_X6_147 (T := TX6) (N := 9) (ci := 6) rfl gs_18 (by decide) (by decide) rfl rfl rfl (Nat.le_of_ble_eq_true rfl) dX6_readLine_58 (fun M31 hI p32 => ?_)
          obtain ⟨hI, hW⟩ := hI
          obtain ⟨fp32, xp32⟩ := p32
          have hF := hF.call fp32 (by decide)
          refine z_goto (tgt := 95) F dX6_readLine_61 (by decide +kernel) ?_
          refine z_aload_n F dX6_readLine_95 rfl (q := 0) rfl ?_
          refine zv_v (rest := []) F (kp_X6_endLine_18 l M31 ⟨hI, hW⟩ (by omega)) cs_X6_117 (T := TX6) (N := 9) (ci := 6) rfl gs_18 (by decide) (by decide) rfl rfl rfl (Nat.le_of_ble_eq_true rfl) dX6_readLine_96 (fun M33 hI p34 => ?_)
          obtain ⟨hI, hW⟩ := hI
          obtain ⟨fp34, xp34⟩ := p34
          have hF := hF.call fp34 (by decide)
          exact hret _ 99 _ ⟨hI, hW⟩ ⟨hF, (by omega)⟩ dX6_readLine_99
      · refine z_aload_n F dX6_readLine_41 rfl (q := 0) rfl ?_
        refine zv_v (rest := []) F (kp_X6_readEvent_18 l M ⟨hI, hW⟩ (by omega)) cs_X6_139 (T := TX6) (N := 9) (ci := 6) rfl gs_18 (by decide) (by decide) rfl rfl rfl (Nat.le_of_ble_eq_true rfl) dX6_readLine_42 (fun M35 hI p36 => ?_)
        obtain ⟨hI, hW⟩ := hI
        obtain ⟨fp36, xp36⟩ := p36
        have hF := hF.call fp36 (by decide)
        refine z_goto (tgt := 95) F dX6_readLine_45 (by decide +kernel) ?_
        refine z_aload_n F dX6_readLine_95 rfl (q := 0) rfl ?_
        refine zv_v (rest := []) F (kp_X6_endLine_18 l M35 ⟨hI, hW⟩ (by omega)) cs_X6_117 (T := TX6) (N := 9) (ci := 6) rfl gs_18 (by decide) (by decide) rfl rfl rfl (Nat.le_of_ble_eq_true rfl) dX6_readLine_96 (fun M37 hI p38 => ?_)
        obtain ⟨hI, hW⟩ := hI
        obtain ⟨fp38, xp38⟩ := p38
        have hF := hF.call fp38 (by decide)
        exact hret _ 99 _ ⟨hI, hW⟩ ⟨hF, (by omega)⟩ dX6_readLine_99
    · refine z_aload_n F dX6_readLine_25 rfl (q := 0) rfl ?_
      refine zv_v (rest := []) F (kp_X6_readThing_18 l M ⟨hI, hW⟩ (by omega)) cs_X6_134 (T := TX6) (N := 9) (ci := 6) rfl gs_18 (by decide) (by decide) rfl rfl rfl (Nat.le_of_ble_eq_true rfl) dX6_readLine_26 (fun M39 hI p40 => ?_)
      obtain ⟨hI, hW⟩ := hI
      obtain ⟨fp40, xp40⟩ := p40
      have hF := hF.call fp40 (by decide)
      refine z_goto (tgt := 95) F dX6_readLine_29 (by decide +kernel) ?_
      refine z_aload_n F dX6_readLine_95 rfl (q := 0) rfl ?_
      refine zv_v (rest := []) F (kp_X6_endLine_18 l M39 ⟨hI, hW⟩ (by omega)) cs_X6_117 (T := TX6) (N := 9) (ci := 6) rfl gs_18 (by decide) (by decide) rfl rfl rfl (Nat.le_of_ble_eq_true rfl) dX6_readLine_96 (fun M41 hI p42 => ?_)
      obtain ⟨hI, hW⟩ := hI
      obtain ⟨fp42, xp42⟩ := p42
      have hF := hF.call fp42 (by decide)
      exact hret _ 99 _ ⟨hI, hW⟩ ⟨hF, (by omega)⟩ dX6_readLine_99
  · refine z_aload_n F dX6_readLine_9 rfl (q := 0) rfl ?_
    refine zv_v (rest := []) F (kp_X6_readTouch_18 l M ⟨hI, hW⟩ (by omega)) cs_X6_129 (T := TX6) (N := 9) (ci := 6) rfl gs_18 (by decide) (by decide) rfl rfl rfl (Nat.le_of_ble_eq_true rfl) dX6_readLine_10 (fun M43 hI p44 => ?_)
    obtain ⟨hI, hW⟩ := hI
    obtain ⟨fp44, xp44⟩ := p44
    have hF := hF.call fp44 (by decide)
    refine z_goto (tgt := 95) F dX6_readLine_13 (by decide +kernel) ?_
    refine z_aload_n F dX6_readLine_95 rfl (q := 0) rfl ?_
    refine zv_v (rest := []) F (kp_X6_endLine_18 l M43 ⟨hI, hW⟩ (by omega)) cs_X6_117 (T := TX6) (N := 9) (ci := 6) rfl gs_18 (by decide) (by decide) rfl rfl rfl (Nat.le_of_ble_eq_true rfl) dX6_readLine_96 (fun M45 hI p46 => ?_)
    obtain ⟨hI, hW⟩ := hI
    obtain ⟨fp46, xp46⟩ := p46
    have hF := hF.call fp46 (by decide)
    exact hret _ 99 _ ⟨hI, hW⟩ ⟨hF, (by omega)⟩ dX6_readLine_99
set_option maxRecDepth 4000 in
theorem k_X9_clear_19 (l : Launch) (M : Mem) (hJ : Iw M) : CV l yX9_clear cX9_clear 1 none 2 (fun ad => [.ref (ad 19)]) M (fun M' => Fr [19, 31] M M') := by
  obtain ⟨hI, hW⟩ := hJ
  have hF : Fr [19, 31] M M := Fr.rf
  refine en_v (by decide +kernel) (fun ad => by exact Nat.le_of_ble_eq_true rfl) (fun D cy ad A p e s m args below meth c Q F hret => ?_)
  refine z_eq (ls' := [(0, .ref (ad 19))]) rfl rfl rfl ?_
  refine z_aload_n F dX9_clear_0 rfl (q := 0) rfl ?_
  refine z_iconst F dX9_clear_1 ?_
  refine pf_X9_52 F hI gs_19 rfl bd_19_0 rfl rfl dX9_clear_2 (by omega) (by omega) (fun M2 hI sf1 f1 => ?_)
  have hF := hF.wr f1 (by decide) (by decide)
  have hW : WFk M2 := hW.site f1 (by decide)
  refine z_aload_n F dX9_clear_5 rfl (q := 0) rfl ?_
  refine z_iconst F dX9_clear_6 ?_
  refine pf_X9_56 F hI gs_19 rfl bd_19_1 rfl rfl dX9_clear_7 (by omega) (by omega) (fun M4 hI sf3 f3 => ?_)
  have hF := hF.wr f3 (by decide) (by decide)
  have hW : WFk M4 := hW.site f3 (by decide)
  refine z_aload_n F dX9_clear_10 rfl (q := 0) rfl ?_
  refine z_iconst F dX9_clear_11 ?_
  refine pf_X9_59 F hI gs_19 rfl bd_19_2 rfl rfl dX9_clear_12 (by omega) (by omega) (fun M6 hI sf5 f5 => ?_)
  have hF := hF.wr f5 (by decide) (by decide)
  have hW : WFk M6 := hW.site f5 (by decide)
  refine z_aload_n F dX9_clear_15 rfl (q := 0) rfl ?_
  refine z_iconst F dX9_clear_16 ?_
  refine pf_X9_62 F hI gs_19 rfl bd_19_3 rfl rfl dX9_clear_17 (by omega) (by omega) (fun M8 hI sf7 f7 => ?_)
  have hF := hF.wr f7 (by decide) (by decide)
  have hW : WFk M8 := hW.site f7 (by decide)
  refine z_aload_n F dX9_clear_20 rfl (q := 0) rfl ?_
  refine z_iconst F dX9_clear_21 ?_
  refine pf_X9_65 F hI gs_19 rfl bd_19_4 rfl rfl dX9_clear_22 (by omega) (by omega) (fun M10 hI sf9 f9 => ?_)
  have hF := hF.wr f9 (by decide) (by decide)
  have hW : WFk M10 := hW.site f9 (by decide)
  refine z_aload_n F dX9_clear_25 rfl (q := 0) rfl ?_
  refine z_iconst F dX9_clear_26 ?_
  refine pf_X9_68 F hI gs_19 rfl bd_19_12 rfl rfl dX9_clear_27 (by omega) (by omega) (fun M12 hI sf11 f11 => ?_)
  have hF := hF.wr f11 (by decide) (by decide)
  have hW : WFk M12 := hW.site f11 (by decide)
  refine z_aload_n F dX9_clear_30 rfl (q := 0) rfl ?_
  refine rf_X9_48 F gs_19 rfl dX9_clear_31 ?_
  refine zv_v (rest := []) F (k_X2_strike_31 l M12 ⟨hI, hW⟩) cs_X9_71 (T := TX2) (N := 5) (ci := 2) rfl gs_31 (by decide) (by decide) rfl rfl rfl (Nat.le_of_ble_eq_true rfl) dX9_clear_34 (fun M13 hI p14 => ?_)
  obtain ⟨hI, hW⟩ := hI
  have fp14 := p14
  have hF := hF.call fp14 (by decide)
  refine z_aload_n F dX9_clear_37 rfl (q := 0) rfl ?_
  refine rf_X9_48 F gs_19 rfl dX9_clear_38 ?_
  refine z_iconst F dX9_clear_41 ?_
  refine pf_X9_74 F hI gs_31 rfl bd_31_2 rfl rfl dX9_clear_42 (by omega) (by omega) (fun M16 hI sf15 f15 => ?_)
  have hF := hF.wr f15 (by decide) (by decide)
  have hW : WFk M16 := hW.site f15 (by decide)
  exact hret _ 45 _ ⟨hI, hW⟩ hF dX9_clear_45
set_option maxHeartbeats 4000000 in
set_option maxRecDepth 4000 in
theorem kp_X6_isWord_18_1002 (l : Launch) (M : Mem) (hJ : Iw M) (hp0 : M 18 6 ≤ M 18 5 ∧ M 18 5 ≤ M 18 4) : CI l yX6_isWord cX6_isWord 3 (some .boolean) 5 (fun ad => [.ref (ad 18), .ref (ad 1002)]) M (fun z M' => (0 ≤ z ∧ z ≤ 1) ∧ M = M') := by
  obtain ⟨hI, hW⟩ := hJ
  refine en_z (by decide +kernel) (fun ad => by exact Nat.le_of_ble_eq_true rfl) (fun D cy ad A p e s m args below meth c Q F hret => ?_)
  refine z_eq (ls' := [(0, .ref (ad 18)), (1, .ref (ad 1002))]) rfl rfl rfl ?_
  obtain ⟨u1, eu1⟩ : ∃ v : Int, v = M 18 1 := ⟨_, rfl⟩
  have ku1 : (-2147483648) ≤ u1 ∧ u1 ≤ 2147483647 := by have := hI.at (show Bd 18 1 = (-2147483648, 2147483647) from rfl); omega
  obtain ⟨u2, eu2⟩ : ∃ v : Int, v = M 18 4 := ⟨_, rfl⟩
  have ku2 : 0 ≤ u2 ∧ u2 ≤ 900 := by have := hI.at (show Bd 18 4 = (0, 900) from rfl); omega
  obtain ⟨u3, eu3⟩ : ∃ v : Int, v = M 18 5 := ⟨_, rfl⟩
  have ku3 : 0 ≤ u3 ∧ u3 ≤ 900 := by have := hI.at (show Bd 18 5 = (0, 900) from rfl); omega
  obtain ⟨u4, eu4⟩ : ∃ v : Int, v = M 18 6 := ⟨_, rfl⟩
  have ku4 : 0 ≤ u4 ∧ u4 ≤ 900 := by have := hI.at (show Bd 18 6 = (0, 900) from rfl); omega
  refine z_aload_n F dX6_isWord_0 rfl (q := 0) rfl ?_
  refine gf_X6_36 F hI gs_18 rfl bd_18_1 dX6_isWord_1 (fun v5 ev5 av5 bv5 => ?_)
  have zv5 : u1 = v5 := eu1.trans ev5.symm
  subst zv5
  refine z_if_ne (tgt := 31) F dX6_isWord_4 (by decide +kernel) (by omega) (fun c6 => ?_) (fun c6 => ?_)
  · refine z_iconst F dX6_isWord_31 ?_
    exact hret _ _ 32 _ ⟨by omega, by omega⟩ ⟨hI, hW⟩ ⟨⟨by omega, by omega⟩, rfl⟩ dX6_isWord_32
  · refine z_aload_n F dX6_isWord_7 rfl (q := 0) rfl ?_
    refine gf_X6_48 F hI gs_18 rfl bd_18_7 dX6_isWord_8 (fun v7 ev7 av7 bv7 => ?_)
    refine z_iconst F dX6_isWord_11 ?_
    refine z_icmp_ne (tgt := 31) F dX6_isWord_12 (by decide +kernel) (by omega) (by omega) (fun c8 => ?_) (fun c8 => ?_)
    · refine z_iconst F dX6_isWord_31 ?_
      exact hret _ _ 32 _ ⟨by omega, by omega⟩ ⟨hI, hW⟩ ⟨⟨by omega, by omega⟩, rfl⟩ dX6_isWord_32
    · refine z_aload_n F dX6_isWord_15 rfl (q := 0) rfl ?_
      refine gf_X6_33 F hI gs_18 rfl bd_18_5 dX6_isWord_16 (fun v9 ev9 av9 bv9 => ?_)
      have zv9 : u3 = v9 := eu3.trans ev9.symm
      subst zv9
      refine z_aload_n F dX6_isWord_19 rfl (q := 0) rfl ?_
      refine gf_X6_57 F hI gs_18 rfl bd_18_6 dX6_isWord_20 (fun v10 ev10 av10 bv10 => ?_)
      have zv10 : u4 = v10 := eu4.trans ev10.symm
      subst zv10
      refine z_isub F dX6_isWord_23 ?_
      refine z_aload_n F dX6_isWord_24 rfl (q := 1) rfl ?_
      refine zvs_i (i := 2) (rest := [ii (u3 - u4)]) F (kS_len l M ⟨hI, hW⟩ 2 (by decide)) cs_X6_75 (by decide) (by decide) (by decide) rfl rfl rfl (Nat.le_of_ble_eq_true rfl) dX6_isWord_25 (fun v11 M9 rv11 hI9 pv11 => ?_)
      obtain ⟨ev11, rfl⟩ := pv11
      obtain rfl : v11 = 6 := ev11.trans (show ((sbyt.getD 2 []).length : Int) = 6 from by decide)
      clear hI9
      refine z_icmp_eq (tgt := 33) F dX6_isWord_28 (by decide +kernel) (by omega) (by omega) (fun c12 => ?_) (fun c12 => ?_)
      · refine z_iconst F dX6_isWord_33 ?_
        refine z_istore_n F dX6_isWord_34 rfl (by decide) (ls' := [(2, ii 0), (0, .ref (ad 18)), (1, .ref (ad 1002))]) rfl ?_
        refine z_loc [1, 2, 0] (ls' := [(0, .ref (ad 18)), (1, .ref (ad 1002)), (2, ii 0)]) rfl ?_
        suffices key35 : ∀ (n : Nat) (y14 : Int), 0 ≤ y14 → y14 ≤ 6 → 6 - y14 < (n : Int) → Z D cy ad p l e (RMh 5) s m args below meth c A 3 0 0 Q 35 [(0, .ref (ad 18)), (1, .ref (ad 1002)), (2, ii y14)] [] M from key35 7 0 (by omega) (by omega) (by omega)
        intro n35
        induction n35 with
        | zero => intro y14 ay14 by14 hn35; exfalso; omega
        | succ n35 ih35 =>
          intro y14 ay14 by14 hn35
          refine z_iload_n F dX6_isWord_35 rfl (q := 2) rfl ?_
          refine z_aload_n F dX6_isWord_36 rfl (q := 1) rfl ?_
          refine zvs_i (i := 2) (rest := [ii y14]) F (kS_len l M ⟨hI, hW⟩ 2 (by decide)) cs_X6_75 (by decide) (by decide) (by decide) rfl rfl rfl (Nat.le_of_ble_eq_true rfl) dX6_isWord_37 (fun v15 M9 rv15 hI9 pv15 => ?_)
          obtain ⟨ev15, rfl⟩ := pv15
          obtain rfl : v15 = 6 := ev15.trans (show ((sbyt.getD 2 []).length : Int) = 6 from by decide)
          clear hI9
          refine z_icmp_ge (tgt := 70) F dX6_isWord_40 (by decide +kernel) (by omega) (by omega) (fun c16 => ?_) (fun c16 => ?_)
          · refine z_iconst F dX6_isWord_70 ?_
            exact hret _ _ 71 _ ⟨by omega, by omega⟩ ⟨hI, hW⟩ ⟨⟨by omega, by omega⟩, rfl⟩ dX6_isWord_71
          · refine z_aload_n F dX6_isWord_43 rfl (q := 0) rfl ?_
            refine rf_X6_22 F gs_18 rfl dX6_isWord_44 ?_
            refine z_aload_n F dX6_isWord_47 rfl (q := 0) rfl ?_
            refine gf_X6_57 F hI gs_18 rfl bd_18_6 dX6_isWord_48 (fun v17 ev17 av17 bv17 => ?_)
            have zv17 : u4 = v17 := eu4.trans ev17.symm
            subst zv17
            refine z_iload_n F dX6_isWord_51 rfl (q := 2) rfl ?_
            refine z_iadd F dX6_isWord_52 ?_
            have k18 : 0 ≤ (u4 + y14) ∧ (u4 + y14) ≤ 899 := by omega
            refine z_bald F hI gs_1 (by omega) (by omega) (by decide) bd_1 dX6_isWord_53 (fun v19 (ev19 : v19 = M 1 _) av19 bv19 => ?_)
            refine z_aload_n F dX6_isWord_54 rfl (q := 1) rfl ?_
            refine z_iload_n F dX6_isWord_55 rfl (q := 2) rfl ?_
            refine zvs_i (i := 2) (rest := [ii v19]) F (kS_chr l M ⟨hI, hW⟩ 2 (by decide) y14 (by omega) (show y14 < ((sbyt.getD 2 []).length : Int) from by rw [show ((sbyt.getD 2 []).length : Int) = 6 from by decide]; omega)) cs_X6_78 (by decide) (by decide) (by decide) rfl rfl rfl (Nat.le_of_ble_eq_true rfl) dX6_isWord_56 (fun v20 M9 rv20 hI9 pv20 => ?_)
            obtain ⟨⟨av20, bv20⟩, rfl⟩ := pv20
            clear hI9
            refine z_icmp_eq (tgt := 64) F dX6_isWord_59 (by decide +kernel) (by omega) (by omega) (fun c21 => ?_) (fun c21 => ?_)
            · refine z_iincN F dX6_isWord_64 (q := 2) rfl (by decide) (fun v22 ev22 => ?_)
              refine z_eq (ls' := [(2, ii v22), (0, .ref (ad 18)), (1, .ref (ad 1002))]) rfl rfl rfl ?_
              refine z_goto (tgt := 35) F dX6_isWord_67 (by decide +kernel) ?_
              refine z_loc [1, 2, 0] (ls' := [(0, .ref (ad 18)), (1, .ref (ad 1002)), (2, ii v22)]) rfl ?_
              exact ih35 v22 (by omega) (by omega) (by omega)
            · refine z_iconst F dX6_isWord_62 ?_
              exact hret _ _ 63 _ ⟨by omega, by omega⟩ ⟨hI, hW⟩ ⟨⟨by omega, by omega⟩, rfl⟩ dX6_isWord_63
      · refine z_iconst F dX6_isWord_31 ?_
        exact hret _ _ 32 _ ⟨by omega, by omega⟩ ⟨hI, hW⟩ ⟨⟨by omega, by omega⟩, rfl⟩ dX6_isWord_32
set_option maxHeartbeats 4000000 in
set_option maxRecDepth 4000 in
theorem kp_X6_needWord_18_1002 (l : Launch) (M : Mem) (hJ : Iw M) (hp0 : M 18 6 ≤ M 18 5 ∧ M 18 5 ≤ M 18 4) : CV l yX6_needWord cX6_needWord 2 none 7 (fun ad => [.ref (ad 18), .ref (ad 1002)]) M (fun M' => Fr [18] M M' ∧ (M' 18 4 = M 18 4 ∧ M' 18 6 ≤ M' 18 5 ∧ M' 18 5 ≤ M' 18 4 ∧ (M' 18 1 = 0 → M 18 1 = 0))) := by
  obtain ⟨hI, hW⟩ := hJ
  have hF : Fr [18] M M := Fr.rf
  refine en_v (by decide +kernel) (fun ad => by exact Nat.le_of_ble_eq_true rfl) (fun D cy ad A p e s m args below meth c Q F hret => ?_)
  refine z_eq (ls' := [(0, .ref (ad 18)), (1, .ref (ad 1002))]) rfl rfl rfl ?_
  refine z_aload_n F dX6_needWord_0 rfl (q := 0) rfl ?_
  refine z_aload_n F dX6_needWord_1 rfl (q := 1) rfl ?_
  refine zv_i (rest := []) F (kp_X6_isWord_18_1002 l M ⟨hI, hW⟩ (by omega)) cs_X6_86 (T := TX6) (N := 9) (ci := 6) rfl gs_18 (by decide) (by decide) rfl rfl rfl (Nat.le_of_ble_eq_true rfl) dX6_needWord_2 (fun v1 M2 rv1 hI p3 => ?_)
  obtain ⟨hI, hW⟩ := hI
  obtain ⟨⟨av1, bv1⟩, rfl⟩ := p3
  refine z_if_eq (tgt := 15) F dX6_needWord_5 (by decide +kernel) (by omega) (fun c4 => ?_) (fun c4 => ?_)
  · refine z_aload_n F dX6_needWord_15 rfl (q := 0) rfl ?_
    refine zv_v (rest := []) F (kp_X6_refuse_18 l M ⟨hI, hW⟩) cs_X6_90 (T := TX6) (N := 9) (ci := 6) rfl gs_18 (by decide) (by decide) rfl rfl rfl (Nat.le_of_ble_eq_true rfl) dX6_needWord_16 (fun M5 hI p6 => ?_)
    obtain ⟨hI, hW⟩ := hI
    obtain ⟨fp6, xp6⟩ := p6
    have hF := hF.call fp6 (by decide)
    exact hret _ 19 _ ⟨hI, hW⟩ ⟨hF, (by omega)⟩ dX6_needWord_19
  · refine z_aload_n F dX6_needWord_8 rfl (q := 0) rfl ?_
    refine zv_v (rest := []) F (kp_X6_advance_18 l M ⟨hI, hW⟩ (by omega)) cs_X6_42 (T := TX6) (N := 9) (ci := 6) rfl gs_18 (by decide) (by decide) rfl rfl rfl (Nat.le_of_ble_eq_true rfl) dX6_needWord_9 (fun M7 hI p8 => ?_)
    obtain ⟨hI, hW⟩ := hI
    obtain ⟨fp8, xp8⟩ := p8
    have hF := hF.call fp8 (by decide)
    refine z_goto (tgt := 19) F dX6_needWord_12 (by decide +kernel) ?_
    exact hret _ 19 _ ⟨hI, hW⟩ ⟨hF, (by omega)⟩ dX6_needWord_19
set_option maxHeartbeats 4000000 in
set_option maxRecDepth 4000 in
theorem kp_X9_open_19 (l : Launch) (M : Mem) (hJ : Iw M) (x0 : Int) (hx0a : (-1) ≤ x0) (hx0b : x0 ≤ 10) : CV l yX9_open cX9_open 3 none 2 (fun ad => [.ref (ad 19), ii x0]) M (fun M' => Fr [19, 20, 21] M M') := by
  obtain ⟨hI, hW⟩ := hJ
  have hF : Fr [19, 20, 21] M M := Fr.rf
  refine en_v (by decide +kernel) (fun ad => by exact Nat.le_of_ble_eq_true rfl) (fun D cy ad A p e s m args below meth c Q F hret => ?_)
  refine z_eq (ls' := [(0, .ref (ad 19)), (1, ii x0)]) rfl rfl rfl ?_
  refine z_aload_n F dX9_open_0 rfl (q := 0) rfl ?_
  refine z_iload_n F dX9_open_1 rfl (q := 1) rfl ?_
  refine z_iconst F dX9_open_2 ?_
  refine z_bipush F dX9_open_3 (by decide +kernel) ?_
  refine zn_i (rest := [.ref (ad 19)]) F (k_X11_keptWithin l M ⟨hI, hW⟩ x0 (by omega) (by omega) 0 (by omega) (by omega) 10 (by omega) (by omega)) cs_X9_101 (by decide) (by decide) rfl rfl rfl (Nat.le_of_ble_eq_true rfl) dX9_open_5 (fun v1 M2 rv1 hI p3 => ?_)
  obtain ⟨hI, hW⟩ := hI
  obtain ⟨⟨av1, bv1⟩, rfl, xp3⟩ := p3
  have hkv1 : 0 ≤ v1 ∧ v1 ≤ 10 := by omega
  refine pf_X9_56 F hI gs_19 rfl bd_19_1 rfl rfl dX9_open_8 (by omega) (by omega) (fun M5 hI sf4 f4 => ?_)
  have hF := hF.wr f4 (by decide) (by decide)
  have hW : WFk M5 := hW.site f4 (by decide)
  refine z_iconst F dX9_open_11 ?_
  refine z_istore_n F dX9_open_12 rfl (by decide) (ls' := [(2, ii 0), (0, .ref (ad 19)), (1, ii x0)]) rfl ?_
  refine z_loc [1, 0] (ls' := [(0, .ref (ad 19)), (2, ii 0)]) rfl ?_
  suffices key13 : ∀ (n : Nat) (y7 : Int) (M6 : Mem), Inv M6 → WFk M6 → Fr [19, 20, 21] M M6 → 0 ≤ y7 → y7 ≤ 10 → 10 - y7 < (n : Int) → Z D cy ad p l e (RMh 2) s m args below meth c A 3 0 0 Q 13 [(0, .ref (ad 19)), (2, ii y7)] [] M6 from key13 11 0 M5 hI hW hF (by omega) (by omega) (by omega)
  intro n13
  induction n13 with
  | zero => intro y7 M6 hI hW hF ay7 by7 hn13; exfalso; omega
  | succ n13 ih13 =>
    intro y7 M6 hI hW hF ay7 by7 hn13
    refine z_iload_n F dX9_open_13 rfl (q := 1) rfl ?_
    refine z_aload_n F dX9_open_14 rfl (q := 0) rfl ?_
    refine gf_X9_56 F hI gs_19 rfl bd_19_1 dX9_open_15 (fun v8 ev8 av8 bv8 => ?_)
    refine z_icmp_ge (tgt := 41) F dX9_open_18 (by decide +kernel) (by omega) (by omega) (fun c9 => ?_) (fun c9 => ?_)
    · exact hret _ 41 _ ⟨hI, hW⟩ hF dX9_open_41
    · refine z_aload_n F dX9_open_21 rfl (q := 0) rfl ?_
      refine rf_X9_9 F gs_19 rfl dX9_open_22 ?_
      refine z_iload_n F dX9_open_25 rfl (q := 1) rfl ?_
      refine z_iconst F dX9_open_26 ?_
      refine z_iast F hI gs_20 (by omega) (by omega) (by decide) bd_20 dX9_open_27 (by omega) (by omega) (fun M11 hI sf10 f10 => ?_)
      have hF := hF.wr f10 (by decide) (by decide)
      have hW : WFk M11 := hW.site f10 (by decide)
      refine z_aload_n F dX9_open_28 rfl (q := 0) rfl ?_
      refine rf_X9_15 F gs_19 rfl dX9_open_29 ?_
      refine z_iload_n F dX9_open_32 rfl (q := 1) rfl ?_
      refine z_iconst F dX9_open_33 ?_
      refine z_iast F hI gs_21 (by omega) (by omega) (by decide) bd_21 dX9_open_34 (by omega) (by omega) (fun M13 hI sf12 f12 => ?_)
      have hF := hF.wr f12 (by decide) (by decide)
      have hW : WFk M13 := hW.site f12 (by decide)
      refine z_iincN F dX9_open_35 (q := 1) rfl (by decide) (fun v14 ev14 => ?_)
      refine z_eq (ls' := [(2, ii v14), (0, .ref (ad 19))]) rfl rfl rfl ?_
      refine z_goto (tgt := 13) F dX9_open_38 (by decide +kernel) ?_
      refine z_loc [1, 0] (ls' := [(0, .ref (ad 19)), (2, ii v14)]) rfl ?_
      exact ih13 v14 M13 hI hW hF (by omega) (by omega) (by omega)
set_option maxHeartbeats 4000000 in
set_option maxRecDepth 4000 in
theorem kp_X6_readPlaces_18 (l : Launch) (M : Mem) (hJ : Iw M) (hp0 : M 18 6 ≤ M 18 5 ∧ M 18 5 ≤ M 18 4) : CV l yX6_readPlaces cX6_readPlaces 2 none 9 (fun ad => [.ref (ad 18)]) M (fun M' => Fr [18, 19, 20, 21] M M' ∧ (M' 18 4 = M 18 4 ∧ M' 18 6 ≤ M' 18 5 ∧ M' 18 5 ≤ M' 18 4)) := by
  obtain ⟨hI, hW⟩ := hJ
  have hF : Fr [18, 19, 20, 21] M M := Fr.rf
  refine en_v (by decide +kernel) (fun ad => by exact Nat.le_of_ble_eq_true rfl) (fun D cy ad A p e s m args below meth c Q F hret => ?_)
  refine z_eq (ls' := [(0, .ref (ad 18))]) rfl rfl rfl ?_
  refine z_aload_n F dX6_readPlaces_0 rfl (q := 0) rfl ?_
  refine z_ldcS (j := 2) F dX6_readPlaces_1 rfl rfl rfl ?_
  refine z_eq (st' := [.ref (ad 1002), .ref (ad 18)]) rfl rfl rfl ?_
  refine zv_v (rest := []) F (kp_X6_needWord_18_1002 l M ⟨hI, hW⟩ (by omega)) cs_X6_106 (T := TX6) (N := 9) (ci := 6) rfl gs_18 (by decide) (by decide) rfl rfl rfl (Nat.le_of_ble_eq_true rfl) dX6_readPlaces_3 (fun M1 hI p2 => ?_)
  obtain ⟨hI, hW⟩ := hI
  obtain ⟨fp2, xp2⟩ := p2
  have hF := hF.call fp2 (by decide)
  refine z_aload_n F dX6_readPlaces_6 rfl (q := 0) rfl ?_
  refine z_iconst F dX6_readPlaces_7 ?_
  refine z_bipush F dX6_readPlaces_8 (by decide +kernel) ?_
  refine zv_i (rest := []) F (kp_X6_takeNumber_18 l M1 ⟨hI, hW⟩ 1 (by omega) (by omega) 10 (by omega) (by omega) (by omega)) cs_X6_110 (T := TX6) (N := 9) (ci := 6) rfl gs_18 (by decide) (by decide) rfl rfl rfl (Nat.le_of_ble_eq_true rfl) dX6_readPlaces_10 (fun v3 M4 rv3 hI p5 => ?_)
  obtain ⟨hI, hW⟩ := hI
  obtain ⟨⟨av3, bv3⟩, fp5, xp5⟩ := p5
  have hF := hF.call fp5 (by decide)
  have hkv3 : -1 ≤ v3 ∧ v3 ≤ 10 := by omega
  refine z_istore_n F dX6_readPlaces_13 rfl (by decide) (ls' := [(1, ii v3), (0, .ref (ad 18))]) rfl ?_
  refine z_aload_n F dX6_readPlaces_14 rfl (q := 1) rfl ?_
  refine rf_X6_12 F gs_18 rfl dX6_readPlaces_15 ?_
  refine z_iload_n F dX6_readPlaces_18 rfl (q := 0) rfl ?_
  refine zv_v (rest := []) F (kp_X9_open_19 l M4 ⟨hI, hW⟩ v3 (by omega) (by omega)) cs_X6_114 (T := TX9) (N := 18) (ci := 9) rfl gs_19 (by decide) (by decide) rfl rfl rfl (Nat.le_of_ble_eq_true rfl) dX6_readPlaces_19 (fun M6 hI p7 => ?_)
  obtain ⟨hI, hW⟩ := hI
  have fp7 := p7
  have hF := hF.call fp7 (by decide)
  have tM6_18_1 : M6 18 1 = M4 18 1 := fp7.at (by decide)
  have tM6_18_4 : M6 18 4 = M4 18 4 := fp7.at (by decide)
  have tM6_18_5 : M6 18 5 = M4 18 5 := fp7.at (by decide)
  have tM6_18_6 : M6 18 6 = M4 18 6 := fp7.at (by decide)
  refine z_aload_n F dX6_readPlaces_22 rfl (q := 1) rfl ?_
  refine zv_v (rest := []) F (kp_X6_endLine_18 l M6 ⟨hI, hW⟩ (by omega)) cs_X6_117 (T := TX6) (N := 9) (ci := 6) rfl gs_18 (by decide) (by decide) rfl rfl rfl (Nat.le_of_ble_eq_true rfl) dX6_readPlaces_23 (fun M8 hI p9 => ?_)
  obtain ⟨hI, hW⟩ := hI
  obtain ⟨fp9, xp9⟩ := p9
  have hF := hF.call fp9 (by decide)
  exact hret _ 26 _ ⟨hI, hW⟩ ⟨hF, (by omega)⟩ dX6_readPlaces_26
set_option maxHeartbeats 4000000 in
set_option maxRecDepth 4000 in
theorem kp_X6_read_18 (l : Launch) (M : Mem) (hJ : Iw M) (x0 : Int) (hx0a : 0 ≤ x0) (hx0b : x0 ≤ 900) : CV l yX6_read cX6_read 3 none 75 (fun ad => [.ref (ad 18), ii x0]) M (fun M' => Fr [18, 19, 20, 21, 22, 23, 24, 25, 26, 27, 28, 29, 30, 31, 32] M M') := by
  obtain ⟨hI, hW⟩ := hJ
  have hF : Fr [18, 19, 20, 21, 22, 23, 24, 25, 26, 27, 28, 29, 30, 31, 32] M M := Fr.rf
  refine en_v (by decide +kernel) (fun ad => by exact Nat.le_of_ble_eq_true rfl) (fun D cy ad A p e s m args below meth c Q F hret => ?_)
  refine z_eq (ls' := [(0, .ref (ad 18)), (1, ii x0)]) rfl rfl rfl ?_
  refine z_aload_n F dX6_read_0 rfl (q := 0) rfl ?_
  refine z_iload_n F dX6_read_1 rfl (q := 1) rfl ?_
  refine z_iconst F dX6_read_2 ?_
  refine z_aload_n F dX6_read_3 rfl (q := 0) rfl ?_
  refine rf_X6_22 F gs_18 rfl dX6_read_4 ?_
  refine z_alen (x := 900) F gs_1 rfl rfl dX6_read_7 ?_
  refine zn_i (rest := [.ref (ad 18)]) F (k_X11_keptWithin l M ⟨hI, hW⟩ x0 (by omega) (by omega) 0 (by omega) (by omega) 900 (by omega) (by omega)) cs_X6_26 (by decide) (by decide) rfl rfl rfl (Nat.le_of_ble_eq_true rfl) dX6_read_8 (fun v1 M2 rv1 hI p3 => ?_)
  obtain ⟨hI, hW⟩ := hI
  obtain ⟨⟨av1, bv1⟩, rfl, xp3⟩ := p3
  have hkv1 : 0 ≤ v1 ∧ v1 ≤ 900 := by omega
  refine pf_X6_30 F hI gs_18 rfl bd_18_4 rfl rfl dX6_read_11 (by omega) (by omega) (fun M5 hI sf4 f4 => ?_)
  have tM5_18_1 : M5 18 1 = M 18 1 := f4 18 1 (fun q => absurd q.2 (by decide))
  have tM5_18_5 : M5 18 5 = M 18 5 := f4 18 5 (fun q => absurd q.2 (by decide))
  have tM5_18_6 : M5 18 6 = M 18 6 := f4 18 6 (fun q => absurd q.2 (by decide))
  have hF := hF.wr f4 (by decide) (by decide)
  have hW : WFk M5 := hW.site f4 (by decide)
  refine z_aload_n F dX6_read_14 rfl (q := 0) rfl ?_
  refine z_iconst F dX6_read_15 ?_
  refine pf_X6_33 F hI gs_18 rfl bd_18_5 rfl rfl dX6_read_16 (by omega) (by omega) (fun M7 hI sf6 f6 => ?_)
  have tM7_18_1 : M7 18 1 = M5 18 1 := f6 18 1 (fun q => absurd q.2 (by decide))
  have tM7_18_4 : M7 18 4 = M5 18 4 := f6 18 4 (fun q => absurd q.2 (by decide))
  have tM7_18_6 : M7 18 6 = M5 18 6 := f6 18 6 (fun q => absurd q.2 (by decide))
  have hF := hF.wr f6 (by decide) (by decide)
  have hW : WFk M7 := hW.site f6 (by decide)
  refine z_aload_n F dX6_read_19 rfl (q := 0) rfl ?_
  refine z_iconst F dX6_read_20 ?_
  refine pf_X6_36 F hI gs_18 rfl bd_18_1 rfl rfl dX6_read_21 (by omega) (by omega) (fun M9 hI sf8 f8 => ?_)
  have tM9_18_4 : M9 18 4 = M7 18 4 := f8 18 4 (fun q => absurd q.2 (by decide))
  have tM9_18_5 : M9 18 5 = M7 18 5 := f8 18 5 (fun q => absurd q.2 (by decide))
  have tM9_18_6 : M9 18 6 = M7 18 6 := f8 18 6 (fun q => absurd q.2 (by decide))
  have hF := hF.wr f8 (by decide) (by decide)
  have hW : WFk M9 := hW.site f8 (by decide)
  refine z_aload_n F dX6_read_24 rfl (q := 0) rfl ?_
  refine z_iconst F dX6_read_25 ?_
  refine pf_X6_18 F hI gs_18 rfl bd_18_2 rfl rfl dX6_read_26 (by omega) (by omega) (fun M11 hI sf10 f10 => ?_)
  have tM11_18_1 : M11 18 1 = M9 18 1 := f10 18 1 (fun q => absurd q.2 (by decide))
  have tM11_18_4 : M11 18 4 = M9 18 4 := f10 18 4 (fun q => absurd q.2 (by decide))
  have tM11_18_5 : M11 18 5 = M9 18 5 := f10 18 5 (fun q => absurd q.2 (by decide))
  have tM11_18_6 : M11 18 6 = M9 18 6 := f10 18 6 (fun q => absurd q.2 (by decide))
  have hF := hF.wr f10 (by decide) (by decide)
  have hW : WFk M11 := hW.site f10 (by decide)
  refine z_aload_n F dX6_read_29 rfl (q := 0) rfl ?_
  refine rf_X6_12 F gs_18 rfl dX6_read_30 ?_
  refine zv_v (rest := []) F (k_X9_clear_19 l M11 ⟨hI, hW⟩) cs_X6_39 (T := TX9) (N := 18) (ci := 9) rfl gs_19 (by decide) (by decide) rfl rfl rfl (Nat.le_of_ble_eq_true rfl) dX6_read_33 (fun M12 hI p13 => ?_)
  obtain ⟨hI, hW⟩ := hI
  have fp13 := p13
  have hF := hF.call fp13 (by decide)
  have tM12_18_1 : M12 18 1 = M11 18 1 := fp13.at (by decide)
  have tM12_18_4 : M12 18 4 = M11 18 4 := fp13.at (by decide)
  have tM12_18_5 : M12 18 5 = M11 18 5 := fp13.at (by decide)
  have tM12_18_6 : M12 18 6 = M11 18 6 := fp13.at (by decide)
  refine z_aload_n F dX6_read_36 rfl (q := 0) rfl ?_
  refine zv_v (rest := []) F (kp_X6_advance_18 l M12 ⟨hI, hW⟩ (by omega)) cs_X6_42 (T := TX6) (N := 9) (ci := 6) rfl gs_18 (by decide) (by decide) rfl rfl rfl (Nat.le_of_ble_eq_true rfl) dX6_read_37 (fun M14 hI p15 => ?_)
  obtain ⟨hI, hW⟩ := hI
  obtain ⟨fp15, xp15⟩ := p15
  have hF := hF.call fp15 (by decide)
  refine z_aload_n F dX6_read_40 rfl (q := 0) rfl ?_
  refine zv_v (rest := []) F (kp_X6_readPlaces_18 l M14 ⟨hI, hW⟩ (by omega)) cs_X6_45 (T := TX6) (N := 9) (ci := 6) rfl gs_18 (by decide) (by decide) rfl rfl rfl (Nat.le_of_ble_eq_true rfl) dX6_read_41 (fun M16 hI p17 => ?_)
  obtain ⟨hI, hW⟩ := hI
  obtain ⟨fp17, xp17⟩ := p17
  have hF := hF.call fp17 (by decide)
  refine z_iconst F dX6_read_44 ?_
  refine z_istore_n F dX6_read_45 rfl (by decide) (ls' := [(2, ii 0), (0, .ref (ad 18)), (1, ii x0)]) rfl ?_
  refine z_loc [1, 0] (ls' := [(0, .ref (ad 18)), (2, ii 0)]) rfl ?_
  suffices key46 : ∀ (n : Nat) (y19 : Int) (M18 : Mem), Inv M18 → WFk M18 → Fr [18, 19, 20, 21, 22, 23, 24, 25, 26, 27, 28, 29, 30, 31, 32] M M18 → 0 ≤ y19 → y19 ≤ 900 → (M18 18 6 ≤ M18 18 5 ∧ M18 18 5 ≤ M18 18 4) → 900 - y19 < (n : Int) → Z D cy ad p l e (RMh 75) s m args below meth c A 3 0 0 Q 46 [(0, .ref (ad 18)), (2, ii y19)] [] M18 from key46 901 0 M16 hI hW hF (by omega) (by omega) (by omega) (by omega)
  intro n46
  induction n46 with
  | zero => intro y19 M18 hI hW hF ay19 by19 i46_0 hn46; exfalso; omega
  | succ n46 ih46 =>
    intro y19 M18 hI hW hF ay19 by19 i46_0 hn46
    refine z_iload_n F dX6_read_46 rfl (q := 1) rfl ?_
    refine z_sipush F dX6_read_47 (by decide +kernel) ?_
    refine z_icmp_ge (tgt := 77) F dX6_read_50 (by decide +kernel) (by omega) (by omega) (fun c20 => ?_) (fun c20 => ?_)
    · refine z_aload_n F dX6_read_77 rfl (q := 0) rfl ?_
      refine gf_X6_36 F hI gs_18 rfl bd_18_1 dX6_read_78 (fun v21 ev21 av21 bv21 => ?_)
      refine z_if_ne (tgt := 91) F dX6_read_81 (by decide +kernel) (by omega) (fun c22 => ?_) (fun c22 => ?_)
      · exact hret _ 91 _ ⟨hI, hW⟩ hF dX6_read_91
      · refine z_aload_n F dX6_read_84 rfl (q := 0) rfl ?_
        refine rf_X6_12 F gs_18 rfl dX6_read_85 ?_
        refine zv_v (rest := []) F (k_X9_settle_19 l M18 ⟨hI, hW⟩) cs_X6_54 (T := TX9) (N := 18) (ci := 9) rfl gs_19 (by decide) (by decide) rfl rfl rfl (Nat.le_of_ble_eq_true rfl) dX6_read_88 (fun M23 hI p24 => ?_)
        obtain ⟨hI, hW⟩ := hI
        have fp24 := p24
        have hF := hF.call fp24 (by decide)
        have tM23_18_1 : M23 18 1 = M18 18 1 := fp24.at (by decide)
        have tM23_18_4 : M23 18 4 = M18 18 4 := fp24.at (by decide)
        have tM23_18_5 : M23 18 5 = M18 18 5 := fp24.at (by decide)
        have tM23_18_6 : M23 18 6 = M18 18 6 := fp24.at (by decide)
        exact hret _ 91 _ ⟨hI, hW⟩ hF dX6_read_91
    · refine z_aload_n F dX6_read_53 rfl (q := 0) rfl ?_
      refine gf_X6_36 F hI gs_18 rfl bd_18_1 dX6_read_54 (fun v25 ev25 av25 bv25 => ?_)
      refine z_if_ne (tgt := 77) F dX6_read_57 (by decide +kernel) (by omega) (fun c26 => ?_) (fun c26 => ?_)
      · refine z_aload_n F dX6_read_77 rfl (q := 0) rfl ?_
        refine gf_X6_36 F hI gs_18 rfl bd_18_1 dX6_read_78 (fun v27 ev27 av27 bv27 => ?_)
        have zv27 : v25 = v27 := ev25.trans ev27.symm
        subst zv27
        refine z_if_ne (tgt := 91) F dX6_read_81 (by decide +kernel) (by omega) (fun c28 => ?_) (fun c28 => ?_)
        · exact hret _ 91 _ ⟨hI, hW⟩ hF dX6_read_91
        · refine z_aload_n F dX6_read_84 rfl (q := 0) rfl ?_
          refine rf_X6_12 F gs_18 rfl dX6_read_85 ?_
          refine zv_v (rest := []) F (k_X9_settle_19 l M18 ⟨hI, hW⟩) cs_X6_54 (T := TX9) (N := 18) (ci := 9) rfl gs_19 (by decide) (by decide) rfl rfl rfl (Nat.le_of_ble_eq_true rfl) dX6_read_88 (fun M29 hI p30 => ?_)
          obtain ⟨hI, hW⟩ := hI
          have fp30 := p30
          have hF := hF.call fp30 (by decide)
          have tM29_18_1 : M29 18 1 = M18 18 1 := fp30.at (by decide)
          have tM29_18_4 : M29 18 4 = M18 18 4 := fp30.at (by decide)
          have tM29_18_5 : M29 18 5 = M18 18 5 := fp30.at (by decide)
          have tM29_18_6 : M29 18 6 = M18 18 6 := fp30.at (by decide)
          exact hret _ 91 _ ⟨hI, hW⟩ hF dX6_read_91
      · refine z_aload_n F dX6_read_60 rfl (q := 0) rfl ?_
        refine gf_X6_48 F hI gs_18 rfl bd_18_7 dX6_read_61 (fun v31 ev31 av31 bv31 => ?_)
        refine z_if_eq (tgt := 77) F dX6_read_64 (by decide +kernel) (by omega) (fun c32 => ?_) (fun c32 => ?_)
        · refine z_aload_n F dX6_read_77 rfl (q := 0) rfl ?_
          refine gf_X6_36 F hI gs_18 rfl bd_18_1 dX6_read_78 (fun v33 ev33 av33 bv33 => ?_)
          have zv33 : v25 = v33 := ev25.trans ev33.symm
          subst zv33
          refine z_if_ne (tgt := 91) F dX6_read_81 (by decide +kernel) (by omega) (fun c34 => by exfalso; omega) (fun c34 => ?_)
          refine z_aload_n F dX6_read_84 rfl (q := 0) rfl ?_
          refine rf_X6_12 F gs_18 rfl dX6_read_85 ?_
          refine zv_v (rest := []) F (k_X9_settle_19 l M18 ⟨hI, hW⟩) cs_X6_54 (T := TX9) (N := 18) (ci := 9) rfl gs_19 (by decide) (by decide) rfl rfl rfl (Nat.le_of_ble_eq_true rfl) dX6_read_88 (fun M35 hI p36 => ?_)
          obtain ⟨hI, hW⟩ := hI
          have fp36 := p36
          have hF := hF.call fp36 (by decide)
          have tM35_18_1 : M35 18 1 = M18 18 1 := fp36.at (by decide)
          have tM35_18_4 : M35 18 4 = M18 18 4 := fp36.at (by decide)
          have tM35_18_5 : M35 18 5 = M18 18 5 := fp36.at (by decide)
          have tM35_18_6 : M35 18 6 = M18 18 6 := fp36.at (by decide)
          exact hret _ 91 _ ⟨hI, hW⟩ hF dX6_read_91
        · refine z_aload_n F dX6_read_67 rfl (q := 0) rfl ?_
          refine zv_v (rest := []) F (kp_X6_readLine_18 l M18 ⟨hI, hW⟩ (by omega)) cs_X6_51 (T := TX6) (N := 9) (ci := 6) rfl gs_18 (by decide) (by decide) rfl rfl rfl (Nat.le_of_ble_eq_true rfl) dX6_read_68 (fun M37 hI p38 => ?_)
          obtain ⟨hI, hW⟩ := hI
          obtain ⟨fp38, xp38⟩ := p38
          have hF := hF.call fp38 (by decide)
          refine z_iincN F dX6_read_71 (q := 1) rfl (by decide) (fun v39 ev39 => ?_)
          refine z_eq (ls' := [(2, ii v39), (0, .ref (ad 18))]) rfl rfl rfl ?_
          refine z_goto (tgt := 46) F dX6_read_74 (by decide +kernel) ?_
          refine z_loc [1, 0] (ls' := [(0, .ref (ad 18)), (2, ii v39)]) rfl ?_
          exact ih46 v39 M37 hI hW hF (by omega) (by omega) (by omega) (by omega)
set_option maxRecDepth 4000 in
theorem k_X11_town (l : Launch) (hlT : l.stackTraces = false) (M : Mem) (hJ : Iw M) (x0 : Int) (hx0a : (-2147483648) ≤ x0) (hx0b : x0 ≤ 2147483647) : CIX l yX11_town cX11_town 2 (some .int) 76 1 (fun ad => [.ref (ad 0), ii x0]) M (fun z M' => ((-2147483648) ≤ z ∧ z ≤ 2147483647) ∧ Fr [0, 2, 3, 4, 5, 6, 7, 8, 9, 10, 11, 12, 13, 14, 15, 16, 17, 18, 19, 20, 21, 22, 23, 24, 25, 26, 27, 28, 29, 30, 31, 32, 35, 36, 37, 38, 39, 40] M M') (fun E M' => (E = "java/lang/IllegalArgumentException" ∧ True)) := by
  obtain ⟨hI, hW⟩ := hJ
  have hF : Fr [0, 2, 3, 4, 5, 6, 7, 8, 9, 10, 11, 12, 13, 14, 15, 16, 17, 18, 19, 20, 21, 22, 23, 24, 25, 26, 27, 28, 29, 30, 31, 32, 35, 36, 37, 38, 39, 40] M M := Fr.rf
  refine enx_i (by decide +kernel) (fun ad => by exact Nat.le_of_ble_eq_true rfl) (fun D cy ad A p e s m args below meth c Q F hQ hr hlk hex => ?_)
  refine z_eq (ls' := [(0, .ref (ad 0)), (1, ii x0)]) rfl rfl rfl ?_
  refine z_iload_n F dX11_town_0 rfl (q := 1) rfl ?_
  refine z_if_lt (tgt := 12) F dX11_town_1 (by decide +kernel) (by omega) (fun c1 => ?_) (fun c1 => ?_)
  · exact z_thrS (cls := "java/lang/IllegalArgumentException") (names := ["java/lang/RuntimeException", "java/lang/Exception"]) (j := 0) F hlT hQ hlk hex (by decide +kernel) (by decide +kernel) (by decide) (gin lm_360 rfl) (gin lm_361 rfl) at_X11_105 bad_X11_105 (by decide +kernel) ot_X11_105 rfl rfl rfl dX11_town_12 dX11_town_15 dX11_town_16 dX11_town_18 dX11_town_21 ⟨by decide, by decide⟩ (Nat.le_of_ble_eq_true rfl) ⟨hI, hW⟩ (⟨rfl, trivial⟩)
  · refine z_iload_n F dX11_town_4 rfl (q := 1) rfl ?_
    refine z_aload_n F dX11_town_5 rfl (q := 0) rfl ?_
    refine gf_X11_93 F hI gs_0 rfl bd_0_1 dX11_town_6 (fun v2 ev2 av2 bv2 => ?_)
    refine z_icmp_le (tgt := 22) F dX11_town_9 (by decide +kernel) (by omega) (by omega) (fun c3 => ?_) (fun c3 => ?_)
    · refine z_aload_n F dX11_town_22 rfl (q := 0) rfl ?_
      refine rf_X11_25 F gs_0 rfl dX11_town_23 ?_
      refine z_iload_n F dX11_town_26 rfl (q := 1) rfl ?_
      refine zw_v (rest := []) F (kp_X6_read_18 l M ⟨hI, hW⟩ x0 (by omega) (by omega)) cs_X11_108 (T := TX6) (N := 9) (ci := 6) rfl gs_18 (by decide) (by decide) ⟨by decide, by decide⟩ rfl rfl rfl (Nat.le_of_ble_eq_true rfl) dX11_town_27 (fun M4 hI p5 => ?_)
      obtain ⟨hI, hW⟩ := hI
      have fp5 := p5
      have hF := hF.call fp5 (by decide)
      refine z_aload_n F dX11_town_30 rfl (q := 0) rfl ?_
      refine z_iconst F dX11_town_31 ?_
      refine pf_X11_93 F hI gs_0 rfl bd_0_1 rfl rfl dX11_town_32 (by omega) (by omega) (fun M7 hI sf6 f6 => ?_)
      have hF := hF.wr f6 (by decide) (by decide)
      have hW : WFk M7 := hW.site f6 (by decide)
      refine z_aload_n F dX11_town_35 rfl (q := 0) rfl ?_
      refine rf_X11_25 F gs_0 rfl dX11_town_36 ?_
      refine gf_X11_111 F hI gs_18 rfl bd_18_1 dX11_town_39 (fun v8 ev8 av8 bv8 => ?_)
      refine z_if_eq (tgt := 56) F dX11_town_42 (by decide +kernel) (by omega) (fun c9 => ?_) (fun c9 => ?_)
      · refine z_aload_n F dX11_town_56 rfl (q := 0) rfl ?_
        refine rf_X11_16 F gs_0 rfl dX11_town_57 ?_
        refine z_aload_n F dX11_town_60 rfl (q := 0) rfl ?_
        refine rf_X11_25 F gs_0 rfl dX11_town_61 ?_
        refine rf_X11_114 F gs_18 rfl dX11_town_64 ?_
        refine zw_v (rest := []) F (k_X9_copyFrom_2_19 l M7 ⟨hI, hW⟩) cs_X11_117 (T := TX9) (N := 18) (ci := 9) rfl gs_2 (by decide) (by decide) ⟨by decide, by decide⟩ rfl rfl rfl (Nat.le_of_ble_eq_true rfl) dX11_town_67 (fun M10 hI p11 => ?_)
        obtain ⟨hI, hW⟩ := hI
        have fp11 := p11
        have hF := hF.call fp11 (by decide)
        refine z_aload_n F dX11_town_70 rfl (q := 0) rfl ?_
        refine rf_X11_34 F gs_0 rfl dX11_town_71 ?_
        refine zw_v (rest := []) F (k_X7_settleIn_35 l M10 ⟨hI, hW⟩) cs_X11_120 (T := TX7) (N := 7) (ci := 7) rfl gs_35 (by decide) (by decide) ⟨by decide, by decide⟩ rfl rfl rfl (Nat.le_of_ble_eq_true rfl) dX11_town_74 (fun M12 hI p13 => ?_)
        obtain ⟨hI, hW⟩ := hI
        have fp13 := p13
        have hF := hF.call fp13 (by decide)
        refine z_aload_n F dX11_town_77 rfl (q := 0) rfl ?_
        refine rf_X11_41 F gs_0 rfl dX11_town_78 ?_
        refine zw_v (rest := []) F (k_X4_forget_40 l M12 ⟨hI, hW⟩) cs_X11_123 (T := TX4) (N := 3) (ci := 4) rfl gs_40 (by decide) (by decide) ⟨by decide, by decide⟩ rfl rfl rfl (Nat.le_of_ble_eq_true rfl) dX11_town_81 (fun M14 hI p15 => ?_)
        obtain ⟨hI, hW⟩ := hI
        have fp15 := p15
        have hF := hF.call fp15 (by decide)
        refine z_aload_n F dX11_town_84 rfl (q := 0) rfl ?_
        refine rf_X11_16 F gs_0 rfl dX11_town_85 ?_
        refine gf_X11_126 F hI gs_2 rfl bd_2_0 dX11_town_88 (fun v16 ev16 av16 bv16 => ?_)
        exact zxr_i F hQ hr hlk dX11_town_91 ⟨by decide, by decide⟩ (by omega) ⟨hI, hW⟩ ⟨⟨by omega, by omega⟩, hF⟩
      · refine z_bipush F dX11_town_45 (by decide +kernel) ?_
        refine z_aload_n F dX11_town_47 rfl (q := 0) rfl ?_
        refine rf_X11_25 F gs_0 rfl dX11_town_48 ?_
        refine gf_X11_111 F hI gs_18 rfl bd_18_1 dX11_town_51 (fun v17 ev17 av17 bv17 => ?_)
        have zv17 : v8 = v17 := ev8.trans ev17.symm
        subst zv17
        refine z_isub F dX11_town_54 ?_
        refine z_wrap (fun v18 rv18 wv18 => ?_)
        exact zxr_i F hQ hr hlk dX11_town_55 ⟨by decide, by decide⟩ (by omega) ⟨hI, hW⟩ ⟨⟨by omega, by omega⟩, hF⟩
    · exact z_thrS (cls := "java/lang/IllegalArgumentException") (names := ["java/lang/RuntimeException", "java/lang/Exception"]) (j := 0) F hlT hQ hlk hex (by decide +kernel) (by decide +kernel) (by decide) (gin lm_360 rfl) (gin lm_361 rfl) at_X11_105 bad_X11_105 (by decide +kernel) ot_X11_105 rfl rfl rfl dX11_town_12 dX11_town_15 dX11_town_16 dX11_town_18 dX11_town_21 ⟨by decide, by decide⟩ (Nat.le_of_ble_eq_true rfl) ⟨hI, hW⟩ (⟨rfl, trivial⟩)
