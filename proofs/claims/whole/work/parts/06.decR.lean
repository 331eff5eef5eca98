theorem dR_init_0 : decode mR_init.2.1 0 = .ok (.aload_n 0, 1) := by decide +kernel
theorem dR_init_1 : decode mR_init.2.1 1 = .ok (.invokespecial 1, 3) := by decide +kernel
theorem dR_init_4 : decode mR_init.2.1 4 = .ok (.aload_n 0, 1) := by decide +kernel
theorem dR_init_5 : decode mR_init.2.1 5 = .ok (.bipush 50, 2) := by decide +kernel
theorem dR_init_7 : decode mR_init.2.1 7 = .ok (.newarray .boolean, 2) := by decide +kernel
theorem dR_init_9 : decode mR_init.2.1 9 = .ok (.putfield 7, 3) := by decide +kernel
theorem dR_init_12 : decode mR_init.2.1 12 = .ok (.aload_n 0, 1) := by decide +kernel
theorem dR_init_13 : decode mR_init.2.1 13 = .ok (.bipush 50, 2) := by decide +kernel
theorem dR_init_15 : decode mR_init.2.1 15 = .ok (.newarray .int, 2) := by decide +kernel
theorem dR_init_17 : decode mR_init.2.1 17 = .ok (.putfield 13, 3) := by decide +kernel
theorem dR_init_20 : decode mR_init.2.1 20 = .ok (.aload_n 0, 1) := by decide +kernel
theorem dR_init_21 : decode mR_init.2.1 21 = .ok (.bipush 50, 2) := by decide +kernel
theorem dR_init_23 : decode mR_init.2.1 23 = .ok (.newarray .int, 2) := by decide +kernel
theorem dR_init_25 : decode mR_init.2.1 25 = .ok (.putfield 17, 3) := by decide +kernel
theorem dR_init_28 : decode mR_init.2.1 28 = .ok (.aload_n 0, 1) := by decide +kernel
theorem dR_init_29 : decode mR_init.2.1 29 = .ok (.bipush 50, 2) := by decide +kernel
theorem dR_init_31 : decode mR_init.2.1 31 = .ok (.newarray .int, 2) := by decide +kernel
theorem dR_init_33 : decode mR_init.2.1 33 = .ok (.putfield 20, 3) := by decide +kernel
theorem dR_init_36 : decode mR_init.2.1 36 = .ok (.aload_n 0, 1) := by decide +kernel
theorem dR_init_37 : decode mR_init.2.1 37 = .ok (.bipush 50, 2) := by decide +kernel
theorem dR_init_39 : decode mR_init.2.1 39 = .ok (.newarray .int, 2) := by decide +kernel
theorem dR_init_41 : decode mR_init.2.1 41 = .ok (.putfield 23, 3) := by decide +kernel
theorem dR_init_44 : decode mR_init.2.1 44 = .ok (.aload_n 0, 1) := by decide +kernel
theorem dR_init_45 : decode mR_init.2.1 45 = .ok (.bipush 50, 2) := by decide +kernel
theorem dR_init_47 : decode mR_init.2.1 47 = .ok (.newarray .int, 2) := by decide +kernel
theorem dR_init_49 : decode mR_init.2.1 49 = .ok (.putfield 26, 3) := by decide +kernel
theorem dR_init_52 : decode mR_init.2.1 52 = .ok (.aload_n 0, 1) := by decide +kernel
theorem dR_init_53 : decode mR_init.2.1 53 = .ok (.bipush 20, 2) := by decide +kernel
theorem dR_init_55 : decode mR_init.2.1 55 = .ok (.newarray .int, 2) := by decide +kernel
theorem dR_init_57 : decode mR_init.2.1 57 = .ok (.putfield 29, 3) := by decide +kernel
theorem dR_init_60 : decode mR_init.2.1 60 = .ok (.aload_n 0, 1) := by decide +kernel
theorem dR_init_61 : decode mR_init.2.1 61 = .ok (.bipush 20, 2) := by decide +kernel
theorem dR_init_63 : decode mR_init.2.1 63 = .ok (.newarray .boolean, 2) := by decide +kernel
theorem dR_init_65 : decode mR_init.2.1 65 = .ok (.putfield 32, 3) := by decide +kernel
theorem dR_init_68 : decode mR_init.2.1 68 = .ok (.aload_n 0, 1) := by decide +kernel
theorem dR_init_69 : decode mR_init.2.1 69 = .ok (.bipush 20, 2) := by decide +kernel
theorem dR_init_71 : decode mR_init.2.1 71 = .ok (.newarray .boolean, 2) := by decide +kernel
theorem dR_init_73 : decode mR_init.2.1 73 = .ok (.putfield 35, 3) := by decide +kernel
theorem dR_init_76 : decode mR_init.2.1 76 = .ok (.aload_n 0, 1) := by decide +kernel
theorem dR_init_77 : decode mR_init.2.1 77 = .ok (.bipush 20, 2) := by decide +kernel
theorem dR_init_79 : decode mR_init.2.1 79 = .ok (.newarray .int, 2) := by decide +kernel
theorem dR_init_81 : decode mR_init.2.1 81 = .ok (.putfield 38, 3) := by decide +kernel
theorem dR_init_84 : decode mR_init.2.1 84 = .ok (.aload_n 0, 1) := by decide +kernel
theorem dR_init_85 : decode mR_init.2.1 85 = .ok (.bipush 20, 2) := by decide +kernel
theorem dR_init_87 : decode mR_init.2.1 87 = .ok (.newarray .int, 2) := by decide +kernel
theorem dR_init_89 : decode mR_init.2.1 89 = .ok (.putfield 41, 3) := by decide +kernel
theorem dR_init_92 : decode mR_init.2.1 92 = .ok (.aload_n 0, 1) := by decide +kernel
theorem dR_init_93 : decode mR_init.2.1 93 = .ok (.bipush 20, 2) := by decide +kernel
theorem dR_init_95 : decode mR_init.2.1 95 = .ok (.newarray .int, 2) := by decide +kernel
theorem dR_init_97 : decode mR_init.2.1 97 = .ok (.putfield 44, 3) := by decide +kernel
theorem dR_init_100 : decode mR_init.2.1 100 = .ok (.aload_n 0, 1) := by decide +kernel
theorem dR_init_101 : decode mR_init.2.1 101 = .ok (.bipush 20, 2) := by decide +kernel
theorem dR_init_103 : decode mR_init.2.1 103 = .ok (.newarray .int, 2) := by decide +kernel
theorem dR_init_105 : decode mR_init.2.1 105 = .ok (.putfield 47, 3) := by decide +kernel
theorem dR_init_108 : decode mR_init.2.1 108 = .ok (.aload_n 0, 1) := by decide +kernel
theorem dR_init_109 : decode mR_init.2.1 109 = .ok (.bipush 20, 2) := by decide +kernel
theorem dR_init_111 : decode mR_init.2.1 111 = .ok (.newarray .int, 2) := by decide +kernel
theorem dR_init_113 : decode mR_init.2.1 113 = .ok (.putfield 50, 3) := by decide +kernel
theorem dR_init_116 : decode mR_init.2.1 116 = .ok (.aload_n 0, 1) := by decide +kernel
theorem dR_init_117 : decode mR_init.2.1 117 = .ok (.bipush 20, 2) := by decide +kernel
theorem dR_init_119 : decode mR_init.2.1 119 = .ok (.newarray .int, 2) := by decide +kernel
theorem dR_init_121 : decode mR_init.2.1 121 = .ok (.putfield 53, 3) := by decide +kernel
theorem dR_init_124 : decode mR_init.2.1 124 = .ok (.aload_n 0, 1) := by decide +kernel
theorem dR_init_125 : decode mR_init.2.1 125 = .ok (.bipush 20, 2) := by decide +kernel
theorem dR_init_127 : decode mR_init.2.1 127 = .ok (.newarray .int, 2) := by decide +kernel
theorem dR_init_129 : decode mR_init.2.1 129 = .ok (.putfield 56, 3) := by decide +kernel
theorem dR_init_132 : decode mR_init.2.1 132 = .ok (.aload_n 0, 1) := by decide +kernel
theorem dR_init_133 : decode mR_init.2.1 133 = .ok (.sipush 200, 3) := by decide +kernel
theorem dR_init_136 : decode mR_init.2.1 136 = .ok (.newarray .int, 2) := by decide +kernel
theorem dR_init_138 : decode mR_init.2.1 138 = .ok (.putfield 59, 3) := by decide +kernel
theorem dR_init_141 : decode mR_init.2.1 141 = .ok (.aload_n 0, 1) := by decide +kernel
theorem dR_init_142 : decode mR_init.2.1 142 = .ok (.sipush 200, 3) := by decide +kernel
theorem dR_init_145 : decode mR_init.2.1 145 = .ok (.newarray .boolean, 2) := by decide +kernel
theorem dR_init_147 : decode mR_init.2.1 147 = .ok (.putfield 62, 3) := by decide +kernel
theorem dR_init_150 : decode mR_init.2.1 150 = .ok (.aload_n 0, 1) := by decide +kernel
theorem dR_init_151 : decode mR_init.2.1 151 = .ok (.sipush 200, 3) := by decide +kernel
theorem dR_init_154 : decode mR_init.2.1 154 = .ok (.newarray .int, 2) := by decide +kernel
theorem dR_init_156 : decode mR_init.2.1 156 = .ok (.putfield 65, 3) := by decide +kernel
theorem dR_init_159 : decode mR_init.2.1 159 = .ok (.aload_n 0, 1) := by decide +kernel
theorem dR_init_160 : decode mR_init.2.1 160 = .ok (.sipush 200, 3) := by decide +kernel
theorem dR_init_163 : decode mR_init.2.1 163 = .ok (.newarray .int, 2) := by decide +kernel
theorem dR_init_165 : decode mR_init.2.1 165 = .ok (.putfield 68, 3) := by decide +kernel
theorem dR_init_168 : decode mR_init.2.1 168 = .ok (.aload_n 0, 1) := by decide +kernel
theorem dR_init_169 : decode mR_init.2.1 169 = .ok (.sipush 200, 3) := by decide +kernel
theorem dR_init_172 : decode mR_init.2.1 172 = .ok (.newarray .int, 2) := by decide +kernel
theorem dR_init_174 : decode mR_init.2.1 174 = .ok (.putfield 71, 3) := by decide +kernel
theorem dR_init_177 : decode mR_init.2.1 177 = .ok (.aload_n 0, 1) := by decide +kernel
theorem dR_init_178 : decode mR_init.2.1 178 = .ok (.sipush 200, 3) := by decide +kernel
theorem dR_init_181 : decode mR_init.2.1 181 = .ok (.newarray .int, 2) := by decide +kernel
theorem dR_init_183 : decode mR_init.2.1 183 = .ok (.putfield 74, 3) := by decide +kernel
theorem dR_init_186 : decode mR_init.2.1 186 = .ok (.aload_n 0, 1) := by decide +kernel
theorem dR_init_187 : decode mR_init.2.1 187 = .ok (.bipush 100, 2) := by decide +kernel
theorem dR_init_189 : decode mR_init.2.1 189 = .ok (.newarray .int, 2) := by decide +kernel
theorem dR_init_191 : decode mR_init.2.1 191 = .ok (.putfield 77, 3) := by decide +kernel
theorem dR_init_194 : decode mR_init.2.1 194 = .ok (.aload_n 0, 1) := by decide +kernel
theorem dR_init_195 : decode mR_init.2.1 195 = .ok (.bipush 100, 2) := by decide +kernel
theorem dR_init_197 : decode mR_init.2.1 197 = .ok (.newarray .int, 2) := by decide +kernel
theorem dR_init_199 : decode mR_init.2.1 199 = .ok (.putfield 80, 3) := by decide +kernel
theorem dR_init_202 : decode mR_init.2.1 202 = .ok (.aload_n 0, 1) := by decide +kernel
theorem dR_init_203 : decode mR_init.2.1 203 = .ok (.bipush 100, 2) := by decide +kernel
theorem dR_init_205 : decode mR_init.2.1 205 = .ok (.newarray .int, 2) := by decide +kernel
theorem dR_init_207 : decode mR_init.2.1 207 = .ok (.putfield 83, 3) := by decide +kernel
theorem dR_init_210 : decode mR_init.2.1 210 = .ok (.return_, 1) := by decide +kernel
theorem dR_thrown_0 : decode mR_thrown.2.1 0 = .ok (.aload_n 0, 1) := by decide +kernel
theorem dR_thrown_1 : decode mR_thrown.2.1 1 = .ok (.getfield 86, 3) := by decide +kernel
theorem dR_thrown_4 : decode mR_thrown.2.1 4 = .ok (.ireturn, 1) := by decide +kernel
theorem dR_vehicle_0 : decode mR_vehicle.2.1 0 = .ok (.aload_n 0, 1) := by decide +kernel
theorem dR_vehicle_1 : decode mR_vehicle.2.1 1 = .ok (.iload_n 1, 1) := by decide +kernel
theorem dR_vehicle_2 : decode mR_vehicle.2.1 2 = .ok (.invokestatic 97, 3) := by decide +kernel
theorem dR_vehicle_5 : decode mR_vehicle.2.1 5 = .ok (.aload_n 0, 1) := by decide +kernel
theorem dR_vehicle_6 : decode mR_vehicle.2.1 6 = .ok (.getfield 90, 3) := by decide +kernel
theorem dR_vehicle_9 : decode mR_vehicle.2.1 9 = .ok (.bipush 20, 2) := by decide +kernel
theorem dR_vehicle_11 : decode mR_vehicle.2.1 11 = .ok (.if_icmp .ge 7, 3) := by decide +kernel
theorem dR_vehicle_14 : decode mR_vehicle.2.1 14 = .ok (.iconst 1, 1) := by decide +kernel
theorem dR_vehicle_15 : decode mR_vehicle.2.1 15 = .ok (.goto 4, 3) := by decide +kernel
theorem dR_vehicle_18 : decode mR_vehicle.2.1 18 = .ok (.iconst 0, 1) := by decide +kernel
theorem dR_vehicle_19 : decode mR_vehicle.2.1 19 = .ok (.iconst 1, 1) := by decide +kernel
theorem dR_vehicle_20 : decode mR_vehicle.2.1 20 = .ok (.invokevirtual 101, 3) := by decide +kernel
theorem dR_vehicle_23 : decode mR_vehicle.2.1 23 = .ok (.ifCond .ne 5, 3) := by decide +kernel
theorem dR_vehicle_26 : decode mR_vehicle.2.1 26 = .ok (.iconst 0, 1) := by decide +kernel
theorem dR_vehicle_27 : decode mR_vehicle.2.1 27 = .ok (.ireturn, 1) := by decide +kernel
theorem dR_vehicle_28 : decode mR_vehicle.2.1 28 = .ok (.aload_n 0, 1) := by decide +kernel
theorem dR_vehicle_29 : decode mR_vehicle.2.1 29 = .ok (.getfield 29, 3) := by decide +kernel
theorem dR_vehicle_32 : decode mR_vehicle.2.1 32 = .ok (.aload_n 0, 1) := by decide +kernel
theorem dR_vehicle_33 : decode mR_vehicle.2.1 33 = .ok (.getfield 90, 3) := by decide +kernel
theorem dR_vehicle_36 : decode mR_vehicle.2.1 36 = .ok (.iload_n 1, 1) := by decide +kernel
theorem dR_vehicle_37 : decode mR_vehicle.2.1 37 = .ok (.iastore, 1) := by decide +kernel
theorem dR_vehicle_38 : decode mR_vehicle.2.1 38 = .ok (.aload_n 0, 1) := by decide +kernel
theorem dR_vehicle_39 : decode mR_vehicle.2.1 39 = .ok (.getfield 32, 3) := by decide +kernel
theorem dR_vehicle_42 : decode mR_vehicle.2.1 42 = .ok (.aload_n 0, 1) := by decide +kernel
theorem dR_vehicle_43 : decode mR_vehicle.2.1 43 = .ok (.getfield 90, 3) := by decide +kernel
theorem dR_vehicle_46 : decode mR_vehicle.2.1 46 = .ok (.iload_n 2, 1) := by decide +kernel
theorem dR_vehicle_47 : decode mR_vehicle.2.1 47 = .ok (.bastore, 1) := by decide +kernel
theorem dR_vehicle_48 : decode mR_vehicle.2.1 48 = .ok (.aload_n 0, 1) := by decide +kernel
theorem dR_vehicle_49 : decode mR_vehicle.2.1 49 = .ok (.getfield 38, 3) := by decide +kernel
theorem dR_vehicle_52 : decode mR_vehicle.2.1 52 = .ok (.aload_n 0, 1) := by decide +kernel
theorem dR_vehicle_53 : decode mR_vehicle.2.1 53 = .ok (.getfield 90, 3) := by decide +kernel
theorem dR_vehicle_56 : decode mR_vehicle.2.1 56 = .ok (.aload_n 0, 1) := by decide +kernel
theorem dR_vehicle_57 : decode mR_vehicle.2.1 57 = .ok (.getfield 105, 3) := by decide +kernel
theorem dR_vehicle_60 : decode mR_vehicle.2.1 60 = .ok (.iastore, 1) := by decide +kernel
theorem dR_vehicle_61 : decode mR_vehicle.2.1 61 = .ok (.aload_n 0, 1) := by decide +kernel
theorem dR_vehicle_62 : decode mR_vehicle.2.1 62 = .ok (.getfield 56, 3) := by decide +kernel
theorem dR_vehicle_65 : decode mR_vehicle.2.1 65 = .ok (.aload_n 0, 1) := by decide +kernel
theorem dR_vehicle_66 : decode mR_vehicle.2.1 66 = .ok (.getfield 90, 3) := by decide +kernel
theorem dR_vehicle_69 : decode mR_vehicle.2.1 69 = .ok (.iconst (-1), 1) := by decide +kernel
theorem dR_vehicle_70 : decode mR_vehicle.2.1 70 = .ok (.iastore, 1) := by decide +kernel
theorem dR_vehicle_71 : decode mR_vehicle.2.1 71 = .ok (.aload_n 0, 1) := by decide +kernel
theorem dR_vehicle_72 : decode mR_vehicle.2.1 72 = .ok (.dup, 1) := by decide +kernel
theorem dR_vehicle_73 : decode mR_vehicle.2.1 73 = .ok (.getfield 90, 3) := by decide +kernel
theorem dR_vehicle_76 : decode mR_vehicle.2.1 76 = .ok (.iconst 1, 1) := by decide +kernel
theorem dR_vehicle_77 : decode mR_vehicle.2.1 77 = .ok (.iadd, 1) := by decide +kernel
theorem dR_vehicle_78 : decode mR_vehicle.2.1 78 = .ok (.putfield 90, 3) := by decide +kernel
theorem dR_vehicle_81 : decode mR_vehicle.2.1 81 = .ok (.aload_n 0, 1) := by decide +kernel
theorem dR_vehicle_82 : decode mR_vehicle.2.1 82 = .ok (.getfield 90, 3) := by decide +kernel
theorem dR_vehicle_85 : decode mR_vehicle.2.1 85 = .ok (.iconst 1, 1) := by decide +kernel
theorem dR_vehicle_86 : decode mR_vehicle.2.1 86 = .ok (.isub, 1) := by decide +kernel
theorem dR_vehicle_87 : decode mR_vehicle.2.1 87 = .ok (.ireturn, 1) := by decide +kernel
theorem dR_isKind_0 : decode mR_isKind.2.1 0 = .ok (.iload_n 0, 1) := by decide +kernel
theorem dR_isKind_1 : decode mR_isKind.2.1 1 = .ok (.iconst 0, 1) := by decide +kernel
theorem dR_isKind_2 : decode mR_isKind.2.1 2 = .ok (.iconst 4, 1) := by decide +kernel
theorem dR_isKind_3 : decode mR_isKind.2.1 3 = .ok (.invokestatic 93, 3) := by decide +kernel
theorem dR_isKind_6 : decode mR_isKind.2.1 6 = .ok (.ireturn, 1) := by decide +kernel
theorem dR_in_0 : decode mR_in.2.1 0 = .ok (.iload_n 0, 1) := by decide +kernel
theorem dR_in_1 : decode mR_in.2.1 1 = .ok (.iload_n 1, 1) := by decide +kernel
theorem dR_in_2 : decode mR_in.2.1 2 = .ok (.if_icmp .lt 12, 3) := by decide +kernel
theorem dR_in_5 : decode mR_in.2.1 5 = .ok (.iload_n 0, 1) := by decide +kernel
theorem dR_in_6 : decode mR_in.2.1 6 = .ok (.iload_n 2, 1) := by decide +kernel
theorem dR_in_7 : decode mR_in.2.1 7 = .ok (.if_icmp .gt 7, 3) := by decide +kernel
theorem dR_in_10 : decode mR_in.2.1 10 = .ok (.iconst 1, 1) := by decide +kernel
theorem dR_in_11 : decode mR_in.2.1 11 = .ok (.goto 4, 3) := by decide +kernel
theorem dR_in_14 : decode mR_in.2.1 14 = .ok (.iconst 0, 1) := by decide +kernel
theorem dR_in_15 : decode mR_in.2.1 15 = .ok (.ireturn, 1) := by decide +kernel
theorem dR_goes_0 : decode mR_goes.2.1 0 = .ok (.aload_n 0, 1) := by decide +kernel
theorem dR_goes_1 : decode mR_goes.2.1 1 = .ok (.iload_n 1, 1) := by decide +kernel
theorem dR_goes_2 : decode mR_goes.2.1 2 = .ok (.ifCond .ne 7, 3) := by decide +kernel
theorem dR_goes_5 : decode mR_goes.2.1 5 = .ok (.iconst 1, 1) := by decide +kernel
theorem dR_goes_6 : decode mR_goes.2.1 6 = .ok (.goto 20, 3) := by decide +kernel
theorem dR_goes_9 : decode mR_goes.2.1 9 = .ok (.iload_n 2, 1) := by decide +kernel
theorem dR_goes_10 : decode mR_goes.2.1 10 = .ok (.ifCond .ne 7, 3) := by decide +kernel
theorem dR_goes_13 : decode mR_goes.2.1 13 = .ok (.iconst 2, 1) := by decide +kernel
theorem dR_goes_14 : decode mR_goes.2.1 14 = .ok (.goto 12, 3) := by decide +kernel
theorem dR_goes_17 : decode mR_goes.2.1 17 = .ok (.iload_n 3, 1) := by decide +kernel
theorem dR_goes_18 : decode mR_goes.2.1 18 = .ok (.ifCond .ne 7, 3) := by decide +kernel
theorem dR_goes_21 : decode mR_goes.2.1 21 = .ok (.iconst 3, 1) := by decide +kernel
theorem dR_goes_22 : decode mR_goes.2.1 22 = .ok (.goto 4, 3) := by decide +kernel
theorem dR_goes_25 : decode mR_goes.2.1 25 = .ok (.iconst 0, 1) := by decide +kernel
theorem dR_goes_26 : decode mR_goes.2.1 26 = .ok (.putfield 86, 3) := by decide +kernel
theorem dR_goes_29 : decode mR_goes.2.1 29 = .ok (.aload_n 0, 1) := by decide +kernel
theorem dR_goes_30 : decode mR_goes.2.1 30 = .ok (.getfield 86, 3) := by decide +kernel
theorem dR_goes_33 : decode mR_goes.2.1 33 = .ok (.ifCond .ne 7, 3) := by decide +kernel
theorem dR_goes_36 : decode mR_goes.2.1 36 = .ok (.iconst 1, 1) := by decide +kernel
theorem dR_goes_37 : decode mR_goes.2.1 37 = .ok (.goto 4, 3) := by decide +kernel
theorem dR_goes_40 : decode mR_goes.2.1 40 = .ok (.iconst 0, 1) := by decide +kernel
theorem dR_goes_41 : decode mR_goes.2.1 41 = .ok (.ireturn, 1) := by decide +kernel
theorem dR_list_0 : decode mR_list.2.1 0 = .ok (.aload_n 0, 1) := by decide +kernel
theorem dR_list_1 : decode mR_list.2.1 1 = .ok (.iload_n 1, 1) := by decide +kernel
theorem dR_list_2 : decode mR_list.2.1 2 = .ok (.invokestatic 97, 3) := by decide +kernel
theorem dR_list_5 : decode mR_list.2.1 5 = .ok (.ifCond .eq 14, 3) := by decide +kernel
theorem dR_list_8 : decode mR_list.2.1 8 = .ok (.iload_n 2, 1) := by decide +kernel
theorem dR_list_9 : decode mR_list.2.1 9 = .ok (.invokestatic 108, 3) := by decide +kernel
theorem dR_list_12 : decode mR_list.2.1 12 = .ok (.ifCond .eq 7, 3) := by decide +kernel
theorem dR_list_15 : decode mR_list.2.1 15 = .ok (.iconst 1, 1) := by decide +kernel
theorem dR_list_16 : decode mR_list.2.1 16 = .ok (.goto 4, 3) := by decide +kernel
theorem dR_list_19 : decode mR_list.2.1 19 = .ok (.iconst 0, 1) := by decide +kernel
theorem dR_list_20 : decode mR_list.2.1 20 = .ok (.iload_n 3, 1) := by decide +kernel
theorem dR_list_21 : decode mR_list.2.1 21 = .ok (.sipush (-9999), 3) := by decide +kernel
theorem dR_list_24 : decode mR_list.2.1 24 = .ok (.sipush 9999, 3) := by decide +kernel
theorem dR_list_27 : decode mR_list.2.1 27 = .ok (.invokestatic 93, 3) := by decide +kernel
theorem dR_list_30 : decode mR_list.2.1 30 = .ok (.ifCond .eq 41, 3) := by decide +kernel
theorem dR_list_33 : decode mR_list.2.1 33 = .ok (.iload 4, 2) := by decide +kernel
theorem dR_list_35 : decode mR_list.2.1 35 = .ok (.iload_n 3, 1) := by decide +kernel
theorem dR_list_36 : decode mR_list.2.1 36 = .ok (.sipush 9999, 3) := by decide +kernel
theorem dR_list_39 : decode mR_list.2.1 39 = .ok (.invokestatic 93, 3) := by decide +kernel
theorem dR_list_42 : decode mR_list.2.1 42 = .ok (.ifCond .eq 29, 3) := by decide +kernel
theorem dR_list_45 : decode mR_list.2.1 45 = .ok (.iload 5, 2) := by decide +kernel
theorem dR_list_47 : decode mR_list.2.1 47 = .ok (.iconst 1, 1) := by decide +kernel
theorem dR_list_48 : decode mR_list.2.1 48 = .ok (.iconst 3, 1) := by decide +kernel
theorem dR_list_49 : decode mR_list.2.1 49 = .ok (.invokestatic 93, 3) := by decide +kernel
theorem dR_list_52 : decode mR_list.2.1 52 = .ok (.ifCond .eq 19, 3) := by decide +kernel
theorem dR_list_55 : decode mR_list.2.1 55 = .ok (.iload 6, 2) := by decide +kernel
theorem dR_list_57 : decode mR_list.2.1 57 = .ok (.iconst 0, 1) := by decide +kernel
theorem dR_list_58 : decode mR_list.2.1 58 = .ok (.sipush 5000, 3) := by decide +kernel
theorem dR_list_61 : decode mR_list.2.1 61 = .ok (.invokestatic 93, 3) := by decide +kernel
theorem dR_list_64 : decode mR_list.2.1 64 = .ok (.ifCond .eq 7, 3) := by decide +kernel
theorem dR_list_67 : decode mR_list.2.1 67 = .ok (.iconst 1, 1) := by decide +kernel
theorem dR_list_68 : decode mR_list.2.1 68 = .ok (.goto 4, 3) := by decide +kernel
theorem dR_list_71 : decode mR_list.2.1 71 = .ok (.iconst 0, 1) := by decide +kernel
theorem dR_list_72 : decode mR_list.2.1 72 = .ok (.iconst 1, 1) := by decide +kernel
theorem dR_list_73 : decode mR_list.2.1 73 = .ok (.invokevirtual 101, 3) := by decide +kernel
theorem dR_list_76 : decode mR_list.2.1 76 = .ok (.ifCond .ne 4, 3) := by decide +kernel
theorem dR_list_79 : decode mR_list.2.1 79 = .ok (.return_, 1) := by decide +kernel
theorem dR_list_80 : decode mR_list.2.1 80 = .ok (.aload_n 0, 1) := by decide +kernel
theorem dR_list_81 : decode mR_list.2.1 81 = .ok (.getfield 7, 3) := by decide +kernel
theorem dR_list_84 : decode mR_list.2.1 84 = .ok (.bipush 10, 2) := by decide +kernel
theorem dR_list_86 : decode mR_list.2.1 86 = .ok (.iload_n 1, 1) := by decide +kernel
theorem dR_list_87 : decode mR_list.2.1 87 = .ok (.imul, 1) := by decide +kernel
theorem dR_list_88 : decode mR_list.2.1 88 = .ok (.iload_n 2, 1) := by decide +kernel
theorem dR_list_89 : decode mR_list.2.1 89 = .ok (.iadd, 1) := by decide +kernel
theorem dR_list_90 : decode mR_list.2.1 90 = .ok (.iconst 1, 1) := by decide +kernel
theorem dR_list_91 : decode mR_list.2.1 91 = .ok (.bastore, 1) := by decide +kernel
theorem dR_list_92 : decode mR_list.2.1 92 = .ok (.aload_n 0, 1) := by decide +kernel
theorem dR_list_93 : decode mR_list.2.1 93 = .ok (.getfield 13, 3) := by decide +kernel
theorem dR_list_96 : decode mR_list.2.1 96 = .ok (.bipush 10, 2) := by decide +kernel
theorem dR_list_98 : decode mR_list.2.1 98 = .ok (.iload_n 1, 1) := by decide +kernel
theorem dR_list_99 : decode mR_list.2.1 99 = .ok (.imul, 1) := by decide +kernel
theorem dR_list_100 : decode mR_list.2.1 100 = .ok (.iload_n 2, 1) := by decide +kernel
theorem dR_list_101 : decode mR_list.2.1 101 = .ok (.iadd, 1) := by decide +kernel
theorem dR_list_102 : decode mR_list.2.1 102 = .ok (.iload_n 3, 1) := by decide +kernel
theorem dR_list_103 : decode mR_list.2.1 103 = .ok (.iastore, 1) := by decide +kernel
theorem dR_list_104 : decode mR_list.2.1 104 = .ok (.aload_n 0, 1) := by decide +kernel
theorem dR_list_105 : decode mR_list.2.1 105 = .ok (.getfield 17, 3) := by decide +kernel
theorem dR_list_108 : decode mR_list.2.1 108 = .ok (.bipush 10, 2) := by decide +kernel
theorem dR_list_110 : decode mR_list.2.1 110 = .ok (.iload_n 1, 1) := by decide +kernel
theorem dR_list_111 : decode mR_list.2.1 111 = .ok (.imul, 1) := by decide +kernel
theorem dR_list_112 : decode mR_list.2.1 112 = .ok (.iload_n 2, 1) := by decide +kernel
theorem dR_list_113 : decode mR_list.2.1 113 = .ok (.iadd, 1) := by decide +kernel
theorem dR_list_114 : decode mR_list.2.1 114 = .ok (.iload 4, 2) := by decide +kernel
theorem dR_list_116 : decode mR_list.2.1 116 = .ok (.iastore, 1) := by decide +kernel
theorem dR_list_117 : decode mR_list.2.1 117 = .ok (.aload_n 0, 1) := by decide +kernel
theorem dR_list_118 : decode mR_list.2.1 118 = .ok (.getfield 20, 3) := by decide +kernel
theorem dR_list_121 : decode mR_list.2.1 121 = .ok (.bipush 10, 2) := by decide +kernel
theorem dR_list_123 : decode mR_list.2.1 123 = .ok (.iload_n 1, 1) := by decide +kernel
theorem dR_list_124 : decode mR_list.2.1 124 = .ok (.imul, 1) := by decide +kernel
theorem dR_list_125 : decode mR_list.2.1 125 = .ok (.iload_n 2, 1) := by decide +kernel
theorem dR_list_126 : decode mR_list.2.1 126 = .ok (.iadd, 1) := by decide +kernel
theorem dR_list_127 : decode mR_list.2.1 127 = .ok (.iload 5, 2) := by decide +kernel
theorem dR_list_129 : decode mR_list.2.1 129 = .ok (.iastore, 1) := by decide +kernel
theorem dR_list_130 : decode mR_list.2.1 130 = .ok (.aload_n 0, 1) := by decide +kernel
theorem dR_list_131 : decode mR_list.2.1 131 = .ok (.getfield 23, 3) := by decide +kernel
theorem dR_list_134 : decode mR_list.2.1 134 = .ok (.bipush 10, 2) := by decide +kernel
theorem dR_list_136 : decode mR_list.2.1 136 = .ok (.iload_n 1, 1) := by decide +kernel
theorem dR_list_137 : decode mR_list.2.1 137 = .ok (.imul, 1) := by decide +kernel
theorem dR_list_138 : decode mR_list.2.1 138 = .ok (.iload_n 2, 1) := by decide +kernel
theorem dR_list_139 : decode mR_list.2.1 139 = .ok (.iadd, 1) := by decide +kernel
theorem dR_list_140 : decode mR_list.2.1 140 = .ok (.iload 6, 2) := by decide +kernel
theorem dR_list_142 : decode mR_list.2.1 142 = .ok (.iastore, 1) := by decide +kernel
theorem dR_list_143 : decode mR_list.2.1 143 = .ok (.return_, 1) := by decide +kernel
theorem dR_isItem_0 : decode mR_isItem.2.1 0 = .ok (.iload_n 0, 1) := by decide +kernel
theorem dR_isItem_1 : decode mR_isItem.2.1 1 = .ok (.iconst 0, 1) := by decide +kernel
theorem dR_isItem_2 : decode mR_isItem.2.1 2 = .ok (.bipush 9, 2) := by decide +kernel
theorem dR_isItem_4 : decode mR_isItem.2.1 4 = .ok (.invokestatic 93, 3) := by decide +kernel
theorem dR_isItem_7 : decode mR_isItem.2.1 7 = .ok (.ireturn, 1) := by decide +kernel
theorem dR_unlist_0 : decode mR_unlist.2.1 0 = .ok (.iload_n 1, 1) := by decide +kernel
theorem dR_unlist_1 : decode mR_unlist.2.1 1 = .ok (.invokestatic 97, 3) := by decide +kernel
theorem dR_unlist_4 : decode mR_unlist.2.1 4 = .ok (.ifCond .eq 14, 3) := by decide +kernel
theorem dR_unlist_7 : decode mR_unlist.2.1 7 = .ok (.iload_n 2, 1) := by decide +kernel
theorem dR_unlist_8 : decode mR_unlist.2.1 8 = .ok (.invokestatic 108, 3) := by decide +kernel
theorem dR_unlist_11 : decode mR_unlist.2.1 11 = .ok (.ifCond .eq 7, 3) := by decide +kernel
theorem dR_unlist_14 : decode mR_unlist.2.1 14 = .ok (.iconst 1, 1) := by decide +kernel
theorem dR_unlist_15 : decode mR_unlist.2.1 15 = .ok (.goto 4, 3) := by decide +kernel
theorem dR_unlist_18 : decode mR_unlist.2.1 18 = .ok (.iconst 0, 1) := by decide +kernel
theorem dR_unlist_19 : decode mR_unlist.2.1 19 = .ok (.istore_n 3, 1) := by decide +kernel
theorem dR_unlist_20 : decode mR_unlist.2.1 20 = .ok (.aload_n 0, 1) := by decide +kernel
theorem dR_unlist_21 : decode mR_unlist.2.1 21 = .ok (.iload_n 3, 1) := by decide +kernel
theorem dR_unlist_22 : decode mR_unlist.2.1 22 = .ok (.iload_n 3, 1) := by decide +kernel
theorem dR_unlist_23 : decode mR_unlist.2.1 23 = .ok (.ifCond .eq 21, 3) := by decide +kernel
theorem dR_unlist_26 : decode mR_unlist.2.1 26 = .ok (.aload_n 0, 1) := by decide +kernel
theorem dR_unlist_27 : decode mR_unlist.2.1 27 = .ok (.getfield 7, 3) := by decide +kernel
theorem dR_unlist_30 : decode mR_unlist.2.1 30 = .ok (.bipush 10, 2) := by decide +kernel
theorem dR_unlist_32 : decode mR_unlist.2.1 32 = .ok (.iload_n 1, 1) := by decide +kernel
theorem dR_unlist_33 : decode mR_unlist.2.1 33 = .ok (.imul, 1) := by decide +kernel
theorem dR_unlist_34 : decode mR_unlist.2.1 34 = .ok (.iload_n 2, 1) := by decide +kernel
theorem dR_unlist_35 : decode mR_unlist.2.1 35 = .ok (.iadd, 1) := by decide +kernel
theorem dR_unlist_36 : decode mR_unlist.2.1 36 = .ok (.baload, 1) := by decide +kernel
theorem dR_unlist_37 : decode mR_unlist.2.1 37 = .ok (.ifCond .eq 7, 3) := by decide +kernel
theorem dR_unlist_40 : decode mR_unlist.2.1 40 = .ok (.iconst 1, 1) := by decide +kernel
theorem dR_unlist_41 : decode mR_unlist.2.1 41 = .ok (.goto 4, 3) := by decide +kernel
theorem dR_unlist_44 : decode mR_unlist.2.1 44 = .ok (.iconst 0, 1) := by decide +kernel
theorem dR_unlist_45 : decode mR_unlist.2.1 45 = .ok (.iconst 1, 1) := by decide +kernel
theorem dR_unlist_46 : decode mR_unlist.2.1 46 = .ok (.invokevirtual 101, 3) := by decide +kernel
theorem dR_unlist_49 : decode mR_unlist.2.1 49 = .ok (.ifCond .eq 15, 3) := by decide +kernel
theorem dR_unlist_52 : decode mR_unlist.2.1 52 = .ok (.aload_n 0, 1) := by decide +kernel
theorem dR_unlist_53 : decode mR_unlist.2.1 53 = .ok (.getfield 7, 3) := by decide +kernel
theorem dR_unlist_56 : decode mR_unlist.2.1 56 = .ok (.bipush 10, 2) := by decide +kernel
theorem dR_unlist_58 : decode mR_unlist.2.1 58 = .ok (.iload_n 1, 1) := by decide +kernel
theorem dR_unlist_59 : decode mR_unlist.2.1 59 = .ok (.imul, 1) := by decide +kernel
theorem dR_unlist_60 : decode mR_unlist.2.1 60 = .ok (.iload_n 2, 1) := by decide +kernel
theorem dR_unlist_61 : decode mR_unlist.2.1 61 = .ok (.iadd, 1) := by decide +kernel
theorem dR_unlist_62 : decode mR_unlist.2.1 62 = .ok (.iconst 0, 1) := by decide +kernel
theorem dR_unlist_63 : decode mR_unlist.2.1 63 = .ok (.bastore, 1) := by decide +kernel
theorem dR_unlist_64 : decode mR_unlist.2.1 64 = .ok (.return_, 1) := by decide +kernel
theorem dR_answer_0 : decode mR_answer.2.1 0 = .ok (.aload_n 0, 1) := by decide +kernel
theorem dR_answer_1 : decode mR_answer.2.1 1 = .ok (.iload_n 1, 1) := by decide +kernel
theorem dR_answer_2 : decode mR_answer.2.1 2 = .ok (.invokevirtual 115, 3) := by decide +kernel
theorem dR_answer_5 : decode mR_answer.2.1 5 = .ok (.ifCond .eq 22, 3) := by decide +kernel
theorem dR_answer_8 : decode mR_answer.2.1 8 = .ok (.iload_n 2, 1) := by decide +kernel
theorem dR_answer_9 : decode mR_answer.2.1 9 = .ok (.invokestatic 108, 3) := by decide +kernel
theorem dR_answer_12 : decode mR_answer.2.1 12 = .ok (.ifCond .eq 15, 3) := by decide +kernel
theorem dR_answer_15 : decode mR_answer.2.1 15 = .ok (.iload 4, 2) := by decide +kernel
theorem dR_answer_17 : decode mR_answer.2.1 17 = .ok (.invokestatic 118, 3) := by decide +kernel
theorem dR_answer_20 : decode mR_answer.2.1 20 = .ok (.ifCond .eq 7, 3) := by decide +kernel
theorem dR_answer_23 : decode mR_answer.2.1 23 = .ok (.iconst 1, 1) := by decide +kernel
theorem dR_answer_24 : decode mR_answer.2.1 24 = .ok (.goto 4, 3) := by decide +kernel
theorem dR_answer_27 : decode mR_answer.2.1 27 = .ok (.iconst 0, 1) := by decide +kernel
theorem dR_answer_28 : decode mR_answer.2.1 28 = .ok (.istore 5, 2) := by decide +kernel
theorem dR_answer_30 : decode mR_answer.2.1 30 = .ok (.aload_n 0, 1) := by decide +kernel
theorem dR_answer_31 : decode mR_answer.2.1 31 = .ok (.iload 5, 2) := by decide +kernel
theorem dR_answer_33 : decode mR_answer.2.1 33 = .ok (.iload_n 3, 1) := by decide +kernel
theorem dR_answer_34 : decode mR_answer.2.1 34 = .ok (.ldc 121, 2) := by decide +kernel
theorem dR_answer_36 : decode mR_answer.2.1 36 = .ok (.ldc 122, 2) := by decide +kernel
theorem dR_answer_38 : decode mR_answer.2.1 38 = .ok (.invokestatic 93, 3) := by decide +kernel
theorem dR_answer_41 : decode mR_answer.2.1 41 = .ok (.iload 5, 2) := by decide +kernel
theorem dR_answer_43 : decode mR_answer.2.1 43 = .ok (.ifCond .eq 21, 3) := by decide +kernel
theorem dR_answer_46 : decode mR_answer.2.1 46 = .ok (.aload_n 0, 1) := by decide +kernel
theorem dR_answer_47 : decode mR_answer.2.1 47 = .ok (.getfield 7, 3) := by decide +kernel
theorem dR_answer_50 : decode mR_answer.2.1 50 = .ok (.aload_n 0, 1) := by decide +kernel
theorem dR_answer_51 : decode mR_answer.2.1 51 = .ok (.iload_n 1, 1) := by decide +kernel
theorem dR_answer_52 : decode mR_answer.2.1 52 = .ok (.iload_n 2, 1) := by decide +kernel
theorem dR_answer_53 : decode mR_answer.2.1 53 = .ok (.invokevirtual 111, 3) := by decide +kernel
theorem dR_answer_56 : decode mR_answer.2.1 56 = .ok (.baload, 1) := by decide +kernel
theorem dR_answer_57 : decode mR_answer.2.1 57 = .ok (.ifCond .eq 7, 3) := by decide +kernel
theorem dR_answer_60 : decode mR_answer.2.1 60 = .ok (.iconst 1, 1) := by decide +kernel
theorem dR_answer_61 : decode mR_answer.2.1 61 = .ok (.goto 4, 3) := by decide +kernel
theorem dR_answer_64 : decode mR_answer.2.1 64 = .ok (.iconst 0, 1) := by decide +kernel
theorem dR_answer_65 : decode mR_answer.2.1 65 = .ok (.invokevirtual 101, 3) := by decide +kernel
theorem dR_answer_68 : decode mR_answer.2.1 68 = .ok (.ifCond .ne 5, 3) := by decide +kernel
theorem dR_answer_71 : decode mR_answer.2.1 71 = .ok (.iconst 0, 1) := by decide +kernel
theorem dR_answer_72 : decode mR_answer.2.1 72 = .ok (.ireturn, 1) := by decide +kernel
theorem dR_answer_73 : decode mR_answer.2.1 73 = .ok (.bipush 10, 2) := by decide +kernel
theorem dR_answer_75 : decode mR_answer.2.1 75 = .ok (.iload_n 1, 1) := by decide +kernel
theorem dR_answer_76 : decode mR_answer.2.1 76 = .ok (.imul, 1) := by decide +kernel
theorem dR_answer_77 : decode mR_answer.2.1 77 = .ok (.iload_n 2, 1) := by decide +kernel
theorem dR_answer_78 : decode mR_answer.2.1 78 = .ok (.iadd, 1) := by decide +kernel
theorem dR_answer_79 : decode mR_answer.2.1 79 = .ok (.istore 6, 2) := by decide +kernel
theorem dR_answer_81 : decode mR_answer.2.1 81 = .ok (.aload_n 0, 1) := by decide +kernel
theorem dR_answer_82 : decode mR_answer.2.1 82 = .ok (.getfield 62, 3) := by decide +kernel
theorem dR_answer_85 : decode mR_answer.2.1 85 = .ok (.iload 6, 2) := by decide +kernel
theorem dR_answer_87 : decode mR_answer.2.1 87 = .ok (.iconst 1, 1) := by decide +kernel
theorem dR_answer_88 : decode mR_answer.2.1 88 = .ok (.bastore, 1) := by decide +kernel
theorem dR_answer_89 : decode mR_answer.2.1 89 = .ok (.aload_n 0, 1) := by decide +kernel
theorem dR_answer_90 : decode mR_answer.2.1 90 = .ok (.getfield 65, 3) := by decide +kernel
theorem dR_answer_93 : decode mR_answer.2.1 93 = .ok (.iload 6, 2) := by decide +kernel
theorem dR_answer_95 : decode mR_answer.2.1 95 = .ok (.iload_n 3, 1) := by decide +kernel
theorem dR_answer_96 : decode mR_answer.2.1 96 = .ok (.iastore, 1) := by decide +kernel
theorem dR_answer_97 : decode mR_answer.2.1 97 = .ok (.aload_n 0, 1) := by decide +kernel
theorem dR_answer_98 : decode mR_answer.2.1 98 = .ok (.getfield 68, 3) := by decide +kernel
theorem dR_answer_101 : decode mR_answer.2.1 101 = .ok (.iload 6, 2) := by decide +kernel
theorem dR_answer_103 : decode mR_answer.2.1 103 = .ok (.aload_n 0, 1) := by decide +kernel
theorem dR_answer_104 : decode mR_answer.2.1 104 = .ok (.getfield 105, 3) := by decide +kernel
theorem dR_answer_107 : decode mR_answer.2.1 107 = .ok (.iastore, 1) := by decide +kernel
theorem dR_answer_108 : decode mR_answer.2.1 108 = .ok (.aload_n 0, 1) := by decide +kernel
theorem dR_answer_109 : decode mR_answer.2.1 109 = .ok (.getfield 71, 3) := by decide +kernel
theorem dR_answer_112 : decode mR_answer.2.1 112 = .ok (.iload 6, 2) := by decide +kernel
theorem dR_answer_114 : decode mR_answer.2.1 114 = .ok (.iload 4, 2) := by decide +kernel
theorem dR_answer_116 : decode mR_answer.2.1 116 = .ok (.iastore, 1) := by decide +kernel
theorem dR_answer_117 : decode mR_answer.2.1 117 = .ok (.aload_n 0, 1) := by decide +kernel
theorem dR_answer_118 : decode mR_answer.2.1 118 = .ok (.getfield 74, 3) := by decide +kernel
theorem dR_answer_121 : decode mR_answer.2.1 121 = .ok (.iload 6, 2) := by decide +kernel
theorem dR_answer_123 : decode mR_answer.2.1 123 = .ok (.aload_n 0, 1) := by decide +kernel
theorem dR_answer_124 : decode mR_answer.2.1 124 = .ok (.getfield 47, 3) := by decide +kernel
theorem dR_answer_127 : decode mR_answer.2.1 127 = .ok (.iload_n 1, 1) := by decide +kernel
theorem dR_answer_128 : decode mR_answer.2.1 128 = .ok (.iaload, 1) := by decide +kernel
theorem dR_answer_129 : decode mR_answer.2.1 129 = .ok (.iastore, 1) := by decide +kernel
theorem dR_answer_130 : decode mR_answer.2.1 130 = .ok (.aload_n 0, 1) := by decide +kernel
theorem dR_answer_131 : decode mR_answer.2.1 131 = .ok (.iload_n 1, 1) := by decide +kernel
theorem dR_answer_132 : decode mR_answer.2.1 132 = .ok (.iload_n 2, 1) := by decide +kernel
theorem dR_answer_133 : decode mR_answer.2.1 133 = .ok (.iload_n 3, 1) := by decide +kernel
theorem dR_answer_134 : decode mR_answer.2.1 134 = .ok (.invokevirtual 123, 3) := by decide +kernel
theorem dR_answer_137 : decode mR_answer.2.1 137 = .ok (.ireturn, 1) := by decide +kernel
theorem dR_isVehicle_0 : decode mR_isVehicle.2.1 0 = .ok (.iload_n 1, 1) := by decide +kernel
theorem dR_isVehicle_1 : decode mR_isVehicle.2.1 1 = .ok (.iconst 0, 1) := by decide +kernel
theorem dR_isVehicle_2 : decode mR_isVehicle.2.1 2 = .ok (.aload_n 0, 1) := by decide +kernel
theorem dR_isVehicle_3 : decode mR_isVehicle.2.1 3 = .ok (.getfield 90, 3) := by decide +kernel
theorem dR_isVehicle_6 : decode mR_isVehicle.2.1 6 = .ok (.iconst 1, 1) := by decide +kernel
theorem dR_isVehicle_7 : decode mR_isVehicle.2.1 7 = .ok (.isub, 1) := by decide +kernel
theorem dR_isVehicle_8 : decode mR_isVehicle.2.1 8 = .ok (.invokestatic 93, 3) := by decide +kernel
theorem dR_isVehicle_11 : decode mR_isVehicle.2.1 11 = .ok (.ireturn, 1) := by decide +kernel
theorem dR_isPerson_0 : decode mR_isPerson.2.1 0 = .ok (.iload_n 0, 1) := by decide +kernel
theorem dR_isPerson_1 : decode mR_isPerson.2.1 1 = .ok (.iconst 0, 1) := by decide +kernel
theorem dR_isPerson_2 : decode mR_isPerson.2.1 2 = .ok (.bipush 39, 2) := by decide +kernel
theorem dR_isPerson_4 : decode mR_isPerson.2.1 4 = .ok (.invokestatic 93, 3) := by decide +kernel
theorem dR_isPerson_7 : decode mR_isPerson.2.1 7 = .ok (.ireturn, 1) := by decide +kernel
theorem dR_rule_0 : decode mR_rule.2.1 0 = .ok (.bipush 10, 2) := by decide +kernel
theorem dR_rule_2 : decode mR_rule.2.1 2 = .ok (.aload_n 0, 1) := by decide +kernel
theorem dR_rule_3 : decode mR_rule.2.1 3 = .ok (.getfield 29, 3) := by decide +kernel
theorem dR_rule_6 : decode mR_rule.2.1 6 = .ok (.iload_n 1, 1) := by decide +kernel
theorem dR_rule_7 : decode mR_rule.2.1 7 = .ok (.iaload, 1) := by decide +kernel
theorem dR_rule_8 : decode mR_rule.2.1 8 = .ok (.imul, 1) := by decide +kernel
theorem dR_rule_9 : decode mR_rule.2.1 9 = .ok (.iload_n 2, 1) := by decide +kernel
theorem dR_rule_10 : decode mR_rule.2.1 10 = .ok (.iadd, 1) := by decide +kernel
theorem dR_rule_11 : decode mR_rule.2.1 11 = .ok (.ireturn, 1) := by decide +kernel
theorem dR_isWithin_0 : decode mR_isWithin.2.1 0 = .ok (.iload_n 3, 1) := by decide +kernel
theorem dR_isWithin_1 : decode mR_isWithin.2.1 1 = .ok (.aload_n 0, 1) := by decide +kernel
theorem dR_isWithin_2 : decode mR_isWithin.2.1 2 = .ok (.getfield 13, 3) := by decide +kernel
theorem dR_isWithin_5 : decode mR_isWithin.2.1 5 = .ok (.aload_n 0, 1) := by decide +kernel
theorem dR_isWithin_6 : decode mR_isWithin.2.1 6 = .ok (.iload_n 1, 1) := by decide +kernel
theorem dR_isWithin_7 : decode mR_isWithin.2.1 7 = .ok (.iload_n 2, 1) := by decide +kernel
theorem dR_isWithin_8 : decode mR_isWithin.2.1 8 = .ok (.invokevirtual 111, 3) := by decide +kernel
theorem dR_isWithin_11 : decode mR_isWithin.2.1 11 = .ok (.iaload, 1) := by decide +kernel
theorem dR_isWithin_12 : decode mR_isWithin.2.1 12 = .ok (.aload_n 0, 1) := by decide +kernel
theorem dR_isWithin_13 : decode mR_isWithin.2.1 13 = .ok (.getfield 17, 3) := by decide +kernel
theorem dR_isWithin_16 : decode mR_isWithin.2.1 16 = .ok (.aload_n 0, 1) := by decide +kernel
theorem dR_isWithin_17 : decode mR_isWithin.2.1 17 = .ok (.iload_n 1, 1) := by decide +kernel
theorem dR_isWithin_18 : decode mR_isWithin.2.1 18 = .ok (.iload_n 2, 1) := by decide +kernel
theorem dR_isWithin_19 : decode mR_isWithin.2.1 19 = .ok (.invokevirtual 111, 3) := by decide +kernel
theorem dR_isWithin_22 : decode mR_isWithin.2.1 22 = .ok (.iaload, 1) := by decide +kernel
theorem dR_isWithin_23 : decode mR_isWithin.2.1 23 = .ok (.invokestatic 93, 3) := by decide +kernel
theorem dR_isWithin_26 : decode mR_isWithin.2.1 26 = .ok (.ireturn, 1) := by decide +kernel
theorem dR_item_0 : decode mR_item.2.1 0 = .ok (.aload_n 0, 1) := by decide +kernel
theorem dR_item_1 : decode mR_item.2.1 1 = .ok (.aload_n 0, 1) := by decide +kernel
theorem dR_item_2 : decode mR_item.2.1 2 = .ok (.iload_n 1, 1) := by decide +kernel
theorem dR_item_3 : decode mR_item.2.1 3 = .ok (.invokevirtual 115, 3) := by decide +kernel
theorem dR_item_6 : decode mR_item.2.1 6 = .ok (.ifCond .eq 23, 3) := by decide +kernel
theorem dR_item_9 : decode mR_item.2.1 9 = .ok (.iload_n 2, 1) := by decide +kernel
theorem dR_item_10 : decode mR_item.2.1 10 = .ok (.invokestatic 108, 3) := by decide +kernel
theorem dR_item_13 : decode mR_item.2.1 13 = .ok (.ifCond .eq 16, 3) := by decide +kernel
theorem dR_item_16 : decode mR_item.2.1 16 = .ok (.iload_n 3, 1) := by decide +kernel
theorem dR_item_17 : decode mR_item.2.1 17 = .ok (.iconst 0, 1) := by decide +kernel
theorem dR_item_18 : decode mR_item.2.1 18 = .ok (.iconst 5, 1) := by decide +kernel
theorem dR_item_19 : decode mR_item.2.1 19 = .ok (.invokestatic 93, 3) := by decide +kernel
theorem dR_item_22 : decode mR_item.2.1 22 = .ok (.ifCond .eq 7, 3) := by decide +kernel
theorem dR_item_25 : decode mR_item.2.1 25 = .ok (.iconst 1, 1) := by decide +kernel
theorem dR_item_26 : decode mR_item.2.1 26 = .ok (.goto 4, 3) := by decide +kernel
theorem dR_item_29 : decode mR_item.2.1 29 = .ok (.iconst 0, 1) := by decide +kernel
theorem dR_item_30 : decode mR_item.2.1 30 = .ok (.iconst 1, 1) := by decide +kernel
theorem dR_item_31 : decode mR_item.2.1 31 = .ok (.iconst 1, 1) := by decide +kernel
theorem dR_item_32 : decode mR_item.2.1 32 = .ok (.invokevirtual 101, 3) := by decide +kernel
theorem dR_item_35 : decode mR_item.2.1 35 = .ok (.ifCond .ne 5, 3) := by decide +kernel
theorem dR_item_38 : decode mR_item.2.1 38 = .ok (.iconst 0, 1) := by decide +kernel
theorem dR_item_39 : decode mR_item.2.1 39 = .ok (.ireturn, 1) := by decide +kernel
theorem dR_item_40 : decode mR_item.2.1 40 = .ok (.bipush 10, 2) := by decide +kernel
theorem dR_item_42 : decode mR_item.2.1 42 = .ok (.iload_n 1, 1) := by decide +kernel
theorem dR_item_43 : decode mR_item.2.1 43 = .ok (.imul, 1) := by decide +kernel
theorem dR_item_44 : decode mR_item.2.1 44 = .ok (.iload_n 2, 1) := by decide +kernel
theorem dR_item_45 : decode mR_item.2.1 45 = .ok (.iadd, 1) := by decide +kernel
theorem dR_item_46 : decode mR_item.2.1 46 = .ok (.istore 4, 2) := by decide +kernel
theorem dR_item_48 : decode mR_item.2.1 48 = .ok (.iload_n 3, 1) := by decide +kernel
theorem dR_item_49 : decode mR_item.2.1 49 = .ok (.ifCond .ne 23, 3) := by decide +kernel
theorem dR_item_52 : decode mR_item.2.1 52 = .ok (.aload_n 0, 1) := by decide +kernel
theorem dR_item_53 : decode mR_item.2.1 53 = .ok (.getfield 7, 3) := by decide +kernel
theorem dR_item_56 : decode mR_item.2.1 56 = .ok (.aload_n 0, 1) := by decide +kernel
theorem dR_item_57 : decode mR_item.2.1 57 = .ok (.iload_n 1, 1) := by decide +kernel
theorem dR_item_58 : decode mR_item.2.1 58 = .ok (.iload_n 2, 1) := by decide +kernel
theorem dR_item_59 : decode mR_item.2.1 59 = .ok (.invokevirtual 111, 3) := by decide +kernel
theorem dR_item_62 : decode mR_item.2.1 62 = .ok (.baload, 1) := by decide +kernel
theorem dR_item_63 : decode mR_item.2.1 63 = .ok (.ifCond .eq 7, 3) := by decide +kernel
theorem dR_item_66 : decode mR_item.2.1 66 = .ok (.iconst 1, 1) := by decide +kernel
theorem dR_item_67 : decode mR_item.2.1 67 = .ok (.goto 4, 3) := by decide +kernel
theorem dR_item_70 : decode mR_item.2.1 70 = .ok (.iconst 0, 1) := by decide +kernel
theorem dR_item_71 : decode mR_item.2.1 71 = .ok (.ireturn, 1) := by decide +kernel
theorem dR_item_72 : decode mR_item.2.1 72 = .ok (.iload_n 3, 1) := by decide +kernel
theorem dR_item_73 : decode mR_item.2.1 73 = .ok (.iconst 3, 1) := by decide +kernel
theorem dR_item_74 : decode mR_item.2.1 74 = .ok (.if_icmp .le 35, 3) := by decide +kernel
theorem dR_item_77 : decode mR_item.2.1 77 = .ok (.iload_n 3, 1) := by decide +kernel
theorem dR_item_78 : decode mR_item.2.1 78 = .ok (.iconst 4, 1) := by decide +kernel
theorem dR_item_79 : decode mR_item.2.1 79 = .ok (.if_icmp .ne 15, 3) := by decide +kernel
theorem dR_item_82 : decode mR_item.2.1 82 = .ok (.aload_n 0, 1) := by decide +kernel
theorem dR_item_83 : decode mR_item.2.1 83 = .ok (.iload_n 1, 1) := by decide +kernel
theorem dR_item_84 : decode mR_item.2.1 84 = .ok (.iload_n 2, 1) := by decide +kernel
theorem dR_item_85 : decode mR_item.2.1 85 = .ok (.invokevirtual 126, 3) := by decide +kernel
theorem dR_item_88 : decode mR_item.2.1 88 = .ok (.ifCond .eq 19, 3) := by decide +kernel
theorem dR_item_91 : decode mR_item.2.1 91 = .ok (.goto 12, 3) := by decide +kernel
theorem dR_item_94 : decode mR_item.2.1 94 = .ok (.aload_n 0, 1) := by decide +kernel
theorem dR_item_95 : decode mR_item.2.1 95 = .ok (.iload_n 1, 1) := by decide +kernel
theorem dR_item_96 : decode mR_item.2.1 96 = .ok (.iload_n 2, 1) := by decide +kernel
theorem dR_item_97 : decode mR_item.2.1 97 = .ok (.invokevirtual 130, 3) := by decide +kernel
theorem dR_item_100 : decode mR_item.2.1 100 = .ok (.ifCond .eq 7, 3) := by decide +kernel
theorem dR_item_103 : decode mR_item.2.1 103 = .ok (.iconst 1, 1) := by decide +kernel
theorem dR_item_104 : decode mR_item.2.1 104 = .ok (.goto 4, 3) := by decide +kernel
theorem dR_item_107 : decode mR_item.2.1 107 = .ok (.iconst 0, 1) := by decide +kernel
theorem dR_item_108 : decode mR_item.2.1 108 = .ok (.ireturn, 1) := by decide +kernel
theorem dR_item_109 : decode mR_item.2.1 109 = .ok (.aload_n 0, 1) := by decide +kernel
theorem dR_item_110 : decode mR_item.2.1 110 = .ok (.getfield 62, 3) := by decide +kernel
theorem dR_item_113 : decode mR_item.2.1 113 = .ok (.iload 4, 2) := by decide +kernel
theorem dR_item_115 : decode mR_item.2.1 115 = .ok (.baload, 1) := by decide +kernel
theorem dR_item_116 : decode mR_item.2.1 116 = .ok (.ifCond .ne 14, 3) := by decide +kernel
theorem dR_item_119 : decode mR_item.2.1 119 = .ok (.iload_n 3, 1) := by decide +kernel
theorem dR_item_120 : decode mR_item.2.1 120 = .ok (.iconst 1, 1) := by decide +kernel
theorem dR_item_121 : decode mR_item.2.1 121 = .ok (.if_icmp .ne 7, 3) := by decide +kernel
theorem dR_item_124 : decode mR_item.2.1 124 = .ok (.iconst 0, 1) := by decide +kernel
theorem dR_item_125 : decode mR_item.2.1 125 = .ok (.goto 4, 3) := by decide +kernel
theorem dR_item_128 : decode mR_item.2.1 128 = .ok (.iconst (-1), 1) := by decide +kernel
theorem dR_item_129 : decode mR_item.2.1 129 = .ok (.ireturn, 1) := by decide +kernel
theorem dR_item_130 : decode mR_item.2.1 130 = .ok (.iload_n 3, 1) := by decide +kernel
theorem dR_item_131 : decode mR_item.2.1 131 = .ok (.iconst 1, 1) := by decide +kernel
theorem dR_item_132 : decode mR_item.2.1 132 = .ok (.if_icmp .ne 13, 3) := by decide +kernel
theorem dR_item_135 : decode mR_item.2.1 135 = .ok (.aload_n 0, 1) := by decide +kernel
theorem dR_item_136 : decode mR_item.2.1 136 = .ok (.getfield 65, 3) := by decide +kernel
theorem dR_item_139 : decode mR_item.2.1 139 = .ok (.iload 4, 2) := by decide +kernel
theorem dR_item_141 : decode mR_item.2.1 141 = .ok (.iaload, 1) := by decide +kernel
theorem dR_item_142 : decode mR_item.2.1 142 = .ok (.goto 25, 3) := by decide +kernel
theorem dR_item_145 : decode mR_item.2.1 145 = .ok (.iload_n 3, 1) := by decide +kernel
theorem dR_item_146 : decode mR_item.2.1 146 = .ok (.iconst 2, 1) := by decide +kernel
theorem dR_item_147 : decode mR_item.2.1 147 = .ok (.if_icmp .ne 13, 3) := by decide +kernel
theorem dR_item_150 : decode mR_item.2.1 150 = .ok (.aload_n 0, 1) := by decide +kernel
theorem dR_item_151 : decode mR_item.2.1 151 = .ok (.getfield 68, 3) := by decide +kernel
theorem dR_item_154 : decode mR_item.2.1 154 = .ok (.iload 4, 2) := by decide +kernel
theorem dR_item_156 : decode mR_item.2.1 156 = .ok (.iaload, 1) := by decide +kernel
theorem dR_item_157 : decode mR_item.2.1 157 = .ok (.goto 10, 3) := by decide +kernel
theorem dR_item_160 : decode mR_item.2.1 160 = .ok (.aload_n 0, 1) := by decide +kernel
theorem dR_item_161 : decode mR_item.2.1 161 = .ok (.getfield 71, 3) := by decide +kernel
theorem dR_item_164 : decode mR_item.2.1 164 = .ok (.iload 4, 2) := by decide +kernel
theorem dR_item_166 : decode mR_item.2.1 166 = .ok (.iaload, 1) := by decide +kernel
theorem dR_item_167 : decode mR_item.2.1 167 = .ok (.ireturn, 1) := by decide +kernel
theorem dR_fails_0 : decode mR_fails.2.1 0 = .ok (.aload_n 0, 1) := by decide +kernel
theorem dR_fails_1 : decode mR_fails.2.1 1 = .ok (.getfield 7, 3) := by decide +kernel
theorem dR_fails_4 : decode mR_fails.2.1 4 = .ok (.aload_n 0, 1) := by decide +kernel
theorem dR_fails_5 : decode mR_fails.2.1 5 = .ok (.iload_n 1, 1) := by decide +kernel
theorem dR_fails_6 : decode mR_fails.2.1 6 = .ok (.iload_n 2, 1) := by decide +kernel
theorem dR_fails_7 : decode mR_fails.2.1 7 = .ok (.invokevirtual 111, 3) := by decide +kernel
theorem dR_fails_10 : decode mR_fails.2.1 10 = .ok (.baload, 1) := by decide +kernel
theorem dR_fails_11 : decode mR_fails.2.1 11 = .ok (.ifCond .eq 41, 3) := by decide +kernel
theorem dR_fails_14 : decode mR_fails.2.1 14 = .ok (.aload_n 0, 1) := by decide +kernel
theorem dR_fails_15 : decode mR_fails.2.1 15 = .ok (.getfield 62, 3) := by decide +kernel
theorem dR_fails_18 : decode mR_fails.2.1 18 = .ok (.bipush 10, 2) := by decide +kernel
theorem dR_fails_20 : decode mR_fails.2.1 20 = .ok (.iload_n 1, 1) := by decide +kernel
theorem dR_fails_21 : decode mR_fails.2.1 21 = .ok (.imul, 1) := by decide +kernel
theorem dR_fails_22 : decode mR_fails.2.1 22 = .ok (.iload_n 2, 1) := by decide +kernel
theorem dR_fails_23 : decode mR_fails.2.1 23 = .ok (.iadd, 1) := by decide +kernel
theorem dR_fails_24 : decode mR_fails.2.1 24 = .ok (.baload, 1) := by decide +kernel
theorem dR_fails_25 : decode mR_fails.2.1 25 = .ok (.ifCond .eq 27, 3) := by decide +kernel
theorem dR_fails_28 : decode mR_fails.2.1 28 = .ok (.aload_n 0, 1) := by decide +kernel
theorem dR_fails_29 : decode mR_fails.2.1 29 = .ok (.iload_n 1, 1) := by decide +kernel
theorem dR_fails_30 : decode mR_fails.2.1 30 = .ok (.iload_n 2, 1) := by decide +kernel
theorem dR_fails_31 : decode mR_fails.2.1 31 = .ok (.aload_n 0, 1) := by decide +kernel
theorem dR_fails_32 : decode mR_fails.2.1 32 = .ok (.getfield 65, 3) := by decide +kernel
theorem dR_fails_35 : decode mR_fails.2.1 35 = .ok (.bipush 10, 2) := by decide +kernel
theorem dR_fails_37 : decode mR_fails.2.1 37 = .ok (.iload_n 1, 1) := by decide +kernel
theorem dR_fails_38 : decode mR_fails.2.1 38 = .ok (.imul, 1) := by decide +kernel
theorem dR_fails_39 : decode mR_fails.2.1 39 = .ok (.iload_n 2, 1) := by decide +kernel
theorem dR_fails_40 : decode mR_fails.2.1 40 = .ok (.iadd, 1) := by decide +kernel
theorem dR_fails_41 : decode mR_fails.2.1 41 = .ok (.iaload, 1) := by decide +kernel
theorem dR_fails_42 : decode mR_fails.2.1 42 = .ok (.invokevirtual 123, 3) := by decide +kernel
theorem dR_fails_45 : decode mR_fails.2.1 45 = .ok (.ifCond .ne 7, 3) := by decide +kernel
theorem dR_fails_48 : decode mR_fails.2.1 48 = .ok (.iconst 1, 1) := by decide +kernel
theorem dR_fails_49 : decode mR_fails.2.1 49 = .ok (.goto 4, 3) := by decide +kernel
theorem dR_fails_52 : decode mR_fails.2.1 52 = .ok (.iconst 0, 1) := by decide +kernel
theorem dR_fails_53 : decode mR_fails.2.1 53 = .ok (.ireturn, 1) := by decide +kernel
theorem dR_isSkipped_0 : decode mR_isSkipped.2.1 0 = .ok (.bipush 10, 2) := by decide +kernel
theorem dR_isSkipped_2 : decode mR_isSkipped.2.1 2 = .ok (.iload_n 1, 1) := by decide +kernel
theorem dR_isSkipped_3 : decode mR_isSkipped.2.1 3 = .ok (.imul, 1) := by decide +kernel
theorem dR_isSkipped_4 : decode mR_isSkipped.2.1 4 = .ok (.iload_n 2, 1) := by decide +kernel
theorem dR_isSkipped_5 : decode mR_isSkipped.2.1 5 = .ok (.iadd, 1) := by decide +kernel
theorem dR_isSkipped_6 : decode mR_isSkipped.2.1 6 = .ok (.istore_n 3, 1) := by decide +kernel
theorem dR_isSkipped_7 : decode mR_isSkipped.2.1 7 = .ok (.aload_n 0, 1) := by decide +kernel
theorem dR_isSkipped_8 : decode mR_isSkipped.2.1 8 = .ok (.getfield 23, 3) := by decide +kernel
theorem dR_isSkipped_11 : decode mR_isSkipped.2.1 11 = .ok (.aload_n 0, 1) := by decide +kernel
theorem dR_isSkipped_12 : decode mR_isSkipped.2.1 12 = .ok (.iload_n 1, 1) := by decide +kernel
theorem dR_isSkipped_13 : decode mR_isSkipped.2.1 13 = .ok (.iload_n 2, 1) := by decide +kernel
theorem dR_isSkipped_14 : decode mR_isSkipped.2.1 14 = .ok (.invokevirtual 111, 3) := by decide +kernel
theorem dR_isSkipped_17 : decode mR_isSkipped.2.1 17 = .ok (.iaload, 1) := by decide +kernel
theorem dR_isSkipped_18 : decode mR_isSkipped.2.1 18 = .ok (.istore 4, 2) := by decide +kernel
theorem dR_isSkipped_20 : decode mR_isSkipped.2.1 20 = .ok (.aload_n 0, 1) := by decide +kernel
theorem dR_isSkipped_21 : decode mR_isSkipped.2.1 21 = .ok (.getfield 7, 3) := by decide +kernel
theorem dR_isSkipped_24 : decode mR_isSkipped.2.1 24 = .ok (.aload_n 0, 1) := by decide +kernel
theorem dR_isSkipped_25 : decode mR_isSkipped.2.1 25 = .ok (.iload_n 1, 1) := by decide +kernel
theorem dR_isSkipped_26 : decode mR_isSkipped.2.1 26 = .ok (.iload_n 2, 1) := by decide +kernel
theorem dR_isSkipped_27 : decode mR_isSkipped.2.1 27 = .ok (.invokevirtual 111, 3) := by decide +kernel
theorem dR_isSkipped_30 : decode mR_isSkipped.2.1 30 = .ok (.baload, 1) := by decide +kernel
theorem dR_isSkipped_31 : decode mR_isSkipped.2.1 31 = .ok (.ifCond .ne 5, 3) := by decide +kernel
theorem dR_isSkipped_34 : decode mR_isSkipped.2.1 34 = .ok (.iconst 0, 1) := by decide +kernel
theorem dR_isSkipped_35 : decode mR_isSkipped.2.1 35 = .ok (.ireturn, 1) := by decide +kernel
theorem dR_isSkipped_36 : decode mR_isSkipped.2.1 36 = .ok (.iload 4, 2) := by decide +kernel
theorem dR_isSkipped_38 : decode mR_isSkipped.2.1 38 = .ok (.ifCond .ne 37, 3) := by decide +kernel
theorem dR_isSkipped_41 : decode mR_isSkipped.2.1 41 = .ok (.aload_n 0, 1) := by decide +kernel
theorem dR_isSkipped_42 : decode mR_isSkipped.2.1 42 = .ok (.getfield 47, 3) := by decide +kernel
theorem dR_isSkipped_45 : decode mR_isSkipped.2.1 45 = .ok (.iload_n 1, 1) := by decide +kernel
theorem dR_isSkipped_46 : decode mR_isSkipped.2.1 46 = .ok (.iaload, 1) := by decide +kernel
theorem dR_isSkipped_47 : decode mR_isSkipped.2.1 47 = .ok (.aload_n 0, 1) := by decide +kernel
theorem dR_isSkipped_48 : decode mR_isSkipped.2.1 48 = .ok (.getfield 62, 3) := by decide +kernel
theorem dR_isSkipped_51 : decode mR_isSkipped.2.1 51 = .ok (.iload_n 3, 1) := by decide +kernel
theorem dR_isSkipped_52 : decode mR_isSkipped.2.1 52 = .ok (.baload, 1) := by decide +kernel
theorem dR_isSkipped_53 : decode mR_isSkipped.2.1 53 = .ok (.ifCond .eq 12, 3) := by decide +kernel
theorem dR_isSkipped_56 : decode mR_isSkipped.2.1 56 = .ok (.aload_n 0, 1) := by decide +kernel
theorem dR_isSkipped_57 : decode mR_isSkipped.2.1 57 = .ok (.getfield 74, 3) := by decide +kernel
theorem dR_isSkipped_60 : decode mR_isSkipped.2.1 60 = .ok (.iload_n 3, 1) := by decide +kernel
theorem dR_isSkipped_61 : decode mR_isSkipped.2.1 61 = .ok (.iaload, 1) := by decide +kernel
theorem dR_isSkipped_62 : decode mR_isSkipped.2.1 62 = .ok (.goto 4, 3) := by decide +kernel
theorem dR_isSkipped_65 : decode mR_isSkipped.2.1 65 = .ok (.iconst 0, 1) := by decide +kernel
theorem dR_isSkipped_66 : decode mR_isSkipped.2.1 66 = .ok (.if_icmp .le 7, 3) := by decide +kernel
theorem dR_isSkipped_69 : decode mR_isSkipped.2.1 69 = .ok (.iconst 1, 1) := by decide +kernel
theorem dR_isSkipped_70 : decode mR_isSkipped.2.1 70 = .ok (.goto 4, 3) := by decide +kernel
theorem dR_isSkipped_73 : decode mR_isSkipped.2.1 73 = .ok (.iconst 0, 1) := by decide +kernel
theorem dR_isSkipped_74 : decode mR_isSkipped.2.1 74 = .ok (.ireturn, 1) := by decide +kernel
theorem dR_isSkipped_75 : decode mR_isSkipped.2.1 75 = .ok (.aload_n 0, 1) := by decide +kernel
theorem dR_isSkipped_76 : decode mR_isSkipped.2.1 76 = .ok (.getfield 105, 3) := by decide +kernel
theorem dR_isSkipped_79 : decode mR_isSkipped.2.1 79 = .ok (.aload_n 0, 1) := by decide +kernel
theorem dR_isSkipped_80 : decode mR_isSkipped.2.1 80 = .ok (.getfield 62, 3) := by decide +kernel
theorem dR_isSkipped_83 : decode mR_isSkipped.2.1 83 = .ok (.iload_n 3, 1) := by decide +kernel
theorem dR_isSkipped_84 : decode mR_isSkipped.2.1 84 = .ok (.baload, 1) := by decide +kernel
theorem dR_isSkipped_85 : decode mR_isSkipped.2.1 85 = .ok (.ifCond .eq 12, 3) := by decide +kernel
theorem dR_isSkipped_88 : decode mR_isSkipped.2.1 88 = .ok (.aload_n 0, 1) := by decide +kernel
theorem dR_isSkipped_89 : decode mR_isSkipped.2.1 89 = .ok (.getfield 68, 3) := by decide +kernel
theorem dR_isSkipped_92 : decode mR_isSkipped.2.1 92 = .ok (.iload_n 3, 1) := by decide +kernel
theorem dR_isSkipped_93 : decode mR_isSkipped.2.1 93 = .ok (.iaload, 1) := by decide +kernel
theorem dR_isSkipped_94 : decode mR_isSkipped.2.1 94 = .ok (.goto 9, 3) := by decide +kernel
theorem dR_isSkipped_97 : decode mR_isSkipped.2.1 97 = .ok (.aload_n 0, 1) := by decide +kernel
theorem dR_isSkipped_98 : decode mR_isSkipped.2.1 98 = .ok (.getfield 38, 3) := by decide +kernel
theorem dR_isSkipped_101 : decode mR_isSkipped.2.1 101 = .ok (.iload_n 1, 1) := by decide +kernel
theorem dR_isSkipped_102 : decode mR_isSkipped.2.1 102 = .ok (.iaload, 1) := by decide +kernel
theorem dR_isSkipped_103 : decode mR_isSkipped.2.1 103 = .ok (.isub, 1) := by decide +kernel
theorem dR_isSkipped_104 : decode mR_isSkipped.2.1 104 = .ok (.iload 4, 2) := by decide +kernel
theorem dR_isSkipped_106 : decode mR_isSkipped.2.1 106 = .ok (.if_icmp .lt 7, 3) := by decide +kernel
theorem dR_isSkipped_109 : decode mR_isSkipped.2.1 109 = .ok (.iconst 1, 1) := by decide +kernel
theorem dR_isSkipped_110 : decode mR_isSkipped.2.1 110 = .ok (.goto 4, 3) := by decide +kernel
theorem dR_isSkipped_113 : decode mR_isSkipped.2.1 113 = .ok (.iconst 0, 1) := by decide +kernel
theorem dR_isSkipped_114 : decode mR_isSkipped.2.1 114 = .ok (.ireturn, 1) := by decide +kernel
theorem dR_reason_0 : decode mR_reason.2.1 0 = .ok (.aload_n 0, 1) := by decide +kernel
theorem dR_reason_1 : decode mR_reason.2.1 1 = .ok (.aload_n 0, 1) := by decide +kernel
theorem dR_reason_2 : decode mR_reason.2.1 2 = .ok (.iload_n 1, 1) := by decide +kernel
theorem dR_reason_3 : decode mR_reason.2.1 3 = .ok (.invokevirtual 115, 3) := by decide +kernel
theorem dR_reason_6 : decode mR_reason.2.1 6 = .ok (.iload_n 2, 1) := by decide +kernel
theorem dR_reason_7 : decode mR_reason.2.1 7 = .ok (.ifCond .lt 7, 3) := by decide +kernel
theorem dR_reason_10 : decode mR_reason.2.1 10 = .ok (.iconst 1, 1) := by decide +kernel
theorem dR_reason_11 : decode mR_reason.2.1 11 = .ok (.goto 4, 3) := by decide +kernel
theorem dR_reason_14 : decode mR_reason.2.1 14 = .ok (.iconst 0, 1) := by decide +kernel
theorem dR_reason_15 : decode mR_reason.2.1 15 = .ok (.iconst 1, 1) := by decide +kernel
theorem dR_reason_16 : decode mR_reason.2.1 16 = .ok (.invokevirtual 101, 3) := by decide +kernel
theorem dR_reason_19 : decode mR_reason.2.1 19 = .ok (.ifCond .ne 5, 3) := by decide +kernel
theorem dR_reason_22 : decode mR_reason.2.1 22 = .ok (.iconst 0, 1) := by decide +kernel
theorem dR_reason_23 : decode mR_reason.2.1 23 = .ok (.ireturn, 1) := by decide +kernel
theorem dR_reason_24 : decode mR_reason.2.1 24 = .ok (.aload_n 0, 1) := by decide +kernel
theorem dR_reason_25 : decode mR_reason.2.1 25 = .ok (.iload_n 1, 1) := by decide +kernel
theorem dR_reason_26 : decode mR_reason.2.1 26 = .ok (.iload_n 2, 1) := by decide +kernel
theorem dR_reason_27 : decode mR_reason.2.1 27 = .ok (.invokevirtual 136, 3) := by decide +kernel
theorem dR_reason_30 : decode mR_reason.2.1 30 = .ok (.ireturn, 1) := by decide +kernel
theorem dR_reasonOf_0 : decode mR_reasonOf.2.1 0 = .ok (.iconst 0, 1) := by decide +kernel
theorem dR_reasonOf_1 : decode mR_reasonOf.2.1 1 = .ok (.istore_n 3, 1) := by decide +kernel
theorem dR_reasonOf_2 : decode mR_reasonOf.2.1 2 = .ok (.iconst 0, 1) := by decide +kernel
theorem dR_reasonOf_3 : decode mR_reasonOf.2.1 3 = .ok (.istore 4, 2) := by decide +kernel
theorem dR_reasonOf_5 : decode mR_reasonOf.2.1 5 = .ok (.iload 4, 2) := by decide +kernel
theorem dR_reasonOf_7 : decode mR_reasonOf.2.1 7 = .ok (.bipush 10, 2) := by decide +kernel
theorem dR_reasonOf_9 : decode mR_reasonOf.2.1 9 = .ok (.if_icmp .ge 50, 3) := by decide +kernel
theorem dR_reasonOf_12 : decode mR_reasonOf.2.1 12 = .ok (.aload_n 0, 1) := by decide +kernel
theorem dR_reasonOf_13 : decode mR_reasonOf.2.1 13 = .ok (.iload_n 1, 1) := by decide +kernel
theorem dR_reasonOf_14 : decode mR_reasonOf.2.1 14 = .ok (.iload 4, 2) := by decide +kernel
theorem dR_reasonOf_16 : decode mR_reasonOf.2.1 16 = .ok (.invokevirtual 126, 3) := by decide +kernel
theorem dR_reasonOf_19 : decode mR_reasonOf.2.1 19 = .ok (.ifCond .ne 6, 3) := by decide +kernel
theorem dR_reasonOf_22 : decode mR_reasonOf.2.1 22 = .ok (.goto 31, 3) := by decide +kernel
theorem dR_reasonOf_25 : decode mR_reasonOf.2.1 25 = .ok (.iload_n 3, 1) := by decide +kernel
theorem dR_reasonOf_26 : decode mR_reasonOf.2.1 26 = .ok (.iload_n 2, 1) := by decide +kernel
theorem dR_reasonOf_27 : decode mR_reasonOf.2.1 27 = .ok (.if_icmp .ne 23, 3) := by decide +kernel
theorem dR_reasonOf_30 : decode mR_reasonOf.2.1 30 = .ok (.sipush 10000, 3) := by decide +kernel
theorem dR_reasonOf_33 : decode mR_reasonOf.2.1 33 = .ok (.aload_n 0, 1) := by decide +kernel
theorem dR_reasonOf_34 : decode mR_reasonOf.2.1 34 = .ok (.getfield 20, 3) := by decide +kernel
theorem dR_reasonOf_37 : decode mR_reasonOf.2.1 37 = .ok (.aload_n 0, 1) := by decide +kernel
theorem dR_reasonOf_38 : decode mR_reasonOf.2.1 38 = .ok (.iload_n 1, 1) := by decide +kernel
theorem dR_reasonOf_39 : decode mR_reasonOf.2.1 39 = .ok (.iload 4, 2) := by decide +kernel
theorem dR_reasonOf_41 : decode mR_reasonOf.2.1 41 = .ok (.invokevirtual 111, 3) := by decide +kernel
theorem dR_reasonOf_44 : decode mR_reasonOf.2.1 44 = .ok (.iaload, 1) := by decide +kernel
theorem dR_reasonOf_45 : decode mR_reasonOf.2.1 45 = .ok (.imul, 1) := by decide +kernel
theorem dR_reasonOf_46 : decode mR_reasonOf.2.1 46 = .ok (.iload 4, 2) := by decide +kernel
theorem dR_reasonOf_48 : decode mR_reasonOf.2.1 48 = .ok (.iadd, 1) := by decide +kernel
theorem dR_reasonOf_49 : decode mR_reasonOf.2.1 49 = .ok (.ireturn, 1) := by decide +kernel
theorem dR_reasonOf_50 : decode mR_reasonOf.2.1 50 = .ok (.iinc 3 1, 3) := by decide +kernel
theorem dR_reasonOf_53 : decode mR_reasonOf.2.1 53 = .ok (.iinc 4 1, 3) := by decide +kernel
theorem dR_reasonOf_56 : decode mR_reasonOf.2.1 56 = .ok (.goto (-51), 3) := by decide +kernel
theorem dR_reasonOf_59 : decode mR_reasonOf.2.1 59 = .ok (.iconst 0, 1) := by decide +kernel
theorem dR_reasonOf_60 : decode mR_reasonOf.2.1 60 = .ok (.istore 4, 2) := by decide +kernel
theorem dR_reasonOf_62 : decode mR_reasonOf.2.1 62 = .ok (.iload 4, 2) := by decide +kernel
theorem dR_reasonOf_64 : decode mR_reasonOf.2.1 64 = .ok (.bipush 10, 2) := by decide +kernel
theorem dR_reasonOf_66 : decode mR_reasonOf.2.1 66 = .ok (.if_icmp .ge 53, 3) := by decide +kernel
theorem dR_reasonOf_69 : decode mR_reasonOf.2.1 69 = .ok (.aload_n 0, 1) := by decide +kernel
theorem dR_reasonOf_70 : decode mR_reasonOf.2.1 70 = .ok (.iload_n 1, 1) := by decide +kernel
theorem dR_reasonOf_71 : decode mR_reasonOf.2.1 71 = .ok (.iload 4, 2) := by decide +kernel
theorem dR_reasonOf_73 : decode mR_reasonOf.2.1 73 = .ok (.invokevirtual 130, 3) := by decide +kernel
theorem dR_reasonOf_76 : decode mR_reasonOf.2.1 76 = .ok (.ifCond .ne 6, 3) := by decide +kernel
theorem dR_reasonOf_79 : decode mR_reasonOf.2.1 79 = .ok (.goto 34, 3) := by decide +kernel
theorem dR_reasonOf_82 : decode mR_reasonOf.2.1 82 = .ok (.iload_n 3, 1) := by decide +kernel
theorem dR_reasonOf_83 : decode mR_reasonOf.2.1 83 = .ok (.iload_n 2, 1) := by decide +kernel
theorem dR_reasonOf_84 : decode mR_reasonOf.2.1 84 = .ok (.if_icmp .ne 26, 3) := by decide +kernel
theorem dR_reasonOf_87 : decode mR_reasonOf.2.1 87 = .ok (.sipush 10000, 3) := by decide +kernel
theorem dR_reasonOf_90 : decode mR_reasonOf.2.1 90 = .ok (.aload_n 0, 1) := by decide +kernel
theorem dR_reasonOf_91 : decode mR_reasonOf.2.1 91 = .ok (.getfield 20, 3) := by decide +kernel
theorem dR_reasonOf_94 : decode mR_reasonOf.2.1 94 = .ok (.aload_n 0, 1) := by decide +kernel
theorem dR_reasonOf_95 : decode mR_reasonOf.2.1 95 = .ok (.iload_n 1, 1) := by decide +kernel
theorem dR_reasonOf_96 : decode mR_reasonOf.2.1 96 = .ok (.iload 4, 2) := by decide +kernel
theorem dR_reasonOf_98 : decode mR_reasonOf.2.1 98 = .ok (.invokevirtual 111, 3) := by decide +kernel
theorem dR_reasonOf_101 : decode mR_reasonOf.2.1 101 = .ok (.iaload, 1) := by decide +kernel
theorem dR_reasonOf_102 : decode mR_reasonOf.2.1 102 = .ok (.imul, 1) := by decide +kernel
theorem dR_reasonOf_103 : decode mR_reasonOf.2.1 103 = .ok (.bipush 100, 2) := by decide +kernel
theorem dR_reasonOf_105 : decode mR_reasonOf.2.1 105 = .ok (.iadd, 1) := by decide +kernel
theorem dR_reasonOf_106 : decode mR_reasonOf.2.1 106 = .ok (.iload 4, 2) := by decide +kernel
theorem dR_reasonOf_108 : decode mR_reasonOf.2.1 108 = .ok (.iadd, 1) := by decide +kernel
theorem dR_reasonOf_109 : decode mR_reasonOf.2.1 109 = .ok (.ireturn, 1) := by decide +kernel
theorem dR_reasonOf_110 : decode mR_reasonOf.2.1 110 = .ok (.iinc 3 1, 3) := by decide +kernel
theorem dR_reasonOf_113 : decode mR_reasonOf.2.1 113 = .ok (.iinc 4 1, 3) := by decide +kernel
theorem dR_reasonOf_116 : decode mR_reasonOf.2.1 116 = .ok (.goto (-54), 3) := by decide +kernel
theorem dR_reasonOf_119 : decode mR_reasonOf.2.1 119 = .ok (.iconst 0, 1) := by decide +kernel
theorem dR_reasonOf_120 : decode mR_reasonOf.2.1 120 = .ok (.istore 4, 2) := by decide +kernel
theorem dR_reasonOf_122 : decode mR_reasonOf.2.1 122 = .ok (.iload 4, 2) := by decide +kernel
theorem dR_reasonOf_124 : decode mR_reasonOf.2.1 124 = .ok (.aload_n 0, 1) := by decide +kernel
theorem dR_reasonOf_125 : decode mR_reasonOf.2.1 125 = .ok (.getfield 133, 3) := by decide +kernel
theorem dR_reasonOf_128 : decode mR_reasonOf.2.1 128 = .ok (.if_icmp .ge 60, 3) := by decide +kernel
theorem dR_reasonOf_131 : decode mR_reasonOf.2.1 131 = .ok (.aload_n 0, 1) := by decide +kernel
theorem dR_reasonOf_132 : decode mR_reasonOf.2.1 132 = .ok (.getfield 77, 3) := by decide +kernel
theorem dR_reasonOf_135 : decode mR_reasonOf.2.1 135 = .ok (.iload 4, 2) := by decide +kernel
theorem dR_reasonOf_137 : decode mR_reasonOf.2.1 137 = .ok (.iaload, 1) := by decide +kernel
theorem dR_reasonOf_138 : decode mR_reasonOf.2.1 138 = .ok (.iload_n 1, 1) := by decide +kernel
theorem dR_reasonOf_139 : decode mR_reasonOf.2.1 139 = .ok (.if_icmp .ne 43, 3) := by decide +kernel
theorem dR_reasonOf_142 : decode mR_reasonOf.2.1 142 = .ok (.aload_n 0, 1) := by decide +kernel
theorem dR_reasonOf_143 : decode mR_reasonOf.2.1 143 = .ok (.getfield 83, 3) := by decide +kernel
theorem dR_reasonOf_146 : decode mR_reasonOf.2.1 146 = .ok (.iload 4, 2) := by decide +kernel
theorem dR_reasonOf_148 : decode mR_reasonOf.2.1 148 = .ok (.iaload, 1) := by decide +kernel
theorem dR_reasonOf_149 : decode mR_reasonOf.2.1 149 = .ok (.ifCond .le 6, 3) := by decide +kernel
theorem dR_reasonOf_152 : decode mR_reasonOf.2.1 152 = .ok (.goto 30, 3) := by decide +kernel
theorem dR_reasonOf_155 : decode mR_reasonOf.2.1 155 = .ok (.iload_n 3, 1) := by decide +kernel
theorem dR_reasonOf_156 : decode mR_reasonOf.2.1 156 = .ok (.iload_n 2, 1) := by decide +kernel
theorem dR_reasonOf_157 : decode mR_reasonOf.2.1 157 = .ok (.if_icmp .ne 22, 3) := by decide +kernel
theorem dR_reasonOf_160 : decode mR_reasonOf.2.1 160 = .ok (.sipush 10000, 3) := by decide +kernel
theorem dR_reasonOf_163 : decode mR_reasonOf.2.1 163 = .ok (.aload_n 0, 1) := by decide +kernel
theorem dR_reasonOf_164 : decode mR_reasonOf.2.1 164 = .ok (.getfield 80, 3) := by decide +kernel
theorem dR_reasonOf_167 : decode mR_reasonOf.2.1 167 = .ok (.iload 4, 2) := by decide +kernel
theorem dR_reasonOf_169 : decode mR_reasonOf.2.1 169 = .ok (.iaload, 1) := by decide +kernel
theorem dR_reasonOf_170 : decode mR_reasonOf.2.1 170 = .ok (.imul, 1) := by decide +kernel
theorem dR_reasonOf_171 : decode mR_reasonOf.2.1 171 = .ok (.sipush 1000, 3) := by decide +kernel
theorem dR_reasonOf_174 : decode mR_reasonOf.2.1 174 = .ok (.iadd, 1) := by decide +kernel
theorem dR_reasonOf_175 : decode mR_reasonOf.2.1 175 = .ok (.iload 4, 2) := by decide +kernel
theorem dR_reasonOf_177 : decode mR_reasonOf.2.1 177 = .ok (.iadd, 1) := by decide +kernel
theorem dR_reasonOf_178 : decode mR_reasonOf.2.1 178 = .ok (.ireturn, 1) := by decide +kernel
theorem dR_reasonOf_179 : decode mR_reasonOf.2.1 179 = .ok (.iinc 3 1, 3) := by decide +kernel
theorem dR_reasonOf_182 : decode mR_reasonOf.2.1 182 = .ok (.iinc 4 1, 3) := by decide +kernel
theorem dR_reasonOf_185 : decode mR_reasonOf.2.1 185 = .ok (.goto (-63), 3) := by decide +kernel
theorem dR_reasonOf_188 : decode mR_reasonOf.2.1 188 = .ok (.iconst (-1), 1) := by decide +kernel
theorem dR_reasonOf_189 : decode mR_reasonOf.2.1 189 = .ok (.ireturn, 1) := by decide +kernel
theorem dR_runs_0 : decode mR_runs.2.1 0 = .ok (.aload_n 0, 1) := by decide +kernel
theorem dR_runs_1 : decode mR_runs.2.1 1 = .ok (.aload_n 0, 1) := by decide +kernel
theorem dR_runs_2 : decode mR_runs.2.1 2 = .ok (.iload_n 1, 1) := by decide +kernel
theorem dR_runs_3 : decode mR_runs.2.1 3 = .ok (.invokevirtual 115, 3) := by decide +kernel
theorem dR_runs_6 : decode mR_runs.2.1 6 = .ok (.iconst 1, 1) := by decide +kernel
theorem dR_runs_7 : decode mR_runs.2.1 7 = .ok (.iconst 1, 1) := by decide +kernel
theorem dR_runs_8 : decode mR_runs.2.1 8 = .ok (.invokevirtual 101, 3) := by decide +kernel
theorem dR_runs_11 : decode mR_runs.2.1 11 = .ok (.ifCond .eq 15, 3) := by decide +kernel
theorem dR_runs_14 : decode mR_runs.2.1 14 = .ok (.aload_n 0, 1) := by decide +kernel
theorem dR_runs_15 : decode mR_runs.2.1 15 = .ok (.iload_n 1, 1) := by decide +kernel
theorem dR_runs_16 : decode mR_runs.2.1 16 = .ok (.invokevirtual 139, 3) := by decide +kernel
theorem dR_runs_19 : decode mR_runs.2.1 19 = .ok (.ifCond .eq 7, 3) := by decide +kernel
theorem dR_runs_22 : decode mR_runs.2.1 22 = .ok (.iconst 1, 1) := by decide +kernel
theorem dR_runs_23 : decode mR_runs.2.1 23 = .ok (.goto 4, 3) := by decide +kernel
theorem dR_runs_26 : decode mR_runs.2.1 26 = .ok (.iconst 0, 1) := by decide +kernel
theorem dR_runs_27 : decode mR_runs.2.1 27 = .ok (.ireturn, 1) := by decide +kernel
theorem dR_isRunning_0 : decode mR_isRunning.2.1 0 = .ok (.iconst 0, 1) := by decide +kernel
theorem dR_isRunning_1 : decode mR_isRunning.2.1 1 = .ok (.istore_n 2, 1) := by decide +kernel
theorem dR_isRunning_2 : decode mR_isRunning.2.1 2 = .ok (.iconst 0, 1) := by decide +kernel
theorem dR_isRunning_3 : decode mR_isRunning.2.1 3 = .ok (.istore_n 3, 1) := by decide +kernel
theorem dR_isRunning_4 : decode mR_isRunning.2.1 4 = .ok (.aload_n 0, 1) := by decide +kernel
theorem dR_isRunning_5 : decode mR_isRunning.2.1 5 = .ok (.iload_n 1, 1) := by decide +kernel
theorem dR_isRunning_6 : decode mR_isRunning.2.1 6 = .ok (.iconst 0, 1) := by decide +kernel
theorem dR_isRunning_7 : decode mR_isRunning.2.1 7 = .ok (.invokevirtual 136, 3) := by decide +kernel
theorem dR_isRunning_10 : decode mR_isRunning.2.1 10 = .ok (.istore 4, 2) := by decide +kernel
theorem dR_isRunning_12 : decode mR_isRunning.2.1 12 = .ok (.iload 4, 2) := by decide +kernel
theorem dR_isRunning_14 : decode mR_isRunning.2.1 14 = .ok (.ifCond .lt 38, 3) := by decide +kernel
theorem dR_isRunning_17 : decode mR_isRunning.2.1 17 = .ok (.iload 4, 2) := by decide +kernel
theorem dR_isRunning_19 : decode mR_isRunning.2.1 19 = .ok (.sipush 30000, 3) := by decide +kernel
theorem dR_isRunning_22 : decode mR_isRunning.2.1 22 = .ok (.if_icmp .lt 5, 3) := by decide +kernel
theorem dR_isRunning_25 : decode mR_isRunning.2.1 25 = .ok (.iconst 0, 1) := by decide +kernel
theorem dR_isRunning_26 : decode mR_isRunning.2.1 26 = .ok (.ireturn, 1) := by decide +kernel
theorem dR_isRunning_27 : decode mR_isRunning.2.1 27 = .ok (.iload 4, 2) := by decide +kernel
theorem dR_isRunning_29 : decode mR_isRunning.2.1 29 = .ok (.sipush 20000, 3) := by decide +kernel
theorem dR_isRunning_32 : decode mR_isRunning.2.1 32 = .ok (.if_icmp .lt 6, 3) := by decide +kernel
theorem dR_isRunning_35 : decode mR_isRunning.2.1 35 = .ok (.iinc 2 1, 3) := by decide +kernel
theorem dR_isRunning_38 : decode mR_isRunning.2.1 38 = .ok (.iinc 3 1, 3) := by decide +kernel
theorem dR_isRunning_41 : decode mR_isRunning.2.1 41 = .ok (.aload_n 0, 1) := by decide +kernel
theorem dR_isRunning_42 : decode mR_isRunning.2.1 42 = .ok (.iload_n 1, 1) := by decide +kernel
theorem dR_isRunning_43 : decode mR_isRunning.2.1 43 = .ok (.iload_n 3, 1) := by decide +kernel
theorem dR_isRunning_44 : decode mR_isRunning.2.1 44 = .ok (.invokevirtual 136, 3) := by decide +kernel
theorem dR_isRunning_47 : decode mR_isRunning.2.1 47 = .ok (.istore 4, 2) := by decide +kernel
theorem dR_isRunning_49 : decode mR_isRunning.2.1 49 = .ok (.goto (-37), 3) := by decide +kernel
theorem dR_isRunning_52 : decode mR_isRunning.2.1 52 = .ok (.aload_n 0, 1) := by decide +kernel
theorem dR_isRunning_53 : decode mR_isRunning.2.1 53 = .ok (.getfield 35, 3) := by decide +kernel
theorem dR_isRunning_56 : decode mR_isRunning.2.1 56 = .ok (.iload_n 1, 1) := by decide +kernel
theorem dR_isRunning_57 : decode mR_isRunning.2.1 57 = .ok (.baload, 1) := by decide +kernel
theorem dR_isRunning_58 : decode mR_isRunning.2.1 58 = .ok (.ifCond .ne 12, 3) := by decide +kernel
theorem dR_isRunning_61 : decode mR_isRunning.2.1 61 = .ok (.iload_n 2, 1) := by decide +kernel
theorem dR_isRunning_62 : decode mR_isRunning.2.1 62 = .ok (.iconst 2, 1) := by decide +kernel
theorem dR_isRunning_63 : decode mR_isRunning.2.1 63 = .ok (.if_icmp .ge 7, 3) := by decide +kernel
theorem dR_isRunning_66 : decode mR_isRunning.2.1 66 = .ok (.iconst 1, 1) := by decide +kernel
theorem dR_isRunning_67 : decode mR_isRunning.2.1 67 = .ok (.goto 4, 3) := by decide +kernel
theorem dR_isRunning_70 : decode mR_isRunning.2.1 70 = .ok (.iconst 0, 1) := by decide +kernel
theorem dR_isRunning_71 : decode mR_isRunning.2.1 71 = .ok (.ireturn, 1) := by decide +kernel
theorem dR_use_0 : decode mR_use.2.1 0 = .ok (.aload_n 0, 1) := by decide +kernel
theorem dR_use_1 : decode mR_use.2.1 1 = .ok (.aload_n 0, 1) := by decide +kernel
theorem dR_use_2 : decode mR_use.2.1 2 = .ok (.iload_n 1, 1) := by decide +kernel
theorem dR_use_3 : decode mR_use.2.1 3 = .ok (.invokevirtual 115, 3) := by decide +kernel
theorem dR_use_6 : decode mR_use.2.1 6 = .ok (.iload_n 2, 1) := by decide +kernel
theorem dR_use_7 : decode mR_use.2.1 7 = .ok (.iconst 0, 1) := by decide +kernel
theorem dR_use_8 : decode mR_use.2.1 8 = .ok (.ldc 142, 2) := by decide +kernel
theorem dR_use_10 : decode mR_use.2.1 10 = .ok (.invokestatic 93, 3) := by decide +kernel
theorem dR_use_13 : decode mR_use.2.1 13 = .ok (.aload_n 0, 1) := by decide +kernel
theorem dR_use_14 : decode mR_use.2.1 14 = .ok (.iload_n 1, 1) := by decide +kernel
theorem dR_use_15 : decode mR_use.2.1 15 = .ok (.invokevirtual 115, 3) := by decide +kernel
theorem dR_use_18 : decode mR_use.2.1 18 = .ok (.ifCond .eq 15, 3) := by decide +kernel
theorem dR_use_21 : decode mR_use.2.1 21 = .ok (.aload_n 0, 1) := by decide +kernel
theorem dR_use_22 : decode mR_use.2.1 22 = .ok (.iload_n 1, 1) := by decide +kernel
theorem dR_use_23 : decode mR_use.2.1 23 = .ok (.invokevirtual 139, 3) := by decide +kernel
theorem dR_use_26 : decode mR_use.2.1 26 = .ok (.ifCond .eq 7, 3) := by decide +kernel
theorem dR_use_29 : decode mR_use.2.1 29 = .ok (.iconst 1, 1) := by decide +kernel
theorem dR_use_30 : decode mR_use.2.1 30 = .ok (.goto 4, 3) := by decide +kernel
theorem dR_use_33 : decode mR_use.2.1 33 = .ok (.iconst 0, 1) := by decide +kernel
theorem dR_use_34 : decode mR_use.2.1 34 = .ok (.invokevirtual 101, 3) := by decide +kernel
theorem dR_use_37 : decode mR_use.2.1 37 = .ok (.ifCond .ne 5, 3) := by decide +kernel
theorem dR_use_40 : decode mR_use.2.1 40 = .ok (.iconst 0, 1) := by decide +kernel
theorem dR_use_41 : decode mR_use.2.1 41 = .ok (.ireturn, 1) := by decide +kernel
theorem dR_use_42 : decode mR_use.2.1 42 = .ok (.aload_n 0, 1) := by decide +kernel
theorem dR_use_43 : decode mR_use.2.1 43 = .ok (.getfield 47, 3) := by decide +kernel
theorem dR_use_46 : decode mR_use.2.1 46 = .ok (.iload_n 1, 1) := by decide +kernel
theorem dR_use_47 : decode mR_use.2.1 47 = .ok (.dup2, 1) := by decide +kernel
theorem dR_use_48 : decode mR_use.2.1 48 = .ok (.iaload, 1) := by decide +kernel
theorem dR_use_49 : decode mR_use.2.1 49 = .ok (.iconst 1, 1) := by decide +kernel
theorem dR_use_50 : decode mR_use.2.1 50 = .ok (.iadd, 1) := by decide +kernel
theorem dR_use_51 : decode mR_use.2.1 51 = .ok (.iastore, 1) := by decide +kernel
theorem dR_use_52 : decode mR_use.2.1 52 = .ok (.iload_n 2, 1) := by decide +kernel
theorem dR_use_53 : decode mR_use.2.1 53 = .ok (.aload_n 0, 1) := by decide +kernel
theorem dR_use_54 : decode mR_use.2.1 54 = .ok (.getfield 41, 3) := by decide +kernel
theorem dR_use_57 : decode mR_use.2.1 57 = .ok (.iload_n 1, 1) := by decide +kernel
theorem dR_use_58 : decode mR_use.2.1 58 = .ok (.iaload, 1) := by decide +kernel
theorem dR_use_59 : decode mR_use.2.1 59 = .ok (.if_icmp .ge 15, 3) := by decide +kernel
theorem dR_use_62 : decode mR_use.2.1 62 = .ok (.aload_n 0, 1) := by decide +kernel
theorem dR_use_63 : decode mR_use.2.1 63 = .ok (.getfield 44, 3) := by decide +kernel
theorem dR_use_66 : decode mR_use.2.1 66 = .ok (.iload_n 1, 1) := by decide +kernel
theorem dR_use_67 : decode mR_use.2.1 67 = .ok (.dup2, 1) := by decide +kernel
theorem dR_use_68 : decode mR_use.2.1 68 = .ok (.iaload, 1) := by decide +kernel
theorem dR_use_69 : decode mR_use.2.1 69 = .ok (.iconst 1, 1) := by decide +kernel
theorem dR_use_70 : decode mR_use.2.1 70 = .ok (.iadd, 1) := by decide +kernel
theorem dR_use_71 : decode mR_use.2.1 71 = .ok (.iastore, 1) := by decide +kernel
theorem dR_use_72 : decode mR_use.2.1 72 = .ok (.iconst 0, 1) := by decide +kernel
theorem dR_use_73 : decode mR_use.2.1 73 = .ok (.ireturn, 1) := by decide +kernel
theorem dR_use_74 : decode mR_use.2.1 74 = .ok (.aload_n 0, 1) := by decide +kernel
theorem dR_use_75 : decode mR_use.2.1 75 = .ok (.getfield 41, 3) := by decide +kernel
theorem dR_use_78 : decode mR_use.2.1 78 = .ok (.iload_n 1, 1) := by decide +kernel
theorem dR_use_79 : decode mR_use.2.1 79 = .ok (.iload_n 2, 1) := by decide +kernel
theorem dR_use_80 : decode mR_use.2.1 80 = .ok (.iastore, 1) := by decide +kernel
theorem dR_use_81 : decode mR_use.2.1 81 = .ok (.iconst 1, 1) := by decide +kernel
theorem dR_use_82 : decode mR_use.2.1 82 = .ok (.ireturn, 1) := by decide +kernel
theorem dR_off_0 : decode mR_off.2.1 0 = .ok (.aload_n 0, 1) := by decide +kernel
theorem dR_off_1 : decode mR_off.2.1 1 = .ok (.iload_n 1, 1) := by decide +kernel
theorem dR_off_2 : decode mR_off.2.1 2 = .ok (.invokevirtual 115, 3) := by decide +kernel
theorem dR_off_5 : decode mR_off.2.1 5 = .ok (.ifCond .eq 22, 3) := by decide +kernel
theorem dR_off_8 : decode mR_off.2.1 8 = .ok (.iload_n 3, 1) := by decide +kernel
theorem dR_off_9 : decode mR_off.2.1 9 = .ok (.invokestatic 118, 3) := by decide +kernel
theorem dR_off_12 : decode mR_off.2.1 12 = .ok (.ifCond .eq 15, 3) := by decide +kernel
theorem dR_off_15 : decode mR_off.2.1 15 = .ok (.iload 4, 2) := by decide +kernel
theorem dR_off_17 : decode mR_off.2.1 17 = .ok (.invokestatic 118, 3) := by decide +kernel
theorem dR_off_20 : decode mR_off.2.1 20 = .ok (.ifCond .eq 7, 3) := by decide +kernel
theorem dR_off_23 : decode mR_off.2.1 23 = .ok (.iconst 1, 1) := by decide +kernel
theorem dR_off_24 : decode mR_off.2.1 24 = .ok (.goto 4, 3) := by decide +kernel
theorem dR_off_27 : decode mR_off.2.1 27 = .ok (.iconst 0, 1) := by decide +kernel
theorem dR_off_28 : decode mR_off.2.1 28 = .ok (.istore 5, 2) := by decide +kernel
theorem dR_off_30 : decode mR_off.2.1 30 = .ok (.aload_n 0, 1) := by decide +kernel
theorem dR_off_31 : decode mR_off.2.1 31 = .ok (.iload 5, 2) := by decide +kernel
theorem dR_off_33 : decode mR_off.2.1 33 = .ok (.iload 5, 2) := by decide +kernel
theorem dR_off_35 : decode mR_off.2.1 35 = .ok (.ifCond .eq 23, 3) := by decide +kernel
theorem dR_off_38 : decode mR_off.2.1 38 = .ok (.aload_n 0, 1) := by decide +kernel
theorem dR_off_39 : decode mR_off.2.1 39 = .ok (.getfield 35, 3) := by decide +kernel
theorem dR_off_42 : decode mR_off.2.1 42 = .ok (.iload_n 1, 1) := by decide +kernel
theorem dR_off_43 : decode mR_off.2.1 43 = .ok (.baload, 1) := by decide +kernel
theorem dR_off_44 : decode mR_off.2.1 44 = .ok (.iload_n 2, 1) := by decide +kernel
theorem dR_off_45 : decode mR_off.2.1 45 = .ok (.if_icmp .eq 13, 3) := by decide +kernel
theorem dR_off_48 : decode mR_off.2.1 48 = .ok (.iload_n 3, 1) := by decide +kernel
theorem dR_off_49 : decode mR_off.2.1 49 = .ok (.iload 4, 2) := by decide +kernel
theorem dR_off_51 : decode mR_off.2.1 51 = .ok (.if_icmp .eq 7, 3) := by decide +kernel
theorem dR_off_54 : decode mR_off.2.1 54 = .ok (.iconst 1, 1) := by decide +kernel
theorem dR_off_55 : decode mR_off.2.1 55 = .ok (.goto 4, 3) := by decide +kernel
theorem dR_off_58 : decode mR_off.2.1 58 = .ok (.iconst 0, 1) := by decide +kernel
theorem dR_off_59 : decode mR_off.2.1 59 = .ok (.iconst 1, 1) := by decide +kernel
theorem dR_off_60 : decode mR_off.2.1 60 = .ok (.invokevirtual 101, 3) := by decide +kernel
theorem dR_off_63 : decode mR_off.2.1 63 = .ok (.ifCond .eq 10, 3) := by decide +kernel
theorem dR_off_66 : decode mR_off.2.1 66 = .ok (.aload_n 0, 1) := by decide +kernel
theorem dR_off_67 : decode mR_off.2.1 67 = .ok (.getfield 35, 3) := by decide +kernel
theorem dR_off_70 : decode mR_off.2.1 70 = .ok (.iload_n 1, 1) := by decide +kernel
theorem dR_off_71 : decode mR_off.2.1 71 = .ok (.iload_n 2, 1) := by decide +kernel
theorem dR_off_72 : decode mR_off.2.1 72 = .ok (.bastore, 1) := by decide +kernel
theorem dR_off_73 : decode mR_off.2.1 73 = .ok (.return_, 1) := by decide +kernel
theorem dR_damage_0 : decode mR_damage.2.1 0 = .ok (.aload_n 0, 1) := by decide +kernel
theorem dR_damage_1 : decode mR_damage.2.1 1 = .ok (.aload_n 0, 1) := by decide +kernel
theorem dR_damage_2 : decode mR_damage.2.1 2 = .ok (.iload_n 1, 1) := by decide +kernel
theorem dR_damage_3 : decode mR_damage.2.1 3 = .ok (.invokevirtual 115, 3) := by decide +kernel
theorem dR_damage_6 : decode mR_damage.2.1 6 = .ok (.iload_n 2, 1) := by decide +kernel
theorem dR_damage_7 : decode mR_damage.2.1 7 = .ok (.iconst 1, 1) := by decide +kernel
theorem dR_damage_8 : decode mR_damage.2.1 8 = .ok (.iconst 3, 1) := by decide +kernel
theorem dR_damage_9 : decode mR_damage.2.1 9 = .ok (.invokestatic 93, 3) := by decide +kernel
theorem dR_damage_12 : decode mR_damage.2.1 12 = .ok (.aload_n 0, 1) := by decide +kernel
theorem dR_damage_13 : decode mR_damage.2.1 13 = .ok (.getfield 133, 3) := by decide +kernel
theorem dR_damage_16 : decode mR_damage.2.1 16 = .ok (.bipush 100, 2) := by decide +kernel
theorem dR_damage_18 : decode mR_damage.2.1 18 = .ok (.if_icmp .ge 7, 3) := by decide +kernel
theorem dR_damage_21 : decode mR_damage.2.1 21 = .ok (.iconst 1, 1) := by decide +kernel
theorem dR_damage_22 : decode mR_damage.2.1 22 = .ok (.goto 4, 3) := by decide +kernel
theorem dR_damage_25 : decode mR_damage.2.1 25 = .ok (.iconst 0, 1) := by decide +kernel
theorem dR_damage_26 : decode mR_damage.2.1 26 = .ok (.invokevirtual 101, 3) := by decide +kernel
theorem dR_damage_29 : decode mR_damage.2.1 29 = .ok (.ifCond .ne 5, 3) := by decide +kernel
theorem dR_damage_32 : decode mR_damage.2.1 32 = .ok (.iconst 0, 1) := by decide +kernel
theorem dR_damage_33 : decode mR_damage.2.1 33 = .ok (.ireturn, 1) := by decide +kernel
theorem dR_damage_34 : decode mR_damage.2.1 34 = .ok (.aload_n 0, 1) := by decide +kernel
theorem dR_damage_35 : decode mR_damage.2.1 35 = .ok (.getfield 77, 3) := by decide +kernel
theorem dR_damage_38 : decode mR_damage.2.1 38 = .ok (.aload_n 0, 1) := by decide +kernel
theorem dR_damage_39 : decode mR_damage.2.1 39 = .ok (.getfield 133, 3) := by decide +kernel
theorem dR_damage_42 : decode mR_damage.2.1 42 = .ok (.iload_n 1, 1) := by decide +kernel
theorem dR_damage_43 : decode mR_damage.2.1 43 = .ok (.iastore, 1) := by decide +kernel
theorem dR_damage_44 : decode mR_damage.2.1 44 = .ok (.aload_n 0, 1) := by decide +kernel
theorem dR_damage_45 : decode mR_damage.2.1 45 = .ok (.getfield 80, 3) := by decide +kernel
theorem dR_damage_48 : decode mR_damage.2.1 48 = .ok (.aload_n 0, 1) := by decide +kernel
theorem dR_damage_49 : decode mR_damage.2.1 49 = .ok (.getfield 133, 3) := by decide +kernel
theorem dR_damage_52 : decode mR_damage.2.1 52 = .ok (.iload_n 2, 1) := by decide +kernel
theorem dR_damage_53 : decode mR_damage.2.1 53 = .ok (.iastore, 1) := by decide +kernel
theorem dR_damage_54 : decode mR_damage.2.1 54 = .ok (.aload_n 0, 1) := by decide +kernel
theorem dR_damage_55 : decode mR_damage.2.1 55 = .ok (.dup, 1) := by decide +kernel
theorem dR_damage_56 : decode mR_damage.2.1 56 = .ok (.getfield 133, 3) := by decide +kernel
theorem dR_damage_59 : decode mR_damage.2.1 59 = .ok (.iconst 1, 1) := by decide +kernel
theorem dR_damage_60 : decode mR_damage.2.1 60 = .ok (.iadd, 1) := by decide +kernel
theorem dR_damage_61 : decode mR_damage.2.1 61 = .ok (.putfield 133, 3) := by decide +kernel
theorem dR_damage_64 : decode mR_damage.2.1 64 = .ok (.aload_n 0, 1) := by decide +kernel
theorem dR_damage_65 : decode mR_damage.2.1 65 = .ok (.getfield 133, 3) := by decide +kernel
theorem dR_damage_68 : decode mR_damage.2.1 68 = .ok (.iconst 1, 1) := by decide +kernel
theorem dR_damage_69 : decode mR_damage.2.1 69 = .ok (.isub, 1) := by decide +kernel
theorem dR_damage_70 : decode mR_damage.2.1 70 = .ok (.ireturn, 1) := by decide +kernel
theorem dR_proof_0 : decode mR_proof.2.1 0 = .ok (.iload_n 1, 1) := by decide +kernel
theorem dR_proof_1 : decode mR_proof.2.1 1 = .ok (.iconst 0, 1) := by decide +kernel
theorem dR_proof_2 : decode mR_proof.2.1 2 = .ok (.aload_n 0, 1) := by decide +kernel
theorem dR_proof_3 : decode mR_proof.2.1 3 = .ok (.getfield 133, 3) := by decide +kernel
theorem dR_proof_6 : decode mR_proof.2.1 6 = .ok (.iconst 1, 1) := by decide +kernel
theorem dR_proof_7 : decode mR_proof.2.1 7 = .ok (.isub, 1) := by decide +kernel
theorem dR_proof_8 : decode mR_proof.2.1 8 = .ok (.invokestatic 93, 3) := by decide +kernel
theorem dR_proof_11 : decode mR_proof.2.1 11 = .ok (.istore_n 3, 1) := by decide +kernel
theorem dR_proof_12 : decode mR_proof.2.1 12 = .ok (.aload_n 0, 1) := by decide +kernel
theorem dR_proof_13 : decode mR_proof.2.1 13 = .ok (.iload_n 3, 1) := by decide +kernel
theorem dR_proof_14 : decode mR_proof.2.1 14 = .ok (.iload_n 2, 1) := by decide +kernel
theorem dR_proof_15 : decode mR_proof.2.1 15 = .ok (.iconst 1, 1) := by decide +kernel
theorem dR_proof_16 : decode mR_proof.2.1 16 = .ok (.sipush 9999, 3) := by decide +kernel
theorem dR_proof_19 : decode mR_proof.2.1 19 = .ok (.invokestatic 93, 3) := by decide +kernel
theorem dR_proof_22 : decode mR_proof.2.1 22 = .ok (.iload_n 3, 1) := by decide +kernel
theorem dR_proof_23 : decode mR_proof.2.1 23 = .ok (.ifCond .eq 16, 3) := by decide +kernel
theorem dR_proof_26 : decode mR_proof.2.1 26 = .ok (.aload_n 0, 1) := by decide +kernel
theorem dR_proof_27 : decode mR_proof.2.1 27 = .ok (.getfield 83, 3) := by decide +kernel
theorem dR_proof_30 : decode mR_proof.2.1 30 = .ok (.iload_n 1, 1) := by decide +kernel
theorem dR_proof_31 : decode mR_proof.2.1 31 = .ok (.iaload, 1) := by decide +kernel
theorem dR_proof_32 : decode mR_proof.2.1 32 = .ok (.ifCond .ne 7, 3) := by decide +kernel
theorem dR_proof_35 : decode mR_proof.2.1 35 = .ok (.iconst 1, 1) := by decide +kernel
theorem dR_proof_36 : decode mR_proof.2.1 36 = .ok (.goto 4, 3) := by decide +kernel
theorem dR_proof_39 : decode mR_proof.2.1 39 = .ok (.iconst 0, 1) := by decide +kernel
theorem dR_proof_40 : decode mR_proof.2.1 40 = .ok (.invokevirtual 101, 3) := by decide +kernel
theorem dR_proof_43 : decode mR_proof.2.1 43 = .ok (.ifCond .eq 10, 3) := by decide +kernel
theorem dR_proof_46 : decode mR_proof.2.1 46 = .ok (.aload_n 0, 1) := by decide +kernel
theorem dR_proof_47 : decode mR_proof.2.1 47 = .ok (.getfield 83, 3) := by decide +kernel
theorem dR_proof_50 : decode mR_proof.2.1 50 = .ok (.iload_n 1, 1) := by decide +kernel
theorem dR_proof_51 : decode mR_proof.2.1 51 = .ok (.iload_n 2, 1) := by decide +kernel
theorem dR_proof_52 : decode mR_proof.2.1 52 = .ok (.iastore, 1) := by decide +kernel
theorem dR_proof_53 : decode mR_proof.2.1 53 = .ok (.return_, 1) := by decide +kernel
theorem dR_need_0 : decode mR_need.2.1 0 = .ok (.aload_n 0, 1) := by decide +kernel
theorem dR_need_1 : decode mR_need.2.1 1 = .ok (.iload_n 1, 1) := by decide +kernel
theorem dR_need_2 : decode mR_need.2.1 2 = .ok (.invokestatic 97, 3) := by decide +kernel
theorem dR_need_5 : decode mR_need.2.1 5 = .ok (.ifCond .eq 14, 3) := by decide +kernel
theorem dR_need_8 : decode mR_need.2.1 8 = .ok (.iload_n 2, 1) := by decide +kernel
theorem dR_need_9 : decode mR_need.2.1 9 = .ok (.invokestatic 143, 3) := by decide +kernel
theorem dR_need_12 : decode mR_need.2.1 12 = .ok (.ifCond .eq 7, 3) := by decide +kernel
theorem dR_need_15 : decode mR_need.2.1 15 = .ok (.iconst 1, 1) := by decide +kernel
theorem dR_need_16 : decode mR_need.2.1 16 = .ok (.goto 4, 3) := by decide +kernel
theorem dR_need_19 : decode mR_need.2.1 19 = .ok (.iconst 0, 1) := by decide +kernel
theorem dR_need_20 : decode mR_need.2.1 20 = .ok (.iload_n 3, 1) := by decide +kernel
theorem dR_need_21 : decode mR_need.2.1 21 = .ok (.iconst 0, 1) := by decide +kernel
theorem dR_need_22 : decode mR_need.2.1 22 = .ok (.bipush 9, 2) := by decide +kernel
theorem dR_need_24 : decode mR_need.2.1 24 = .ok (.invokestatic 93, 3) := by decide +kernel
theorem dR_need_27 : decode mR_need.2.1 27 = .ok (.iconst 1, 1) := by decide +kernel
theorem dR_need_28 : decode mR_need.2.1 28 = .ok (.invokevirtual 101, 3) := by decide +kernel
theorem dR_need_31 : decode mR_need.2.1 31 = .ok (.ifCond .eq 15, 3) := by decide +kernel
theorem dR_need_34 : decode mR_need.2.1 34 = .ok (.aload_n 0, 1) := by decide +kernel
theorem dR_need_35 : decode mR_need.2.1 35 = .ok (.getfield 26, 3) := by decide +kernel
theorem dR_need_38 : decode mR_need.2.1 38 = .ok (.bipush 10, 2) := by decide +kernel
theorem dR_need_40 : decode mR_need.2.1 40 = .ok (.iload_n 1, 1) := by decide +kernel
theorem dR_need_41 : decode mR_need.2.1 41 = .ok (.imul, 1) := by decide +kernel
theorem dR_need_42 : decode mR_need.2.1 42 = .ok (.iload_n 2, 1) := by decide +kernel
theorem dR_need_43 : decode mR_need.2.1 43 = .ok (.iadd, 1) := by decide +kernel
theorem dR_need_44 : decode mR_need.2.1 44 = .ok (.iload_n 3, 1) := by decide +kernel
theorem dR_need_45 : decode mR_need.2.1 45 = .ok (.iastore, 1) := by decide +kernel
theorem dR_need_46 : decode mR_need.2.1 46 = .ok (.return_, 1) := by decide +kernel
theorem dR_isThing_0 : decode mR_isThing.2.1 0 = .ok (.iload_n 0, 1) := by decide +kernel
theorem dR_isThing_1 : decode mR_isThing.2.1 1 = .ok (.iconst 0, 1) := by decide +kernel
theorem dR_isThing_2 : decode mR_isThing.2.1 2 = .ok (.bipush 9, 2) := by decide +kernel
theorem dR_isThing_4 : decode mR_isThing.2.1 4 = .ok (.invokestatic 93, 3) := by decide +kernel
theorem dR_isThing_7 : decode mR_isThing.2.1 7 = .ok (.ireturn, 1) := by decide +kernel
theorem dR_put_0 : decode mR_put.2.1 0 = .ok (.aload_n 0, 1) := by decide +kernel
theorem dR_put_1 : decode mR_put.2.1 1 = .ok (.iload_n 1, 1) := by decide +kernel
theorem dR_put_2 : decode mR_put.2.1 2 = .ok (.invokevirtual 115, 3) := by decide +kernel
theorem dR_put_5 : decode mR_put.2.1 5 = .ok (.ifCond .eq 14, 3) := by decide +kernel
theorem dR_put_8 : decode mR_put.2.1 8 = .ok (.iload_n 2, 1) := by decide +kernel
theorem dR_put_9 : decode mR_put.2.1 9 = .ok (.invokestatic 143, 3) := by decide +kernel
theorem dR_put_12 : decode mR_put.2.1 12 = .ok (.ifCond .eq 7, 3) := by decide +kernel
theorem dR_put_15 : decode mR_put.2.1 15 = .ok (.iconst 1, 1) := by decide +kernel
theorem dR_put_16 : decode mR_put.2.1 16 = .ok (.goto 4, 3) := by decide +kernel
theorem dR_put_19 : decode mR_put.2.1 19 = .ok (.iconst 0, 1) := by decide +kernel
theorem dR_put_20 : decode mR_put.2.1 20 = .ok (.istore 4, 2) := by decide +kernel
theorem dR_put_22 : decode mR_put.2.1 22 = .ok (.aload_n 0, 1) := by decide +kernel
theorem dR_put_23 : decode mR_put.2.1 23 = .ok (.iload 4, 2) := by decide +kernel
theorem dR_put_25 : decode mR_put.2.1 25 = .ok (.iload_n 3, 1) := by decide +kernel
theorem dR_put_26 : decode mR_put.2.1 26 = .ok (.iconst 1, 1) := by decide +kernel
theorem dR_put_27 : decode mR_put.2.1 27 = .ok (.bipush 9, 2) := by decide +kernel
theorem dR_put_29 : decode mR_put.2.1 29 = .ok (.invokestatic 93, 3) := by decide +kernel
theorem dR_put_32 : decode mR_put.2.1 32 = .ok (.iload 4, 2) := by decide +kernel
theorem dR_put_34 : decode mR_put.2.1 34 = .ok (.ifCond .eq 25, 3) := by decide +kernel
theorem dR_put_37 : decode mR_put.2.1 37 = .ok (.aload_n 0, 1) := by decide +kernel
theorem dR_put_38 : decode mR_put.2.1 38 = .ok (.getfield 59, 3) := by decide +kernel
theorem dR_put_41 : decode mR_put.2.1 41 = .ok (.bipush 10, 2) := by decide +kernel
theorem dR_put_43 : decode mR_put.2.1 43 = .ok (.iload_n 1, 1) := by decide +kernel
theorem dR_put_44 : decode mR_put.2.1 44 = .ok (.imul, 1) := by decide +kernel
theorem dR_put_45 : decode mR_put.2.1 45 = .ok (.iload_n 2, 1) := by decide +kernel
theorem dR_put_46 : decode mR_put.2.1 46 = .ok (.iadd, 1) := by decide +kernel
theorem dR_put_47 : decode mR_put.2.1 47 = .ok (.iaload, 1) := by decide +kernel
theorem dR_put_48 : decode mR_put.2.1 48 = .ok (.iload_n 3, 1) := by decide +kernel
theorem dR_put_49 : decode mR_put.2.1 49 = .ok (.iadd, 1) := by decide +kernel
theorem dR_put_50 : decode mR_put.2.1 50 = .ok (.bipush 99, 2) := by decide +kernel
theorem dR_put_52 : decode mR_put.2.1 52 = .ok (.if_icmp .gt 7, 3) := by decide +kernel
theorem dR_put_55 : decode mR_put.2.1 55 = .ok (.iconst 1, 1) := by decide +kernel
theorem dR_put_56 : decode mR_put.2.1 56 = .ok (.goto 4, 3) := by decide +kernel
theorem dR_put_59 : decode mR_put.2.1 59 = .ok (.iconst 0, 1) := by decide +kernel
theorem dR_put_60 : decode mR_put.2.1 60 = .ok (.invokevirtual 101, 3) := by decide +kernel
theorem dR_put_63 : decode mR_put.2.1 63 = .ok (.ifCond .ne 5, 3) := by decide +kernel
theorem dR_put_66 : decode mR_put.2.1 66 = .ok (.iconst 0, 1) := by decide +kernel
theorem dR_put_67 : decode mR_put.2.1 67 = .ok (.ireturn, 1) := by decide +kernel
theorem dR_put_68 : decode mR_put.2.1 68 = .ok (.aload_n 0, 1) := by decide +kernel
theorem dR_put_69 : decode mR_put.2.1 69 = .ok (.getfield 59, 3) := by decide +kernel
theorem dR_put_72 : decode mR_put.2.1 72 = .ok (.bipush 10, 2) := by decide +kernel
theorem dR_put_74 : decode mR_put.2.1 74 = .ok (.iload_n 1, 1) := by decide +kernel
theorem dR_put_75 : decode mR_put.2.1 75 = .ok (.imul, 1) := by decide +kernel
theorem dR_put_76 : decode mR_put.2.1 76 = .ok (.iload_n 2, 1) := by decide +kernel
theorem dR_put_77 : decode mR_put.2.1 77 = .ok (.iadd, 1) := by decide +kernel
theorem dR_put_78 : decode mR_put.2.1 78 = .ok (.aload_n 0, 1) := by decide +kernel
theorem dR_put_79 : decode mR_put.2.1 79 = .ok (.getfield 59, 3) := by decide +kernel
theorem dR_put_82 : decode mR_put.2.1 82 = .ok (.bipush 10, 2) := by decide +kernel
theorem dR_put_84 : decode mR_put.2.1 84 = .ok (.iload_n 1, 1) := by decide +kernel
theorem dR_put_85 : decode mR_put.2.1 85 = .ok (.imul, 1) := by decide +kernel
theorem dR_put_86 : decode mR_put.2.1 86 = .ok (.iload_n 2, 1) := by decide +kernel
theorem dR_put_87 : decode mR_put.2.1 87 = .ok (.iadd, 1) := by decide +kernel
theorem dR_put_88 : decode mR_put.2.1 88 = .ok (.iaload, 1) := by decide +kernel
theorem dR_put_89 : decode mR_put.2.1 89 = .ok (.iload_n 3, 1) := by decide +kernel
theorem dR_put_90 : decode mR_put.2.1 90 = .ok (.iadd, 1) := by decide +kernel
theorem dR_put_91 : decode mR_put.2.1 91 = .ok (.iastore, 1) := by decide +kernel
theorem dR_put_92 : decode mR_put.2.1 92 = .ok (.aload_n 0, 1) := by decide +kernel
theorem dR_put_93 : decode mR_put.2.1 93 = .ok (.getfield 59, 3) := by decide +kernel
theorem dR_put_96 : decode mR_put.2.1 96 = .ok (.bipush 10, 2) := by decide +kernel
theorem dR_put_98 : decode mR_put.2.1 98 = .ok (.iload_n 1, 1) := by decide +kernel
theorem dR_put_99 : decode mR_put.2.1 99 = .ok (.imul, 1) := by decide +kernel
theorem dR_put_100 : decode mR_put.2.1 100 = .ok (.iload_n 2, 1) := by decide +kernel
theorem dR_put_101 : decode mR_put.2.1 101 = .ok (.iadd, 1) := by decide +kernel
theorem dR_put_102 : decode mR_put.2.1 102 = .ok (.iaload, 1) := by decide +kernel
theorem dR_put_103 : decode mR_put.2.1 103 = .ok (.ireturn, 1) := by decide +kernel
theorem dR_swap_0 : decode mR_swap.2.1 0 = .ok (.aload_n 0, 1) := by decide +kernel
theorem dR_swap_1 : decode mR_swap.2.1 1 = .ok (.iload_n 1, 1) := by decide +kernel
theorem dR_swap_2 : decode mR_swap.2.1 2 = .ok (.invokevirtual 115, 3) := by decide +kernel
theorem dR_swap_5 : decode mR_swap.2.1 5 = .ok (.ifCond .eq 27, 3) := by decide +kernel
theorem dR_swap_8 : decode mR_swap.2.1 8 = .ok (.aload_n 0, 1) := by decide +kernel
theorem dR_swap_9 : decode mR_swap.2.1 9 = .ok (.iload_n 2, 1) := by decide +kernel
theorem dR_swap_10 : decode mR_swap.2.1 10 = .ok (.invokevirtual 115, 3) := by decide +kernel
theorem dR_swap_13 : decode mR_swap.2.1 13 = .ok (.ifCond .eq 19, 3) := by decide +kernel
theorem dR_swap_16 : decode mR_swap.2.1 16 = .ok (.iload_n 1, 1) := by decide +kernel
theorem dR_swap_17 : decode mR_swap.2.1 17 = .ok (.iload_n 2, 1) := by decide +kernel
theorem dR_swap_18 : decode mR_swap.2.1 18 = .ok (.if_icmp .eq 14, 3) := by decide +kernel
theorem dR_swap_21 : decode mR_swap.2.1 21 = .ok (.iload_n 3, 1) := by decide +kernel
theorem dR_swap_22 : decode mR_swap.2.1 22 = .ok (.invokestatic 143, 3) := by decide +kernel
theorem dR_swap_25 : decode mR_swap.2.1 25 = .ok (.ifCond .eq 7, 3) := by decide +kernel
theorem dR_swap_28 : decode mR_swap.2.1 28 = .ok (.iconst 1, 1) := by decide +kernel
theorem dR_swap_29 : decode mR_swap.2.1 29 = .ok (.goto 4, 3) := by decide +kernel
theorem dR_swap_32 : decode mR_swap.2.1 32 = .ok (.iconst 0, 1) := by decide +kernel
theorem dR_swap_33 : decode mR_swap.2.1 33 = .ok (.istore 4, 2) := by decide +kernel
theorem dR_swap_35 : decode mR_swap.2.1 35 = .ok (.aload_n 0, 1) := by decide +kernel
theorem dR_swap_36 : decode mR_swap.2.1 36 = .ok (.iload 4, 2) := by decide +kernel
theorem dR_swap_38 : decode mR_swap.2.1 38 = .ok (.iload 4, 2) := by decide +kernel
theorem dR_swap_40 : decode mR_swap.2.1 40 = .ok (.ifCond .eq 32, 3) := by decide +kernel
theorem dR_swap_43 : decode mR_swap.2.1 43 = .ok (.aload_n 0, 1) := by decide +kernel
theorem dR_swap_44 : decode mR_swap.2.1 44 = .ok (.getfield 59, 3) := by decide +kernel
theorem dR_swap_47 : decode mR_swap.2.1 47 = .ok (.bipush 10, 2) := by decide +kernel
theorem dR_swap_49 : decode mR_swap.2.1 49 = .ok (.iload_n 1, 1) := by decide +kernel
theorem dR_swap_50 : decode mR_swap.2.1 50 = .ok (.imul, 1) := by decide +kernel
theorem dR_swap_51 : decode mR_swap.2.1 51 = .ok (.iload_n 3, 1) := by decide +kernel
theorem dR_swap_52 : decode mR_swap.2.1 52 = .ok (.iadd, 1) := by decide +kernel
theorem dR_swap_53 : decode mR_swap.2.1 53 = .ok (.iaload, 1) := by decide +kernel
theorem dR_swap_54 : decode mR_swap.2.1 54 = .ok (.aload_n 0, 1) := by decide +kernel
theorem dR_swap_55 : decode mR_swap.2.1 55 = .ok (.getfield 59, 3) := by decide +kernel
theorem dR_swap_58 : decode mR_swap.2.1 58 = .ok (.bipush 10, 2) := by decide +kernel
theorem dR_swap_60 : decode mR_swap.2.1 60 = .ok (.iload_n 2, 1) := by decide +kernel
theorem dR_swap_61 : decode mR_swap.2.1 61 = .ok (.imul, 1) := by decide +kernel
theorem dR_swap_62 : decode mR_swap.2.1 62 = .ok (.iload_n 3, 1) := by decide +kernel
theorem dR_swap_63 : decode mR_swap.2.1 63 = .ok (.iadd, 1) := by decide +kernel
theorem dR_swap_64 : decode mR_swap.2.1 64 = .ok (.iaload, 1) := by decide +kernel
theorem dR_swap_65 : decode mR_swap.2.1 65 = .ok (.if_icmp .eq 7, 3) := by decide +kernel
theorem dR_swap_68 : decode mR_swap.2.1 68 = .ok (.iconst 1, 1) := by decide +kernel
theorem dR_swap_69 : decode mR_swap.2.1 69 = .ok (.goto 4, 3) := by decide +kernel
theorem dR_swap_72 : decode mR_swap.2.1 72 = .ok (.iconst 0, 1) := by decide +kernel
theorem dR_swap_73 : decode mR_swap.2.1 73 = .ok (.iconst 1, 1) := by decide +kernel
theorem dR_swap_74 : decode mR_swap.2.1 74 = .ok (.invokevirtual 101, 3) := by decide +kernel
theorem dR_swap_77 : decode mR_swap.2.1 77 = .ok (.ifCond .ne 5, 3) := by decide +kernel
theorem dR_swap_80 : decode mR_swap.2.1 80 = .ok (.iconst 0, 1) := by decide +kernel
theorem dR_swap_81 : decode mR_swap.2.1 81 = .ok (.ireturn, 1) := by decide +kernel
theorem dR_swap_82 : decode mR_swap.2.1 82 = .ok (.aload_n 0, 1) := by decide +kernel
theorem dR_swap_83 : decode mR_swap.2.1 83 = .ok (.getfield 59, 3) := by decide +kernel
theorem dR_swap_86 : decode mR_swap.2.1 86 = .ok (.bipush 10, 2) := by decide +kernel
theorem dR_swap_88 : decode mR_swap.2.1 88 = .ok (.iload_n 1, 1) := by decide +kernel
theorem dR_swap_89 : decode mR_swap.2.1 89 = .ok (.imul, 1) := by decide +kernel
theorem dR_swap_90 : decode mR_swap.2.1 90 = .ok (.iload_n 3, 1) := by decide +kernel
theorem dR_swap_91 : decode mR_swap.2.1 91 = .ok (.iadd, 1) := by decide +kernel
theorem dR_swap_92 : decode mR_swap.2.1 92 = .ok (.iaload, 1) := by decide +kernel
theorem dR_swap_93 : decode mR_swap.2.1 93 = .ok (.istore 5, 2) := by decide +kernel
theorem dR_swap_95 : decode mR_swap.2.1 95 = .ok (.aload_n 0, 1) := by decide +kernel
theorem dR_swap_96 : decode mR_swap.2.1 96 = .ok (.getfield 59, 3) := by decide +kernel
theorem dR_swap_99 : decode mR_swap.2.1 99 = .ok (.bipush 10, 2) := by decide +kernel
theorem dR_swap_101 : decode mR_swap.2.1 101 = .ok (.iload_n 1, 1) := by decide +kernel
theorem dR_swap_102 : decode mR_swap.2.1 102 = .ok (.imul, 1) := by decide +kernel
theorem dR_swap_103 : decode mR_swap.2.1 103 = .ok (.iload_n 3, 1) := by decide +kernel
theorem dR_swap_104 : decode mR_swap.2.1 104 = .ok (.iadd, 1) := by decide +kernel
theorem dR_swap_105 : decode mR_swap.2.1 105 = .ok (.aload_n 0, 1) := by decide +kernel
theorem dR_swap_106 : decode mR_swap.2.1 106 = .ok (.getfield 59, 3) := by decide +kernel
theorem dR_swap_109 : decode mR_swap.2.1 109 = .ok (.bipush 10, 2) := by decide +kernel
theorem dR_swap_111 : decode mR_swap.2.1 111 = .ok (.iload_n 2, 1) := by decide +kernel
theorem dR_swap_112 : decode mR_swap.2.1 112 = .ok (.imul, 1) := by decide +kernel
theorem dR_swap_113 : decode mR_swap.2.1 113 = .ok (.iload_n 3, 1) := by decide +kernel
theorem dR_swap_114 : decode mR_swap.2.1 114 = .ok (.iadd, 1) := by decide +kernel
theorem dR_swap_115 : decode mR_swap.2.1 115 = .ok (.iaload, 1) := by decide +kernel
theorem dR_swap_116 : decode mR_swap.2.1 116 = .ok (.iastore, 1) := by decide +kernel
theorem dR_swap_117 : decode mR_swap.2.1 117 = .ok (.aload_n 0, 1) := by decide +kernel
theorem dR_swap_118 : decode mR_swap.2.1 118 = .ok (.getfield 59, 3) := by decide +kernel
theorem dR_swap_121 : decode mR_swap.2.1 121 = .ok (.bipush 10, 2) := by decide +kernel
theorem dR_swap_123 : decode mR_swap.2.1 123 = .ok (.iload_n 2, 1) := by decide +kernel
theorem dR_swap_124 : decode mR_swap.2.1 124 = .ok (.imul, 1) := by decide +kernel
theorem dR_swap_125 : decode mR_swap.2.1 125 = .ok (.iload_n 3, 1) := by decide +kernel
theorem dR_swap_126 : decode mR_swap.2.1 126 = .ok (.iadd, 1) := by decide +kernel
theorem dR_swap_127 : decode mR_swap.2.1 127 = .ok (.iload 5, 2) := by decide +kernel
theorem dR_swap_129 : decode mR_swap.2.1 129 = .ok (.iastore, 1) := by decide +kernel
theorem dR_swap_130 : decode mR_swap.2.1 130 = .ok (.aload_n 0, 1) := by decide +kernel
theorem dR_swap_131 : decode mR_swap.2.1 131 = .ok (.getfield 59, 3) := by decide +kernel
theorem dR_swap_134 : decode mR_swap.2.1 134 = .ok (.bipush 10, 2) := by decide +kernel
theorem dR_swap_136 : decode mR_swap.2.1 136 = .ok (.iload_n 1, 1) := by decide +kernel
theorem dR_swap_137 : decode mR_swap.2.1 137 = .ok (.imul, 1) := by decide +kernel
theorem dR_swap_138 : decode mR_swap.2.1 138 = .ok (.iload_n 3, 1) := by decide +kernel
theorem dR_swap_139 : decode mR_swap.2.1 139 = .ok (.iadd, 1) := by decide +kernel
theorem dR_swap_140 : decode mR_swap.2.1 140 = .ok (.iaload, 1) := by decide +kernel
theorem dR_swap_141 : decode mR_swap.2.1 141 = .ok (.ireturn, 1) := by decide +kernel
theorem dR_spare_0 : decode mR_spare.2.1 0 = .ok (.aload_n 0, 1) := by decide +kernel
theorem dR_spare_1 : decode mR_spare.2.1 1 = .ok (.aload_n 0, 1) := by decide +kernel
theorem dR_spare_2 : decode mR_spare.2.1 2 = .ok (.iload_n 1, 1) := by decide +kernel
theorem dR_spare_3 : decode mR_spare.2.1 3 = .ok (.invokevirtual 115, 3) := by decide +kernel
theorem dR_spare_6 : decode mR_spare.2.1 6 = .ok (.iconst 1, 1) := by decide +kernel
theorem dR_spare_7 : decode mR_spare.2.1 7 = .ok (.iconst 1, 1) := by decide +kernel
theorem dR_spare_8 : decode mR_spare.2.1 8 = .ok (.invokevirtual 101, 3) := by decide +kernel
theorem dR_spare_11 : decode mR_spare.2.1 11 = .ok (.ifCond .ne 5, 3) := by decide +kernel
theorem dR_spare_14 : decode mR_spare.2.1 14 = .ok (.iconst 0, 1) := by decide +kernel
theorem dR_spare_15 : decode mR_spare.2.1 15 = .ok (.ireturn, 1) := by decide +kernel
theorem dR_spare_16 : decode mR_spare.2.1 16 = .ok (.iconst (-1), 1) := by decide +kernel
theorem dR_spare_17 : decode mR_spare.2.1 17 = .ok (.istore_n 2, 1) := by decide +kernel
theorem dR_spare_18 : decode mR_spare.2.1 18 = .ok (.iconst 0, 1) := by decide +kernel
theorem dR_spare_19 : decode mR_spare.2.1 19 = .ok (.istore_n 3, 1) := by decide +kernel
theorem dR_spare_20 : decode mR_spare.2.1 20 = .ok (.iload_n 3, 1) := by decide +kernel
theorem dR_spare_21 : decode mR_spare.2.1 21 = .ok (.aload_n 0, 1) := by decide +kernel
theorem dR_spare_22 : decode mR_spare.2.1 22 = .ok (.getfield 90, 3) := by decide +kernel
theorem dR_spare_25 : decode mR_spare.2.1 25 = .ok (.if_icmp .ge 70, 3) := by decide +kernel
theorem dR_spare_28 : decode mR_spare.2.1 28 = .ok (.iload_n 3, 1) := by decide +kernel
theorem dR_spare_29 : decode mR_spare.2.1 29 = .ok (.iload_n 1, 1) := by decide +kernel
theorem dR_spare_30 : decode mR_spare.2.1 30 = .ok (.if_icmp .eq 59, 3) := by decide +kernel
theorem dR_spare_33 : decode mR_spare.2.1 33 = .ok (.aload_n 0, 1) := by decide +kernel
theorem dR_spare_34 : decode mR_spare.2.1 34 = .ok (.getfield 29, 3) := by decide +kernel
theorem dR_spare_37 : decode mR_spare.2.1 37 = .ok (.iload_n 3, 1) := by decide +kernel
theorem dR_spare_38 : decode mR_spare.2.1 38 = .ok (.iaload, 1) := by decide +kernel
theorem dR_spare_39 : decode mR_spare.2.1 39 = .ok (.aload_n 0, 1) := by decide +kernel
theorem dR_spare_40 : decode mR_spare.2.1 40 = .ok (.getfield 29, 3) := by decide +kernel
theorem dR_spare_43 : decode mR_spare.2.1 43 = .ok (.iload_n 1, 1) := by decide +kernel
theorem dR_spare_44 : decode mR_spare.2.1 44 = .ok (.iaload, 1) := by decide +kernel
theorem dR_spare_45 : decode mR_spare.2.1 45 = .ok (.if_icmp .ne 44, 3) := by decide +kernel
theorem dR_spare_48 : decode mR_spare.2.1 48 = .ok (.aload_n 0, 1) := by decide +kernel
theorem dR_spare_49 : decode mR_spare.2.1 49 = .ok (.getfield 32, 3) := by decide +kernel
theorem dR_spare_52 : decode mR_spare.2.1 52 = .ok (.iload_n 3, 1) := by decide +kernel
theorem dR_spare_53 : decode mR_spare.2.1 53 = .ok (.baload, 1) := by decide +kernel
theorem dR_spare_54 : decode mR_spare.2.1 54 = .ok (.ifCond .eq 35, 3) := by decide +kernel
theorem dR_spare_57 : decode mR_spare.2.1 57 = .ok (.aload_n 0, 1) := by decide +kernel
theorem dR_spare_58 : decode mR_spare.2.1 58 = .ok (.iload_n 3, 1) := by decide +kernel
theorem dR_spare_59 : decode mR_spare.2.1 59 = .ok (.invokevirtual 139, 3) := by decide +kernel
theorem dR_spare_62 : decode mR_spare.2.1 62 = .ok (.ifCond .ne 6, 3) := by decide +kernel
theorem dR_spare_65 : decode mR_spare.2.1 65 = .ok (.goto 24, 3) := by decide +kernel
theorem dR_spare_68 : decode mR_spare.2.1 68 = .ok (.iload_n 2, 1) := by decide +kernel
theorem dR_spare_69 : decode mR_spare.2.1 69 = .ok (.ifCond .lt 18, 3) := by decide +kernel
theorem dR_spare_72 : decode mR_spare.2.1 72 = .ok (.aload_n 0, 1) := by decide +kernel
theorem dR_spare_73 : decode mR_spare.2.1 73 = .ok (.getfield 41, 3) := by decide +kernel
theorem dR_spare_76 : decode mR_spare.2.1 76 = .ok (.iload_n 3, 1) := by decide +kernel
theorem dR_spare_77 : decode mR_spare.2.1 77 = .ok (.iaload, 1) := by decide +kernel
theorem dR_spare_78 : decode mR_spare.2.1 78 = .ok (.aload_n 0, 1) := by decide +kernel
theorem dR_spare_79 : decode mR_spare.2.1 79 = .ok (.getfield 41, 3) := by decide +kernel
theorem dR_spare_82 : decode mR_spare.2.1 82 = .ok (.iload_n 2, 1) := by decide +kernel
theorem dR_spare_83 : decode mR_spare.2.1 83 = .ok (.iaload, 1) := by decide +kernel
theorem dR_spare_84 : decode mR_spare.2.1 84 = .ok (.if_icmp .ge 5, 3) := by decide +kernel
theorem dR_spare_87 : decode mR_spare.2.1 87 = .ok (.iload_n 3, 1) := by decide +kernel
theorem dR_spare_88 : decode mR_spare.2.1 88 = .ok (.istore_n 2, 1) := by decide +kernel
theorem dR_spare_89 : decode mR_spare.2.1 89 = .ok (.iinc 3 1, 3) := by decide +kernel
theorem dR_spare_92 : decode mR_spare.2.1 92 = .ok (.goto (-72), 3) := by decide +kernel
theorem dR_spare_95 : decode mR_spare.2.1 95 = .ok (.iconst 0, 1) := by decide +kernel
theorem dR_spare_96 : decode mR_spare.2.1 96 = .ok (.istore_n 3, 1) := by decide +kernel
theorem dR_spare_97 : decode mR_spare.2.1 97 = .ok (.iload_n 3, 1) := by decide +kernel
theorem dR_spare_98 : decode mR_spare.2.1 98 = .ok (.bipush 10, 2) := by decide +kernel
theorem dR_spare_100 : decode mR_spare.2.1 100 = .ok (.if_icmp .ge 48, 3) := by decide +kernel
theorem dR_spare_103 : decode mR_spare.2.1 103 = .ok (.iload_n 2, 1) := by decide +kernel
theorem dR_spare_104 : decode mR_spare.2.1 104 = .ok (.ifCond .lt 44, 3) := by decide +kernel
theorem dR_spare_107 : decode mR_spare.2.1 107 = .ok (.aload_n 0, 1) := by decide +kernel
theorem dR_spare_108 : decode mR_spare.2.1 108 = .ok (.getfield 59, 3) := by decide +kernel
theorem dR_spare_111 : decode mR_spare.2.1 111 = .ok (.bipush 10, 2) := by decide +kernel
theorem dR_spare_113 : decode mR_spare.2.1 113 = .ok (.iload_n 2, 1) := by decide +kernel
theorem dR_spare_114 : decode mR_spare.2.1 114 = .ok (.imul, 1) := by decide +kernel
theorem dR_spare_115 : decode mR_spare.2.1 115 = .ok (.iload_n 3, 1) := by decide +kernel
theorem dR_spare_116 : decode mR_spare.2.1 116 = .ok (.iadd, 1) := by decide +kernel
theorem dR_spare_117 : decode mR_spare.2.1 117 = .ok (.iaload, 1) := by decide +kernel
theorem dR_spare_118 : decode mR_spare.2.1 118 = .ok (.aload_n 0, 1) := by decide +kernel
theorem dR_spare_119 : decode mR_spare.2.1 119 = .ok (.getfield 26, 3) := by decide +kernel
theorem dR_spare_122 : decode mR_spare.2.1 122 = .ok (.bipush 10, 2) := by decide +kernel
theorem dR_spare_124 : decode mR_spare.2.1 124 = .ok (.aload_n 0, 1) := by decide +kernel
theorem dR_spare_125 : decode mR_spare.2.1 125 = .ok (.getfield 29, 3) := by decide +kernel
theorem dR_spare_128 : decode mR_spare.2.1 128 = .ok (.iload_n 1, 1) := by decide +kernel
theorem dR_spare_129 : decode mR_spare.2.1 129 = .ok (.iaload, 1) := by decide +kernel
theorem dR_spare_130 : decode mR_spare.2.1 130 = .ok (.imul, 1) := by decide +kernel
theorem dR_spare_131 : decode mR_spare.2.1 131 = .ok (.iload_n 3, 1) := by decide +kernel
theorem dR_spare_132 : decode mR_spare.2.1 132 = .ok (.iadd, 1) := by decide +kernel
theorem dR_spare_133 : decode mR_spare.2.1 133 = .ok (.iaload, 1) := by decide +kernel
theorem dR_spare_134 : decode mR_spare.2.1 134 = .ok (.if_icmp .ge 8, 3) := by decide +kernel
theorem dR_spare_137 : decode mR_spare.2.1 137 = .ok (.bipush (-2), 2) := by decide +kernel
theorem dR_spare_139 : decode mR_spare.2.1 139 = .ok (.iload_n 3, 1) := by decide +kernel
theorem dR_spare_140 : decode mR_spare.2.1 140 = .ok (.isub, 1) := by decide +kernel
theorem dR_spare_141 : decode mR_spare.2.1 141 = .ok (.ireturn, 1) := by decide +kernel
theorem dR_spare_142 : decode mR_spare.2.1 142 = .ok (.iinc 3 1, 3) := by decide +kernel
theorem dR_spare_145 : decode mR_spare.2.1 145 = .ok (.goto (-48), 3) := by decide +kernel
theorem dR_spare_148 : decode mR_spare.2.1 148 = .ok (.iload_n 2, 1) := by decide +kernel
theorem dR_spare_149 : decode mR_spare.2.1 149 = .ok (.ireturn, 1) := by decide +kernel
theorem dR_fuel_0 : decode mR_fuel.2.1 0 = .ok (.aload_n 0, 1) := by decide +kernel
theorem dR_fuel_1 : decode mR_fuel.2.1 1 = .ok (.aload_n 0, 1) := by decide +kernel
theorem dR_fuel_2 : decode mR_fuel.2.1 2 = .ok (.iload_n 1, 1) := by decide +kernel
theorem dR_fuel_3 : decode mR_fuel.2.1 3 = .ok (.invokevirtual 115, 3) := by decide +kernel
theorem dR_fuel_6 : decode mR_fuel.2.1 6 = .ok (.iload_n 2, 1) := by decide +kernel
theorem dR_fuel_7 : decode mR_fuel.2.1 7 = .ok (.iconst 1, 1) := by decide +kernel
theorem dR_fuel_8 : decode mR_fuel.2.1 8 = .ok (.ldc 142, 2) := by decide +kernel
theorem dR_fuel_10 : decode mR_fuel.2.1 10 = .ok (.invokestatic 93, 3) := by decide +kernel
theorem dR_fuel_13 : decode mR_fuel.2.1 13 = .ok (.aload_n 0, 1) := by decide +kernel
theorem dR_fuel_14 : decode mR_fuel.2.1 14 = .ok (.iload_n 1, 1) := by decide +kernel
theorem dR_fuel_15 : decode mR_fuel.2.1 15 = .ok (.invokevirtual 115, 3) := by decide +kernel
theorem dR_fuel_18 : decode mR_fuel.2.1 18 = .ok (.ifCond .eq 20, 3) := by decide +kernel
theorem dR_fuel_21 : decode mR_fuel.2.1 21 = .ok (.aload_n 0, 1) := by decide +kernel
theorem dR_fuel_22 : decode mR_fuel.2.1 22 = .ok (.getfield 50, 3) := by decide +kernel
theorem dR_fuel_25 : decode mR_fuel.2.1 25 = .ok (.iload_n 1, 1) := by decide +kernel
theorem dR_fuel_26 : decode mR_fuel.2.1 26 = .ok (.iaload, 1) := by decide +kernel
theorem dR_fuel_27 : decode mR_fuel.2.1 27 = .ok (.iload_n 2, 1) := by decide +kernel
theorem dR_fuel_28 : decode mR_fuel.2.1 28 = .ok (.iadd, 1) := by decide +kernel
theorem dR_fuel_29 : decode mR_fuel.2.1 29 = .ok (.ldc 146, 2) := by decide +kernel
theorem dR_fuel_31 : decode mR_fuel.2.1 31 = .ok (.if_icmp .gt 7, 3) := by decide +kernel
theorem dR_fuel_34 : decode mR_fuel.2.1 34 = .ok (.iconst 1, 1) := by decide +kernel
theorem dR_fuel_35 : decode mR_fuel.2.1 35 = .ok (.goto 4, 3) := by decide +kernel
theorem dR_fuel_38 : decode mR_fuel.2.1 38 = .ok (.iconst 0, 1) := by decide +kernel
theorem dR_fuel_39 : decode mR_fuel.2.1 39 = .ok (.invokevirtual 101, 3) := by decide +kernel
theorem dR_fuel_42 : decode mR_fuel.2.1 42 = .ok (.ifCond .ne 5, 3) := by decide +kernel
theorem dR_fuel_45 : decode mR_fuel.2.1 45 = .ok (.iconst 0, 1) := by decide +kernel
theorem dR_fuel_46 : decode mR_fuel.2.1 46 = .ok (.ireturn, 1) := by decide +kernel
theorem dR_fuel_47 : decode mR_fuel.2.1 47 = .ok (.aload_n 0, 1) := by decide +kernel
theorem dR_fuel_48 : decode mR_fuel.2.1 48 = .ok (.getfield 50, 3) := by decide +kernel
theorem dR_fuel_51 : decode mR_fuel.2.1 51 = .ok (.iload_n 1, 1) := by decide +kernel
theorem dR_fuel_52 : decode mR_fuel.2.1 52 = .ok (.aload_n 0, 1) := by decide +kernel
theorem dR_fuel_53 : decode mR_fuel.2.1 53 = .ok (.getfield 50, 3) := by decide +kernel
theorem dR_fuel_56 : decode mR_fuel.2.1 56 = .ok (.iload_n 1, 1) := by decide +kernel
theorem dR_fuel_57 : decode mR_fuel.2.1 57 = .ok (.iaload, 1) := by decide +kernel
theorem dR_fuel_58 : decode mR_fuel.2.1 58 = .ok (.iload_n 2, 1) := by decide +kernel
theorem dR_fuel_59 : decode mR_fuel.2.1 59 = .ok (.iadd, 1) := by decide +kernel
theorem dR_fuel_60 : decode mR_fuel.2.1 60 = .ok (.iastore, 1) := by decide +kernel
theorem dR_fuel_61 : decode mR_fuel.2.1 61 = .ok (.aload_n 0, 1) := by decide +kernel
theorem dR_fuel_62 : decode mR_fuel.2.1 62 = .ok (.getfield 50, 3) := by decide +kernel
theorem dR_fuel_65 : decode mR_fuel.2.1 65 = .ok (.iload_n 1, 1) := by decide +kernel
theorem dR_fuel_66 : decode mR_fuel.2.1 66 = .ok (.iaload, 1) := by decide +kernel
theorem dR_fuel_67 : decode mR_fuel.2.1 67 = .ok (.ireturn, 1) := by decide +kernel
theorem dR_using_0 : decode mR_using.2.1 0 = .ok (.aload_n 0, 1) := by decide +kernel
theorem dR_using_1 : decode mR_using.2.1 1 = .ok (.iload_n 1, 1) := by decide +kernel
theorem dR_using_2 : decode mR_using.2.1 2 = .ok (.invokevirtual 115, 3) := by decide +kernel
theorem dR_using_5 : decode mR_using.2.1 5 = .ok (.ifCond .eq 16, 3) := by decide +kernel
theorem dR_using_8 : decode mR_using.2.1 8 = .ok (.iload_n 2, 1) := by decide +kernel
theorem dR_using_9 : decode mR_using.2.1 9 = .ok (.iconst 0, 1) := by decide +kernel
theorem dR_using_10 : decode mR_using.2.1 10 = .ok (.iconst 1, 1) := by decide +kernel
theorem dR_using_11 : decode mR_using.2.1 11 = .ok (.invokestatic 93, 3) := by decide +kernel
theorem dR_using_14 : decode mR_using.2.1 14 = .ok (.ifCond .eq 7, 3) := by decide +kernel
theorem dR_using_17 : decode mR_using.2.1 17 = .ok (.iconst 1, 1) := by decide +kernel
theorem dR_using_18 : decode mR_using.2.1 18 = .ok (.goto 4, 3) := by decide +kernel
theorem dR_using_21 : decode mR_using.2.1 21 = .ok (.iconst 0, 1) := by decide +kernel
theorem dR_using_22 : decode mR_using.2.1 22 = .ok (.istore_n 3, 1) := by decide +kernel
theorem dR_using_23 : decode mR_using.2.1 23 = .ok (.aload_n 0, 1) := by decide +kernel
theorem dR_using_24 : decode mR_using.2.1 24 = .ok (.iload_n 3, 1) := by decide +kernel
theorem dR_using_25 : decode mR_using.2.1 25 = .ok (.iload_n 3, 1) := by decide +kernel
theorem dR_using_26 : decode mR_using.2.1 26 = .ok (.ifCond .eq 16, 3) := by decide +kernel
theorem dR_using_29 : decode mR_using.2.1 29 = .ok (.aload_n 0, 1) := by decide +kernel
theorem dR_using_30 : decode mR_using.2.1 30 = .ok (.getfield 41, 3) := by decide +kernel
theorem dR_using_33 : decode mR_using.2.1 33 = .ok (.iload_n 1, 1) := by decide +kernel
theorem dR_using_34 : decode mR_using.2.1 34 = .ok (.iaload, 1) := by decide +kernel
theorem dR_using_35 : decode mR_using.2.1 35 = .ok (.ifCond .le 7, 3) := by decide +kernel
theorem dR_using_38 : decode mR_using.2.1 38 = .ok (.iconst 1, 1) := by decide +kernel
theorem dR_using_39 : decode mR_using.2.1 39 = .ok (.goto 4, 3) := by decide +kernel
theorem dR_using_42 : decode mR_using.2.1 42 = .ok (.iconst 0, 1) := by decide +kernel
theorem dR_using_43 : decode mR_using.2.1 43 = .ok (.iconst 1, 1) := by decide +kernel
theorem dR_using_44 : decode mR_using.2.1 44 = .ok (.invokevirtual 101, 3) := by decide +kernel
theorem dR_using_47 : decode mR_using.2.1 47 = .ok (.ifCond .ne 5, 3) := by decide +kernel
theorem dR_using_50 : decode mR_using.2.1 50 = .ok (.lconst 0, 1) := by decide +kernel
theorem dR_using_51 : decode mR_using.2.1 51 = .ok (.lreturn, 1) := by decide +kernel
theorem dR_using_52 : decode mR_using.2.1 52 = .ok (.ldc2_w 147, 3) := by decide +kernel
theorem dR_using_55 : decode mR_using.2.1 55 = .ok (.aload_n 0, 1) := by decide +kernel
theorem dR_using_56 : decode mR_using.2.1 56 = .ok (.getfield 50, 3) := by decide +kernel
theorem dR_using_59 : decode mR_using.2.1 59 = .ok (.iload_n 1, 1) := by decide +kernel
theorem dR_using_60 : decode mR_using.2.1 60 = .ok (.iaload, 1) := by decide +kernel
theorem dR_using_61 : decode mR_using.2.1 61 = .ok (.i2l, 1) := by decide +kernel
theorem dR_using_62 : decode mR_using.2.1 62 = .ok (.lmul, 1) := by decide +kernel
theorem dR_using_63 : decode mR_using.2.1 63 = .ok (.lstore 4, 2) := by decide +kernel
theorem dR_using_65 : decode mR_using.2.1 65 = .ok (.aload_n 0, 1) := by decide +kernel
theorem dR_using_66 : decode mR_using.2.1 66 = .ok (.getfield 41, 3) := by decide +kernel
theorem dR_using_69 : decode mR_using.2.1 69 = .ok (.iload_n 1, 1) := by decide +kernel
theorem dR_using_70 : decode mR_using.2.1 70 = .ok (.iaload, 1) := by decide +kernel
theorem dR_using_71 : decode mR_using.2.1 71 = .ok (.i2l, 1) := by decide +kernel
theorem dR_using_72 : decode mR_using.2.1 72 = .ok (.lstore 6, 2) := by decide +kernel
theorem dR_using_74 : decode mR_using.2.1 74 = .ok (.lload 6, 2) := by decide +kernel
theorem dR_using_76 : decode mR_using.2.1 76 = .ok (.lstore 8, 2) := by decide +kernel
theorem dR_using_78 : decode mR_using.2.1 78 = .ok (.lload 4, 2) := by decide +kernel
theorem dR_using_80 : decode mR_using.2.1 80 = .ok (.lstore 10, 2) := by decide +kernel
theorem dR_using_82 : decode mR_using.2.1 82 = .ok (.lload 10, 2) := by decide +kernel
theorem dR_using_84 : decode mR_using.2.1 84 = .ok (.lconst 0, 1) := by decide +kernel
theorem dR_using_85 : decode mR_using.2.1 85 = .ok (.lcmp, 1) := by decide +kernel
theorem dR_using_86 : decode mR_using.2.1 86 = .ok (.ifCond .le 21, 3) := by decide +kernel
theorem dR_using_89 : decode mR_using.2.1 89 = .ok (.lload 8, 2) := by decide +kernel
theorem dR_using_91 : decode mR_using.2.1 91 = .ok (.lload 10, 2) := by decide +kernel
theorem dR_using_93 : decode mR_using.2.1 93 = .ok (.lrem, 1) := by decide +kernel
theorem dR_using_94 : decode mR_using.2.1 94 = .ok (.lstore 12, 2) := by decide +kernel
theorem dR_using_96 : decode mR_using.2.1 96 = .ok (.lload 10, 2) := by decide +kernel
theorem dR_using_98 : decode mR_using.2.1 98 = .ok (.lstore 8, 2) := by decide +kernel
theorem dR_using_100 : decode mR_using.2.1 100 = .ok (.lload 12, 2) := by decide +kernel
theorem dR_using_102 : decode mR_using.2.1 102 = .ok (.lstore 10, 2) := by decide +kernel
theorem dR_using_104 : decode mR_using.2.1 104 = .ok (.goto (-22), 3) := by decide +kernel
theorem dR_using_107 : decode mR_using.2.1 107 = .ok (.iload_n 2, 1) := by decide +kernel
theorem dR_using_108 : decode mR_using.2.1 108 = .ok (.ifCond .ne 8, 3) := by decide +kernel
theorem dR_using_111 : decode mR_using.2.1 111 = .ok (.lload 4, 2) := by decide +kernel
theorem dR_using_113 : decode mR_using.2.1 113 = .ok (.goto 5, 3) := by decide +kernel
theorem dR_using_116 : decode mR_using.2.1 116 = .ok (.lload 6, 2) := by decide +kernel
theorem dR_using_118 : decode mR_using.2.1 118 = .ok (.lload 8, 2) := by decide +kernel
theorem dR_using_120 : decode mR_using.2.1 120 = .ok (.ldiv, 1) := by decide +kernel
theorem dR_using_121 : decode mR_using.2.1 121 = .ok (.lreturn, 1) := by decide +kernel
theorem dR_key_0 : decode mR_key.2.1 0 = .ok (.aload_n 0, 1) := by decide +kernel
theorem dR_key_1 : decode mR_key.2.1 1 = .ok (.iload_n 1, 1) := by decide +kernel
theorem dR_key_2 : decode mR_key.2.1 2 = .ok (.invokevirtual 115, 3) := by decide +kernel
theorem dR_key_5 : decode mR_key.2.1 5 = .ok (.ifCond .eq 19, 3) := by decide +kernel
theorem dR_key_8 : decode mR_key.2.1 8 = .ok (.iload_n 2, 1) := by decide +kernel
theorem dR_key_9 : decode mR_key.2.1 9 = .ok (.iconst (-1), 1) := by decide +kernel
theorem dR_key_10 : decode mR_key.2.1 10 = .ok (.if_icmp .eq 10, 3) := by decide +kernel
theorem dR_key_13 : decode mR_key.2.1 13 = .ok (.iload_n 2, 1) := by decide +kernel
theorem dR_key_14 : decode mR_key.2.1 14 = .ok (.invokestatic 118, 3) := by decide +kernel
theorem dR_key_17 : decode mR_key.2.1 17 = .ok (.ifCond .eq 7, 3) := by decide +kernel
theorem dR_key_20 : decode mR_key.2.1 20 = .ok (.iconst 1, 1) := by decide +kernel
theorem dR_key_21 : decode mR_key.2.1 21 = .ok (.goto 4, 3) := by decide +kernel
theorem dR_key_24 : decode mR_key.2.1 24 = .ok (.iconst 0, 1) := by decide +kernel
theorem dR_key_25 : decode mR_key.2.1 25 = .ok (.istore_n 3, 1) := by decide +kernel
theorem dR_key_26 : decode mR_key.2.1 26 = .ok (.aload_n 0, 1) := by decide +kernel
theorem dR_key_27 : decode mR_key.2.1 27 = .ok (.iload_n 3, 1) := by decide +kernel
theorem dR_key_28 : decode mR_key.2.1 28 = .ok (.iload_n 3, 1) := by decide +kernel
theorem dR_key_29 : decode mR_key.2.1 29 = .ok (.ifCond .eq 17, 3) := by decide +kernel
theorem dR_key_32 : decode mR_key.2.1 32 = .ok (.aload_n 0, 1) := by decide +kernel
theorem dR_key_33 : decode mR_key.2.1 33 = .ok (.getfield 56, 3) := by decide +kernel
theorem dR_key_36 : decode mR_key.2.1 36 = .ok (.iload_n 1, 1) := by decide +kernel
theorem dR_key_37 : decode mR_key.2.1 37 = .ok (.iaload, 1) := by decide +kernel
theorem dR_key_38 : decode mR_key.2.1 38 = .ok (.iload_n 2, 1) := by decide +kernel
theorem dR_key_39 : decode mR_key.2.1 39 = .ok (.if_icmp .eq 7, 3) := by decide +kernel
theorem dR_key_42 : decode mR_key.2.1 42 = .ok (.iconst 1, 1) := by decide +kernel
theorem dR_key_43 : decode mR_key.2.1 43 = .ok (.goto 4, 3) := by decide +kernel
theorem dR_key_46 : decode mR_key.2.1 46 = .ok (.iconst 0, 1) := by decide +kernel
theorem dR_key_47 : decode mR_key.2.1 47 = .ok (.iconst 1, 1) := by decide +kernel
theorem dR_key_48 : decode mR_key.2.1 48 = .ok (.invokevirtual 101, 3) := by decide +kernel
theorem dR_key_51 : decode mR_key.2.1 51 = .ok (.ifCond .ne 5, 3) := by decide +kernel
theorem dR_key_54 : decode mR_key.2.1 54 = .ok (.iconst 0, 1) := by decide +kernel
theorem dR_key_55 : decode mR_key.2.1 55 = .ok (.ireturn, 1) := by decide +kernel
theorem dR_key_56 : decode mR_key.2.1 56 = .ok (.aload_n 0, 1) := by decide +kernel
theorem dR_key_57 : decode mR_key.2.1 57 = .ok (.getfield 56, 3) := by decide +kernel
theorem dR_key_60 : decode mR_key.2.1 60 = .ok (.iload_n 1, 1) := by decide +kernel
theorem dR_key_61 : decode mR_key.2.1 61 = .ok (.iaload, 1) := by decide +kernel
theorem dR_key_62 : decode mR_key.2.1 62 = .ok (.istore 4, 2) := by decide +kernel
theorem dR_key_64 : decode mR_key.2.1 64 = .ok (.aload_n 0, 1) := by decide +kernel
theorem dR_key_65 : decode mR_key.2.1 65 = .ok (.getfield 56, 3) := by decide +kernel
theorem dR_key_68 : decode mR_key.2.1 68 = .ok (.iload_n 1, 1) := by decide +kernel
theorem dR_key_69 : decode mR_key.2.1 69 = .ok (.iload_n 2, 1) := by decide +kernel
theorem dR_key_70 : decode mR_key.2.1 70 = .ok (.iastore, 1) := by decide +kernel
theorem dR_key_71 : decode mR_key.2.1 71 = .ok (.iload 4, 2) := by decide +kernel
theorem dR_key_73 : decode mR_key.2.1 73 = .ok (.ireturn, 1) := by decide +kernel
theorem dR_cost_0 : decode mR_cost.2.1 0 = .ok (.aload_n 0, 1) := by decide +kernel
theorem dR_cost_1 : decode mR_cost.2.1 1 = .ok (.aload_n 0, 1) := by decide +kernel
theorem dR_cost_2 : decode mR_cost.2.1 2 = .ok (.iload_n 1, 1) := by decide +kernel
theorem dR_cost_3 : decode mR_cost.2.1 3 = .ok (.invokevirtual 115, 3) := by decide +kernel
theorem dR_cost_6 : decode mR_cost.2.1 6 = .ok (.iload_n 2, 1) := by decide +kernel
theorem dR_cost_7 : decode mR_cost.2.1 7 = .ok (.iconst 0, 1) := by decide +kernel
theorem dR_cost_8 : decode mR_cost.2.1 8 = .ok (.ldc 149, 2) := by decide +kernel
theorem dR_cost_10 : decode mR_cost.2.1 10 = .ok (.invokestatic 93, 3) := by decide +kernel
theorem dR_cost_13 : decode mR_cost.2.1 13 = .ok (.aload_n 0, 1) := by decide +kernel
theorem dR_cost_14 : decode mR_cost.2.1 14 = .ok (.iload_n 1, 1) := by decide +kernel
theorem dR_cost_15 : decode mR_cost.2.1 15 = .ok (.invokevirtual 115, 3) := by decide +kernel
theorem dR_cost_18 : decode mR_cost.2.1 18 = .ok (.ifCond .eq 20, 3) := by decide +kernel
theorem dR_cost_21 : decode mR_cost.2.1 21 = .ok (.aload_n 0, 1) := by decide +kernel
theorem dR_cost_22 : decode mR_cost.2.1 22 = .ok (.getfield 53, 3) := by decide +kernel
theorem dR_cost_25 : decode mR_cost.2.1 25 = .ok (.iload_n 1, 1) := by decide +kernel
theorem dR_cost_26 : decode mR_cost.2.1 26 = .ok (.iaload, 1) := by decide +kernel
theorem dR_cost_27 : decode mR_cost.2.1 27 = .ok (.iload_n 2, 1) := by decide +kernel
theorem dR_cost_28 : decode mR_cost.2.1 28 = .ok (.iadd, 1) := by decide +kernel
theorem dR_cost_29 : decode mR_cost.2.1 29 = .ok (.ldc 146, 2) := by decide +kernel
theorem dR_cost_31 : decode mR_cost.2.1 31 = .ok (.if_icmp .gt 7, 3) := by decide +kernel
theorem dR_cost_34 : decode mR_cost.2.1 34 = .ok (.iconst 1, 1) := by decide +kernel
theorem dR_cost_35 : decode mR_cost.2.1 35 = .ok (.goto 4, 3) := by decide +kernel
theorem dR_cost_38 : decode mR_cost.2.1 38 = .ok (.iconst 0, 1) := by decide +kernel
theorem dR_cost_39 : decode mR_cost.2.1 39 = .ok (.invokevirtual 101, 3) := by decide +kernel
theorem dR_cost_42 : decode mR_cost.2.1 42 = .ok (.ifCond .ne 5, 3) := by decide +kernel
theorem dR_cost_45 : decode mR_cost.2.1 45 = .ok (.iconst 0, 1) := by decide +kernel
theorem dR_cost_46 : decode mR_cost.2.1 46 = .ok (.ireturn, 1) := by decide +kernel
theorem dR_cost_47 : decode mR_cost.2.1 47 = .ok (.aload_n 0, 1) := by decide +kernel
theorem dR_cost_48 : decode mR_cost.2.1 48 = .ok (.getfield 53, 3) := by decide +kernel
theorem dR_cost_51 : decode mR_cost.2.1 51 = .ok (.iload_n 1, 1) := by decide +kernel
theorem dR_cost_52 : decode mR_cost.2.1 52 = .ok (.aload_n 0, 1) := by decide +kernel
theorem dR_cost_53 : decode mR_cost.2.1 53 = .ok (.getfield 53, 3) := by decide +kernel
theorem dR_cost_56 : decode mR_cost.2.1 56 = .ok (.iload_n 1, 1) := by decide +kernel
theorem dR_cost_57 : decode mR_cost.2.1 57 = .ok (.iaload, 1) := by decide +kernel
theorem dR_cost_58 : decode mR_cost.2.1 58 = .ok (.iload_n 2, 1) := by decide +kernel
theorem dR_cost_59 : decode mR_cost.2.1 59 = .ok (.iadd, 1) := by decide +kernel
theorem dR_cost_60 : decode mR_cost.2.1 60 = .ok (.iastore, 1) := by decide +kernel
theorem dR_cost_61 : decode mR_cost.2.1 61 = .ok (.aload_n 0, 1) := by decide +kernel
theorem dR_cost_62 : decode mR_cost.2.1 62 = .ok (.getfield 53, 3) := by decide +kernel
theorem dR_cost_65 : decode mR_cost.2.1 65 = .ok (.iload_n 1, 1) := by decide +kernel
theorem dR_cost_66 : decode mR_cost.2.1 66 = .ok (.iaload, 1) := by decide +kernel
theorem dR_cost_67 : decode mR_cost.2.1 67 = .ok (.ireturn, 1) := by decide +kernel
theorem dR_skipped_0 : decode mR_skipped.2.1 0 = .ok (.aload_n 0, 1) := by decide +kernel
theorem dR_skipped_1 : decode mR_skipped.2.1 1 = .ok (.iload_n 1, 1) := by decide +kernel
theorem dR_skipped_2 : decode mR_skipped.2.1 2 = .ok (.ifCond .lt 7, 3) := by decide +kernel
theorem dR_skipped_5 : decode mR_skipped.2.1 5 = .ok (.iconst 1, 1) := by decide +kernel
theorem dR_skipped_6 : decode mR_skipped.2.1 6 = .ok (.goto 4, 3) := by decide +kernel
theorem dR_skipped_9 : decode mR_skipped.2.1 9 = .ok (.iconst 0, 1) := by decide +kernel
theorem dR_skipped_10 : decode mR_skipped.2.1 10 = .ok (.iconst 1, 1) := by decide +kernel
theorem dR_skipped_11 : decode mR_skipped.2.1 11 = .ok (.iconst 1, 1) := by decide +kernel
theorem dR_skipped_12 : decode mR_skipped.2.1 12 = .ok (.invokevirtual 101, 3) := by decide +kernel
theorem dR_skipped_15 : decode mR_skipped.2.1 15 = .ok (.ifCond .ne 5, 3) := by decide +kernel
theorem dR_skipped_18 : decode mR_skipped.2.1 18 = .ok (.iconst 0, 1) := by decide +kernel
theorem dR_skipped_19 : decode mR_skipped.2.1 19 = .ok (.ireturn, 1) := by decide +kernel
theorem dR_skipped_20 : decode mR_skipped.2.1 20 = .ok (.iload_n 1, 1) := by decide +kernel
theorem dR_skipped_21 : decode mR_skipped.2.1 21 = .ok (.istore_n 2, 1) := by decide +kernel
theorem dR_skipped_22 : decode mR_skipped.2.1 22 = .ok (.iconst 0, 1) := by decide +kernel
theorem dR_skipped_23 : decode mR_skipped.2.1 23 = .ok (.istore_n 3, 1) := by decide +kernel
theorem dR_skipped_24 : decode mR_skipped.2.1 24 = .ok (.iload_n 3, 1) := by decide +kernel
theorem dR_skipped_25 : decode mR_skipped.2.1 25 = .ok (.bipush 10, 2) := by decide +kernel
theorem dR_skipped_27 : decode mR_skipped.2.1 27 = .ok (.aload_n 0, 1) := by decide +kernel
theorem dR_skipped_28 : decode mR_skipped.2.1 28 = .ok (.getfield 90, 3) := by decide +kernel
theorem dR_skipped_31 : decode mR_skipped.2.1 31 = .ok (.imul, 1) := by decide +kernel
theorem dR_skipped_32 : decode mR_skipped.2.1 32 = .ok (.if_icmp .ge 48, 3) := by decide +kernel
theorem dR_skipped_35 : decode mR_skipped.2.1 35 = .ok (.aload_n 0, 1) := by decide +kernel
theorem dR_skipped_36 : decode mR_skipped.2.1 36 = .ok (.getfield 35, 3) := by decide +kernel
theorem dR_skipped_39 : decode mR_skipped.2.1 39 = .ok (.iload_n 3, 1) := by decide +kernel
theorem dR_skipped_40 : decode mR_skipped.2.1 40 = .ok (.bipush 10, 2) := by decide +kernel
theorem dR_skipped_42 : decode mR_skipped.2.1 42 = .ok (.idiv, 1) := by decide +kernel
theorem dR_skipped_43 : decode mR_skipped.2.1 43 = .ok (.baload, 1) := by decide +kernel
theorem dR_skipped_44 : decode mR_skipped.2.1 44 = .ok (.ifCond .ne 30, 3) := by decide +kernel
theorem dR_skipped_47 : decode mR_skipped.2.1 47 = .ok (.aload_n 0, 1) := by decide +kernel
theorem dR_skipped_48 : decode mR_skipped.2.1 48 = .ok (.iload_n 3, 1) := by decide +kernel
theorem dR_skipped_49 : decode mR_skipped.2.1 49 = .ok (.bipush 10, 2) := by decide +kernel
theorem dR_skipped_51 : decode mR_skipped.2.1 51 = .ok (.idiv, 1) := by decide +kernel
theorem dR_skipped_52 : decode mR_skipped.2.1 52 = .ok (.iload_n 3, 1) := by decide +kernel
theorem dR_skipped_53 : decode mR_skipped.2.1 53 = .ok (.bipush 10, 2) := by decide +kernel
theorem dR_skipped_55 : decode mR_skipped.2.1 55 = .ok (.irem, 1) := by decide +kernel
theorem dR_skipped_56 : decode mR_skipped.2.1 56 = .ok (.invokevirtual 130, 3) := by decide +kernel
theorem dR_skipped_59 : decode mR_skipped.2.1 59 = .ok (.ifCond .ne 6, 3) := by decide +kernel
theorem dR_skipped_62 : decode mR_skipped.2.1 62 = .ok (.goto 12, 3) := by decide +kernel
theorem dR_skipped_65 : decode mR_skipped.2.1 65 = .ok (.iload_n 2, 1) := by decide +kernel
theorem dR_skipped_66 : decode mR_skipped.2.1 66 = .ok (.ifCond .ne 5, 3) := by decide +kernel
theorem dR_skipped_69 : decode mR_skipped.2.1 69 = .ok (.iload_n 3, 1) := by decide +kernel
theorem dR_skipped_70 : decode mR_skipped.2.1 70 = .ok (.ireturn, 1) := by decide +kernel
theorem dR_skipped_71 : decode mR_skipped.2.1 71 = .ok (.iinc 2 (-1), 3) := by decide +kernel
theorem dR_skipped_74 : decode mR_skipped.2.1 74 = .ok (.iinc 3 1, 3) := by decide +kernel
theorem dR_skipped_77 : decode mR_skipped.2.1 77 = .ok (.goto (-53), 3) := by decide +kernel
theorem dR_skipped_80 : decode mR_skipped.2.1 80 = .ok (.iconst (-1), 1) := by decide +kernel
theorem dR_skipped_81 : decode mR_skipped.2.1 81 = .ok (.ireturn, 1) := by decide +kernel
theorem dR_tick_0 : decode mR_tick.2.1 0 = .ok (.aload_n 0, 1) := by decide +kernel
theorem dR_tick_1 : decode mR_tick.2.1 1 = .ok (.iload_n 1, 1) := by decide +kernel
theorem dR_tick_2 : decode mR_tick.2.1 2 = .ok (.iconst 1, 1) := by decide +kernel
theorem dR_tick_3 : decode mR_tick.2.1 3 = .ok (.sipush 5000, 3) := by decide +kernel
theorem dR_tick_6 : decode mR_tick.2.1 6 = .ok (.invokestatic 93, 3) := by decide +kernel
theorem dR_tick_9 : decode mR_tick.2.1 9 = .ok (.ifCond .eq 18, 3) := by decide +kernel
theorem dR_tick_12 : decode mR_tick.2.1 12 = .ok (.iload_n 1, 1) := by decide +kernel
theorem dR_tick_13 : decode mR_tick.2.1 13 = .ok (.ldc 122, 2) := by decide +kernel
theorem dR_tick_15 : decode mR_tick.2.1 15 = .ok (.aload_n 0, 1) := by decide +kernel
theorem dR_tick_16 : decode mR_tick.2.1 16 = .ok (.getfield 105, 3) := by decide +kernel
theorem dR_tick_19 : decode mR_tick.2.1 19 = .ok (.isub, 1) := by decide +kernel
theorem dR_tick_20 : decode mR_tick.2.1 20 = .ok (.if_icmp .gt 7, 3) := by decide +kernel
theorem dR_tick_23 : decode mR_tick.2.1 23 = .ok (.iconst 1, 1) := by decide +kernel
theorem dR_tick_24 : decode mR_tick.2.1 24 = .ok (.goto 4, 3) := by decide +kernel
theorem dR_tick_27 : decode mR_tick.2.1 27 = .ok (.iconst 0, 1) := by decide +kernel
theorem dR_tick_28 : decode mR_tick.2.1 28 = .ok (.iconst 1, 1) := by decide +kernel
theorem dR_tick_29 : decode mR_tick.2.1 29 = .ok (.iconst 1, 1) := by decide +kernel
theorem dR_tick_30 : decode mR_tick.2.1 30 = .ok (.invokevirtual 101, 3) := by decide +kernel
theorem dR_tick_33 : decode mR_tick.2.1 33 = .ok (.ifCond .ne 5, 3) := by decide +kernel
theorem dR_tick_36 : decode mR_tick.2.1 36 = .ok (.iconst 0, 1) := by decide +kernel
theorem dR_tick_37 : decode mR_tick.2.1 37 = .ok (.ireturn, 1) := by decide +kernel
theorem dR_tick_38 : decode mR_tick.2.1 38 = .ok (.aload_n 0, 1) := by decide +kernel
theorem dR_tick_39 : decode mR_tick.2.1 39 = .ok (.aload_n 0, 1) := by decide +kernel
theorem dR_tick_40 : decode mR_tick.2.1 40 = .ok (.getfield 105, 3) := by decide +kernel
theorem dR_tick_43 : decode mR_tick.2.1 43 = .ok (.iload_n 1, 1) := by decide +kernel
theorem dR_tick_44 : decode mR_tick.2.1 44 = .ok (.iadd, 1) := by decide +kernel
theorem dR_tick_45 : decode mR_tick.2.1 45 = .ok (.putfield 105, 3) := by decide +kernel
theorem dR_tick_48 : decode mR_tick.2.1 48 = .ok (.iconst 0, 1) := by decide +kernel
theorem dR_tick_49 : decode mR_tick.2.1 49 = .ok (.istore_n 2, 1) := by decide +kernel
theorem dR_tick_50 : decode mR_tick.2.1 50 = .ok (.iconst 0, 1) := by decide +kernel
theorem dR_tick_51 : decode mR_tick.2.1 51 = .ok (.istore_n 3, 1) := by decide +kernel
theorem dR_tick_52 : decode mR_tick.2.1 52 = .ok (.iload_n 3, 1) := by decide +kernel
theorem dR_tick_53 : decode mR_tick.2.1 53 = .ok (.aload_n 0, 1) := by decide +kernel
theorem dR_tick_54 : decode mR_tick.2.1 54 = .ok (.getfield 90, 3) := by decide +kernel
theorem dR_tick_57 : decode mR_tick.2.1 57 = .ok (.if_icmp .ge 20, 3) := by decide +kernel
theorem dR_tick_60 : decode mR_tick.2.1 60 = .ok (.aload_n 0, 1) := by decide +kernel
theorem dR_tick_61 : decode mR_tick.2.1 61 = .ok (.iload_n 3, 1) := by decide +kernel
theorem dR_tick_62 : decode mR_tick.2.1 62 = .ok (.invokevirtual 139, 3) := by decide +kernel
theorem dR_tick_65 : decode mR_tick.2.1 65 = .ok (.ifCond .eq 6, 3) := by decide +kernel
theorem dR_tick_68 : decode mR_tick.2.1 68 = .ok (.iinc 2 1, 3) := by decide +kernel
theorem dR_tick_71 : decode mR_tick.2.1 71 = .ok (.iinc 3 1, 3) := by decide +kernel
theorem dR_tick_74 : decode mR_tick.2.1 74 = .ok (.goto (-22), 3) := by decide +kernel
theorem dR_tick_77 : decode mR_tick.2.1 77 = .ok (.iload_n 2, 1) := by decide +kernel
theorem dR_tick_78 : decode mR_tick.2.1 78 = .ok (.ireturn, 1) := by decide +kernel
theorem dR_vehicleAt_0 : decode mR_vehicleAt.2.1 0 = .ok (.aload_n 0, 1) := by decide +kernel
theorem dR_vehicleAt_1 : decode mR_vehicleAt.2.1 1 = .ok (.aload_n 0, 1) := by decide +kernel
theorem dR_vehicleAt_2 : decode mR_vehicleAt.2.1 2 = .ok (.iload_n 1, 1) := by decide +kernel
theorem dR_vehicleAt_3 : decode mR_vehicleAt.2.1 3 = .ok (.invokevirtual 115, 3) := by decide +kernel
theorem dR_vehicleAt_6 : decode mR_vehicleAt.2.1 6 = .ok (.ifCond .eq 16, 3) := by decide +kernel
theorem dR_vehicleAt_9 : decode mR_vehicleAt.2.1 9 = .ok (.iload_n 2, 1) := by decide +kernel
theorem dR_vehicleAt_10 : decode mR_vehicleAt.2.1 10 = .ok (.iconst 0, 1) := by decide +kernel
theorem dR_vehicleAt_11 : decode mR_vehicleAt.2.1 11 = .ok (.iconst 5, 1) := by decide +kernel
theorem dR_vehicleAt_12 : decode mR_vehicleAt.2.1 12 = .ok (.invokestatic 93, 3) := by decide +kernel
theorem dR_vehicleAt_15 : decode mR_vehicleAt.2.1 15 = .ok (.ifCond .eq 7, 3) := by decide +kernel
theorem dR_vehicleAt_18 : decode mR_vehicleAt.2.1 18 = .ok (.iconst 1, 1) := by decide +kernel
theorem dR_vehicleAt_19 : decode mR_vehicleAt.2.1 19 = .ok (.goto 4, 3) := by decide +kernel
theorem dR_vehicleAt_22 : decode mR_vehicleAt.2.1 22 = .ok (.iconst 0, 1) := by decide +kernel
theorem dR_vehicleAt_23 : decode mR_vehicleAt.2.1 23 = .ok (.iconst 1, 1) := by decide +kernel
theorem dR_vehicleAt_24 : decode mR_vehicleAt.2.1 24 = .ok (.iconst 1, 1) := by decide +kernel
theorem dR_vehicleAt_25 : decode mR_vehicleAt.2.1 25 = .ok (.invokevirtual 101, 3) := by decide +kernel
theorem dR_vehicleAt_28 : decode mR_vehicleAt.2.1 28 = .ok (.ifCond .ne 5, 3) := by decide +kernel
theorem dR_vehicleAt_31 : decode mR_vehicleAt.2.1 31 = .ok (.iconst 0, 1) := by decide +kernel
theorem dR_vehicleAt_32 : decode mR_vehicleAt.2.1 32 = .ok (.ireturn, 1) := by decide +kernel
theorem dR_vehicleAt_33 : decode mR_vehicleAt.2.1 33 = .ok (.iconst 0, 1) := by decide +kernel
theorem dR_vehicleAt_34 : decode mR_vehicleAt.2.1 34 = .ok (.istore_n 3, 1) := by decide +kernel
theorem dR_vehicleAt_35 : decode mR_vehicleAt.2.1 35 = .ok (.iconst 0, 1) := by decide +kernel
theorem dR_vehicleAt_36 : decode mR_vehicleAt.2.1 36 = .ok (.istore 4, 2) := by decide +kernel
theorem dR_vehicleAt_38 : decode mR_vehicleAt.2.1 38 = .ok (.iload 4, 2) := by decide +kernel
theorem dR_vehicleAt_40 : decode mR_vehicleAt.2.1 40 = .ok (.aload_n 0, 1) := by decide +kernel
theorem dR_vehicleAt_41 : decode mR_vehicleAt.2.1 41 = .ok (.getfield 133, 3) := by decide +kernel
theorem dR_vehicleAt_44 : decode mR_vehicleAt.2.1 44 = .ok (.if_icmp .ge 33, 3) := by decide +kernel
theorem dR_vehicleAt_47 : decode mR_vehicleAt.2.1 47 = .ok (.aload_n 0, 1) := by decide +kernel
theorem dR_vehicleAt_48 : decode mR_vehicleAt.2.1 48 = .ok (.getfield 77, 3) := by decide +kernel
theorem dR_vehicleAt_51 : decode mR_vehicleAt.2.1 51 = .ok (.iload 4, 2) := by decide +kernel
theorem dR_vehicleAt_53 : decode mR_vehicleAt.2.1 53 = .ok (.iaload, 1) := by decide +kernel
theorem dR_vehicleAt_54 : decode mR_vehicleAt.2.1 54 = .ok (.iload_n 1, 1) := by decide +kernel
theorem dR_vehicleAt_55 : decode mR_vehicleAt.2.1 55 = .ok (.if_icmp .ne 16, 3) := by decide +kernel
theorem dR_vehicleAt_58 : decode mR_vehicleAt.2.1 58 = .ok (.aload_n 0, 1) := by decide +kernel
theorem dR_vehicleAt_59 : decode mR_vehicleAt.2.1 59 = .ok (.getfield 83, 3) := by decide +kernel
theorem dR_vehicleAt_62 : decode mR_vehicleAt.2.1 62 = .ok (.iload 4, 2) := by decide +kernel
theorem dR_vehicleAt_64 : decode mR_vehicleAt.2.1 64 = .ok (.iaload, 1) := by decide +kernel
theorem dR_vehicleAt_65 : decode mR_vehicleAt.2.1 65 = .ok (.ifCond .ne 6, 3) := by decide +kernel
theorem dR_vehicleAt_68 : decode mR_vehicleAt.2.1 68 = .ok (.iinc 3 1, 3) := by decide +kernel
theorem dR_vehicleAt_71 : decode mR_vehicleAt.2.1 71 = .ok (.iinc 4 1, 3) := by decide +kernel
theorem dR_vehicleAt_74 : decode mR_vehicleAt.2.1 74 = .ok (.goto (-36), 3) := by decide +kernel
theorem dR_vehicleAt_77 : decode mR_vehicleAt.2.1 77 = .ok (.iload_n 2, 1) := by decide +kernel
theorem dR_vehicleAt_78 : decode mR_vehicleAt.2.1 78 = .ok (.ifCond .ne 12, 3) := by decide +kernel
theorem dR_vehicleAt_81 : decode mR_vehicleAt.2.1 81 = .ok (.aload_n 0, 1) := by decide +kernel
theorem dR_vehicleAt_82 : decode mR_vehicleAt.2.1 82 = .ok (.getfield 41, 3) := by decide +kernel
theorem dR_vehicleAt_85 : decode mR_vehicleAt.2.1 85 = .ok (.iload_n 1, 1) := by decide +kernel
theorem dR_vehicleAt_86 : decode mR_vehicleAt.2.1 86 = .ok (.iaload, 1) := by decide +kernel
theorem dR_vehicleAt_87 : decode mR_vehicleAt.2.1 87 = .ok (.goto 68, 3) := by decide +kernel
theorem dR_vehicleAt_90 : decode mR_vehicleAt.2.1 90 = .ok (.iload_n 2, 1) := by decide +kernel
theorem dR_vehicleAt_91 : decode mR_vehicleAt.2.1 91 = .ok (.iconst 1, 1) := by decide +kernel
theorem dR_vehicleAt_92 : decode mR_vehicleAt.2.1 92 = .ok (.if_icmp .ne 20, 3) := by decide +kernel
theorem dR_vehicleAt_95 : decode mR_vehicleAt.2.1 95 = .ok (.aload_n 0, 1) := by decide +kernel
theorem dR_vehicleAt_96 : decode mR_vehicleAt.2.1 96 = .ok (.getfield 35, 3) := by decide +kernel
theorem dR_vehicleAt_99 : decode mR_vehicleAt.2.1 99 = .ok (.iload_n 1, 1) := by decide +kernel
theorem dR_vehicleAt_100 : decode mR_vehicleAt.2.1 100 = .ok (.baload, 1) := by decide +kernel
theorem dR_vehicleAt_101 : decode mR_vehicleAt.2.1 101 = .ok (.ifCond .eq 7, 3) := by decide +kernel
theorem dR_vehicleAt_104 : decode mR_vehicleAt.2.1 104 = .ok (.iconst 0, 1) := by decide +kernel
theorem dR_vehicleAt_105 : decode mR_vehicleAt.2.1 105 = .ok (.goto 50, 3) := by decide +kernel
theorem dR_vehicleAt_108 : decode mR_vehicleAt.2.1 108 = .ok (.iconst 1, 1) := by decide +kernel
theorem dR_vehicleAt_109 : decode mR_vehicleAt.2.1 109 = .ok (.goto 46, 3) := by decide +kernel
theorem dR_vehicleAt_112 : decode mR_vehicleAt.2.1 112 = .ok (.iload_n 2, 1) := by decide +kernel
theorem dR_vehicleAt_113 : decode mR_vehicleAt.2.1 113 = .ok (.iconst 2, 1) := by decide +kernel
theorem dR_vehicleAt_114 : decode mR_vehicleAt.2.1 114 = .ok (.if_icmp .ne 12, 3) := by decide +kernel
theorem dR_vehicleAt_117 : decode mR_vehicleAt.2.1 117 = .ok (.aload_n 0, 1) := by decide +kernel
theorem dR_vehicleAt_118 : decode mR_vehicleAt.2.1 118 = .ok (.getfield 44, 3) := by decide +kernel
theorem dR_vehicleAt_121 : decode mR_vehicleAt.2.1 121 = .ok (.iload_n 1, 1) := by decide +kernel
theorem dR_vehicleAt_122 : decode mR_vehicleAt.2.1 122 = .ok (.iaload, 1) := by decide +kernel
theorem dR_vehicleAt_123 : decode mR_vehicleAt.2.1 123 = .ok (.goto 32, 3) := by decide +kernel
theorem dR_vehicleAt_126 : decode mR_vehicleAt.2.1 126 = .ok (.iload_n 2, 1) := by decide +kernel
theorem dR_vehicleAt_127 : decode mR_vehicleAt.2.1 127 = .ok (.iconst 3, 1) := by decide +kernel
theorem dR_vehicleAt_128 : decode mR_vehicleAt.2.1 128 = .ok (.if_icmp .ne 12, 3) := by decide +kernel
theorem dR_vehicleAt_131 : decode mR_vehicleAt.2.1 131 = .ok (.aload_n 0, 1) := by decide +kernel
theorem dR_vehicleAt_132 : decode mR_vehicleAt.2.1 132 = .ok (.getfield 47, 3) := by decide +kernel
theorem dR_vehicleAt_135 : decode mR_vehicleAt.2.1 135 = .ok (.iload_n 1, 1) := by decide +kernel
theorem dR_vehicleAt_136 : decode mR_vehicleAt.2.1 136 = .ok (.iaload, 1) := by decide +kernel
theorem dR_vehicleAt_137 : decode mR_vehicleAt.2.1 137 = .ok (.goto 18, 3) := by decide +kernel
theorem dR_vehicleAt_140 : decode mR_vehicleAt.2.1 140 = .ok (.iload_n 2, 1) := by decide +kernel
theorem dR_vehicleAt_141 : decode mR_vehicleAt.2.1 141 = .ok (.iconst 4, 1) := by decide +kernel
theorem dR_vehicleAt_142 : decode mR_vehicleAt.2.1 142 = .ok (.if_icmp .ne 7, 3) := by decide +kernel
theorem dR_vehicleAt_145 : decode mR_vehicleAt.2.1 145 = .ok (.iload_n 3, 1) := by decide +kernel
theorem dR_vehicleAt_146 : decode mR_vehicleAt.2.1 146 = .ok (.goto 9, 3) := by decide +kernel
theorem dR_vehicleAt_149 : decode mR_vehicleAt.2.1 149 = .ok (.aload_n 0, 1) := by decide +kernel
theorem dR_vehicleAt_150 : decode mR_vehicleAt.2.1 150 = .ok (.getfield 56, 3) := by decide +kernel
theorem dR_vehicleAt_153 : decode mR_vehicleAt.2.1 153 = .ok (.iload_n 1, 1) := by decide +kernel
theorem dR_vehicleAt_154 : decode mR_vehicleAt.2.1 154 = .ok (.iaload, 1) := by decide +kernel
theorem dR_vehicleAt_155 : decode mR_vehicleAt.2.1 155 = .ok (.ireturn, 1) := by decide +kernel
