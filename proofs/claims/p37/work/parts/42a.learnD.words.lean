/-! words of the tables that are used, by their places; decode rows; fields -/
theorem dX12_learn_0 : decode cX12_learn 0 = .ok (.iload_n 1, 1) := by decide +kernel
theorem dX12_learn_1 : decode cX12_learn 1 = .ok (.iconst 0, 1) := by decide +kernel
theorem dX12_learn_2 : decode cX12_learn 2 = .ok (.bipush 31, 2) := by decide +kernel
theorem dX12_learn_4 : decode cX12_learn 4 = .ok (.invokestatic 85, 3) := by decide +kernel
theorem dX12_learn_7 : decode cX12_learn 7 = .ok (.ifCond .eq 19, 3) := by decide +kernel
theorem dX12_learn_10 : decode cX12_learn 10 = .ok (.iload_n 2, 1) := by decide +kernel
theorem dX12_learn_11 : decode cX12_learn 11 = .ok (.iconst 0, 1) := by decide +kernel
theorem dX12_learn_12 : decode cX12_learn 12 = .ok (.bipush 31, 2) := by decide +kernel
theorem dX12_learn_14 : decode cX12_learn 14 = .ok (.invokestatic 85, 3) := by decide +kernel
theorem dX12_learn_17 : decode cX12_learn 17 = .ok (.ifCond .eq 9, 3) := by decide +kernel
theorem dX12_learn_20 : decode cX12_learn 20 = .ok (.iload_n 3, 1) := by decide +kernel
theorem dX12_learn_21 : decode cX12_learn 21 = .ok (.bipush (-2), 2) := by decide +kernel
theorem dX12_learn_23 : decode cX12_learn 23 = .ok (.if_icmp .ge 10, 3) := by decide +kernel
theorem dX12_learn_26 : decode cX12_learn 26 = .ok (.aload_n 0, 1) := by decide +kernel
theorem dX12_learn_27 : decode cX12_learn 27 = .ok (.ldc 103, 2) := by decide +kernel
theorem dX12_learn_29 : decode cX12_learn 29 = .ok (.invokevirtual 104, 3) := by decide +kernel
theorem dX12_learn_32 : decode cX12_learn 32 = .ok (.ireturn, 1) := by decide +kernel
theorem dX12_learn_33 : decode cX12_learn 33 = .ok (.aload_n 0, 1) := by decide +kernel
theorem dX12_learn_34 : decode cX12_learn 34 = .ok (.iconst (-1), 1) := by decide +kernel
theorem dX12_learn_35 : decode cX12_learn 35 = .ok (.putfield 311, 3) := by decide +kernel
theorem dX12_learn_38 : decode cX12_learn 38 = .ok (.aload_n 0, 1) := by decide +kernel
theorem dX12_learn_39 : decode cX12_learn 39 = .ok (.iconst 0, 1) := by decide +kernel
theorem dX12_learn_40 : decode cX12_learn 40 = .ok (.putfield 314, 3) := by decide +kernel
theorem dX12_learn_43 : decode cX12_learn 43 = .ok (.aload_n 0, 1) := by decide +kernel
theorem dX12_learn_44 : decode cX12_learn 44 = .ok (.iconst 0, 1) := by decide +kernel
theorem dX12_learn_45 : decode cX12_learn 45 = .ok (.iconst 0, 1) := by decide +kernel
theorem dX12_learn_46 : decode cX12_learn 46 = .ok (.iload_n 1, 1) := by decide +kernel
theorem dX12_learn_47 : decode cX12_learn 47 = .ok (.iload_n 2, 1) := by decide +kernel
theorem dX12_learn_48 : decode cX12_learn 48 = .ok (.iconst 0, 1) := by decide +kernel
theorem dX12_learn_49 : decode cX12_learn 49 = .ok (.invokevirtual 317, 3) := by decide +kernel
theorem dX12_learn_52 : decode cX12_learn 52 = .ok (.aload_n 0, 1) := by decide +kernel
theorem dX12_learn_53 : decode cX12_learn 53 = .ok (.getfield 311, 3) := by decide +kernel
theorem dX12_learn_56 : decode cX12_learn 56 = .ok (.ifCond .lt 11, 3) := by decide +kernel
theorem dX12_learn_59 : decode cX12_learn 59 = .ok (.iload_n 3, 1) := by decide +kernel
theorem dX12_learn_60 : decode cX12_learn 60 = .ok (.aload_n 0, 1) := by decide +kernel
theorem dX12_learn_61 : decode cX12_learn 61 = .ok (.getfield 311, 3) := by decide +kernel
theorem dX12_learn_64 : decode cX12_learn 64 = .ok (.if_icmp .lt 10, 3) := by decide +kernel
theorem dX12_learn_67 : decode cX12_learn 67 = .ok (.aload_n 0, 1) := by decide +kernel
theorem dX12_learn_68 : decode cX12_learn 68 = .ok (.ldc 130, 2) := by decide +kernel
theorem dX12_learn_70 : decode cX12_learn 70 = .ok (.invokevirtual 104, 3) := by decide +kernel
theorem dX12_learn_73 : decode cX12_learn 73 = .ok (.ireturn, 1) := by decide +kernel
theorem dX12_learn_74 : decode cX12_learn 74 = .ok (.iload_n 3, 1) := by decide +kernel
theorem dX12_learn_75 : decode cX12_learn 75 = .ok (.iconst (-1), 1) := by decide +kernel
theorem dX12_learn_76 : decode cX12_learn 76 = .ok (.if_icmp .ne 10, 3) := by decide +kernel
theorem dX12_learn_79 : decode cX12_learn 79 = .ok (.aload_n 0, 1) := by decide +kernel
theorem dX12_learn_80 : decode cX12_learn 80 = .ok (.getfield 314, 3) := by decide +kernel
theorem dX12_learn_83 : decode cX12_learn 83 = .ok (.goto 22, 3) := by decide +kernel
theorem dX12_learn_86 : decode cX12_learn 86 = .ok (.iload_n 3, 1) := by decide +kernel
theorem dX12_learn_87 : decode cX12_learn 87 = .ok (.bipush (-2), 2) := by decide +kernel
theorem dX12_learn_89 : decode cX12_learn 89 = .ok (.if_icmp .ne 10, 3) := by decide +kernel
theorem dX12_learn_92 : decode cX12_learn 92 = .ok (.aload_n 0, 1) := by decide +kernel
theorem dX12_learn_93 : decode cX12_learn 93 = .ok (.getfield 311, 3) := by decide +kernel
theorem dX12_learn_96 : decode cX12_learn 96 = .ok (.goto 9, 3) := by decide +kernel
theorem dX12_learn_99 : decode cX12_learn 99 = .ok (.aload_n 0, 1) := by decide +kernel
theorem dX12_learn_100 : decode cX12_learn 100 = .ok (.getfield 63, 3) := by decide +kernel
theorem dX12_learn_103 : decode cX12_learn 103 = .ok (.iload_n 3, 1) := by decide +kernel
theorem dX12_learn_104 : decode cX12_learn 104 = .ok (.iaload, 1) := by decide +kernel
theorem dX12_learn_105 : decode cX12_learn 105 = .ok (.ireturn, 1) := by decide +kernel
