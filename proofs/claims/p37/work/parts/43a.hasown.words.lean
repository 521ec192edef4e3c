/-! words of the tables that are used, by their places; decode rows; fields -/
theorem dX12_hasOwn_0 : decode cX12_hasOwn 0 = .ok (.iload_n 0, 1) := by decide +kernel
theorem dX12_hasOwn_1 : decode cX12_hasOwn 1 = .ok (.tableswitch 113 0 6 #[43, 45, 60, 71, 86, 60, 97], 43) := by decide +kernel
theorem dX12_hasOwn_44 : decode cX12_hasOwn 44 = .ok (.iconst 1, 1) := by decide +kernel
theorem dX12_hasOwn_45 : decode cX12_hasOwn 45 = .ok (.ireturn, 1) := by decide +kernel
theorem dX12_hasOwn_46 : decode cX12_hasOwn 46 = .ok (.iload_n 1, 1) := by decide +kernel
theorem dX12_hasOwn_47 : decode cX12_hasOwn 47 = .ok (.ifCond .eq 8, 3) := by decide +kernel
theorem dX12_hasOwn_50 : decode cX12_hasOwn 50 = .ok (.iload_n 1, 1) := by decide +kernel
theorem dX12_hasOwn_51 : decode cX12_hasOwn 51 = .ok (.iconst 3, 1) := by decide +kernel
theorem dX12_hasOwn_52 : decode cX12_hasOwn 52 = .ok (.if_icmp .ne 7, 3) := by decide +kernel
theorem dX12_hasOwn_55 : decode cX12_hasOwn 55 = .ok (.iconst 1, 1) := by decide +kernel
theorem dX12_hasOwn_56 : decode cX12_hasOwn 56 = .ok (.goto 4, 3) := by decide +kernel
theorem dX12_hasOwn_59 : decode cX12_hasOwn 59 = .ok (.iconst 0, 1) := by decide +kernel
theorem dX12_hasOwn_60 : decode cX12_hasOwn 60 = .ok (.ireturn, 1) := by decide +kernel
theorem dX12_hasOwn_61 : decode cX12_hasOwn 61 = .ok (.iload_n 1, 1) := by decide +kernel
theorem dX12_hasOwn_62 : decode cX12_hasOwn 62 = .ok (.iconst 1, 1) := by decide +kernel
theorem dX12_hasOwn_63 : decode cX12_hasOwn 63 = .ok (.if_icmp .ne 7, 3) := by decide +kernel
theorem dX12_hasOwn_66 : decode cX12_hasOwn 66 = .ok (.iconst 1, 1) := by decide +kernel
theorem dX12_hasOwn_67 : decode cX12_hasOwn 67 = .ok (.goto 4, 3) := by decide +kernel
theorem dX12_hasOwn_70 : decode cX12_hasOwn 70 = .ok (.iconst 0, 1) := by decide +kernel
theorem dX12_hasOwn_71 : decode cX12_hasOwn 71 = .ok (.ireturn, 1) := by decide +kernel
theorem dX12_hasOwn_72 : decode cX12_hasOwn 72 = .ok (.iload_n 1, 1) := by decide +kernel
theorem dX12_hasOwn_73 : decode cX12_hasOwn 73 = .ok (.ifCond .eq 8, 3) := by decide +kernel
theorem dX12_hasOwn_76 : decode cX12_hasOwn 76 = .ok (.iload_n 1, 1) := by decide +kernel
theorem dX12_hasOwn_77 : decode cX12_hasOwn 77 = .ok (.iconst 2, 1) := by decide +kernel
theorem dX12_hasOwn_78 : decode cX12_hasOwn 78 = .ok (.if_icmp .ne 7, 3) := by decide +kernel
theorem dX12_hasOwn_81 : decode cX12_hasOwn 81 = .ok (.iconst 1, 1) := by decide +kernel
theorem dX12_hasOwn_82 : decode cX12_hasOwn 82 = .ok (.goto 4, 3) := by decide +kernel
theorem dX12_hasOwn_85 : decode cX12_hasOwn 85 = .ok (.iconst 0, 1) := by decide +kernel
theorem dX12_hasOwn_86 : decode cX12_hasOwn 86 = .ok (.ireturn, 1) := by decide +kernel
theorem dX12_hasOwn_87 : decode cX12_hasOwn 87 = .ok (.iload_n 1, 1) := by decide +kernel
theorem dX12_hasOwn_88 : decode cX12_hasOwn 88 = .ok (.iconst 2, 1) := by decide +kernel
theorem dX12_hasOwn_89 : decode cX12_hasOwn 89 = .ok (.if_icmp .ne 7, 3) := by decide +kernel
theorem dX12_hasOwn_92 : decode cX12_hasOwn 92 = .ok (.iconst 1, 1) := by decide +kernel
theorem dX12_hasOwn_93 : decode cX12_hasOwn 93 = .ok (.goto 4, 3) := by decide +kernel
theorem dX12_hasOwn_96 : decode cX12_hasOwn 96 = .ok (.iconst 0, 1) := by decide +kernel
theorem dX12_hasOwn_97 : decode cX12_hasOwn 97 = .ok (.ireturn, 1) := by decide +kernel
theorem dX12_hasOwn_98 : decode cX12_hasOwn 98 = .ok (.iload_n 1, 1) := by decide +kernel
theorem dX12_hasOwn_99 : decode cX12_hasOwn 99 = .ok (.iconst 1, 1) := by decide +kernel
theorem dX12_hasOwn_100 : decode cX12_hasOwn 100 = .ok (.if_icmp .eq 8, 3) := by decide +kernel
theorem dX12_hasOwn_103 : decode cX12_hasOwn 103 = .ok (.iload_n 1, 1) := by decide +kernel
theorem dX12_hasOwn_104 : decode cX12_hasOwn 104 = .ok (.iconst 2, 1) := by decide +kernel
theorem dX12_hasOwn_105 : decode cX12_hasOwn 105 = .ok (.if_icmp .ne 7, 3) := by decide +kernel
theorem dX12_hasOwn_108 : decode cX12_hasOwn 108 = .ok (.iconst 1, 1) := by decide +kernel
theorem dX12_hasOwn_109 : decode cX12_hasOwn 109 = .ok (.goto 4, 3) := by decide +kernel
theorem dX12_hasOwn_112 : decode cX12_hasOwn 112 = .ok (.iconst 0, 1) := by decide +kernel
theorem dX12_hasOwn_113 : decode cX12_hasOwn 113 = .ok (.ireturn, 1) := by decide +kernel
theorem dX12_hasOwn_114 : decode cX12_hasOwn 114 = .ok (.iload_n 1, 1) := by decide +kernel
theorem dX12_hasOwn_115 : decode cX12_hasOwn 115 = .ok (.iconst 3, 1) := by decide +kernel
theorem dX12_hasOwn_116 : decode cX12_hasOwn 116 = .ok (.if_icmp .ne 7, 3) := by decide +kernel
theorem dX12_hasOwn_119 : decode cX12_hasOwn 119 = .ok (.iconst 1, 1) := by decide +kernel
theorem dX12_hasOwn_120 : decode cX12_hasOwn 120 = .ok (.goto 4, 3) := by decide +kernel
theorem dX12_hasOwn_123 : decode cX12_hasOwn 123 = .ok (.iconst 0, 1) := by decide +kernel
theorem dX12_hasOwn_124 : decode cX12_hasOwn 124 = .ok (.ireturn, 1) := by decide +kernel
