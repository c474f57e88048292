theorem dX4_comeBack_13 : decode cX4_comeBack 13 = .ok (.ldc 50, 2) := by decide +kernel
theorem dX4_comeBack_15 : decode cX4_comeBack 15 = .ok (.iand, 1) := by decide +kernel
theorem dX4_comeBack_16 : decode cX4_comeBack 16 = .ok (.sipush 1023, 3) := by decide +kernel
theorem dX4_comeBack_19 : decode cX4_comeBack 19 = .ok (.if_icmp .gt 15, 3) := by decide +kernel
theorem dX4_comeBack_22 : decode cX4_comeBack 22 = .ok (.iload_n 2, 1) := by decide +kernel
theorem dX4_comeBack_23 : decode cX4_comeBack 23 = .ok (.iconst 2, 1) := by decide +kernel
theorem dX4_comeBack_24 : decode cX4_comeBack 24 = .ok (.iadd, 1) := by decide +kernel
theorem dX4_comeBack_25 : decode cX4_comeBack 25 = .ok (.ldc 50, 2) := by decide +kernel
theorem dX4_comeBack_27 : decode cX4_comeBack 27 = .ok (.iand, 1) := by decide +kernel
theorem dX4_comeBack_28 : decode cX4_comeBack 28 = .ok (.sipush 1023, 3) := by decide +kernel
theorem dX4_comeBack_31 : decode cX4_comeBack 31 = .ok (.if_icmp .le 5, 3) := by decide +kernel
theorem dX4_comeBack_34 : decode cX4_comeBack 34 = .ok (.iconst 3, 1) := by decide +kernel
theorem dX4_comeBack_35 : decode cX4_comeBack 35 = .ok (.ireturn, 1) := by decide +kernel
theorem dX4_comeBack_36 : decode cX4_comeBack 36 = .ok (.aload_n 0, 1) := by decide +kernel
theorem dX4_comeBack_37 : decode cX4_comeBack 37 = .ok (.getfield 16, 3) := by decide +kernel
theorem dX4_comeBack_40 : decode cX4_comeBack 40 = .ok (.invokevirtual 235, 3) := by decide +kernel
theorem dX4_comeBack_43 : decode cX4_comeBack 43 = .ok (.istore_n 3, 1) := by decide +kernel
theorem dX4_comeBack_44 : decode cX4_comeBack 44 = .ok (.aload_n 0, 1) := by decide +kernel
theorem dX4_comeBack_45 : decode cX4_comeBack 45 = .ok (.getfield 16, 3) := by decide +kernel
theorem dX4_comeBack_48 : decode cX4_comeBack 48 = .ok (.invokevirtual 235, 3) := by decide +kernel
theorem dX4_comeBack_51 : decode cX4_comeBack 51 = .ok (.istore 4, 2) := by decide +kernel
theorem dX4_comeBack_53 : decode cX4_comeBack 53 = .ok (.iload_n 1, 1) := by decide +kernel
theorem dX4_comeBack_54 : decode cX4_comeBack 54 = .ok (.ldc 90, 2) := by decide +kernel
theorem dX4_comeBack_56 : decode cX4_comeBack 56 = .ok (.if_icmp .ne 13, 3) := by decide +kernel
theorem dX4_comeBack_59 : decode cX4_comeBack 59 = .ok (.aload_n 0, 1) := by decide +kernel
theorem dX4_comeBack_60 : decode cX4_comeBack 60 = .ok (.getfield 16, 3) := by decide +kernel
theorem dX4_comeBack_63 : decode cX4_comeBack 63 = .ok (.bipush 7, 2) := by decide +kernel
theorem dX4_comeBack_65 : decode cX4_comeBack 65 = .ok (.iconst 1, 1) := by decide +kernel
theorem dX4_comeBack_66 : decode cX4_comeBack 66 = .ok (.invokevirtual 99, 3) := by decide +kernel
theorem dX4_comeBack_69 : decode cX4_comeBack 69 = .ok (.aload_n 0, 1) := by decide +kernel
theorem dX4_comeBack_70 : decode cX4_comeBack 70 = .ok (.iload_n 3, 1) := by decide +kernel
theorem dX4_comeBack_71 : decode cX4_comeBack 71 = .ok (.bipush 8, 2) := by decide +kernel
theorem dX4_comeBack_73 : decode cX4_comeBack 73 = .ok (.ishl, 1) := by decide +kernel
theorem dX4_comeBack_74 : decode cX4_comeBack 74 = .ok (.iload 4, 2) := by decide +kernel
theorem dX4_comeBack_76 : decode cX4_comeBack 76 = .ok (.ior, 1) := by decide +kernel
theorem dX4_comeBack_77 : decode cX4_comeBack 77 = .ok (.invokevirtual 248, 3) := by decide +kernel
theorem dX4_comeBack_80 : decode cX4_comeBack 80 = .ok (.ireturn, 1) := by decide +kernel
