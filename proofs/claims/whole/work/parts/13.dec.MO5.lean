def y_MO_heard : MethodName := ⟨"CarrierLinkModel", "heard", "(I)I"⟩
theorem hd_MO_heard : y_MO_heard.cls ≠ "java/lang/invoke/MethodHandle" ∧ y_MO_heard.cls ≠ "java/lang/invoke/VarHandle" ∧ (parseMethodDescriptor y_MO_heard.desc).map (fun d => d.parameters.length) = some 1 := ⟨by decide +kernel, by decide +kernel, by decide +kernel⟩
theorem d_MO_heard_0 : decode prog_10_method_46_code 0 = .ok (.aload_n 0, 1) := by decide +kernel
theorem d_MO_heard_1 : decode prog_10_method_46_code 1 = .ok (.iconst 0, 1) := by decide +kernel
theorem d_MO_heard_2 : decode prog_10_method_46_code 2 = .ok (.putfield 97, 3) := by decide +kernel
theorem d_MO_heard_5 : decode prog_10_method_46_code 5 = .ok (.aload_n 0, 1) := by decide +kernel
theorem d_MO_heard_6 : decode prog_10_method_46_code 6 = .ok (.getfield 245, 3) := by decide +kernel
theorem d_MO_heard_9 : decode prog_10_method_46_code 9 = .ok (.ifCond .eq 26, 3) := by decide +kernel
theorem d_MO_heard_12 : decode prog_10_method_46_code 12 = .ok (.iload_n 1, 1) := by decide +kernel
theorem d_MO_heard_13 : decode prog_10_method_46_code 13 = .ok (.ifCond .lt 22, 3) := by decide +kernel
theorem d_MO_heard_16 : decode prog_10_method_46_code 16 = .ok (.iload_n 1, 1) := by decide +kernel
theorem d_MO_heard_17 : decode prog_10_method_46_code 17 = .ok (.iconst 5, 1) := by decide +kernel
theorem d_MO_heard_18 : decode prog_10_method_46_code 18 = .ok (.if_icmp .gt 17, 3) := by decide +kernel
theorem d_MO_heard_21 : decode prog_10_method_46_code 21 = .ok (.iload_n 1, 1) := by decide +kernel
theorem d_MO_heard_22 : decode prog_10_method_46_code 22 = .ok (.iconst 1, 1) := by decide +kernel
theorem d_MO_heard_23 : decode prog_10_method_46_code 23 = .ok (.if_icmp .ne 14, 3) := by decide +kernel
theorem d_MO_heard_26 : decode prog_10_method_46_code 26 = .ok (.aload_n 0, 1) := by decide +kernel
theorem d_MO_heard_27 : decode prog_10_method_46_code 27 = .ok (.getfield 252, 3) := by decide +kernel
theorem d_MO_heard_30 : decode prog_10_method_46_code 30 = .ok (.bipush (-2), 2) := by decide +kernel
theorem d_MO_heard_32 : decode prog_10_method_46_code 32 = .ok (.if_icmp .ne 5, 3) := by decide +kernel
theorem d_MO_heard_35 : decode prog_10_method_46_code 35 = .ok (.iconst (-1), 1) := by decide +kernel
theorem d_MO_heard_36 : decode prog_10_method_46_code 36 = .ok (.ireturn, 1) := by decide +kernel
theorem d_MO_heard_37 : decode prog_10_method_46_code 37 = .ok (.iload_n 1, 1) := by decide +kernel
theorem d_MO_heard_38 : decode prog_10_method_46_code 38 = .ok (.iconst 1, 1) := by decide +kernel
theorem d_MO_heard_39 : decode prog_10_method_46_code 39 = .ok (.if_icmp .le 21, 3) := by decide +kernel
theorem d_MO_heard_42 : decode prog_10_method_46_code 42 = .ok (.aload_n 0, 1) := by decide +kernel
theorem d_MO_heard_43 : decode prog_10_method_46_code 43 = .ok (.getfield 252, 3) := by decide +kernel
theorem d_MO_heard_46 : decode prog_10_method_46_code 46 = .ok (.bipush (-2), 2) := by decide +kernel
theorem d_MO_heard_48 : decode prog_10_method_46_code 48 = .ok (.if_icmp .eq 26, 3) := by decide +kernel
theorem d_MO_heard_51 : decode prog_10_method_46_code 51 = .ok (.aload_n 0, 1) := by decide +kernel
theorem d_MO_heard_52 : decode prog_10_method_46_code 52 = .ok (.getfield 252, 3) := by decide +kernel
theorem d_MO_heard_55 : decode prog_10_method_46_code 55 = .ok (.bipush (-3), 2) := by decide +kernel
theorem d_MO_heard_57 : decode prog_10_method_46_code 57 = .ok (.if_icmp .eq 17, 3) := by decide +kernel
theorem d_MO_heard_60 : decode prog_10_method_46_code 60 = .ok (.iload_n 1, 1) := by decide +kernel
theorem d_MO_heard_61 : decode prog_10_method_46_code 61 = .ok (.iconst 3, 1) := by decide +kernel
theorem d_MO_heard_62 : decode prog_10_method_46_code 62 = .ok (.if_icmp .le 14, 3) := by decide +kernel
theorem d_MO_heard_65 : decode prog_10_method_46_code 65 = .ok (.aload_n 0, 1) := by decide +kernel
theorem d_MO_heard_66 : decode prog_10_method_46_code 66 = .ok (.getfield 252, 3) := by decide +kernel
theorem d_MO_heard_69 : decode prog_10_method_46_code 69 = .ok (.bipush (-4), 2) := by decide +kernel
theorem d_MO_heard_71 : decode prog_10_method_46_code 71 = .ok (.if_icmp .ne 5, 3) := by decide +kernel
theorem d_MO_heard_74 : decode prog_10_method_46_code 74 = .ok (.iconst (-1), 1) := by decide +kernel
theorem d_MO_heard_75 : decode prog_10_method_46_code 75 = .ok (.ireturn, 1) := by decide +kernel
theorem d_MO_heard_76 : decode prog_10_method_46_code 76 = .ok (.iload_n 1, 1) := by decide +kernel
theorem d_MO_heard_77 : decode prog_10_method_46_code 77 = .ok (.ifCond .ne 10, 3) := by decide +kernel
theorem d_MO_heard_80 : decode prog_10_method_46_code 80 = .ok (.aload_n 0, 1) := by decide +kernel
theorem d_MO_heard_81 : decode prog_10_method_46_code 81 = .ok (.getfield 252, 3) := by decide +kernel
theorem d_MO_heard_84 : decode prog_10_method_46_code 84 = .ok (.goto 55, 3) := by decide +kernel
theorem d_MO_heard_87 : decode prog_10_method_46_code 87 = .ok (.iload_n 1, 1) := by decide +kernel
theorem d_MO_heard_88 : decode prog_10_method_46_code 88 = .ok (.iconst 1, 1) := by decide +kernel
theorem d_MO_heard_89 : decode prog_10_method_46_code 89 = .ok (.if_icmp .ne 10, 3) := by decide +kernel
theorem d_MO_heard_92 : decode prog_10_method_46_code 92 = .ok (.aload_n 0, 1) := by decide +kernel
theorem d_MO_heard_93 : decode prog_10_method_46_code 93 = .ok (.getfield 186, 3) := by decide +kernel
theorem d_MO_heard_96 : decode prog_10_method_46_code 96 = .ok (.goto 43, 3) := by decide +kernel
theorem d_MO_heard_99 : decode prog_10_method_46_code 99 = .ok (.iload_n 1, 1) := by decide +kernel
theorem d_MO_heard_100 : decode prog_10_method_46_code 100 = .ok (.iconst 2, 1) := by decide +kernel
theorem d_MO_heard_101 : decode prog_10_method_46_code 101 = .ok (.if_icmp .ne 10, 3) := by decide +kernel
theorem d_MO_heard_104 : decode prog_10_method_46_code 104 = .ok (.aload_n 0, 1) := by decide +kernel
theorem d_MO_heard_105 : decode prog_10_method_46_code 105 = .ok (.getfield 223, 3) := by decide +kernel
theorem d_MO_heard_108 : decode prog_10_method_46_code 108 = .ok (.goto 31, 3) := by decide +kernel
theorem d_MO_heard_111 : decode prog_10_method_46_code 111 = .ok (.iload_n 1, 1) := by decide +kernel
theorem d_MO_heard_112 : decode prog_10_method_46_code 112 = .ok (.iconst 3, 1) := by decide +kernel
theorem d_MO_heard_113 : decode prog_10_method_46_code 113 = .ok (.if_icmp .ne 10, 3) := by decide +kernel
theorem d_MO_heard_116 : decode prog_10_method_46_code 116 = .ok (.aload_n 0, 1) := by decide +kernel
theorem d_MO_heard_117 : decode prog_10_method_46_code 117 = .ok (.getfield 226, 3) := by decide +kernel
theorem d_MO_heard_120 : decode prog_10_method_46_code 120 = .ok (.goto 19, 3) := by decide +kernel
theorem d_MO_heard_123 : decode prog_10_method_46_code 123 = .ok (.iload_n 1, 1) := by decide +kernel
theorem d_MO_heard_124 : decode prog_10_method_46_code 124 = .ok (.iconst 4, 1) := by decide +kernel
theorem d_MO_heard_125 : decode prog_10_method_46_code 125 = .ok (.if_icmp .ne 10, 3) := by decide +kernel
theorem d_MO_heard_128 : decode prog_10_method_46_code 128 = .ok (.aload_n 0, 1) := by decide +kernel
theorem d_MO_heard_129 : decode prog_10_method_46_code 129 = .ok (.getfield 242, 3) := by decide +kernel
theorem d_MO_heard_132 : decode prog_10_method_46_code 132 = .ok (.goto 7, 3) := by decide +kernel
theorem d_MO_heard_135 : decode prog_10_method_46_code 135 = .ok (.aload_n 0, 1) := by decide +kernel
theorem d_MO_heard_136 : decode prog_10_method_46_code 136 = .ok (.getfield 239, 3) := by decide +kernel
theorem d_MO_heard_139 : decode prog_10_method_46_code 139 = .ok (.ireturn, 1) := by decide +kernel
def y_MO_learned : MethodName := ⟨"CarrierLinkModel", "learned", "(IZ)I"⟩
theorem hd_MO_learned : y_MO_learned.cls ≠ "java/lang/invoke/MethodHandle" ∧ y_MO_learned.cls ≠ "java/lang/invoke/VarHandle" ∧ (parseMethodDescriptor y_MO_learned.desc).map (fun d => d.parameters.length) = some 2 := ⟨by decide +kernel, by decide +kernel, by decide +kernel⟩
theorem d_MO_learned_0 : decode prog_10_method_47_code 0 = .ok (.aload_n 0, 1) := by decide +kernel
theorem d_MO_learned_1 : decode prog_10_method_47_code 1 = .ok (.iconst 0, 1) := by decide +kernel
theorem d_MO_learned_2 : decode prog_10_method_47_code 2 = .ok (.putfield 97, 3) := by decide +kernel
theorem d_MO_learned_5 : decode prog_10_method_47_code 5 = .ok (.aload_n 0, 1) := by decide +kernel
theorem d_MO_learned_6 : decode prog_10_method_47_code 6 = .ok (.getfield 245, 3) := by decide +kernel
theorem d_MO_learned_9 : decode prog_10_method_47_code 9 = .ok (.ifCond .eq 22, 3) := by decide +kernel
theorem d_MO_learned_12 : decode prog_10_method_47_code 12 = .ok (.aload_n 0, 1) := by decide +kernel
theorem d_MO_learned_13 : decode prog_10_method_47_code 13 = .ok (.getfield 252, 3) := by decide +kernel
theorem d_MO_learned_16 : decode prog_10_method_47_code 16 = .ok (.bipush (-2), 2) := by decide +kernel
theorem d_MO_learned_18 : decode prog_10_method_47_code 18 = .ok (.if_icmp .eq 13, 3) := by decide +kernel
theorem d_MO_learned_21 : decode prog_10_method_47_code 21 = .ok (.iload_n 1, 1) := by decide +kernel
theorem d_MO_learned_22 : decode prog_10_method_47_code 22 = .ok (.ifCond .lt 9, 3) := by decide +kernel
theorem d_MO_learned_25 : decode prog_10_method_47_code 25 = .ok (.iload_n 1, 1) := by decide +kernel
theorem d_MO_learned_26 : decode prog_10_method_47_code 26 = .ok (.bipush 15, 2) := by decide +kernel
theorem d_MO_learned_28 : decode prog_10_method_47_code 28 = .ok (.if_icmp .le 5, 3) := by decide +kernel
theorem d_MO_learned_31 : decode prog_10_method_47_code 31 = .ok (.iconst 0, 1) := by decide +kernel
theorem d_MO_learned_32 : decode prog_10_method_47_code 32 = .ok (.ireturn, 1) := by decide +kernel
theorem d_MO_learned_33 : decode prog_10_method_47_code 33 = .ok (.iload_n 2, 1) := by decide +kernel
theorem d_MO_learned_34 : decode prog_10_method_47_code 34 = .ok (.ifCond .eq 12, 3) := by decide +kernel
theorem d_MO_learned_37 : decode prog_10_method_47_code 37 = .ok (.aload_n 0, 1) := by decide +kernel
theorem d_MO_learned_38 : decode prog_10_method_47_code 38 = .ok (.getfield 40, 3) := by decide +kernel
theorem d_MO_learned_41 : decode prog_10_method_47_code 41 = .ok (.iload_n 1, 1) := by decide +kernel
theorem d_MO_learned_42 : decode prog_10_method_47_code 42 = .ok (.iaload, 1) := by decide +kernel
theorem d_MO_learned_43 : decode prog_10_method_47_code 43 = .ok (.goto 9, 3) := by decide +kernel
theorem d_MO_learned_46 : decode prog_10_method_47_code 46 = .ok (.aload_n 0, 1) := by decide +kernel
theorem d_MO_learned_47 : decode prog_10_method_47_code 47 = .ok (.getfield 37, 3) := by decide +kernel
theorem d_MO_learned_50 : decode prog_10_method_47_code 50 = .ok (.iload_n 1, 1) := by decide +kernel
theorem d_MO_learned_51 : decode prog_10_method_47_code 51 = .ok (.iaload, 1) := by decide +kernel
theorem d_MO_learned_52 : decode prog_10_method_47_code 52 = .ok (.ireturn, 1) := by decide +kernel
