def y_LA_send : MethodName := ⟨"CarrierLinkLaw", "send", "(LCarrierLink;II[J)I"⟩
theorem hd_LA_send : y_LA_send.cls ≠ "java/lang/invoke/MethodHandle" ∧ y_LA_send.cls ≠ "java/lang/invoke/VarHandle" ∧ (parseMethodDescriptor y_LA_send.desc).map (fun d => d.parameters.length) = some 4 := ⟨by decide +kernel, by decide +kernel, by decide +kernel⟩
theorem d_LA_send_0 : decode method_3_code 0 = .ok (.aload_n 3, 1) := by decide +kernel
theorem d_LA_send_1 : decode method_3_code 1 = .ok (.iconst 0, 1) := by decide +kernel
theorem d_LA_send_2 : decode method_3_code 2 = .ok (.aload_n 0, 1) := by decide +kernel
theorem d_LA_send_3 : decode method_3_code 3 = .ok (.iload_n 1, 1) := by decide +kernel
theorem d_LA_send_4 : decode method_3_code 4 = .ok (.iload_n 2, 1) := by decide +kernel
theorem d_LA_send_5 : decode method_3_code 5 = .ok (.invokevirtual 7, 3) := by decide +kernel
theorem d_LA_send_8 : decode method_3_code 8 = .ok (.i2l, 1) := by decide +kernel
theorem d_LA_send_9 : decode method_3_code 9 = .ok (.lastore, 1) := by decide +kernel
theorem d_LA_send_10 : decode method_3_code 10 = .ok (.goto 11, 3) := by decide +kernel
theorem d_LA_send_13 : decode method_3_code 13 = .ok (.astore 4, 2) := by decide +kernel
theorem d_LA_send_15 : decode method_3_code 15 = .ok (.iconst 1, 1) := by decide +kernel
theorem d_LA_send_16 : decode method_3_code 16 = .ok (.ireturn, 1) := by decide +kernel
theorem d_LA_send_17 : decode method_3_code 17 = .ok (.astore 4, 2) := by decide +kernel
theorem d_LA_send_19 : decode method_3_code 19 = .ok (.iconst 2, 1) := by decide +kernel
theorem d_LA_send_20 : decode method_3_code 20 = .ok (.ireturn, 1) := by decide +kernel
theorem d_LA_send_21 : decode method_3_code 21 = .ok (.iconst 0, 1) := by decide +kernel
theorem d_LA_send_22 : decode method_3_code 22 = .ok (.ireturn, 1) := by decide +kernel
def y_LA_sample : MethodName := ⟨"CarrierLinkLaw", "sample", "(LCarrierLink;ZIZ[J)I"⟩
theorem hd_LA_sample : y_LA_sample.cls ≠ "java/lang/invoke/MethodHandle" ∧ y_LA_sample.cls ≠ "java/lang/invoke/VarHandle" ∧ (parseMethodDescriptor y_LA_sample.desc).map (fun d => d.parameters.length) = some 5 := ⟨by decide +kernel, by decide +kernel, by decide +kernel⟩
theorem d_LA_sample_0 : decode method_4_code 0 = .ok (.aload 4, 2) := by decide +kernel
theorem d_LA_sample_2 : decode method_4_code 2 = .ok (.iconst 0, 1) := by decide +kernel
theorem d_LA_sample_3 : decode method_4_code 3 = .ok (.aload_n 0, 1) := by decide +kernel
theorem d_LA_sample_4 : decode method_4_code 4 = .ok (.iload_n 1, 1) := by decide +kernel
theorem d_LA_sample_5 : decode method_4_code 5 = .ok (.iload_n 2, 1) := by decide +kernel
theorem d_LA_sample_6 : decode method_4_code 6 = .ok (.iload_n 3, 1) := by decide +kernel
theorem d_LA_sample_7 : decode method_4_code 7 = .ok (.invokevirtual 17, 3) := by decide +kernel
theorem d_LA_sample_10 : decode method_4_code 10 = .ok (.i2l, 1) := by decide +kernel
theorem d_LA_sample_11 : decode method_4_code 11 = .ok (.lastore, 1) := by decide +kernel
theorem d_LA_sample_12 : decode method_4_code 12 = .ok (.goto 7, 3) := by decide +kernel
theorem d_LA_sample_15 : decode method_4_code 15 = .ok (.astore 5, 2) := by decide +kernel
theorem d_LA_sample_17 : decode method_4_code 17 = .ok (.iconst 1, 1) := by decide +kernel
theorem d_LA_sample_18 : decode method_4_code 18 = .ok (.ireturn, 1) := by decide +kernel
theorem d_LA_sample_19 : decode method_4_code 19 = .ok (.iconst 0, 1) := by decide +kernel
theorem d_LA_sample_20 : decode method_4_code 20 = .ok (.ireturn, 1) := by decide +kernel
def y_LA_air : MethodName := ⟨"CarrierLinkLaw", "air", "(LCarrierLink;III[J)I"⟩
theorem hd_LA_air : y_LA_air.cls ≠ "java/lang/invoke/MethodHandle" ∧ y_LA_air.cls ≠ "java/lang/invoke/VarHandle" ∧ (parseMethodDescriptor y_LA_air.desc).map (fun d => d.parameters.length) = some 5 := ⟨by decide +kernel, by decide +kernel, by decide +kernel⟩
theorem d_LA_air_0 : decode method_5_code 0 = .ok (.aload 4, 2) := by decide +kernel
theorem d_LA_air_2 : decode method_5_code 2 = .ok (.iconst 0, 1) := by decide +kernel
theorem d_LA_air_3 : decode method_5_code 3 = .ok (.aload_n 0, 1) := by decide +kernel
theorem d_LA_air_4 : decode method_5_code 4 = .ok (.iload_n 1, 1) := by decide +kernel
theorem d_LA_air_5 : decode method_5_code 5 = .ok (.iload_n 2, 1) := by decide +kernel
theorem d_LA_air_6 : decode method_5_code 6 = .ok (.iload_n 3, 1) := by decide +kernel
theorem d_LA_air_7 : decode method_5_code 7 = .ok (.invokevirtual 23, 3) := by decide +kernel
theorem d_LA_air_10 : decode method_5_code 10 = .ok (.i2l, 1) := by decide +kernel
theorem d_LA_air_11 : decode method_5_code 11 = .ok (.lastore, 1) := by decide +kernel
theorem d_LA_air_12 : decode method_5_code 12 = .ok (.goto 11, 3) := by decide +kernel
theorem d_LA_air_15 : decode method_5_code 15 = .ok (.astore 5, 2) := by decide +kernel
theorem d_LA_air_17 : decode method_5_code 17 = .ok (.iconst 1, 1) := by decide +kernel
theorem d_LA_air_18 : decode method_5_code 18 = .ok (.ireturn, 1) := by decide +kernel
theorem d_LA_air_19 : decode method_5_code 19 = .ok (.astore 5, 2) := by decide +kernel
theorem d_LA_air_21 : decode method_5_code 21 = .ok (.iconst 2, 1) := by decide +kernel
theorem d_LA_air_22 : decode method_5_code 22 = .ok (.ireturn, 1) := by decide +kernel
theorem d_LA_air_23 : decode method_5_code 23 = .ok (.iconst 0, 1) := by decide +kernel
theorem d_LA_air_24 : decode method_5_code 24 = .ok (.ireturn, 1) := by decide +kernel
def y_LA_receive : MethodName := ⟨"CarrierLinkLaw", "receive", "(LCarrierLink;[J)I"⟩
theorem hd_LA_receive : y_LA_receive.cls ≠ "java/lang/invoke/MethodHandle" ∧ y_LA_receive.cls ≠ "java/lang/invoke/VarHandle" ∧ (parseMethodDescriptor y_LA_receive.desc).map (fun d => d.parameters.length) = some 2 := ⟨by decide +kernel, by decide +kernel, by decide +kernel⟩
theorem d_LA_receive_0 : decode method_6_code 0 = .ok (.aload_n 1, 1) := by decide +kernel
theorem d_LA_receive_1 : decode method_6_code 1 = .ok (.iconst 0, 1) := by decide +kernel
theorem d_LA_receive_2 : decode method_6_code 2 = .ok (.aload_n 0, 1) := by decide +kernel
theorem d_LA_receive_3 : decode method_6_code 3 = .ok (.invokevirtual 27, 3) := by decide +kernel
theorem d_LA_receive_6 : decode method_6_code 6 = .ok (.i2l, 1) := by decide +kernel
theorem d_LA_receive_7 : decode method_6_code 7 = .ok (.lastore, 1) := by decide +kernel
theorem d_LA_receive_8 : decode method_6_code 8 = .ok (.goto 6, 3) := by decide +kernel
theorem d_LA_receive_11 : decode method_6_code 11 = .ok (.astore_n 2, 1) := by decide +kernel
theorem d_LA_receive_12 : decode method_6_code 12 = .ok (.iconst 1, 1) := by decide +kernel
theorem d_LA_receive_13 : decode method_6_code 13 = .ok (.ireturn, 1) := by decide +kernel
theorem d_LA_receive_14 : decode method_6_code 14 = .ok (.iconst 0, 1) := by decide +kernel
theorem d_LA_receive_15 : decode method_6_code 15 = .ok (.ireturn, 1) := by decide +kernel
