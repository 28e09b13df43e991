/-! What a new object answers at one call. -/
abbrev b_hasAgent : ByteArray := prog_14_method_124_code
def y_hasAgent : MethodName := ⟨R_M, "hasAgent", "(I)Z"⟩
abbrev k_hasAgent : Cond := .code y_hasAgent b_hasAgent 2 (some .boolean)
theorem ki_hasAgent : k_hasAgent ∈ lw_tg := in_t 2730 (by decide +kernel)
theorem ks_hasAgent : Cond.instanceMethod y_hasAgent ∈ lw_tg := in_t 2729 (by decide +kernel)
theorem kl_hasAgent : Cond.methodLink R_M 916 y_hasAgent ∈ lw_tg := in_t 2727 (by decide +kernel)
theorem d_hasAgent_0 : decode b_hasAgent 0 = .ok (.iload_n 1, 1) := by decide +kernel
theorem d_hasAgent_1 : decode b_hasAgent 1 = .ok (.ifCond .lt 21, 3) := by decide +kernel
theorem d_hasAgent_4 : decode b_hasAgent 4 = .ok (.iload_n 1, 1) := by decide +kernel
theorem d_hasAgent_5 : decode b_hasAgent 5 = .ok (.iconst 4, 1) := by decide +kernel
theorem d_hasAgent_6 : decode b_hasAgent 6 = .ok (.if_icmp .ge 16, 3) := by decide +kernel
theorem d_hasAgent_9 : decode b_hasAgent 9 = .ok (.aload_n 0, 1) := by decide +kernel
theorem d_hasAgent_10 : decode b_hasAgent 10 = .ok (.getfield 165, 3) := by decide +kernel
theorem d_hasAgent_13 : decode b_hasAgent 13 = .ok (.iload_n 1, 1) := by decide +kernel
theorem d_hasAgent_14 : decode b_hasAgent 14 = .ok (.baload, 1) := by decide +kernel
theorem d_hasAgent_15 : decode b_hasAgent 15 = .ok (.ifCond .eq 7, 3) := by decide +kernel
theorem d_hasAgent_22 : decode b_hasAgent 22 = .ok (.iconst 0, 1) := by decide +kernel
theorem d_hasAgent_23 : decode b_hasAgent 23 = .ok (.ireturn, 1) := by decide +kernel
abbrev b_hasTicket : ByteArray := prog_14_method_125_code
def y_hasTicket : MethodName := ⟨R_M, "hasTicket", "(II)Z"⟩
abbrev k_hasTicket : Cond := .code y_hasTicket b_hasTicket 3 (some .boolean)
theorem ki_hasTicket : k_hasTicket ∈ lw_tg := in_t 2740 (by decide +kernel)
theorem ks_hasTicket : Cond.instanceMethod y_hasTicket ∈ lw_tg := in_t 2739 (by decide +kernel)
theorem kl_hasTicket : Cond.methodLink R_M 923 y_hasTicket ∈ lw_tg := in_t 2737 (by decide +kernel)
theorem d_hasTicket_0 : decode b_hasTicket 0 = .ok (.aload_n 0, 1) := by decide +kernel
theorem d_hasTicket_1 : decode b_hasTicket 1 = .ok (.iload_n 1, 1) := by decide +kernel
theorem d_hasTicket_2 : decode b_hasTicket 2 = .ok (.invokevirtual 916, 3) := by decide +kernel
theorem d_hasTicket_5 : decode b_hasTicket 5 = .ok (.ifCond .eq 31, 3) := by decide +kernel
theorem d_hasTicket_36 : decode b_hasTicket 36 = .ok (.iconst 0, 1) := by decide +kernel
theorem d_hasTicket_37 : decode b_hasTicket 37 = .ok (.ireturn, 1) := by decide +kernel
abbrev b_hasSide : ByteArray := prog_14_method_147_code
def y_hasSide : MethodName := ⟨R_M, "hasSide", "(II)Z"⟩
abbrev k_hasSide : Cond := .code y_hasSide b_hasSide 3 (some .boolean)
theorem ki_hasSide : k_hasSide ∈ lw_tg := in_t 2835 (by decide +kernel)
theorem ks_hasSide : Cond.instanceMethod y_hasSide ∈ lw_tg := in_t 2834 (by decide +kernel)
theorem kl_hasSide : Cond.methodLink R_M 990 y_hasSide ∈ lw_tg := in_t 2832 (by decide +kernel)
theorem d_hasSide_0 : decode b_hasSide 0 = .ok (.iload_n 1, 1) := by decide +kernel
theorem d_hasSide_1 : decode b_hasSide 1 = .ok (.ifCond .lt 40, 3) := by decide +kernel
theorem d_hasSide_4 : decode b_hasSide 4 = .ok (.iload_n 1, 1) := by decide +kernel
theorem d_hasSide_5 : decode b_hasSide 5 = .ok (.bipush 8, 2) := by decide +kernel
theorem d_hasSide_7 : decode b_hasSide 7 = .ok (.if_icmp .ge 34, 3) := by decide +kernel
theorem d_hasSide_10 : decode b_hasSide 10 = .ok (.aload_n 0, 1) := by decide +kernel
theorem d_hasSide_11 : decode b_hasSide 11 = .ok (.getfield 290, 3) := by decide +kernel
theorem d_hasSide_14 : decode b_hasSide 14 = .ok (.iload_n 1, 1) := by decide +kernel
theorem d_hasSide_15 : decode b_hasSide 15 = .ok (.baload, 1) := by decide +kernel
theorem d_hasSide_16 : decode b_hasSide 16 = .ok (.ifCond .eq 25, 3) := by decide +kernel
theorem d_hasSide_41 : decode b_hasSide 41 = .ok (.iconst 0, 1) := by decide +kernel
theorem d_hasSide_42 : decode b_hasSide 42 = .ok (.ireturn, 1) := by decide +kernel
abbrev b_change : ByteArray := prog_14_method_91_code
def y_change : MethodName := ⟨R_M, "change", "(II)I"⟩
abbrev k_change : Cond := .code y_change b_change 4 (some .int)
theorem ki_change : k_change ∈ lw_tg := in_t 2341 (by decide +kernel)
theorem ks_change : Cond.instanceMethod y_change ∈ lw_tg := in_t 2339 (by decide +kernel)
theorem d_change_0 : decode b_change 0 = .ok (.iload_n 1, 1) := by decide +kernel
theorem d_change_1 : decode b_change 1 = .ok (.ifCond .lt 39, 3) := by decide +kernel
theorem d_change_4 : decode b_change 4 = .ok (.iload_n 1, 1) := by decide +kernel
theorem d_change_5 : decode b_change 5 = .ok (.aload_n 0, 1) := by decide +kernel
theorem d_change_6 : decode b_change 6 = .ok (.getfield 630, 3) := by decide +kernel
theorem d_change_9 : decode b_change 9 = .ok (.if_icmp .ge 31, 3) := by decide +kernel
theorem d_change_12 : decode b_change 12 = .ok (.iload_n 2, 1) := by decide +kernel
theorem d_change_13 : decode b_change 13 = .ok (.iconst 1, 1) := by decide +kernel
theorem d_change_14 : decode b_change 14 = .ok (.if_icmp .lt 26, 3) := by decide +kernel
theorem d_change_17 : decode b_change 17 = .ok (.iload_n 2, 1) := by decide +kernel
theorem d_change_18 : decode b_change 18 = .ok (.sipush 200, 3) := by decide +kernel
theorem d_change_21 : decode b_change 21 = .ok (.if_icmp .gt 19, 3) := by decide +kernel
theorem d_change_24 : decode b_change 24 = .ok (.aload_n 0, 1) := by decide +kernel
theorem d_change_25 : decode b_change 25 = .ok (.iconst 0, 1) := by decide +kernel
theorem d_change_26 : decode b_change 26 = .ok (.aload_n 0, 1) := by decide +kernel
theorem d_change_27 : decode b_change 27 = .ok (.getfield 332, 3) := by decide +kernel
theorem d_change_30 : decode b_change 30 = .ok (.invokevirtual 617, 3) := by decide +kernel
theorem d_change_33 : decode b_change 33 = .ok (.ifCond .eq 7, 3) := by decide +kernel
theorem d_change_36 : decode b_change 36 = .ok (.iconst 1, 1) := by decide +kernel
theorem d_change_37 : decode b_change 37 = .ok (.goto 4, 3) := by decide +kernel
theorem d_change_40 : decode b_change 40 = .ok (.iconst 0, 1) := by decide +kernel
theorem d_change_41 : decode b_change 41 = .ok (.istore_n 3, 1) := by decide +kernel
theorem d_change_42 : decode b_change 42 = .ok (.aload_n 0, 1) := by decide +kernel
theorem d_change_43 : decode b_change 43 = .ok (.iconst 0, 1) := by decide +kernel
theorem d_change_44 : decode b_change 44 = .ok (.putfield 332, 3) := by decide +kernel
theorem d_change_47 : decode b_change 47 = .ok (.iload_n 3, 1) := by decide +kernel
theorem d_change_48 : decode b_change 48 = .ok (.ifCond .ne 5, 3) := by decide +kernel
theorem d_change_51 : decode b_change 51 = .ok (.iconst (-1), 1) := by decide +kernel
theorem d_change_52 : decode b_change 52 = .ok (.ireturn, 1) := by decide +kernel
theorem d_change_53 : decode b_change 53 = .ok (.aload_n 0, 1) := by decide +kernel
theorem d_change_54 : decode b_change 54 = .ok (.iload_n 1, 1) := by decide +kernel
theorem d_change_55 : decode b_change 55 = .ok (.iload_n 2, 1) := by decide +kernel
theorem d_change_56 : decode b_change 56 = .ok (.invokevirtual 641, 3) := by decide +kernel
theorem d_change_59 : decode b_change 59 = .ok (.aload_n 0, 1) := by decide +kernel
theorem d_change_60 : decode b_change 60 = .ok (.getfield 107, 3) := by decide +kernel
theorem d_change_63 : decode b_change 63 = .ok (.iload_n 1, 1) := by decide +kernel
theorem d_change_64 : decode b_change 64 = .ok (.iaload, 1) := by decide +kernel
theorem d_change_65 : decode b_change 65 = .ok (.ireturn, 1) := by decide +kernel
abbrev b_policy : ByteArray := prog_14_method_92_code
def y_policy : MethodName := ⟨R_M, "policy", "(III)Z"⟩
abbrev k_policy : Cond := .code y_policy b_policy 4 (some .boolean)
theorem ki_policy : k_policy ∈ lw_tg := in_t 2345 (by decide +kernel)
theorem ks_policy : Cond.instanceMethod y_policy ∈ lw_tg := in_t 2343 (by decide +kernel)
theorem d_policy_0 : decode b_policy 0 = .ok (.iload_n 1, 1) := by decide +kernel
theorem d_policy_1 : decode b_policy 1 = .ok (.ifCond .lt 34, 3) := by decide +kernel
theorem d_policy_4 : decode b_policy 4 = .ok (.iload_n 1, 1) := by decide +kernel
theorem d_policy_5 : decode b_policy 5 = .ok (.aload_n 0, 1) := by decide +kernel
theorem d_policy_6 : decode b_policy 6 = .ok (.getfield 630, 3) := by decide +kernel
theorem d_policy_9 : decode b_policy 9 = .ok (.if_icmp .ge 26, 3) := by decide +kernel
theorem d_policy_12 : decode b_policy 12 = .ok (.iload_n 2, 1) := by decide +kernel
theorem d_policy_13 : decode b_policy 13 = .ok (.ifCond .lt 22, 3) := by decide +kernel
theorem d_policy_16 : decode b_policy 16 = .ok (.iload_n 2, 1) := by decide +kernel
theorem d_policy_17 : decode b_policy 17 = .ok (.iconst 3, 1) := by decide +kernel
theorem d_policy_18 : decode b_policy 18 = .ok (.if_icmp .gt 17, 3) := by decide +kernel
theorem d_policy_21 : decode b_policy 21 = .ok (.iload_n 3, 1) := by decide +kernel
theorem d_policy_22 : decode b_policy 22 = .ok (.iload_n 2, 1) := by decide +kernel
theorem d_policy_23 : decode b_policy 23 = .ok (.iconst 2, 1) := by decide +kernel
theorem d_policy_24 : decode b_policy 24 = .ok (.if_icmp .ge 7, 3) := by decide +kernel
theorem d_policy_27 : decode b_policy 27 = .ok (.iconst 1, 1) := by decide +kernel
theorem d_policy_28 : decode b_policy 28 = .ok (.goto 4, 3) := by decide +kernel
theorem d_policy_31 : decode b_policy 31 = .ok (.iconst 0, 1) := by decide +kernel
theorem d_policy_32 : decode b_policy 32 = .ok (.if_icmp .ge 5, 3) := by decide +kernel
theorem d_policy_35 : decode b_policy 35 = .ok (.iconst 0, 1) := by decide +kernel
theorem d_policy_36 : decode b_policy 36 = .ok (.ireturn, 1) := by decide +kernel
theorem d_policy_37 : decode b_policy 37 = .ok (.iload_n 3, 1) := by decide +kernel
theorem d_policy_38 : decode b_policy 38 = .ok (.iload_n 2, 1) := by decide +kernel
theorem d_policy_39 : decode b_policy 39 = .ok (.ifCond .ne 9, 3) := by decide +kernel
theorem d_policy_42 : decode b_policy 42 = .ok (.ldc_w 644, 3) := by decide +kernel
theorem d_policy_45 : decode b_policy 45 = .ok (.goto 27, 3) := by decide +kernel
theorem d_policy_48 : decode b_policy 48 = .ok (.iload_n 2, 1) := by decide +kernel
theorem d_policy_49 : decode b_policy 49 = .ok (.iconst 1, 1) := by decide +kernel
theorem d_policy_50 : decode b_policy 50 = .ok (.if_icmp .ne 9, 3) := by decide +kernel
theorem d_policy_53 : decode b_policy 53 = .ok (.ldc_w 645, 3) := by decide +kernel
theorem d_policy_56 : decode b_policy 56 = .ok (.goto 16, 3) := by decide +kernel
theorem d_policy_59 : decode b_policy 59 = .ok (.iload_n 2, 1) := by decide +kernel
theorem d_policy_60 : decode b_policy 60 = .ok (.iconst 2, 1) := by decide +kernel
theorem d_policy_61 : decode b_policy 61 = .ok (.if_icmp .ne 8, 3) := by decide +kernel
theorem d_policy_64 : decode b_policy 64 = .ok (.bipush 63, 2) := by decide +kernel
theorem d_policy_66 : decode b_policy 66 = .ok (.goto 6, 3) := by decide +kernel
theorem d_policy_69 : decode b_policy 69 = .ok (.ldc_w 351, 3) := by decide +kernel
theorem d_policy_72 : decode b_policy 72 = .ok (.if_icmp .le 5, 3) := by decide +kernel
theorem d_policy_75 : decode b_policy 75 = .ok (.iconst 0, 1) := by decide +kernel
theorem d_policy_76 : decode b_policy 76 = .ok (.ireturn, 1) := by decide +kernel
theorem d_policy_77 : decode b_policy 77 = .ok (.iload_n 2, 1) := by decide +kernel
theorem d_policy_78 : decode b_policy 78 = .ok (.ifCond .ne 13, 3) := by decide +kernel
theorem d_policy_81 : decode b_policy 81 = .ok (.aload_n 0, 1) := by decide +kernel
theorem d_policy_82 : decode b_policy 82 = .ok (.getfield 113, 3) := by decide +kernel
theorem d_policy_85 : decode b_policy 85 = .ok (.iload_n 1, 1) := by decide +kernel
theorem d_policy_86 : decode b_policy 86 = .ok (.iload_n 3, 1) := by decide +kernel
theorem d_policy_87 : decode b_policy 87 = .ok (.iastore, 1) := by decide +kernel
theorem d_policy_88 : decode b_policy 88 = .ok (.goto 40, 3) := by decide +kernel
theorem d_policy_91 : decode b_policy 91 = .ok (.iload_n 2, 1) := by decide +kernel
theorem d_policy_92 : decode b_policy 92 = .ok (.iconst 1, 1) := by decide +kernel
theorem d_policy_93 : decode b_policy 93 = .ok (.if_icmp .ne 13, 3) := by decide +kernel
theorem d_policy_96 : decode b_policy 96 = .ok (.aload_n 0, 1) := by decide +kernel
theorem d_policy_97 : decode b_policy 97 = .ok (.getfield 116, 3) := by decide +kernel
theorem d_policy_100 : decode b_policy 100 = .ok (.iload_n 1, 1) := by decide +kernel
theorem d_policy_101 : decode b_policy 101 = .ok (.iload_n 3, 1) := by decide +kernel
theorem d_policy_102 : decode b_policy 102 = .ok (.iastore, 1) := by decide +kernel
theorem d_policy_103 : decode b_policy 103 = .ok (.goto 25, 3) := by decide +kernel
theorem d_policy_106 : decode b_policy 106 = .ok (.iload_n 2, 1) := by decide +kernel
theorem d_policy_107 : decode b_policy 107 = .ok (.iconst 2, 1) := by decide +kernel
theorem d_policy_108 : decode b_policy 108 = .ok (.if_icmp .ne 13, 3) := by decide +kernel
theorem d_policy_111 : decode b_policy 111 = .ok (.aload_n 0, 1) := by decide +kernel
theorem d_policy_112 : decode b_policy 112 = .ok (.getfield 119, 3) := by decide +kernel
theorem d_policy_115 : decode b_policy 115 = .ok (.iload_n 1, 1) := by decide +kernel
theorem d_policy_116 : decode b_policy 116 = .ok (.iload_n 3, 1) := by decide +kernel
theorem d_policy_117 : decode b_policy 117 = .ok (.iastore, 1) := by decide +kernel
theorem d_policy_118 : decode b_policy 118 = .ok (.goto 10, 3) := by decide +kernel
theorem d_policy_121 : decode b_policy 121 = .ok (.aload_n 0, 1) := by decide +kernel
theorem d_policy_122 : decode b_policy 122 = .ok (.getfield 122, 3) := by decide +kernel
theorem d_policy_125 : decode b_policy 125 = .ok (.iload_n 1, 1) := by decide +kernel
theorem d_policy_126 : decode b_policy 126 = .ok (.iload_n 3, 1) := by decide +kernel
theorem d_policy_127 : decode b_policy 127 = .ok (.iastore, 1) := by decide +kernel
theorem d_policy_128 : decode b_policy 128 = .ok (.iconst 1, 1) := by decide +kernel
theorem d_policy_129 : decode b_policy 129 = .ok (.ireturn, 1) := by decide +kernel
abbrev b_agent : ByteArray := prog_14_method_127_code
def y_agent : MethodName := ⟨R_M, "agent", "(II)Z"⟩
abbrev k_agent : Cond := .code y_agent b_agent 6 (some .boolean)
theorem ki_agent : k_agent ∈ lw_tg := in_t 2722 (by decide +kernel)
theorem ks_agent : Cond.instanceMethod y_agent ∈ lw_tg := in_t 2720 (by decide +kernel)
theorem d_agent_0 : decode b_agent 0 = .ok (.aload_n 0, 1) := by decide +kernel
theorem d_agent_1 : decode b_agent 1 = .ok (.iconst 0, 1) := by decide +kernel
theorem d_agent_2 : decode b_agent 2 = .ok (.invokevirtual 633, 3) := by decide +kernel
theorem d_agent_5 : decode b_agent 5 = .ok (.ifCond .eq 28, 3) := by decide +kernel
theorem d_agent_33 : decode b_agent 33 = .ok (.iconst 0, 1) := by decide +kernel
theorem d_agent_34 : decode b_agent 34 = .ok (.istore_n 3, 1) := by decide +kernel
theorem d_agent_35 : decode b_agent 35 = .ok (.aload_n 0, 1) := by decide +kernel
theorem d_agent_36 : decode b_agent 36 = .ok (.iconst 0, 1) := by decide +kernel
theorem d_agent_37 : decode b_agent 37 = .ok (.putfield 332, 3) := by decide +kernel
theorem d_agent_40 : decode b_agent 40 = .ok (.iload_n 3, 1) := by decide +kernel
theorem d_agent_41 : decode b_agent 41 = .ok (.ifCond .ne 5, 3) := by decide +kernel
theorem d_agent_44 : decode b_agent 44 = .ok (.iconst 0, 1) := by decide +kernel
theorem d_agent_45 : decode b_agent 45 = .ok (.ireturn, 1) := by decide +kernel
abbrev b_shift : ByteArray := prog_14_method_128_code
def y_shift : MethodName := ⟨R_M, "shift", "(II)Z"⟩
abbrev k_shift : Cond := .code y_shift b_shift 3 (some .boolean)
theorem ki_shift : k_shift ∈ lw_tg := in_t 2726 (by decide +kernel)
theorem ks_shift : Cond.instanceMethod y_shift ∈ lw_tg := in_t 2724 (by decide +kernel)
theorem d_shift_0 : decode b_shift 0 = .ok (.aload_n 0, 1) := by decide +kernel
theorem d_shift_1 : decode b_shift 1 = .ok (.iload_n 1, 1) := by decide +kernel
theorem d_shift_2 : decode b_shift 2 = .ok (.invokevirtual 916, 3) := by decide +kernel
theorem d_shift_5 : decode b_shift 5 = .ok (.ifCond .eq 17, 3) := by decide +kernel
theorem d_shift_22 : decode b_shift 22 = .ok (.iconst 0, 1) := by decide +kernel
theorem d_shift_23 : decode b_shift 23 = .ok (.ireturn, 1) := by decide +kernel
abbrev b_request : ByteArray := prog_14_method_134_code
def y_request : MethodName := ⟨R_M, "request", "(IIIIIII)I"⟩
abbrev k_request : Cond := .code y_request b_request 18 (some .int)
theorem ki_request : k_request ∈ lw_tg := List.mem_filter.mpr ⟨List.mem_append_right _ (List.mem_append_right _ (List.mem_append_right _ (List.mem_append_right _ (List.mem_append_right _ (List.mem_append_right _ (List.mem_append_right _ (List.mem_append_right _ (List.mem_append_right _ (List.mem_append_right _ (List.mem_append_right _ (List.mem_append_right _ (List.mem_append_left _ (List.mem_of_getElem? (i := 108) rfl))))))))))))), rfl⟩
theorem ks_request : Cond.instanceMethod y_request ∈ lw_tg := in_t 2746 (by decide +kernel)
theorem d_request_0 : decode b_request 0 = .ok (.aload_n 0, 1) := by decide +kernel
theorem d_request_1 : decode b_request 1 = .ok (.iconst 1, 1) := by decide +kernel
theorem d_request_2 : decode b_request 2 = .ok (.invokevirtual 613, 3) := by decide +kernel
theorem d_request_5 : decode b_request 5 = .ok (.ifCond .eq 73, 3) := by decide +kernel
theorem d_request_78 : decode b_request 78 = .ok (.iconst 0, 1) := by decide +kernel
theorem d_request_79 : decode b_request 79 = .ok (.istore 8, 2) := by decide +kernel
theorem d_request_81 : decode b_request 81 = .ok (.iload 8, 2) := by decide +kernel
theorem d_request_83 : decode b_request 83 = .ok (.ifCond .eq 21, 3) := by decide +kernel
theorem d_request_104 : decode b_request 104 = .ok (.iconst 0, 1) := by decide +kernel
theorem d_request_105 : decode b_request 105 = .ok (.istore 8, 2) := by decide +kernel
theorem d_request_107 : decode b_request 107 = .ok (.aload_n 0, 1) := by decide +kernel
theorem d_request_108 : decode b_request 108 = .ok (.iconst 0, 1) := by decide +kernel
theorem d_request_109 : decode b_request 109 = .ok (.putfield 332, 3) := by decide +kernel
theorem d_request_112 : decode b_request 112 = .ok (.iload 8, 2) := by decide +kernel
theorem d_request_114 : decode b_request 114 = .ok (.ifCond .ne 5, 3) := by decide +kernel
theorem d_request_117 : decode b_request 117 = .ok (.iconst (-1), 1) := by decide +kernel
theorem d_request_118 : decode b_request 118 = .ok (.ireturn, 1) := by decide +kernel
abbrev b_take : ByteArray := prog_14_method_140_code
def y_take : MethodName := ⟨R_M, "take", "(I)I"⟩
abbrev k_take : Cond := .code y_take b_take 12 (some .int)
theorem ki_take : k_take ∈ lw_tg := in_t 2787 (by decide +kernel)
theorem ks_take : Cond.instanceMethod y_take ∈ lw_tg := in_t 2785 (by decide +kernel)
theorem d_take_0 : decode b_take 0 = .ok (.aload_n 0, 1) := by decide +kernel
theorem d_take_1 : decode b_take 1 = .ok (.getfield 332, 3) := by decide +kernel
theorem d_take_4 : decode b_take 4 = .ok (.istore_n 2, 1) := by decide +kernel
theorem d_take_5 : decode b_take 5 = .ok (.aload_n 0, 1) := by decide +kernel
theorem d_take_6 : decode b_take 6 = .ok (.iconst 0, 1) := by decide +kernel
theorem d_take_7 : decode b_take 7 = .ok (.putfield 332, 3) := by decide +kernel
theorem d_take_10 : decode b_take 10 = .ok (.aload_n 0, 1) := by decide +kernel
theorem d_take_11 : decode b_take 11 = .ok (.iload_n 1, 1) := by decide +kernel
theorem d_take_12 : decode b_take 12 = .ok (.invokevirtual 916, 3) := by decide +kernel
theorem d_take_15 : decode b_take 15 = .ok (.ifCond .ne 5, 3) := by decide +kernel
theorem d_take_18 : decode b_take 18 = .ok (.iconst (-1), 1) := by decide +kernel
theorem d_take_19 : decode b_take 19 = .ok (.ireturn, 1) := by decide +kernel
abbrev b_ticket : ByteArray := prog_14_method_129_code
def y_ticket : MethodName := ⟨R_M, "ticket", "(III)I"⟩
abbrev k_ticket : Cond := .code y_ticket b_ticket 5 (some .int)
theorem ki_ticket : k_ticket ∈ lw_tg := in_t 2736 (by decide +kernel)
theorem ks_ticket : Cond.instanceMethod y_ticket ∈ lw_tg := in_t 2734 (by decide +kernel)
theorem d_ticket_0 : decode b_ticket 0 = .ok (.aload_n 0, 1) := by decide +kernel
theorem d_ticket_1 : decode b_ticket 1 = .ok (.iload_n 1, 1) := by decide +kernel
theorem d_ticket_2 : decode b_ticket 2 = .ok (.iload_n 2, 1) := by decide +kernel
theorem d_ticket_3 : decode b_ticket 3 = .ok (.invokevirtual 923, 3) := by decide +kernel
theorem d_ticket_6 : decode b_ticket 6 = .ok (.ifCond .ne 5, 3) := by decide +kernel
theorem d_ticket_9 : decode b_ticket 9 = .ok (.iconst (-1), 1) := by decide +kernel
theorem d_ticket_10 : decode b_ticket 10 = .ok (.ireturn, 1) := by decide +kernel
abbrev b_drop : ByteArray := prog_14_method_130_code
def y_drop : MethodName := ⟨R_M, "drop", "(II)Z"⟩
abbrev k_drop : Cond := .code y_drop b_drop 3 (some .boolean)
theorem ki_drop : k_drop ∈ lw_tg := in_t 2744 (by decide +kernel)
theorem ks_drop : Cond.instanceMethod y_drop ∈ lw_tg := in_t 2742 (by decide +kernel)
theorem d_drop_0 : decode b_drop 0 = .ok (.aload_n 0, 1) := by decide +kernel
theorem d_drop_1 : decode b_drop 1 = .ok (.iload_n 1, 1) := by decide +kernel
theorem d_drop_2 : decode b_drop 2 = .ok (.iload_n 2, 1) := by decide +kernel
theorem d_drop_3 : decode b_drop 3 = .ok (.invokevirtual 923, 3) := by decide +kernel
theorem d_drop_6 : decode b_drop 6 = .ok (.ifCond .ne 5, 3) := by decide +kernel
theorem d_drop_9 : decode b_drop 9 = .ok (.iconst 0, 1) := by decide +kernel
theorem d_drop_10 : decode b_drop 10 = .ok (.ireturn, 1) := by decide +kernel
abbrev b_present : ByteArray := prog_14_method_142_code
def y_present : MethodName := ⟨R_M, "present", "(III)I"⟩
abbrev k_present : Cond := .code y_present b_present 9 (some .int)
theorem ki_present : k_present ∈ lw_tg := in_t 2807 (by decide +kernel)
theorem ks_present : Cond.instanceMethod y_present ∈ lw_tg := in_t 2805 (by decide +kernel)
theorem d_present_0 : decode b_present 0 = .ok (.aload_n 0, 1) := by decide +kernel
theorem d_present_1 : decode b_present 1 = .ok (.iload_n 1, 1) := by decide +kernel
theorem d_present_2 : decode b_present 2 = .ok (.iload_n 2, 1) := by decide +kernel
theorem d_present_3 : decode b_present 3 = .ok (.invokevirtual 923, 3) := by decide +kernel
theorem d_present_6 : decode b_present 6 = .ok (.ifCond .eq 12, 3) := by decide +kernel
theorem d_present_18 : decode b_present 18 = .ok (.iconst (-1), 1) := by decide +kernel
theorem d_present_19 : decode b_present 19 = .ok (.ireturn, 1) := by decide +kernel
abbrev b_met : ByteArray := prog_14_method_145_code
def y_met : MethodName := ⟨R_M, "met", "(I)I"⟩
abbrev k_met : Cond := .code y_met b_met 4 (some .int)
theorem ki_met : k_met ∈ lw_tg := in_t 2821 (by decide +kernel)
theorem ks_met : Cond.instanceMethod y_met ∈ lw_tg := in_t 2819 (by decide +kernel)
theorem d_met_0 : decode b_met 0 = .ok (.aload_n 0, 1) := by decide +kernel
theorem d_met_1 : decode b_met 1 = .ok (.getfield 332, 3) := by decide +kernel
theorem d_met_4 : decode b_met 4 = .ok (.istore_n 2, 1) := by decide +kernel
theorem d_met_5 : decode b_met 5 = .ok (.aload_n 0, 1) := by decide +kernel
theorem d_met_6 : decode b_met 6 = .ok (.iconst 0, 1) := by decide +kernel
theorem d_met_7 : decode b_met 7 = .ok (.putfield 332, 3) := by decide +kernel
theorem d_met_10 : decode b_met 10 = .ok (.aload_n 0, 1) := by decide +kernel
theorem d_met_11 : decode b_met 11 = .ok (.iload_n 1, 1) := by decide +kernel
theorem d_met_12 : decode b_met 12 = .ok (.invokevirtual 916, 3) := by decide +kernel
theorem d_met_15 : decode b_met 15 = .ok (.ifCond .ne 5, 3) := by decide +kernel
theorem d_met_18 : decode b_met 18 = .ok (.iconst (-1), 1) := by decide +kernel
theorem d_met_19 : decode b_met 19 = .ok (.ireturn, 1) := by decide +kernel
abbrev b_joins : ByteArray := prog_14_method_146_code
def y_joins : MethodName := ⟨R_M, "joins", "(II)Z"⟩
abbrev k_joins : Cond := .code y_joins b_joins 5 (some .boolean)
theorem ki_joins : k_joins ∈ lw_tg := in_t 2827 (by decide +kernel)
theorem ks_joins : Cond.instanceMethod y_joins ∈ lw_tg := in_t 2825 (by decide +kernel)
theorem d_joins_0 : decode b_joins 0 = .ok (.iload_n 1, 1) := by decide +kernel
theorem d_joins_1 : decode b_joins 1 = .ok (.ifCond .lt 35, 3) := by decide +kernel
theorem d_joins_4 : decode b_joins 4 = .ok (.iload_n 1, 1) := by decide +kernel
theorem d_joins_5 : decode b_joins 5 = .ok (.bipush 7, 2) := by decide +kernel
theorem d_joins_7 : decode b_joins 7 = .ok (.if_icmp .gt 29, 3) := by decide +kernel
theorem d_joins_10 : decode b_joins 10 = .ok (.aload_n 0, 1) := by decide +kernel
theorem d_joins_11 : decode b_joins 11 = .ok (.getfield 290, 3) := by decide +kernel
theorem d_joins_14 : decode b_joins 14 = .ok (.iload_n 1, 1) := by decide +kernel
theorem d_joins_15 : decode b_joins 15 = .ok (.baload, 1) := by decide +kernel
theorem d_joins_16 : decode b_joins 16 = .ok (.ifCond .eq 20, 3) := by decide +kernel
theorem d_joins_36 : decode b_joins 36 = .ok (.iconst 0, 1) := by decide +kernel
theorem d_joins_37 : decode b_joins 37 = .ok (.ireturn, 1) := by decide +kernel
abbrev b_send : ByteArray := prog_14_method_150_code
def y_send : MethodName := ⟨R_M, "send", "(II)I"⟩
abbrev k_send : Cond := .code y_send b_send 6 (some .int)
theorem ki_send : k_send ∈ lw_tg := in_t 2831 (by decide +kernel)
theorem ks_send : Cond.instanceMethod y_send ∈ lw_tg := in_t 2829 (by decide +kernel)
theorem d_send_0 : decode b_send 0 = .ok (.aload_n 0, 1) := by decide +kernel
theorem d_send_1 : decode b_send 1 = .ok (.getfield 332, 3) := by decide +kernel
theorem d_send_4 : decode b_send 4 = .ok (.istore_n 3, 1) := by decide +kernel
theorem d_send_5 : decode b_send 5 = .ok (.aload_n 0, 1) := by decide +kernel
theorem d_send_6 : decode b_send 6 = .ok (.iload_n 1, 1) := by decide +kernel
theorem d_send_7 : decode b_send 7 = .ok (.iload_n 2, 1) := by decide +kernel
theorem d_send_8 : decode b_send 8 = .ok (.invokevirtual 990, 3) := by decide +kernel
theorem d_send_11 : decode b_send 11 = .ok (.ifCond .eq 14, 3) := by decide +kernel
theorem d_send_25 : decode b_send 25 = .ok (.iconst 0, 1) := by decide +kernel
theorem d_send_26 : decode b_send 26 = .ok (.istore 4, 2) := by decide +kernel
theorem d_send_28 : decode b_send 28 = .ok (.aload_n 0, 1) := by decide +kernel
theorem d_send_29 : decode b_send 29 = .ok (.iconst 0, 1) := by decide +kernel
theorem d_send_30 : decode b_send 30 = .ok (.putfield 332, 3) := by decide +kernel
theorem d_send_33 : decode b_send 33 = .ok (.iload 4, 2) := by decide +kernel
theorem d_send_35 : decode b_send 35 = .ok (.ifCond .ne 5, 3) := by decide +kernel
theorem d_send_38 : decode b_send 38 = .ok (.iconst (-1), 1) := by decide +kernel
theorem d_send_39 : decode b_send 39 = .ok (.ireturn, 1) := by decide +kernel
abbrev b_receive : ByteArray := prog_14_method_151_code
def y_receive : MethodName := ⟨R_M, "receive", "(II)I"⟩
abbrev k_receive : Cond := .code y_receive b_receive 5 (some .int)
theorem ki_receive : k_receive ∈ lw_tg := in_t 2848 (by decide +kernel)
theorem ks_receive : Cond.instanceMethod y_receive ∈ lw_tg := in_t 2846 (by decide +kernel)
theorem d_receive_0 : decode b_receive 0 = .ok (.aload_n 0, 1) := by decide +kernel
theorem d_receive_1 : decode b_receive 1 = .ok (.getfield 332, 3) := by decide +kernel
theorem d_receive_4 : decode b_receive 4 = .ok (.istore_n 3, 1) := by decide +kernel
theorem d_receive_5 : decode b_receive 5 = .ok (.aload_n 0, 1) := by decide +kernel
theorem d_receive_6 : decode b_receive 6 = .ok (.iconst 0, 1) := by decide +kernel
theorem d_receive_7 : decode b_receive 7 = .ok (.putfield 332, 3) := by decide +kernel
theorem d_receive_10 : decode b_receive 10 = .ok (.aload_n 0, 1) := by decide +kernel
theorem d_receive_11 : decode b_receive 11 = .ok (.iload_n 1, 1) := by decide +kernel
theorem d_receive_12 : decode b_receive 12 = .ok (.iload_n 2, 1) := by decide +kernel
theorem d_receive_13 : decode b_receive 13 = .ok (.invokevirtual 990, 3) := by decide +kernel
theorem d_receive_16 : decode b_receive 16 = .ok (.ifCond .ne 5, 3) := by decide +kernel
theorem d_receive_19 : decode b_receive 19 = .ok (.iconst (-1), 1) := by decide +kernel
theorem d_receive_20 : decode b_receive 20 = .ok (.ireturn, 1) := by decide +kernel
abbrev b_ends : ByteArray := prog_14_method_153_code
def y_ends : MethodName := ⟨R_M, "ends", "(I)Z"⟩
abbrev k_ends : Cond := .code y_ends b_ends 2 (some .boolean)
theorem ki_ends : k_ends ∈ lw_tg := in_t 2857 (by decide +kernel)
theorem ks_ends : Cond.instanceMethod y_ends ∈ lw_tg := in_t 2855 (by decide +kernel)
theorem d_ends_0 : decode b_ends 0 = .ok (.iload_n 1, 1) := by decide +kernel
theorem d_ends_1 : decode b_ends 1 = .ok (.ifCond .lt 18, 3) := by decide +kernel
theorem d_ends_4 : decode b_ends 4 = .ok (.iload_n 1, 1) := by decide +kernel
theorem d_ends_5 : decode b_ends 5 = .ok (.bipush 7, 2) := by decide +kernel
theorem d_ends_7 : decode b_ends 7 = .ok (.if_icmp .gt 12, 3) := by decide +kernel
theorem d_ends_10 : decode b_ends 10 = .ok (.aload_n 0, 1) := by decide +kernel
theorem d_ends_11 : decode b_ends 11 = .ok (.getfield 290, 3) := by decide +kernel
theorem d_ends_14 : decode b_ends 14 = .ok (.iload_n 1, 1) := by decide +kernel
theorem d_ends_15 : decode b_ends 15 = .ok (.baload, 1) := by decide +kernel
theorem d_ends_16 : decode b_ends 16 = .ok (.ifCond .ne 5, 3) := by decide +kernel
theorem d_ends_19 : decode b_ends 19 = .ok (.iconst 0, 1) := by decide +kernel
theorem d_ends_20 : decode b_ends 20 = .ok (.ireturn, 1) := by decide +kernel
abbrev b_assure : ByteArray := prog_14_method_154_code
def y_assure : MethodName := ⟨R_M, "assure", "(II)I"⟩
abbrev k_assure : Cond := .code y_assure b_assure 7 (some .int)
theorem ki_assure : k_assure ∈ lw_tg := in_t 2861 (by decide +kernel)
theorem ks_assure : Cond.instanceMethod y_assure ∈ lw_tg := in_t 2859 (by decide +kernel)
theorem d_assure_0 : decode b_assure 0 = .ok (.aload_n 0, 1) := by decide +kernel
theorem d_assure_1 : decode b_assure 1 = .ok (.getfield 332, 3) := by decide +kernel
theorem d_assure_4 : decode b_assure 4 = .ok (.istore_n 3, 1) := by decide +kernel
theorem d_assure_5 : decode b_assure 5 = .ok (.aload_n 0, 1) := by decide +kernel
theorem d_assure_6 : decode b_assure 6 = .ok (.iload_n 1, 1) := by decide +kernel
theorem d_assure_7 : decode b_assure 7 = .ok (.iload_n 2, 1) := by decide +kernel
theorem d_assure_8 : decode b_assure 8 = .ok (.invokevirtual 990, 3) := by decide +kernel
theorem d_assure_11 : decode b_assure 11 = .ok (.ifCond .eq 14, 3) := by decide +kernel
theorem d_assure_25 : decode b_assure 25 = .ok (.iconst 0, 1) := by decide +kernel
theorem d_assure_26 : decode b_assure 26 = .ok (.istore 4, 2) := by decide +kernel
theorem d_assure_28 : decode b_assure 28 = .ok (.aload_n 0, 1) := by decide +kernel
theorem d_assure_29 : decode b_assure 29 = .ok (.iconst 0, 1) := by decide +kernel
theorem d_assure_30 : decode b_assure 30 = .ok (.putfield 332, 3) := by decide +kernel
theorem d_assure_33 : decode b_assure 33 = .ok (.iload 4, 2) := by decide +kernel
theorem d_assure_35 : decode b_assure 35 = .ok (.ifCond .ne 5, 3) := by decide +kernel
theorem d_assure_38 : decode b_assure 38 = .ok (.iconst (-1), 1) := by decide +kernel
theorem d_assure_39 : decode b_assure 39 = .ok (.ireturn, 1) := by decide +kernel
abbrev b_assured : ByteArray := prog_14_method_155_code
def y_assured : MethodName := ⟨R_M, "assured", "(II)I"⟩
abbrev k_assured : Cond := .code y_assured b_assured 5 (some .int)
theorem ki_assured : k_assured ∈ lw_tg := in_t 2866 (by decide +kernel)
theorem ks_assured : Cond.instanceMethod y_assured ∈ lw_tg := in_t 2864 (by decide +kernel)
theorem d_assured_0 : decode b_assured 0 = .ok (.aload_n 0, 1) := by decide +kernel
theorem d_assured_1 : decode b_assured 1 = .ok (.getfield 332, 3) := by decide +kernel
theorem d_assured_4 : decode b_assured 4 = .ok (.istore_n 3, 1) := by decide +kernel
theorem d_assured_5 : decode b_assured 5 = .ok (.aload_n 0, 1) := by decide +kernel
theorem d_assured_6 : decode b_assured 6 = .ok (.iconst 0, 1) := by decide +kernel
theorem d_assured_7 : decode b_assured 7 = .ok (.putfield 332, 3) := by decide +kernel
theorem d_assured_10 : decode b_assured 10 = .ok (.aload_n 0, 1) := by decide +kernel
theorem d_assured_11 : decode b_assured 11 = .ok (.iload_n 1, 1) := by decide +kernel
theorem d_assured_12 : decode b_assured 12 = .ok (.iload_n 2, 1) := by decide +kernel
theorem d_assured_13 : decode b_assured 13 = .ok (.invokevirtual 990, 3) := by decide +kernel
theorem d_assured_16 : decode b_assured 16 = .ok (.ifCond .ne 5, 3) := by decide +kernel
theorem d_assured_19 : decode b_assured 19 = .ok (.iconst (-1), 1) := by decide +kernel
theorem d_assured_20 : decode b_assured 20 = .ok (.ireturn, 1) := by decide +kernel
abbrev b_hand : ByteArray := prog_14_method_156_code
def y_hand : MethodName := ⟨R_M, "hand", "(II)I"⟩
abbrev k_hand : Cond := .code y_hand b_hand 7 (some .int)
theorem ki_hand : k_hand ∈ lw_tg := in_t 2871 (by decide +kernel)
theorem ks_hand : Cond.instanceMethod y_hand ∈ lw_tg := in_t 2869 (by decide +kernel)
theorem d_hand_0 : decode b_hand 0 = .ok (.aload_n 0, 1) := by decide +kernel
theorem d_hand_1 : decode b_hand 1 = .ok (.iload_n 1, 1) := by decide +kernel
theorem d_hand_2 : decode b_hand 2 = .ok (.iconst 0, 1) := by decide +kernel
theorem d_hand_3 : decode b_hand 3 = .ok (.invokevirtual 990, 3) := by decide +kernel
theorem d_hand_6 : decode b_hand 6 = .ok (.ifCond .eq 17, 3) := by decide +kernel
theorem d_hand_23 : decode b_hand 23 = .ok (.iconst (-1), 1) := by decide +kernel
theorem d_hand_24 : decode b_hand 24 = .ok (.ireturn, 1) := by decide +kernel
abbrev b_handed : ByteArray := prog_14_method_157_code
def y_handed : MethodName := ⟨R_M, "handed", "(II)I"⟩
abbrev k_handed : Cond := .code y_handed b_handed 12 (some .int)
theorem ki_handed : k_handed ∈ lw_tg := List.mem_filter.mpr ⟨List.mem_append_right _ (List.mem_append_right _ (List.mem_append_right _ (List.mem_append_right _ (List.mem_append_right _ (List.mem_append_right _ (List.mem_append_right _ (List.mem_append_right _ (List.mem_append_right _ (List.mem_append_right _ (List.mem_append_right _ (List.mem_append_right _ (List.mem_append_left _ (List.mem_of_getElem? (i := 236) rfl))))))))))))), rfl⟩
theorem ks_handed : Cond.instanceMethod y_handed ∈ lw_tg := in_t 2874 (by decide +kernel)
theorem d_handed_0 : decode b_handed 0 = .ok (.aload_n 0, 1) := by decide +kernel
theorem d_handed_1 : decode b_handed 1 = .ok (.getfield 332, 3) := by decide +kernel
theorem d_handed_4 : decode b_handed 4 = .ok (.istore_n 3, 1) := by decide +kernel
theorem d_handed_5 : decode b_handed 5 = .ok (.aload_n 0, 1) := by decide +kernel
theorem d_handed_6 : decode b_handed 6 = .ok (.iconst 0, 1) := by decide +kernel
theorem d_handed_7 : decode b_handed 7 = .ok (.putfield 332, 3) := by decide +kernel
theorem d_handed_10 : decode b_handed 10 = .ok (.aload_n 0, 1) := by decide +kernel
theorem d_handed_11 : decode b_handed 11 = .ok (.iload_n 1, 1) := by decide +kernel
theorem d_handed_12 : decode b_handed 12 = .ok (.iconst 1, 1) := by decide +kernel
theorem d_handed_13 : decode b_handed 13 = .ok (.invokevirtual 990, 3) := by decide +kernel
theorem d_handed_16 : decode b_handed 16 = .ok (.ifCond .eq 11, 3) := by decide +kernel
theorem d_handed_27 : decode b_handed 27 = .ok (.iconst (-1), 1) := by decide +kernel
theorem d_handed_28 : decode b_handed 28 = .ok (.ireturn, 1) := by decide +kernel
theorem cn_644 : Cond.constant R_M 644 (1000000) ∈ lw_tg := in_t 2346 (by decide +kernel)
theorem cn_645 : Cond.constant R_M 645 (10000000) ∈ lw_tg := in_t 2347 (by decide +kernel)
theorem cn_921 : Cond.constant R_M 921 (-100000) ∈ lw_tg := in_t 2731 (by decide +kernel)
theorem cn_922 : Cond.constant R_M 922 (100000) ∈ lw_tg := in_t 2732 (by decide +kernel)
theorem cn_926 : Cond.constant R_M 926 (100000000) ∈ lw_tg := in_t 2749 (by decide +kernel)
theorem cn_933 : Cond.constant R_M 933 (2147483647) ∈ lw_tg := in_t 2759 (by decide +kernel)
theorem cn_974 : Cond.constant R_M 974 (1073741823) ∈ lw_tg := in_t 2808 (by decide +kernel)
theorem cl_699 : Cond.constantLong R_M 699 (18) ∈ lw_tg := in_t 2498 (by decide +kernel)
theorem cl_697 : Cond.constantLong R_M 697 (17) ∈ lw_tg := in_t 2497 (by decide +kernel)
theorem cl_937 : Cond.constantLong R_M 937 (2145916799) ∈ lw_tg := in_t 2763 (by decide +kernel)
theorem cl_810 : Cond.constantLong R_M 810 (2) ∈ lw_tg := in_t 2697 (by decide +kernel)
theorem cl_673 : Cond.constantLong R_M 673 (12) ∈ lw_tg := in_t 2436 (by decide +kernel)
theorem cl_671 : Cond.constantLong R_M 671 (10) ∈ lw_tg := in_t 2435 (by decide +kernel)
theorem cl_669 : Cond.constantLong R_M 669 (5) ∈ lw_tg := in_t 2434 (by decide +kernel)
theorem cl_958 : Cond.constantLong R_M 958 (1000) ∈ lw_tg := in_t 2789 (by decide +kernel)
theorem cl_981 : Cond.constantLong R_M 981 (15) ∈ lw_tg := in_t 2817 (by decide +kernel)
theorem cl_996 : Cond.constantLong R_M 996 (21) ∈ lw_tg := in_t 2844 (by decide +kernel)
theorem cl_1003 : Cond.constantLong R_M 1003 (20) ∈ lw_tg := in_t 2862 (by decide +kernel)
theorem cl_1007 : Cond.constantLong R_M 1007 (22) ∈ lw_tg := in_t 2872 (by decide +kernel)
theorem cl_459 : Cond.constantLong R_M 459 (-1) ∈ lw_tg := in_t 2400 (by decide +kernel)
theorem kx_hasAgent : Cond.selects R_M y_hasAgent y_hasAgent ∈ lw_tg := List.mem_filter.mpr ⟨List.mem_append_left _ (List.mem_of_getElem? (i := 171) (by decide +kernel)), rfl⟩
theorem hd_hasAgent : y_hasAgent.cls = R_M ∧ y_hasAgent.cls ≠ "java/lang/invoke/MethodHandle" ∧ y_hasAgent.cls ≠ "java/lang/invoke/VarHandle" ∧ (parseMethodDescriptor y_hasAgent.desc).map (fun d => d.parameters.length) = some 1 := by decide +kernel
theorem kx_hasTicket : Cond.selects R_M y_hasTicket y_hasTicket ∈ lw_tg := List.mem_filter.mpr ⟨List.mem_append_left _ (List.mem_of_getElem? (i := 172) (by decide +kernel)), rfl⟩
theorem hd_hasTicket : y_hasTicket.cls = R_M ∧ y_hasTicket.cls ≠ "java/lang/invoke/MethodHandle" ∧ y_hasTicket.cls ≠ "java/lang/invoke/VarHandle" ∧ (parseMethodDescriptor y_hasTicket.desc).map (fun d => d.parameters.length) = some 2 := by decide +kernel
theorem kx_hasSide : Cond.selects R_M y_hasSide y_hasSide ∈ lw_tg := List.mem_filter.mpr ⟨List.mem_append_left _ (List.mem_of_getElem? (i := 184) (by decide +kernel)), rfl⟩
theorem hd_hasSide : y_hasSide.cls = R_M ∧ y_hasSide.cls ≠ "java/lang/invoke/MethodHandle" ∧ y_hasSide.cls ≠ "java/lang/invoke/VarHandle" ∧ (parseMethodDescriptor y_hasSide.desc).map (fun d => d.parameters.length) = some 2 := by decide +kernel
theorem kx_change : Cond.selects R_M y_change y_change ∈ lw_tg := in_t 2340 (by decide +kernel)
theorem hd_change : y_change.cls = R_M ∧ y_change.cls ≠ "java/lang/invoke/MethodHandle" ∧ y_change.cls ≠ "java/lang/invoke/VarHandle" ∧ (parseMethodDescriptor y_change.desc).map (fun d => d.parameters.length) = some 2 := by decide +kernel
theorem kx_policy : Cond.selects R_M y_policy y_policy ∈ lw_tg := in_t 2344 (by decide +kernel)
theorem hd_policy : y_policy.cls = R_M ∧ y_policy.cls ≠ "java/lang/invoke/MethodHandle" ∧ y_policy.cls ≠ "java/lang/invoke/VarHandle" ∧ (parseMethodDescriptor y_policy.desc).map (fun d => d.parameters.length) = some 3 := by decide +kernel
theorem kx_agent : Cond.selects R_M y_agent y_agent ∈ lw_tg := in_t 2721 (by decide +kernel)
theorem hd_agent : y_agent.cls = R_M ∧ y_agent.cls ≠ "java/lang/invoke/MethodHandle" ∧ y_agent.cls ≠ "java/lang/invoke/VarHandle" ∧ (parseMethodDescriptor y_agent.desc).map (fun d => d.parameters.length) = some 2 := by decide +kernel
theorem kx_shift : Cond.selects R_M y_shift y_shift ∈ lw_tg := in_t 2725 (by decide +kernel)
theorem hd_shift : y_shift.cls = R_M ∧ y_shift.cls ≠ "java/lang/invoke/MethodHandle" ∧ y_shift.cls ≠ "java/lang/invoke/VarHandle" ∧ (parseMethodDescriptor y_shift.desc).map (fun d => d.parameters.length) = some 2 := by decide +kernel
theorem kx_request : Cond.selects R_M y_request y_request ∈ lw_tg := in_t 2747 (by decide +kernel)
theorem hd_request : y_request.cls = R_M ∧ y_request.cls ≠ "java/lang/invoke/MethodHandle" ∧ y_request.cls ≠ "java/lang/invoke/VarHandle" ∧ (parseMethodDescriptor y_request.desc).map (fun d => d.parameters.length) = some 7 := by decide +kernel
theorem kx_take : Cond.selects R_M y_take y_take ∈ lw_tg := in_t 2786 (by decide +kernel)
theorem hd_take : y_take.cls = R_M ∧ y_take.cls ≠ "java/lang/invoke/MethodHandle" ∧ y_take.cls ≠ "java/lang/invoke/VarHandle" ∧ (parseMethodDescriptor y_take.desc).map (fun d => d.parameters.length) = some 1 := by decide +kernel
theorem kx_ticket : Cond.selects R_M y_ticket y_ticket ∈ lw_tg := in_t 2735 (by decide +kernel)
theorem hd_ticket : y_ticket.cls = R_M ∧ y_ticket.cls ≠ "java/lang/invoke/MethodHandle" ∧ y_ticket.cls ≠ "java/lang/invoke/VarHandle" ∧ (parseMethodDescriptor y_ticket.desc).map (fun d => d.parameters.length) = some 3 := by decide +kernel
theorem kx_drop : Cond.selects R_M y_drop y_drop ∈ lw_tg := in_t 2743 (by decide +kernel)
theorem hd_drop : y_drop.cls = R_M ∧ y_drop.cls ≠ "java/lang/invoke/MethodHandle" ∧ y_drop.cls ≠ "java/lang/invoke/VarHandle" ∧ (parseMethodDescriptor y_drop.desc).map (fun d => d.parameters.length) = some 2 := by decide +kernel
theorem kx_present : Cond.selects R_M y_present y_present ∈ lw_tg := in_t 2806 (by decide +kernel)
theorem hd_present : y_present.cls = R_M ∧ y_present.cls ≠ "java/lang/invoke/MethodHandle" ∧ y_present.cls ≠ "java/lang/invoke/VarHandle" ∧ (parseMethodDescriptor y_present.desc).map (fun d => d.parameters.length) = some 3 := by decide +kernel
theorem kx_met : Cond.selects R_M y_met y_met ∈ lw_tg := in_t 2820 (by decide +kernel)
theorem hd_met : y_met.cls = R_M ∧ y_met.cls ≠ "java/lang/invoke/MethodHandle" ∧ y_met.cls ≠ "java/lang/invoke/VarHandle" ∧ (parseMethodDescriptor y_met.desc).map (fun d => d.parameters.length) = some 1 := by decide +kernel
theorem kx_joins : Cond.selects R_M y_joins y_joins ∈ lw_tg := in_t 2826 (by decide +kernel)
theorem hd_joins : y_joins.cls = R_M ∧ y_joins.cls ≠ "java/lang/invoke/MethodHandle" ∧ y_joins.cls ≠ "java/lang/invoke/VarHandle" ∧ (parseMethodDescriptor y_joins.desc).map (fun d => d.parameters.length) = some 2 := by decide +kernel
theorem kx_send : Cond.selects R_M y_send y_send ∈ lw_tg := in_t 2830 (by decide +kernel)
theorem hd_send : y_send.cls = R_M ∧ y_send.cls ≠ "java/lang/invoke/MethodHandle" ∧ y_send.cls ≠ "java/lang/invoke/VarHandle" ∧ (parseMethodDescriptor y_send.desc).map (fun d => d.parameters.length) = some 2 := by decide +kernel
theorem kx_receive : Cond.selects R_M y_receive y_receive ∈ lw_tg := in_t 2847 (by decide +kernel)
theorem hd_receive : y_receive.cls = R_M ∧ y_receive.cls ≠ "java/lang/invoke/MethodHandle" ∧ y_receive.cls ≠ "java/lang/invoke/VarHandle" ∧ (parseMethodDescriptor y_receive.desc).map (fun d => d.parameters.length) = some 2 := by decide +kernel
theorem kx_ends : Cond.selects R_M y_ends y_ends ∈ lw_tg := in_t 2856 (by decide +kernel)
theorem hd_ends : y_ends.cls = R_M ∧ y_ends.cls ≠ "java/lang/invoke/MethodHandle" ∧ y_ends.cls ≠ "java/lang/invoke/VarHandle" ∧ (parseMethodDescriptor y_ends.desc).map (fun d => d.parameters.length) = some 1 := by decide +kernel
theorem kx_assure : Cond.selects R_M y_assure y_assure ∈ lw_tg := in_t 2860 (by decide +kernel)
theorem hd_assure : y_assure.cls = R_M ∧ y_assure.cls ≠ "java/lang/invoke/MethodHandle" ∧ y_assure.cls ≠ "java/lang/invoke/VarHandle" ∧ (parseMethodDescriptor y_assure.desc).map (fun d => d.parameters.length) = some 2 := by decide +kernel
theorem kx_assured : Cond.selects R_M y_assured y_assured ∈ lw_tg := in_t 2865 (by decide +kernel)
theorem hd_assured : y_assured.cls = R_M ∧ y_assured.cls ≠ "java/lang/invoke/MethodHandle" ∧ y_assured.cls ≠ "java/lang/invoke/VarHandle" ∧ (parseMethodDescriptor y_assured.desc).map (fun d => d.parameters.length) = some 2 := by decide +kernel
theorem kx_hand : Cond.selects R_M y_hand y_hand ∈ lw_tg := in_t 2870 (by decide +kernel)
theorem hd_hand : y_hand.cls = R_M ∧ y_hand.cls ≠ "java/lang/invoke/MethodHandle" ∧ y_hand.cls ≠ "java/lang/invoke/VarHandle" ∧ (parseMethodDescriptor y_hand.desc).map (fun d => d.parameters.length) = some 2 := by decide +kernel
theorem kx_handed : Cond.selects R_M y_handed y_handed ∈ lw_tg := in_t 2875 (by decide +kernel)
theorem hd_handed : y_handed.cls = R_M ∧ y_handed.cls ≠ "java/lang/invoke/MethodHandle" ∧ y_handed.cls ≠ "java/lang/invoke/VarHandle" ∧ (parseMethodDescriptor y_handed.desc).map (fun d => d.parameters.length) = some 2 := by decide +kernel
theorem a_8 {a : Int32} (h : ¬ a < 0) (h2 : ¬ nI 7 < a) : ∃ j, j < 8 ∧ a = nI j := by
  obtain ⟨j, hj, rfl⟩ := nI_of h
  rw [nI_ltI (by omega) (by omega)] at h2
  exact ⟨j, by omega, rfl⟩
def polR (a1 a2 a3 : Int32) : Int32 := if a1 = nI 0 ∧ ((a2 = nI 0 ∧ nI 1 ≤ a3 ∧ a3 ≤ nI 1000000) ∨ (a2 = nI 1 ∧ nI 1 ≤ a3 ∧ a3 ≤ nI 10000000) ∨ (a2 = nI 2 ∧ nI 0 ≤ a3 ∧ a3 ≤ nI 63) ∨ (a2 = nI 3 ∧ nI 0 ≤ a3 ∧ a3 ≤ nI 2000000000)) then nI 1 else nI 0
set_option maxHeartbeats 4000000 in
set_option maxRecDepth 100000 in
theorem c_hasAgent_none (l : Launch) (D : mD) (E : mE) (h : Nat) (q : Nat → Nat) (sz : Nat) (I : Nat → Int32) (J : Nat → Int64) (B : Nat → Nat → Int32) (G : Nat → Nat → Int64) (a1 : Int32) (ha : ∀ j, B 91 j = nI 0) : Met l y_hasAgent (k_hasAgent :: lw_tg) (mR 0 0) (va_Pc [.ref h, .int a1] (mPre D E h q (I, J, B, G) sz)) (va_Qi (fun (r : Int32) (u : mS) => (∀ j, u.1 j = I j) ∧ u.2.1 = J ∧ (∀ j, u.2.2.1 j = B j) ∧ u.2.2.2 = G ∧ (r = nI 0)) (mPost D E h q (mA E h q sz)) (mA E h q sz)) 0 0 (mA E h q sz) := by
  refine m_enter (by decide) rfl (Nat.le_of_ble_eq_true rfl) (fun p e s m below meth c ls AV QQ H locs hQQ X Y hZ hA hr hlk hml hl => ?_)
  have Y : mH D E (mA E h q sz) s.heap h q I J B G H locs := Y
  have hl : lv_has ls 2 [(0, .ref h), (1, .int a1)] := hl
  refine lv_iload_n X.1 X.2.1 d_hasAgent_0 rfl (lv_at hl 1 rfl) ?_
  refine lv_if_lt (tgt := 22) X.1 X.2.1 d_hasAgent_1 (by decide) (fun c1 => ?_) (fun c1 => ?_)
  · skip
    refine lv_iconst (v := (nI 0)) X.1 X.2.1 d_hasAgent_22 (by decide) ?_
    exact m_retz hQQ X Y hr hlk rfl ⟨(fun j  => rfl), rfl, (fun j  => rfl), rfl, rfl⟩ d_hasAgent_23
  · skip
    refine lv_iload_n X.1 X.2.1 d_hasAgent_4 rfl (lv_at hl 1 rfl) ?_
    refine lv_iconst (v := (nI 4)) X.1 X.2.1 d_hasAgent_5 (by decide) ?_
    refine lv_icmp_ge (tgt := 22) X.1 X.2.1 d_hasAgent_6 (by decide) (fun c2 => ?_) (fun c2 => ?_)
    · skip
      refine lv_iconst (v := (nI 0)) X.1 X.2.1 d_hasAgent_22 (by decide) ?_
      exact m_retz hQQ X Y hr hlk rfl ⟨(fun j  => rfl), rfl, (fun j  => rfl), rfl, rfl⟩ d_hasAgent_23
    · skip
      refine lv_aload_n X.1 X.2.1 d_hasAgent_9 rfl (lv_at hl 0 rfl) ?_
      refine m_get X Y 91 (by decide) lk_isAgent (gf_isAgent _ _ _) rfl d_hasAgent_10 ?_
      refine lv_iload_n X.1 X.2.1 d_hasAgent_13 rfl (lv_at hl 1 rfl) ?_
      obtain ⟨n3, hn3, en3⟩ := ((pk_ix a1 (n := 4) (by decide)).resolve_left c1).resolve_left c2
      refine t_eq en3 ?_
      refine m_zald X Y (aw_isAgent _ _ _ _ _ _ _) (vp_in_nI (by omega) (by decide)) d_hasAgent_14 ?_
      refine t_eq (show B 91 ((nI n3)).toNatClampNeg = nI (0) from (ha _)) ?_
      refine lv_if_eq (tgt := 22) X.1 X.2.1 d_hasAgent_15 (by decide) (fun c4 => ?_) (fun c4 => absurd ?_ c4)
      rotate_left
      · (rw [← nI_0, nI_eq (by omega) (by omega)] <;> omega)
      rw [← nI_0] at c4
      rw [nI_eq (by omega) (by omega)] at c4
      refine lv_iconst (v := (nI 0)) X.1 X.2.1 d_hasAgent_22 (by decide) ?_
      exact m_retz hQQ X Y hr hlk rfl ⟨(fun j  => rfl), rfl, (fun j  => rfl), rfl, rfl⟩ d_hasAgent_23
set_option maxHeartbeats 4000000 in
set_option maxRecDepth 100000 in
theorem c_hasTicket_none (l : Launch) (D : mD) (E : mE) (h : Nat) (q : Nat → Nat) (sz : Nat) (I : Nat → Int32) (J : Nat → Int64) (B : Nat → Nat → Int32) (G : Nat → Nat → Int64) (a1 a2 : Int32) (ha : ∀ j, B 91 j = nI 0) : Met l y_hasTicket (k_hasTicket :: lw_tg) (mR 1 21) (va_Pc [.ref h, .int a1, .int a2] (mPre D E h q (I, J, B, G) sz)) (va_Qi (fun (r : Int32) (u : mS) => (∀ j, u.1 j = I j) ∧ u.2.1 = J ∧ (∀ j, u.2.2.1 j = B j) ∧ u.2.2.2 = G ∧ (r = nI 0)) (mPost D E h q (mA E h q sz)) (mA E h q sz)) 0 0 (mA E h q sz) := by
  refine m_enter (by decide) rfl (Nat.le_of_ble_eq_true rfl) (fun p e s m below meth c ls AV QQ H locs hQQ X Y hZ hA hr hlk hml hl => ?_)
  have Y : mH D E (mA E h q sz) s.heap h q I J B G H locs := Y
  have hl : lv_has ls 3 [(0, .ref h), (1, .int a1), (2, .int a2)] := hl
  refine lv_aload_n X.1 X.2.1 d_hasTicket_0 rfl (lv_at hl 0 rfl) ?_
  refine lv_iload_n X.1 X.2.1 d_hasTicket_1 rfl (lv_at hl 1 rfl) ?_
  refine m_calli (As := [.int a1]) (rest := []) (n := 1) X Y hZ hA hml hl.1 (c_hasAgent_none l D E h q H.size I J B G a1 (show ∀ j, B 91 j = nI 0 from ha)) kl_hasAgent ks_hasAgent kx_hasAgent ki_hasAgent ini_M hd_hasAgent ⟨by decide, by decide⟩ rfl (Nat.le_of_ble_eq_true rfl) d_hasTicket_2 ⟨Nat.le_refl _, Nat.le_refl _⟩ (fun r9 u H locs hp Y => ?_)
  obtain ⟨I1, J2, B3, G4⟩ := u
  obtain ⟨hI5, eJ7, hB6, eG8, pr9⟩ := hp
  dsimp only at hI5 eJ7 hB6 eG8 pr9 Y
  rw [eJ7, eG8] at Y
  rw [show I1 = I from funext hI5] at Y
  rw [show B3 = B from funext hB6] at Y
  refine t_eq pr9 ?_
  refine lv_if_eq (tgt := 36) X.1 X.2.1 d_hasTicket_5 (by decide) (fun c12 => ?_) (fun c12 => absurd ?_ c12)
  rotate_left
  · (rw [← nI_0, nI_eq (by omega) (by omega)] <;> omega)
  rw [← nI_0] at c12
  rw [nI_eq (by omega) (by omega)] at c12
  refine lv_iconst (v := (nI 0)) X.1 X.2.1 d_hasTicket_36 (by decide) ?_
  exact m_retz hQQ X Y hr hlk rfl ⟨(fun j  => rfl), rfl, (fun j  => rfl), rfl, rfl⟩ d_hasTicket_37
set_option maxHeartbeats 4000000 in
set_option maxRecDepth 100000 in
theorem c_hasSide_none (l : Launch) (D : mD) (E : mE) (h : Nat) (q : Nat → Nat) (sz : Nat) (I : Nat → Int32) (J : Nat → Int64) (B : Nat → Nat → Int32) (G : Nat → Nat → Int64) (a1 a2 : Int32) (hs : ∀ j, B 133 j = nI 0) : Met l y_hasSide (k_hasSide :: lw_tg) (mR 0 0) (va_Pc [.ref h, .int a1, .int a2] (mPre D E h q (I, J, B, G) sz)) (va_Qi (fun (r : Int32) (u : mS) => (∀ j, u.1 j = I j) ∧ u.2.1 = J ∧ (∀ j, u.2.2.1 j = B j) ∧ u.2.2.2 = G ∧ (r = nI 0)) (mPost D E h q (mA E h q sz)) (mA E h q sz)) 0 0 (mA E h q sz) := by
  refine m_enter (by decide) rfl (Nat.le_of_ble_eq_true rfl) (fun p e s m below meth c ls AV QQ H locs hQQ X Y hZ hA hr hlk hml hl => ?_)
  have Y : mH D E (mA E h q sz) s.heap h q I J B G H locs := Y
  have hl : lv_has ls 3 [(0, .ref h), (1, .int a1), (2, .int a2)] := hl
  refine lv_iload_n X.1 X.2.1 d_hasSide_0 rfl (lv_at hl 1 rfl) ?_
  refine lv_if_lt (tgt := 41) X.1 X.2.1 d_hasSide_1 (by decide) (fun c1 => ?_) (fun c1 => ?_)
  · skip
    refine lv_iconst (v := (nI 0)) X.1 X.2.1 d_hasSide_41 (by decide) ?_
    exact m_retz hQQ X Y hr hlk rfl ⟨(fun j  => rfl), rfl, (fun j  => rfl), rfl, rfl⟩ d_hasSide_42
  · skip
    refine lv_iload_n X.1 X.2.1 d_hasSide_4 rfl (lv_at hl 1 rfl) ?_
    refine lv_bipush (v := (nI 8)) X.1 X.2.1 d_hasSide_5 (by decide) ?_
    refine lv_icmp_ge (tgt := 41) X.1 X.2.1 d_hasSide_7 (by decide) (fun c2 => ?_) (fun c2 => ?_)
    · skip
      refine lv_iconst (v := (nI 0)) X.1 X.2.1 d_hasSide_41 (by decide) ?_
      exact m_retz hQQ X Y hr hlk rfl ⟨(fun j  => rfl), rfl, (fun j  => rfl), rfl, rfl⟩ d_hasSide_42
    · skip
      refine lv_aload_n X.1 X.2.1 d_hasSide_10 rfl (lv_at hl 0 rfl) ?_
      refine m_get X Y 133 (by decide) lk_isSession (gf_isSession _ _ _) rfl d_hasSide_11 ?_
      refine lv_iload_n X.1 X.2.1 d_hasSide_14 rfl (lv_at hl 1 rfl) ?_
      obtain ⟨n3, hn3, en3⟩ := ((pk_ix a1 (n := 8) (by decide)).resolve_left c1).resolve_left c2
      refine t_eq en3 ?_
      refine m_zald X Y (aw_isSession _ _ _ _ _ _ _) (vp_in_nI (by omega) (by decide)) d_hasSide_15 ?_
      refine t_eq (show B 133 ((nI n3)).toNatClampNeg = nI (0) from (hs _)) ?_
      refine lv_if_eq (tgt := 41) X.1 X.2.1 d_hasSide_16 (by decide) (fun c4 => ?_) (fun c4 => absurd ?_ c4)
      rotate_left
      · (rw [← nI_0, nI_eq (by omega) (by omega)] <;> omega)
      rw [← nI_0] at c4
      rw [nI_eq (by omega) (by omega)] at c4
      refine lv_iconst (v := (nI 0)) X.1 X.2.1 d_hasSide_41 (by decide) ?_
      exact m_retz hQQ X Y hr hlk rfl ⟨(fun j  => rfl), rfl, (fun j  => rfl), rfl, rfl⟩ d_hasSide_42
set_option maxHeartbeats 4000000 in
set_option maxRecDepth 100000 in
theorem c_ends_new (l : Launch) (D : mD) (E : mE) (h : Nat) (q : Nat → Nat) (sz : Nat) (I : Nat → Int32) (J : Nat → Int64) (B : Nat → Nat → Int32) (G : Nat → Nat → Int64) (a1 : Int32) (hs : ∀ j, B 133 j = nI 0) : Met l y_ends (k_ends :: lw_tg) (mR 0 0) (va_Pc [.ref h, .int a1] (mPre D E h q (I, J, B, G) sz)) (va_Qi (fun (r : Int32) (u : mS) => (∀ j, u.1 j = I j) ∧ u.2.1 = J ∧ (∀ j, u.2.2.1 j = B j) ∧ u.2.2.2 = G ∧ (r = nI 0)) (mPost D E h q (mA E h q sz)) (mA E h q sz)) 0 0 (mA E h q sz) := by
  refine m_enter (by decide) rfl (Nat.le_of_ble_eq_true rfl) (fun p e s m below meth c ls AV QQ H locs hQQ X Y hZ hA hr hlk hml hl => ?_)
  have Y : mH D E (mA E h q sz) s.heap h q I J B G H locs := Y
  have hl : lv_has ls 2 [(0, .ref h), (1, .int a1)] := hl
  refine lv_iload_n X.1 X.2.1 d_ends_0 rfl (lv_at hl 1 rfl) ?_
  refine lv_if_lt (tgt := 19) X.1 X.2.1 d_ends_1 (by decide) (fun c1 => ?_) (fun c1 => ?_)
  · skip
    refine lv_iconst (v := (nI 0)) X.1 X.2.1 d_ends_19 (by decide) ?_
    exact m_retz hQQ X Y hr hlk rfl ⟨(fun j  => rfl), rfl, (fun j  => rfl), rfl, rfl⟩ d_ends_20
  · skip
    refine lv_iload_n X.1 X.2.1 d_ends_4 rfl (lv_at hl 1 rfl) ?_
    refine lv_bipush (v := (nI 7)) X.1 X.2.1 d_ends_5 (by decide) ?_
    refine lv_icmp_gt (tgt := 19) X.1 X.2.1 d_ends_7 (by decide) (fun c2 => ?_) (fun c2 => ?_)
    · skip
      refine lv_iconst (v := (nI 0)) X.1 X.2.1 d_ends_19 (by decide) ?_
      exact m_retz hQQ X Y hr hlk rfl ⟨(fun j  => rfl), rfl, (fun j  => rfl), rfl, rfl⟩ d_ends_20
    · skip
      refine lv_aload_n X.1 X.2.1 d_ends_10 rfl (lv_at hl 0 rfl) ?_
      refine m_get X Y 133 (by decide) lk_isSession (gf_isSession _ _ _) rfl d_ends_11 ?_
      refine lv_iload_n X.1 X.2.1 d_ends_14 rfl (lv_at hl 1 rfl) ?_
      obtain ⟨n3, hn3, en3⟩ := a_8 c1 c2
      refine t_eq en3 ?_
      refine m_zald X Y (aw_isSession _ _ _ _ _ _ _) (vp_in_nI (by omega) (by decide)) d_ends_15 ?_
      refine t_eq (show B 133 ((nI n3)).toNatClampNeg = nI (0) from (hs _)) ?_
      refine lv_if_ne (tgt := 21) X.1 X.2.1 d_ends_16 (by decide) (fun c4 => absurd c4 ?_) (fun c4 => ?_)
      · (rw [← nI_0, nI_eq (by omega) (by omega)] <;> omega)
      rw [← nI_0] at c4
      rw [nI_eq (by omega) (by omega)] at c4
      refine lv_iconst (v := (nI 0)) X.1 X.2.1 d_ends_19 (by decide) ?_
      exact m_retz hQQ X Y hr hlk rfl ⟨(fun j  => rfl), rfl, (fun j  => rfl), rfl, rfl⟩ d_ends_20
set_option maxHeartbeats 4000000 in
set_option maxRecDepth 100000 in
theorem c_joins_new (l : Launch) (D : mD) (E : mE) (h : Nat) (q : Nat → Nat) (sz : Nat) (I : Nat → Int32) (J : Nat → Int64) (B : Nat → Nat → Int32) (G : Nat → Nat → Int64) (a1 a2 : Int32) (hs : ∀ j, B 133 j = nI 0) : Met l y_joins (k_joins :: lw_tg) (mR 0 0) (va_Pc [.ref h, .int a1, .int a2] (mPre D E h q (I, J, B, G) sz)) (va_Qi (fun (r : Int32) (u : mS) => (∀ j, u.1 j = I j) ∧ u.2.1 = J ∧ (∀ j, u.2.2.1 j = B j) ∧ u.2.2.2 = G ∧ (r = nI 0)) (mPost D E h q (mA E h q sz)) (mA E h q sz)) 0 0 (mA E h q sz) := by
  refine m_enter (by decide) rfl (Nat.le_of_ble_eq_true rfl) (fun p e s m below meth c ls AV QQ H locs hQQ X Y hZ hA hr hlk hml hl => ?_)
  have Y : mH D E (mA E h q sz) s.heap h q I J B G H locs := Y
  have hl : lv_has ls 5 [(0, .ref h), (1, .int a1), (2, .int a2)] := hl
  refine lv_iload_n X.1 X.2.1 d_joins_0 rfl (lv_at hl 1 rfl) ?_
  refine lv_if_lt (tgt := 36) X.1 X.2.1 d_joins_1 (by decide) (fun c1 => ?_) (fun c1 => ?_)
  · skip
    refine lv_iconst (v := (nI 0)) X.1 X.2.1 d_joins_36 (by decide) ?_
    exact m_retz hQQ X Y hr hlk rfl ⟨(fun j  => rfl), rfl, (fun j  => rfl), rfl, rfl⟩ d_joins_37
  · skip
    refine lv_iload_n X.1 X.2.1 d_joins_4 rfl (lv_at hl 1 rfl) ?_
    refine lv_bipush (v := (nI 7)) X.1 X.2.1 d_joins_5 (by decide) ?_
    refine lv_icmp_gt (tgt := 36) X.1 X.2.1 d_joins_7 (by decide) (fun c2 => ?_) (fun c2 => ?_)
    · skip
      refine lv_iconst (v := (nI 0)) X.1 X.2.1 d_joins_36 (by decide) ?_
      exact m_retz hQQ X Y hr hlk rfl ⟨(fun j  => rfl), rfl, (fun j  => rfl), rfl, rfl⟩ d_joins_37
    · skip
      refine lv_aload_n X.1 X.2.1 d_joins_10 rfl (lv_at hl 0 rfl) ?_
      refine m_get X Y 133 (by decide) lk_isSession (gf_isSession _ _ _) rfl d_joins_11 ?_
      refine lv_iload_n X.1 X.2.1 d_joins_14 rfl (lv_at hl 1 rfl) ?_
      obtain ⟨n3, hn3, en3⟩ := a_8 c1 c2
      refine t_eq en3 ?_
      refine m_zald X Y (aw_isSession _ _ _ _ _ _ _) (vp_in_nI (by omega) (by decide)) d_joins_15 ?_
      refine t_eq (show B 133 ((nI n3)).toNatClampNeg = nI (0) from (hs _)) ?_
      refine lv_if_eq (tgt := 36) X.1 X.2.1 d_joins_16 (by decide) (fun c4 => ?_) (fun c4 => absurd ?_ c4)
      rotate_left
      · (rw [← nI_0, nI_eq (by omega) (by omega)] <;> omega)
      rw [← nI_0] at c4
      rw [nI_eq (by omega) (by omega)] at c4
      refine lv_iconst (v := (nI 0)) X.1 X.2.1 d_joins_36 (by decide) ?_
      exact m_retz hQQ X Y hr hlk rfl ⟨(fun j  => rfl), rfl, (fun j  => rfl), rfl, rfl⟩ d_joins_37
set_option maxHeartbeats 4000000 in
set_option maxRecDepth 100000 in
theorem c_shift_new (l : Launch) (D : mD) (E : mE) (h : Nat) (q : Nat → Nat) (sz : Nat) (I : Nat → Int32) (J : Nat → Int64) (B : Nat → Nat → Int32) (G : Nat → Nat → Int64) (a1 a2 : Int32) (ha : ∀ j, B 91 j = nI 0) : Met l y_shift (k_shift :: lw_tg) (mR 1 21) (va_Pc [.ref h, .int a1, .int a2] (mPre D E h q (I, J, B, G) sz)) (va_Qi (fun (r : Int32) (u : mS) => (∀ j, u.1 j = I j) ∧ u.2.1 = J ∧ (∀ j, u.2.2.1 j = B j) ∧ u.2.2.2 = G ∧ (r = nI 0)) (mPost D E h q (mA E h q sz)) (mA E h q sz)) 0 0 (mA E h q sz) := by
  refine m_enter (by decide) rfl (Nat.le_of_ble_eq_true rfl) (fun p e s m below meth c ls AV QQ H locs hQQ X Y hZ hA hr hlk hml hl => ?_)
  have Y : mH D E (mA E h q sz) s.heap h q I J B G H locs := Y
  have hl : lv_has ls 3 [(0, .ref h), (1, .int a1), (2, .int a2)] := hl
  refine lv_aload_n X.1 X.2.1 d_shift_0 rfl (lv_at hl 0 rfl) ?_
  refine lv_iload_n X.1 X.2.1 d_shift_1 rfl (lv_at hl 1 rfl) ?_
  refine m_calli (As := [.int a1]) (rest := []) (n := 1) X Y hZ hA hml hl.1 (c_hasAgent_none l D E h q H.size I J B G a1 (show ∀ j, B 91 j = nI 0 from ha)) kl_hasAgent ks_hasAgent kx_hasAgent ki_hasAgent ini_M hd_hasAgent ⟨by decide, by decide⟩ rfl (Nat.le_of_ble_eq_true rfl) d_shift_2 ⟨Nat.le_refl _, Nat.le_refl _⟩ (fun r9 u H locs hp Y => ?_)
  obtain ⟨I1, J2, B3, G4⟩ := u
  obtain ⟨hI5, eJ7, hB6, eG8, pr9⟩ := hp
  dsimp only at hI5 eJ7 hB6 eG8 pr9 Y
  rw [eJ7, eG8] at Y
  rw [show I1 = I from funext hI5] at Y
  rw [show B3 = B from funext hB6] at Y
  refine t_eq pr9 ?_
  refine lv_if_eq (tgt := 22) X.1 X.2.1 d_shift_5 (by decide) (fun c12 => ?_) (fun c12 => absurd ?_ c12)
  rotate_left
  · (rw [← nI_0, nI_eq (by omega) (by omega)] <;> omega)
  rw [← nI_0] at c12
  rw [nI_eq (by omega) (by omega)] at c12
  refine lv_iconst (v := (nI 0)) X.1 X.2.1 d_shift_22 (by decide) ?_
  exact m_retz hQQ X Y hr hlk rfl ⟨(fun j  => rfl), rfl, (fun j  => rfl), rfl, rfl⟩ d_shift_23
set_option maxHeartbeats 4000000 in
set_option maxRecDepth 100000 in
theorem c_take_new (l : Launch) (D : mD) (E : mE) (h : Nat) (q : Nat → Nat) (sz : Nat) (I : Nat → Int32) (J : Nat → Int64) (B : Nat → Nat → Int32) (G : Nat → Nat → Int64) (a1 : Int32) (hn : I 2 = nI 0) (ha : ∀ j, B 91 j = nI 0) : Met l y_take (k_take :: lw_tg) (mR 1 21) (va_Pc [.ref h, .int a1] (mPre D E h q (I, J, B, G) sz)) (va_Qi (fun (r : Int32) (u : mS) => (∀ j, j ≠ 2 → u.1 j = I j) ∧ u.2.1 = J ∧ (∀ j, u.2.2.1 j = B j) ∧ u.2.2.2 = G ∧ (r = (-1))) (mPost D E h q (mA E h q sz)) (mA E h q sz)) 0 0 (mA E h q sz) := by
  refine m_enter (by decide) rfl (Nat.le_of_ble_eq_true rfl) (fun p e s m below meth c ls AV QQ H locs hQQ X Y hZ hA hr hlk hml hl => ?_)
  have Y : mH D E (mA E h q sz) s.heap h q I J B G H locs := Y
  have hl : lv_has ls 12 [(0, .ref h), (1, .int a1)] := hl
  refine lv_aload_n X.1 X.2.1 d_take_0 rfl (lv_at hl 0 rfl) ?_
  refine m_get X Y 2 (by decide) lk_length (gf_length _ _ _) rfl d_take_1 ?_
  refine t_eq (show I 2 = nI (0) from hn) ?_
  refine lv_istore_n (lv' := [(2, .int (nI (0))), (0, .ref h), (1, .int a1)]) X.1 X.2.1 d_take_4 rfl hl (by decide) rfl (fun ls hl => ?_)
  refine lv_aload_n X.1 X.2.1 d_take_5 rfl (lv_at hl 1 rfl) ?_
  refine lv_iconst (v := (nI 0)) X.1 X.2.1 d_take_6 (by decide) ?_
  refine m_puti X Y 2 (by decide) lk_length rfl rfl (t_M_ok 2 (by decide)) rfl rfl (sf_length _ _ _ _) (Nat.le_of_ble_eq_true rfl) d_take_7 (fun H locs Y => ?_)
  refine lv_aload_n X.1 X.2.1 d_take_10 rfl (lv_at hl 1 rfl) ?_
  refine lv_iload_n X.1 X.2.1 d_take_11 rfl (lv_at hl 2 rfl) ?_
  refine m_calli (As := [.int a1]) (rest := []) (n := 1) X Y hZ hA hml hl.1 (c_hasAgent_none l D E h q H.size (upd I 2 (nI 0)) J B G a1 (show ∀ j, B 91 j = nI 0 from ha)) kl_hasAgent ks_hasAgent kx_hasAgent ki_hasAgent ini_M hd_hasAgent ⟨by decide, by decide⟩ rfl (Nat.le_of_ble_eq_true rfl) d_take_12 ⟨Nat.le_refl _, Nat.le_refl _⟩ (fun r9 u H locs hp Y => ?_)
  obtain ⟨I1, J2, B3, G4⟩ := u
  obtain ⟨hI5, eJ7, hB6, eG8, pr9⟩ := hp
  dsimp only at hI5 eJ7 hB6 eG8 pr9 Y
  rw [eJ7, eG8] at Y
  rw [show I1 = (upd I 2 (nI 0)) from funext hI5] at Y
  rw [show B3 = B from funext hB6] at Y
  refine t_eq pr9 ?_
  refine lv_if_ne (tgt := 20) X.1 X.2.1 d_take_15 (by decide) (fun c12 => absurd c12 ?_) (fun c12 => ?_)
  · (rw [← nI_0, nI_eq (by omega) (by omega)] <;> omega)
  rw [← nI_0] at c12
  rw [nI_eq (by omega) (by omega)] at c12
  refine lv_iconst (v := (-1)) X.1 X.2.1 d_take_18 (by decide) ?_
  exact m_reti hQQ X Y hr hlk ⟨(fun j h2 => ((if_neg h2).trans rfl)), rfl, (fun j  => rfl), rfl, rfl⟩ d_take_19
set_option maxHeartbeats 4000000 in
set_option maxRecDepth 100000 in
theorem c_met_new (l : Launch) (D : mD) (E : mE) (h : Nat) (q : Nat → Nat) (sz : Nat) (I : Nat → Int32) (J : Nat → Int64) (B : Nat → Nat → Int32) (G : Nat → Nat → Int64) (a1 : Int32) (hn : I 2 = nI 0) (ha : ∀ j, B 91 j = nI 0) : Met l y_met (k_met :: lw_tg) (mR 1 21) (va_Pc [.ref h, .int a1] (mPre D E h q (I, J, B, G) sz)) (va_Qi (fun (r : Int32) (u : mS) => (∀ j, j ≠ 2 → u.1 j = I j) ∧ u.2.1 = J ∧ (∀ j, u.2.2.1 j = B j) ∧ u.2.2.2 = G ∧ (r = (-1))) (mPost D E h q (mA E h q sz)) (mA E h q sz)) 0 0 (mA E h q sz) := by
  refine m_enter (by decide) rfl (Nat.le_of_ble_eq_true rfl) (fun p e s m below meth c ls AV QQ H locs hQQ X Y hZ hA hr hlk hml hl => ?_)
  have Y : mH D E (mA E h q sz) s.heap h q I J B G H locs := Y
  have hl : lv_has ls 4 [(0, .ref h), (1, .int a1)] := hl
  refine lv_aload_n X.1 X.2.1 d_met_0 rfl (lv_at hl 0 rfl) ?_
  refine m_get X Y 2 (by decide) lk_length (gf_length _ _ _) rfl d_met_1 ?_
  refine t_eq (show I 2 = nI (0) from hn) ?_
  refine lv_istore_n (lv' := [(2, .int (nI (0))), (0, .ref h), (1, .int a1)]) X.1 X.2.1 d_met_4 rfl hl (by decide) rfl (fun ls hl => ?_)
  refine lv_aload_n X.1 X.2.1 d_met_5 rfl (lv_at hl 1 rfl) ?_
  refine lv_iconst (v := (nI 0)) X.1 X.2.1 d_met_6 (by decide) ?_
  refine m_puti X Y 2 (by decide) lk_length rfl rfl (t_M_ok 2 (by decide)) rfl rfl (sf_length _ _ _ _) (Nat.le_of_ble_eq_true rfl) d_met_7 (fun H locs Y => ?_)
  refine lv_aload_n X.1 X.2.1 d_met_10 rfl (lv_at hl 1 rfl) ?_
  refine lv_iload_n X.1 X.2.1 d_met_11 rfl (lv_at hl 2 rfl) ?_
  refine m_calli (As := [.int a1]) (rest := []) (n := 1) X Y hZ hA hml hl.1 (c_hasAgent_none l D E h q H.size (upd I 2 (nI 0)) J B G a1 (show ∀ j, B 91 j = nI 0 from ha)) kl_hasAgent ks_hasAgent kx_hasAgent ki_hasAgent ini_M hd_hasAgent ⟨by decide, by decide⟩ rfl (Nat.le_of_ble_eq_true rfl) d_met_12 ⟨Nat.le_refl _, Nat.le_refl _⟩ (fun r9 u H locs hp Y => ?_)
  obtain ⟨I1, J2, B3, G4⟩ := u
  obtain ⟨hI5, eJ7, hB6, eG8, pr9⟩ := hp
  dsimp only at hI5 eJ7 hB6 eG8 pr9 Y
  rw [eJ7, eG8] at Y
  rw [show I1 = (upd I 2 (nI 0)) from funext hI5] at Y
  rw [show B3 = B from funext hB6] at Y
  refine t_eq pr9 ?_
  refine lv_if_ne (tgt := 20) X.1 X.2.1 d_met_15 (by decide) (fun c12 => absurd c12 ?_) (fun c12 => ?_)
  · (rw [← nI_0, nI_eq (by omega) (by omega)] <;> omega)
  rw [← nI_0] at c12
  rw [nI_eq (by omega) (by omega)] at c12
  refine lv_iconst (v := (-1)) X.1 X.2.1 d_met_18 (by decide) ?_
  exact m_reti hQQ X Y hr hlk ⟨(fun j h2 => ((if_neg h2).trans rfl)), rfl, (fun j  => rfl), rfl, rfl⟩ d_met_19
set_option maxHeartbeats 4000000 in
set_option maxRecDepth 100000 in
theorem c_ticket_new (l : Launch) (D : mD) (E : mE) (h : Nat) (q : Nat → Nat) (sz : Nat) (I : Nat → Int32) (J : Nat → Int64) (B : Nat → Nat → Int32) (G : Nat → Nat → Int64) (a1 a2 a3 : Int32) (ha : ∀ j, B 91 j = nI 0) : Met l y_ticket (k_ticket :: lw_tg) (mR 2 43) (va_Pc [.ref h, .int a1, .int a2, .int a3] (mPre D E h q (I, J, B, G) sz)) (va_Qi (fun (r : Int32) (u : mS) => (∀ j, u.1 j = I j) ∧ u.2.1 = J ∧ (∀ j, u.2.2.1 j = B j) ∧ u.2.2.2 = G ∧ (r = (-1))) (mPost D E h q (mA E h q sz)) (mA E h q sz)) 0 0 (mA E h q sz) := by
  refine m_enter (by decide) rfl (Nat.le_of_ble_eq_true rfl) (fun p e s m below meth c ls AV QQ H locs hQQ X Y hZ hA hr hlk hml hl => ?_)
  have Y : mH D E (mA E h q sz) s.heap h q I J B G H locs := Y
  have hl : lv_has ls 5 [(0, .ref h), (1, .int a1), (2, .int a2), (3, .int a3)] := hl
  refine lv_aload_n X.1 X.2.1 d_ticket_0 rfl (lv_at hl 0 rfl) ?_
  refine lv_iload_n X.1 X.2.1 d_ticket_1 rfl (lv_at hl 1 rfl) ?_
  refine lv_iload_n X.1 X.2.1 d_ticket_2 rfl (lv_at hl 2 rfl) ?_
  refine m_calli (As := [.int a1, .int a2]) (rest := []) (n := 2) X Y hZ hA hml hl.1 (c_hasTicket_none l D E h q H.size I J B G a1 a2 (show ∀ j, B 91 j = nI 0 from ha)) kl_hasTicket ks_hasTicket kx_hasTicket ki_hasTicket ini_M hd_hasTicket ⟨by decide, by decide⟩ rfl (Nat.le_of_ble_eq_true rfl) d_ticket_3 ⟨Nat.le_refl _, Nat.le_refl _⟩ (fun r9 u H locs hp Y => ?_)
  obtain ⟨I1, J2, B3, G4⟩ := u
  obtain ⟨hI5, eJ7, hB6, eG8, pr9⟩ := hp
  dsimp only at hI5 eJ7 hB6 eG8 pr9 Y
  rw [eJ7, eG8] at Y
  rw [show I1 = I from funext hI5] at Y
  rw [show B3 = B from funext hB6] at Y
  refine t_eq pr9 ?_
  refine lv_if_ne (tgt := 11) X.1 X.2.1 d_ticket_6 (by decide) (fun c12 => absurd c12 ?_) (fun c12 => ?_)
  · (rw [← nI_0, nI_eq (by omega) (by omega)] <;> omega)
  rw [← nI_0] at c12
  rw [nI_eq (by omega) (by omega)] at c12
  refine lv_iconst (v := (-1)) X.1 X.2.1 d_ticket_9 (by decide) ?_
  exact m_reti hQQ X Y hr hlk ⟨(fun j  => rfl), rfl, (fun j  => rfl), rfl, rfl⟩ d_ticket_10
set_option maxHeartbeats 4000000 in
set_option maxRecDepth 100000 in
theorem c_drop_new (l : Launch) (D : mD) (E : mE) (h : Nat) (q : Nat → Nat) (sz : Nat) (I : Nat → Int32) (J : Nat → Int64) (B : Nat → Nat → Int32) (G : Nat → Nat → Int64) (a1 a2 : Int32) (ha : ∀ j, B 91 j = nI 0) : Met l y_drop (k_drop :: lw_tg) (mR 2 43) (va_Pc [.ref h, .int a1, .int a2] (mPre D E h q (I, J, B, G) sz)) (va_Qi (fun (r : Int32) (u : mS) => (∀ j, u.1 j = I j) ∧ u.2.1 = J ∧ (∀ j, u.2.2.1 j = B j) ∧ u.2.2.2 = G ∧ (r = nI 0)) (mPost D E h q (mA E h q sz)) (mA E h q sz)) 0 0 (mA E h q sz) := by
  refine m_enter (by decide) rfl (Nat.le_of_ble_eq_true rfl) (fun p e s m below meth c ls AV QQ H locs hQQ X Y hZ hA hr hlk hml hl => ?_)
  have Y : mH D E (mA E h q sz) s.heap h q I J B G H locs := Y
  have hl : lv_has ls 3 [(0, .ref h), (1, .int a1), (2, .int a2)] := hl
  refine lv_aload_n X.1 X.2.1 d_drop_0 rfl (lv_at hl 0 rfl) ?_
  refine lv_iload_n X.1 X.2.1 d_drop_1 rfl (lv_at hl 1 rfl) ?_
  refine lv_iload_n X.1 X.2.1 d_drop_2 rfl (lv_at hl 2 rfl) ?_
  refine m_calli (As := [.int a1, .int a2]) (rest := []) (n := 2) X Y hZ hA hml hl.1 (c_hasTicket_none l D E h q H.size I J B G a1 a2 (show ∀ j, B 91 j = nI 0 from ha)) kl_hasTicket ks_hasTicket kx_hasTicket ki_hasTicket ini_M hd_hasTicket ⟨by decide, by decide⟩ rfl (Nat.le_of_ble_eq_true rfl) d_drop_3 ⟨Nat.le_refl _, Nat.le_refl _⟩ (fun r9 u H locs hp Y => ?_)
  obtain ⟨I1, J2, B3, G4⟩ := u
  obtain ⟨hI5, eJ7, hB6, eG8, pr9⟩ := hp
  dsimp only at hI5 eJ7 hB6 eG8 pr9 Y
  rw [eJ7, eG8] at Y
  rw [show I1 = I from funext hI5] at Y
  rw [show B3 = B from funext hB6] at Y
  refine t_eq pr9 ?_
  refine lv_if_ne (tgt := 11) X.1 X.2.1 d_drop_6 (by decide) (fun c12 => absurd c12 ?_) (fun c12 => ?_)
  · (rw [← nI_0, nI_eq (by omega) (by omega)] <;> omega)
  rw [← nI_0] at c12
  rw [nI_eq (by omega) (by omega)] at c12
  refine lv_iconst (v := (nI 0)) X.1 X.2.1 d_drop_9 (by decide) ?_
  exact m_retz hQQ X Y hr hlk rfl ⟨(fun j  => rfl), rfl, (fun j  => rfl), rfl, rfl⟩ d_drop_10
set_option maxHeartbeats 4000000 in
set_option maxRecDepth 100000 in
theorem c_present_new (l : Launch) (D : mD) (E : mE) (h : Nat) (q : Nat → Nat) (sz : Nat) (I : Nat → Int32) (J : Nat → Int64) (B : Nat → Nat → Int32) (G : Nat → Nat → Int64) (a1 a2 a3 : Int32) (ha : ∀ j, B 91 j = nI 0) : Met l y_present (k_present :: lw_tg) (mR 2 43) (va_Pc [.ref h, .int a1, .int a2, .int a3] (mPre D E h q (I, J, B, G) sz)) (va_Qi (fun (r : Int32) (u : mS) => (∀ j, u.1 j = I j) ∧ u.2.1 = J ∧ (∀ j, u.2.2.1 j = B j) ∧ u.2.2.2 = G ∧ (r = (-1))) (mPost D E h q (mA E h q sz)) (mA E h q sz)) 0 0 (mA E h q sz) := by
  refine m_enter (by decide) rfl (Nat.le_of_ble_eq_true rfl) (fun p e s m below meth c ls AV QQ H locs hQQ X Y hZ hA hr hlk hml hl => ?_)
  have Y : mH D E (mA E h q sz) s.heap h q I J B G H locs := Y
  have hl : lv_has ls 9 [(0, .ref h), (1, .int a1), (2, .int a2), (3, .int a3)] := hl
  refine lv_aload_n X.1 X.2.1 d_present_0 rfl (lv_at hl 0 rfl) ?_
  refine lv_iload_n X.1 X.2.1 d_present_1 rfl (lv_at hl 1 rfl) ?_
  refine lv_iload_n X.1 X.2.1 d_present_2 rfl (lv_at hl 2 rfl) ?_
  refine m_calli (As := [.int a1, .int a2]) (rest := []) (n := 2) X Y hZ hA hml hl.1 (c_hasTicket_none l D E h q H.size I J B G a1 a2 (show ∀ j, B 91 j = nI 0 from ha)) kl_hasTicket ks_hasTicket kx_hasTicket ki_hasTicket ini_M hd_hasTicket ⟨by decide, by decide⟩ rfl (Nat.le_of_ble_eq_true rfl) d_present_3 ⟨Nat.le_refl _, Nat.le_refl _⟩ (fun r9 u H locs hp Y => ?_)
  obtain ⟨I1, J2, B3, G4⟩ := u
  obtain ⟨hI5, eJ7, hB6, eG8, pr9⟩ := hp
  dsimp only at hI5 eJ7 hB6 eG8 pr9 Y
  rw [eJ7, eG8] at Y
  rw [show I1 = I from funext hI5] at Y
  rw [show B3 = B from funext hB6] at Y
  refine t_eq pr9 ?_
  refine lv_if_eq (tgt := 18) X.1 X.2.1 d_present_6 (by decide) (fun c12 => ?_) (fun c12 => absurd ?_ c12)
  rotate_left
  · (rw [← nI_0, nI_eq (by omega) (by omega)] <;> omega)
  rw [← nI_0] at c12
  rw [nI_eq (by omega) (by omega)] at c12
  refine lv_iconst (v := (-1)) X.1 X.2.1 d_present_18 (by decide) ?_
  exact m_reti hQQ X Y hr hlk ⟨(fun j  => rfl), rfl, (fun j  => rfl), rfl, rfl⟩ d_present_19
set_option maxHeartbeats 4000000 in
set_option maxRecDepth 100000 in
theorem c_send_new (l : Launch) (D : mD) (E : mE) (h : Nat) (q : Nat → Nat) (sz : Nat) (I : Nat → Int32) (J : Nat → Int64) (B : Nat → Nat → Int32) (G : Nat → Nat → Int64) (a1 a2 : Int32) (hn : I 2 = nI 0) (hs : ∀ j, B 133 j = nI 0) : Met l y_send (k_send :: lw_tg) (mR 1 22) (va_Pc [.ref h, .int a1, .int a2] (mPre D E h q (I, J, B, G) sz)) (va_Qi (fun (r : Int32) (u : mS) => (∀ j, j ≠ 2 → u.1 j = I j) ∧ u.2.1 = J ∧ (∀ j, u.2.2.1 j = B j) ∧ u.2.2.2 = G ∧ (r = (-1))) (mPost D E h q (mA E h q sz)) (mA E h q sz)) 0 0 (mA E h q sz) := by
  refine m_enter (by decide) rfl (Nat.le_of_ble_eq_true rfl) (fun p e s m below meth c ls AV QQ H locs hQQ X Y hZ hA hr hlk hml hl => ?_)
  have Y : mH D E (mA E h q sz) s.heap h q I J B G H locs := Y
  have hl : lv_has ls 6 [(0, .ref h), (1, .int a1), (2, .int a2)] := hl
  refine lv_aload_n X.1 X.2.1 d_send_0 rfl (lv_at hl 0 rfl) ?_
  refine m_get X Y 2 (by decide) lk_length (gf_length _ _ _) rfl d_send_1 ?_
  refine t_eq (show I 2 = nI (0) from hn) ?_
  refine lv_istore_n (lv' := [(3, .int (nI (0))), (0, .ref h), (1, .int a1), (2, .int a2)]) X.1 X.2.1 d_send_4 rfl hl (by decide) rfl (fun ls hl => ?_)
  refine lv_aload_n X.1 X.2.1 d_send_5 rfl (lv_at hl 1 rfl) ?_
  refine lv_iload_n X.1 X.2.1 d_send_6 rfl (lv_at hl 2 rfl) ?_
  refine lv_iload_n X.1 X.2.1 d_send_7 rfl (lv_at hl 3 rfl) ?_
  refine m_calli (As := [.int a1, .int a2]) (rest := []) (n := 2) X Y hZ hA hml hl.1 (c_hasSide_none l D E h q H.size I J B G a1 a2 (show ∀ j, B 133 j = nI 0 from hs)) kl_hasSide ks_hasSide kx_hasSide ki_hasSide ini_M hd_hasSide ⟨by decide, by decide⟩ rfl (Nat.le_of_ble_eq_true rfl) d_send_8 ⟨Nat.le_refl _, Nat.le_refl _⟩ (fun r9 u H locs hp Y => ?_)
  obtain ⟨I1, J2, B3, G4⟩ := u
  obtain ⟨hI5, eJ7, hB6, eG8, pr9⟩ := hp
  dsimp only at hI5 eJ7 hB6 eG8 pr9 Y
  rw [eJ7, eG8] at Y
  rw [show I1 = I from funext hI5] at Y
  rw [show B3 = B from funext hB6] at Y
  refine t_eq pr9 ?_
  refine lv_if_eq (tgt := 25) X.1 X.2.1 d_send_11 (by decide) (fun c12 => ?_) (fun c12 => absurd ?_ c12)
  rotate_left
  · (rw [← nI_0, nI_eq (by omega) (by omega)] <;> omega)
  rw [← nI_0] at c12
  rw [nI_eq (by omega) (by omega)] at c12
  refine lv_iconst (v := (nI 0)) X.1 X.2.1 d_send_25 (by decide) ?_
  refine lv_istore (lv' := [(4, .int (nI 0)), (3, .int (nI (0))), (0, .ref h), (1, .int a1), (2, .int a2)]) X.1 X.2.1 d_send_26 hl (by decide) rfl (fun ls hl => ?_)
  refine lv_aload_n X.1 X.2.1 d_send_28 rfl (lv_at hl 2 rfl) ?_
  refine lv_iconst (v := (nI 0)) X.1 X.2.1 d_send_29 (by decide) ?_
  refine m_puti X Y 2 (by decide) lk_length rfl rfl (t_M_ok 2 (by decide)) rfl rfl (sf_length _ _ _ _) (Nat.le_of_ble_eq_true rfl) d_send_30 (fun H locs Y => ?_)
  refine lv_iload X.1 X.2.1 d_send_33 (lv_at hl 0 rfl) ?_
  refine lv_if_ne (tgt := 40) X.1 X.2.1 d_send_35 (by decide) (fun c13 => absurd c13 ?_) (fun c13 => ?_)
  · (rw [← nI_0, nI_eq (by omega) (by omega)] <;> omega)
  rw [← nI_0] at c13
  rw [nI_eq (by omega) (by omega)] at c13
  refine lv_iconst (v := (-1)) X.1 X.2.1 d_send_38 (by decide) ?_
  exact m_reti hQQ X Y hr hlk ⟨(fun j h2 => ((if_neg h2).trans rfl)), rfl, (fun j  => rfl), rfl, rfl⟩ d_send_39
set_option maxHeartbeats 4000000 in
set_option maxRecDepth 100000 in
theorem c_receive_new (l : Launch) (D : mD) (E : mE) (h : Nat) (q : Nat → Nat) (sz : Nat) (I : Nat → Int32) (J : Nat → Int64) (B : Nat → Nat → Int32) (G : Nat → Nat → Int64) (a1 a2 : Int32) (hn : I 2 = nI 0) (hs : ∀ j, B 133 j = nI 0) : Met l y_receive (k_receive :: lw_tg) (mR 1 22) (va_Pc [.ref h, .int a1, .int a2] (mPre D E h q (I, J, B, G) sz)) (va_Qi (fun (r : Int32) (u : mS) => (∀ j, j ≠ 2 → u.1 j = I j) ∧ u.2.1 = J ∧ (∀ j, u.2.2.1 j = B j) ∧ u.2.2.2 = G ∧ (r = (-1))) (mPost D E h q (mA E h q sz)) (mA E h q sz)) 0 0 (mA E h q sz) := by
  refine m_enter (by decide) rfl (Nat.le_of_ble_eq_true rfl) (fun p e s m below meth c ls AV QQ H locs hQQ X Y hZ hA hr hlk hml hl => ?_)
  have Y : mH D E (mA E h q sz) s.heap h q I J B G H locs := Y
  have hl : lv_has ls 5 [(0, .ref h), (1, .int a1), (2, .int a2)] := hl
  refine lv_aload_n X.1 X.2.1 d_receive_0 rfl (lv_at hl 0 rfl) ?_
  refine m_get X Y 2 (by decide) lk_length (gf_length _ _ _) rfl d_receive_1 ?_
  refine t_eq (show I 2 = nI (0) from hn) ?_
  refine lv_istore_n (lv' := [(3, .int (nI (0))), (0, .ref h), (1, .int a1), (2, .int a2)]) X.1 X.2.1 d_receive_4 rfl hl (by decide) rfl (fun ls hl => ?_)
  refine lv_aload_n X.1 X.2.1 d_receive_5 rfl (lv_at hl 1 rfl) ?_
  refine lv_iconst (v := (nI 0)) X.1 X.2.1 d_receive_6 (by decide) ?_
  refine m_puti X Y 2 (by decide) lk_length rfl rfl (t_M_ok 2 (by decide)) rfl rfl (sf_length _ _ _ _) (Nat.le_of_ble_eq_true rfl) d_receive_7 (fun H locs Y => ?_)
  refine lv_aload_n X.1 X.2.1 d_receive_10 rfl (lv_at hl 1 rfl) ?_
  refine lv_iload_n X.1 X.2.1 d_receive_11 rfl (lv_at hl 2 rfl) ?_
  refine lv_iload_n X.1 X.2.1 d_receive_12 rfl (lv_at hl 3 rfl) ?_
  refine m_calli (As := [.int a1, .int a2]) (rest := []) (n := 2) X Y hZ hA hml hl.1 (c_hasSide_none l D E h q H.size (upd I 2 (nI 0)) J B G a1 a2 (show ∀ j, B 133 j = nI 0 from hs)) kl_hasSide ks_hasSide kx_hasSide ki_hasSide ini_M hd_hasSide ⟨by decide, by decide⟩ rfl (Nat.le_of_ble_eq_true rfl) d_receive_13 ⟨Nat.le_refl _, Nat.le_refl _⟩ (fun r9 u H locs hp Y => ?_)
  obtain ⟨I1, J2, B3, G4⟩ := u
  obtain ⟨hI5, eJ7, hB6, eG8, pr9⟩ := hp
  dsimp only at hI5 eJ7 hB6 eG8 pr9 Y
  rw [eJ7, eG8] at Y
  rw [show I1 = (upd I 2 (nI 0)) from funext hI5] at Y
  rw [show B3 = B from funext hB6] at Y
  refine t_eq pr9 ?_
  refine lv_if_ne (tgt := 21) X.1 X.2.1 d_receive_16 (by decide) (fun c12 => absurd c12 ?_) (fun c12 => ?_)
  · (rw [← nI_0, nI_eq (by omega) (by omega)] <;> omega)
  rw [← nI_0] at c12
  rw [nI_eq (by omega) (by omega)] at c12
  refine lv_iconst (v := (-1)) X.1 X.2.1 d_receive_19 (by decide) ?_
  exact m_reti hQQ X Y hr hlk ⟨(fun j h2 => ((if_neg h2).trans rfl)), rfl, (fun j  => rfl), rfl, rfl⟩ d_receive_20
set_option maxHeartbeats 4000000 in
set_option maxRecDepth 100000 in
theorem c_assure_new (l : Launch) (D : mD) (E : mE) (h : Nat) (q : Nat → Nat) (sz : Nat) (I : Nat → Int32) (J : Nat → Int64) (B : Nat → Nat → Int32) (G : Nat → Nat → Int64) (a1 a2 : Int32) (hn : I 2 = nI 0) (hs : ∀ j, B 133 j = nI 0) : Met l y_assure (k_assure :: lw_tg) (mR 1 22) (va_Pc [.ref h, .int a1, .int a2] (mPre D E h q (I, J, B, G) sz)) (va_Qi (fun (r : Int32) (u : mS) => (∀ j, j ≠ 2 → u.1 j = I j) ∧ u.2.1 = J ∧ (∀ j, u.2.2.1 j = B j) ∧ u.2.2.2 = G ∧ (r = (-1))) (mPost D E h q (mA E h q sz)) (mA E h q sz)) 0 0 (mA E h q sz) := by
  refine m_enter (by decide) rfl (Nat.le_of_ble_eq_true rfl) (fun p e s m below meth c ls AV QQ H locs hQQ X Y hZ hA hr hlk hml hl => ?_)
  have Y : mH D E (mA E h q sz) s.heap h q I J B G H locs := Y
  have hl : lv_has ls 7 [(0, .ref h), (1, .int a1), (2, .int a2)] := hl
  refine lv_aload_n X.1 X.2.1 d_assure_0 rfl (lv_at hl 0 rfl) ?_
  refine m_get X Y 2 (by decide) lk_length (gf_length _ _ _) rfl d_assure_1 ?_
  refine t_eq (show I 2 = nI (0) from hn) ?_
  refine lv_istore_n (lv' := [(3, .int (nI (0))), (0, .ref h), (1, .int a1), (2, .int a2)]) X.1 X.2.1 d_assure_4 rfl hl (by decide) rfl (fun ls hl => ?_)
  refine lv_aload_n X.1 X.2.1 d_assure_5 rfl (lv_at hl 1 rfl) ?_
  refine lv_iload_n X.1 X.2.1 d_assure_6 rfl (lv_at hl 2 rfl) ?_
  refine lv_iload_n X.1 X.2.1 d_assure_7 rfl (lv_at hl 3 rfl) ?_
  refine m_calli (As := [.int a1, .int a2]) (rest := []) (n := 2) X Y hZ hA hml hl.1 (c_hasSide_none l D E h q H.size I J B G a1 a2 (show ∀ j, B 133 j = nI 0 from hs)) kl_hasSide ks_hasSide kx_hasSide ki_hasSide ini_M hd_hasSide ⟨by decide, by decide⟩ rfl (Nat.le_of_ble_eq_true rfl) d_assure_8 ⟨Nat.le_refl _, Nat.le_refl _⟩ (fun r9 u H locs hp Y => ?_)
  obtain ⟨I1, J2, B3, G4⟩ := u
  obtain ⟨hI5, eJ7, hB6, eG8, pr9⟩ := hp
  dsimp only at hI5 eJ7 hB6 eG8 pr9 Y
  rw [eJ7, eG8] at Y
  rw [show I1 = I from funext hI5] at Y
  rw [show B3 = B from funext hB6] at Y
  refine t_eq pr9 ?_
  refine lv_if_eq (tgt := 25) X.1 X.2.1 d_assure_11 (by decide) (fun c12 => ?_) (fun c12 => absurd ?_ c12)
  rotate_left
  · (rw [← nI_0, nI_eq (by omega) (by omega)] <;> omega)
  rw [← nI_0] at c12
  rw [nI_eq (by omega) (by omega)] at c12
  refine lv_iconst (v := (nI 0)) X.1 X.2.1 d_assure_25 (by decide) ?_
  refine lv_istore (lv' := [(4, .int (nI 0)), (3, .int (nI (0))), (0, .ref h), (1, .int a1), (2, .int a2)]) X.1 X.2.1 d_assure_26 hl (by decide) rfl (fun ls hl => ?_)
  refine lv_aload_n X.1 X.2.1 d_assure_28 rfl (lv_at hl 2 rfl) ?_
  refine lv_iconst (v := (nI 0)) X.1 X.2.1 d_assure_29 (by decide) ?_
  refine m_puti X Y 2 (by decide) lk_length rfl rfl (t_M_ok 2 (by decide)) rfl rfl (sf_length _ _ _ _) (Nat.le_of_ble_eq_true rfl) d_assure_30 (fun H locs Y => ?_)
  refine lv_iload X.1 X.2.1 d_assure_33 (lv_at hl 0 rfl) ?_
  refine lv_if_ne (tgt := 40) X.1 X.2.1 d_assure_35 (by decide) (fun c13 => absurd c13 ?_) (fun c13 => ?_)
  · (rw [← nI_0, nI_eq (by omega) (by omega)] <;> omega)
  rw [← nI_0] at c13
  rw [nI_eq (by omega) (by omega)] at c13
  refine lv_iconst (v := (-1)) X.1 X.2.1 d_assure_38 (by decide) ?_
  exact m_reti hQQ X Y hr hlk ⟨(fun j h2 => ((if_neg h2).trans rfl)), rfl, (fun j  => rfl), rfl, rfl⟩ d_assure_39
set_option maxHeartbeats 4000000 in
set_option maxRecDepth 100000 in
theorem c_assured_new (l : Launch) (D : mD) (E : mE) (h : Nat) (q : Nat → Nat) (sz : Nat) (I : Nat → Int32) (J : Nat → Int64) (B : Nat → Nat → Int32) (G : Nat → Nat → Int64) (a1 a2 : Int32) (hn : I 2 = nI 0) (hs : ∀ j, B 133 j = nI 0) : Met l y_assured (k_assured :: lw_tg) (mR 1 22) (va_Pc [.ref h, .int a1, .int a2] (mPre D E h q (I, J, B, G) sz)) (va_Qi (fun (r : Int32) (u : mS) => (∀ j, j ≠ 2 → u.1 j = I j) ∧ u.2.1 = J ∧ (∀ j, u.2.2.1 j = B j) ∧ u.2.2.2 = G ∧ (r = (-1))) (mPost D E h q (mA E h q sz)) (mA E h q sz)) 0 0 (mA E h q sz) := by
  refine m_enter (by decide) rfl (Nat.le_of_ble_eq_true rfl) (fun p e s m below meth c ls AV QQ H locs hQQ X Y hZ hA hr hlk hml hl => ?_)
  have Y : mH D E (mA E h q sz) s.heap h q I J B G H locs := Y
  have hl : lv_has ls 5 [(0, .ref h), (1, .int a1), (2, .int a2)] := hl
  refine lv_aload_n X.1 X.2.1 d_assured_0 rfl (lv_at hl 0 rfl) ?_
  refine m_get X Y 2 (by decide) lk_length (gf_length _ _ _) rfl d_assured_1 ?_
  refine t_eq (show I 2 = nI (0) from hn) ?_
  refine lv_istore_n (lv' := [(3, .int (nI (0))), (0, .ref h), (1, .int a1), (2, .int a2)]) X.1 X.2.1 d_assured_4 rfl hl (by decide) rfl (fun ls hl => ?_)
  refine lv_aload_n X.1 X.2.1 d_assured_5 rfl (lv_at hl 1 rfl) ?_
  refine lv_iconst (v := (nI 0)) X.1 X.2.1 d_assured_6 (by decide) ?_
  refine m_puti X Y 2 (by decide) lk_length rfl rfl (t_M_ok 2 (by decide)) rfl rfl (sf_length _ _ _ _) (Nat.le_of_ble_eq_true rfl) d_assured_7 (fun H locs Y => ?_)
  refine lv_aload_n X.1 X.2.1 d_assured_10 rfl (lv_at hl 1 rfl) ?_
  refine lv_iload_n X.1 X.2.1 d_assured_11 rfl (lv_at hl 2 rfl) ?_
  refine lv_iload_n X.1 X.2.1 d_assured_12 rfl (lv_at hl 3 rfl) ?_
  refine m_calli (As := [.int a1, .int a2]) (rest := []) (n := 2) X Y hZ hA hml hl.1 (c_hasSide_none l D E h q H.size (upd I 2 (nI 0)) J B G a1 a2 (show ∀ j, B 133 j = nI 0 from hs)) kl_hasSide ks_hasSide kx_hasSide ki_hasSide ini_M hd_hasSide ⟨by decide, by decide⟩ rfl (Nat.le_of_ble_eq_true rfl) d_assured_13 ⟨Nat.le_refl _, Nat.le_refl _⟩ (fun r9 u H locs hp Y => ?_)
  obtain ⟨I1, J2, B3, G4⟩ := u
  obtain ⟨hI5, eJ7, hB6, eG8, pr9⟩ := hp
  dsimp only at hI5 eJ7 hB6 eG8 pr9 Y
  rw [eJ7, eG8] at Y
  rw [show I1 = (upd I 2 (nI 0)) from funext hI5] at Y
  rw [show B3 = B from funext hB6] at Y
  refine t_eq pr9 ?_
  refine lv_if_ne (tgt := 21) X.1 X.2.1 d_assured_16 (by decide) (fun c12 => absurd c12 ?_) (fun c12 => ?_)
  · (rw [← nI_0, nI_eq (by omega) (by omega)] <;> omega)
  rw [← nI_0] at c12
  rw [nI_eq (by omega) (by omega)] at c12
  refine lv_iconst (v := (-1)) X.1 X.2.1 d_assured_19 (by decide) ?_
  exact m_reti hQQ X Y hr hlk ⟨(fun j h2 => ((if_neg h2).trans rfl)), rfl, (fun j  => rfl), rfl, rfl⟩ d_assured_20
set_option maxHeartbeats 4000000 in
set_option maxRecDepth 100000 in
theorem c_hand_new (l : Launch) (D : mD) (E : mE) (h : Nat) (q : Nat → Nat) (sz : Nat) (I : Nat → Int32) (J : Nat → Int64) (B : Nat → Nat → Int32) (G : Nat → Nat → Int64) (a1 a2 : Int32) (hs : ∀ j, B 133 j = nI 0) : Met l y_hand (k_hand :: lw_tg) (mR 1 22) (va_Pc [.ref h, .int a1, .int a2] (mPre D E h q (I, J, B, G) sz)) (va_Qi (fun (r : Int32) (u : mS) => (∀ j, u.1 j = I j) ∧ u.2.1 = J ∧ (∀ j, u.2.2.1 j = B j) ∧ u.2.2.2 = G ∧ (r = (-1))) (mPost D E h q (mA E h q sz)) (mA E h q sz)) 0 0 (mA E h q sz) := by
  refine m_enter (by decide) rfl (Nat.le_of_ble_eq_true rfl) (fun p e s m below meth c ls AV QQ H locs hQQ X Y hZ hA hr hlk hml hl => ?_)
  have Y : mH D E (mA E h q sz) s.heap h q I J B G H locs := Y
  have hl : lv_has ls 7 [(0, .ref h), (1, .int a1), (2, .int a2)] := hl
  refine lv_aload_n X.1 X.2.1 d_hand_0 rfl (lv_at hl 0 rfl) ?_
  refine lv_iload_n X.1 X.2.1 d_hand_1 rfl (lv_at hl 1 rfl) ?_
  refine lv_iconst (v := (nI 0)) X.1 X.2.1 d_hand_2 (by decide) ?_
  refine m_calli (As := [.int a1, .int (nI 0)]) (rest := []) (n := 2) X Y hZ hA hml hl.1 (c_hasSide_none l D E h q H.size I J B G a1 (nI 0) (show ∀ j, B 133 j = nI 0 from hs)) kl_hasSide ks_hasSide kx_hasSide ki_hasSide ini_M hd_hasSide ⟨by decide, by decide⟩ rfl (Nat.le_of_ble_eq_true rfl) d_hand_3 ⟨Nat.le_refl _, Nat.le_refl _⟩ (fun r9 u H locs hp Y => ?_)
  obtain ⟨I1, J2, B3, G4⟩ := u
  obtain ⟨hI5, eJ7, hB6, eG8, pr9⟩ := hp
  dsimp only at hI5 eJ7 hB6 eG8 pr9 Y
  rw [eJ7, eG8] at Y
  rw [show I1 = I from funext hI5] at Y
  rw [show B3 = B from funext hB6] at Y
  refine t_eq pr9 ?_
  refine lv_if_eq (tgt := 23) X.1 X.2.1 d_hand_6 (by decide) (fun c12 => ?_) (fun c12 => absurd ?_ c12)
  rotate_left
  · (rw [← nI_0, nI_eq (by omega) (by omega)] <;> omega)
  rw [← nI_0] at c12
  rw [nI_eq (by omega) (by omega)] at c12
  refine lv_iconst (v := (-1)) X.1 X.2.1 d_hand_23 (by decide) ?_
  exact m_reti hQQ X Y hr hlk ⟨(fun j  => rfl), rfl, (fun j  => rfl), rfl, rfl⟩ d_hand_24
set_option maxHeartbeats 4000000 in
set_option maxRecDepth 100000 in
theorem c_handed_new (l : Launch) (D : mD) (E : mE) (h : Nat) (q : Nat → Nat) (sz : Nat) (I : Nat → Int32) (J : Nat → Int64) (B : Nat → Nat → Int32) (G : Nat → Nat → Int64) (a1 a2 : Int32) (hn : I 2 = nI 0) (hs : ∀ j, B 133 j = nI 0) : Met l y_handed (k_handed :: lw_tg) (mR 1 22) (va_Pc [.ref h, .int a1, .int a2] (mPre D E h q (I, J, B, G) sz)) (va_Qi (fun (r : Int32) (u : mS) => (∀ j, j ≠ 2 → u.1 j = I j) ∧ u.2.1 = J ∧ (∀ j, u.2.2.1 j = B j) ∧ u.2.2.2 = G ∧ (r = (-1))) (mPost D E h q (mA E h q sz)) (mA E h q sz)) 0 0 (mA E h q sz) := by
  refine m_enter (by decide) rfl (Nat.le_of_ble_eq_true rfl) (fun p e s m below meth c ls AV QQ H locs hQQ X Y hZ hA hr hlk hml hl => ?_)
  have Y : mH D E (mA E h q sz) s.heap h q I J B G H locs := Y
  have hl : lv_has ls 12 [(0, .ref h), (1, .int a1), (2, .int a2)] := hl
  refine lv_aload_n X.1 X.2.1 d_handed_0 rfl (lv_at hl 0 rfl) ?_
  refine m_get X Y 2 (by decide) lk_length (gf_length _ _ _) rfl d_handed_1 ?_
  refine t_eq (show I 2 = nI (0) from hn) ?_
  refine lv_istore_n (lv' := [(3, .int (nI (0))), (0, .ref h), (1, .int a1), (2, .int a2)]) X.1 X.2.1 d_handed_4 rfl hl (by decide) rfl (fun ls hl => ?_)
  refine lv_aload_n X.1 X.2.1 d_handed_5 rfl (lv_at hl 1 rfl) ?_
  refine lv_iconst (v := (nI 0)) X.1 X.2.1 d_handed_6 (by decide) ?_
  refine m_puti X Y 2 (by decide) lk_length rfl rfl (t_M_ok 2 (by decide)) rfl rfl (sf_length _ _ _ _) (Nat.le_of_ble_eq_true rfl) d_handed_7 (fun H locs Y => ?_)
  refine lv_aload_n X.1 X.2.1 d_handed_10 rfl (lv_at hl 1 rfl) ?_
  refine lv_iload_n X.1 X.2.1 d_handed_11 rfl (lv_at hl 2 rfl) ?_
  refine lv_iconst (v := (nI 1)) X.1 X.2.1 d_handed_12 (by decide) ?_
  refine m_calli (As := [.int a1, .int (nI 1)]) (rest := []) (n := 2) X Y hZ hA hml hl.1 (c_hasSide_none l D E h q H.size (upd I 2 (nI 0)) J B G a1 (nI 1) (show ∀ j, B 133 j = nI 0 from hs)) kl_hasSide ks_hasSide kx_hasSide ki_hasSide ini_M hd_hasSide ⟨by decide, by decide⟩ rfl (Nat.le_of_ble_eq_true rfl) d_handed_13 ⟨Nat.le_refl _, Nat.le_refl _⟩ (fun r9 u H locs hp Y => ?_)
  obtain ⟨I1, J2, B3, G4⟩ := u
  obtain ⟨hI5, eJ7, hB6, eG8, pr9⟩ := hp
  dsimp only at hI5 eJ7 hB6 eG8 pr9 Y
  rw [eJ7, eG8] at Y
  rw [show I1 = (upd I 2 (nI 0)) from funext hI5] at Y
  rw [show B3 = B from funext hB6] at Y
  refine t_eq pr9 ?_
  refine lv_if_eq (tgt := 27) X.1 X.2.1 d_handed_16 (by decide) (fun c12 => ?_) (fun c12 => absurd ?_ c12)
  rotate_left
  · (rw [← nI_0, nI_eq (by omega) (by omega)] <;> omega)
  rw [← nI_0] at c12
  rw [nI_eq (by omega) (by omega)] at c12
  refine lv_iconst (v := (-1)) X.1 X.2.1 d_handed_27 (by decide) ?_
  exact m_reti hQQ X Y hr hlk ⟨(fun j h2 => ((if_neg h2).trans rfl)), rfl, (fun j  => rfl), rfl, rfl⟩ d_handed_28
set_option maxHeartbeats 4000000 in
set_option maxRecDepth 100000 in
theorem c_agent_new (l : Launch) (D : mD) (E : mE) (h : Nat) (q : Nat → Nat) (sz : Nat) (I : Nat → Int32) (J : Nat → Int64) (B : Nat → Nat → Int32) (G : Nat → Nat → Int64) (a1 a2 : Int32) (hn : I 2 = nI 0) : Met l y_agent (k_agent :: lw_tg) (mR 7 157) (va_Pc [.ref h, .int a1, .int a2] (mPre D E h q (I, J, B, G) sz)) (va_Qi (fun (r : Int32) (u : mS) => (∀ j, j ≠ 2 → u.1 j = I j) ∧ u.2.1 = J ∧ (∀ j, u.2.2.1 j = B j) ∧ u.2.2.2 = G ∧ (r = nI 0)) (mPost D E h q (mA E h q sz)) (mA E h q sz)) 0 0 (mA E h q sz) := by
  refine m_enter (by decide) rfl (Nat.le_of_ble_eq_true rfl) (fun p e s m below meth c ls AV QQ H locs hQQ X Y hZ hA hr hlk hml hl => ?_)
  have Y : mH D E (mA E h q sz) s.heap h q I J B G H locs := Y
  have hl : lv_has ls 6 [(0, .ref h), (1, .int a1), (2, .int a2)] := hl
  refine lv_aload_n X.1 X.2.1 d_agent_0 rfl (lv_at hl 0 rfl) ?_
  refine lv_iconst (v := (nI 0)) X.1 X.2.1 d_agent_1 (by decide) ?_
  refine m_calli (As := [.int (nI 0)]) (rest := []) (n := 1) X Y hZ hA hml hl.1 (c_bothRead_empty l D E h q H.size I J B G (nI 0) (show I 2 = nI 0 from hn)) kl_bothRead ks_bothRead kx_bothRead ki_bothRead ini_M hd_bothRead ⟨by decide, by decide⟩ rfl (Nat.le_of_ble_eq_true rfl) d_agent_2 ⟨Nat.le_refl _, Nat.le_refl _⟩ (fun r9 u H locs hp Y => ?_)
  obtain ⟨I1, J2, B3, G4⟩ := u
  obtain ⟨hI5, eJ7, hB6, eG8, pr9⟩ := hp
  dsimp only at hI5 eJ7 hB6 eG8 pr9 Y
  rw [eJ7, eG8] at Y
  rw [show I1 = I from funext hI5] at Y
  rw [show B3 = B from funext hB6] at Y
  refine t_eq pr9 ?_
  refine lv_if_eq (tgt := 33) X.1 X.2.1 d_agent_5 (by decide) (fun c12 => ?_) (fun c12 => absurd ?_ c12)
  rotate_left
  · (rw [← nI_0, nI_eq (by omega) (by omega)] <;> omega)
  rw [← nI_0] at c12
  rw [nI_eq (by omega) (by omega)] at c12
  refine lv_iconst (v := (nI 0)) X.1 X.2.1 d_agent_33 (by decide) ?_
  refine lv_istore_n (lv' := [(3, .int (nI 0)), (0, .ref h), (1, .int a1), (2, .int a2)]) X.1 X.2.1 d_agent_34 rfl hl (by decide) rfl (fun ls hl => ?_)
  refine lv_aload_n X.1 X.2.1 d_agent_35 rfl (lv_at hl 1 rfl) ?_
  refine lv_iconst (v := (nI 0)) X.1 X.2.1 d_agent_36 (by decide) ?_
  refine m_puti X Y 2 (by decide) lk_length rfl rfl (t_M_ok 2 (by decide)) rfl rfl (sf_length _ _ _ _) (Nat.le_of_ble_eq_true rfl) d_agent_37 (fun H locs Y => ?_)
  refine lv_iload_n X.1 X.2.1 d_agent_40 rfl (lv_at hl 0 rfl) ?_
  refine lv_if_ne (tgt := 46) X.1 X.2.1 d_agent_41 (by decide) (fun c13 => absurd c13 ?_) (fun c13 => ?_)
  · (rw [← nI_0, nI_eq (by omega) (by omega)] <;> omega)
  rw [← nI_0] at c13
  rw [nI_eq (by omega) (by omega)] at c13
  refine lv_iconst (v := (nI 0)) X.1 X.2.1 d_agent_44 (by decide) ?_
  exact m_retz hQQ X Y hr hlk rfl ⟨(fun j h2 => ((if_neg h2).trans rfl)), rfl, (fun j  => rfl), rfl, rfl⟩ d_agent_45
set_option maxHeartbeats 4000000 in
set_option maxRecDepth 100000 in
theorem c_request_new (l : Launch) (D : mD) (E : mE) (h : Nat) (q : Nat → Nat) (sz : Nat) (I : Nat → Int32) (J : Nat → Int64) (B : Nat → Nat → Int32) (G : Nat → Nat → Int64) (a1 a2 a3 a4 a5 a6 a7 : Int32) (hn : I 2 = nI 0) : Met l y_request (k_request :: lw_tg) (mR 6 136) (va_Pc [.ref h, .int a1, .int a2, .int a3, .int a4, .int a5, .int a6, .int a7] (mPre D E h q (I, J, B, G) sz)) (va_Qi (fun (r : Int32) (u : mS) => (∀ j, j ≠ 2 → u.1 j = I j) ∧ u.2.1 = J ∧ (∀ j, u.2.2.1 j = B j) ∧ u.2.2.2 = G ∧ (r = (-1))) (mPost D E h q (mA E h q sz)) (mA E h q sz)) 0 0 (mA E h q sz) := by
  refine m_enter (by decide) rfl (Nat.le_of_ble_eq_true rfl) (fun p e s m below meth c ls AV QQ H locs hQQ X Y hZ hA hr hlk hml hl => ?_)
  have Y : mH D E (mA E h q sz) s.heap h q I J B G H locs := Y
  have hl : lv_has ls 18 [(0, .ref h), (1, .int a1), (2, .int a2), (3, .int a3), (4, .int a4), (5, .int a5), (6, .int a6), (7, .int a7)] := hl
  refine lv_aload_n X.1 X.2.1 d_request_0 rfl (lv_at hl 0 rfl) ?_
  refine lv_iconst (v := (nI 1)) X.1 X.2.1 d_request_1 (by decide) ?_
  refine m_calli (As := [.int (nI 1)]) (rest := []) (n := 1) X Y hZ hA hml hl.1 (c_nameRead_empty l D E h q H.size I J B G (nI 1) (show I 2 = nI 0 from hn)) kl_nameRead ks_nameRead kx_nameRead ki_nameRead ini_M hd_nameRead ⟨by decide, by decide⟩ rfl (Nat.le_of_ble_eq_true rfl) d_request_2 ⟨Nat.le_refl _, Nat.le_refl _⟩ (fun r9 u H locs hp Y => ?_)
  obtain ⟨I1, J2, B3, G4⟩ := u
  obtain ⟨hI5, eJ7, hB6, eG8, pr9⟩ := hp
  dsimp only at hI5 eJ7 hB6 eG8 pr9 Y
  rw [eJ7, eG8] at Y
  rw [show I1 = I from funext hI5] at Y
  rw [show B3 = B from funext hB6] at Y
  refine t_eq pr9 ?_
  refine lv_if_eq (tgt := 78) X.1 X.2.1 d_request_5 (by decide) (fun c12 => ?_) (fun c12 => absurd ?_ c12)
  rotate_left
  · (rw [← nI_0, nI_eq (by omega) (by omega)] <;> omega)
  rw [← nI_0] at c12
  rw [nI_eq (by omega) (by omega)] at c12
  refine lv_iconst (v := (nI 0)) X.1 X.2.1 d_request_78 (by decide) ?_
  refine lv_istore (lv' := [(8, .int (nI 0)), (0, .ref h), (1, .int a1), (2, .int a2), (3, .int a3), (4, .int a4), (5, .int a5), (6, .int a6), (7, .int a7)]) X.1 X.2.1 d_request_79 hl (by decide) rfl (fun ls hl => ?_)
  refine lv_iload X.1 X.2.1 d_request_81 (lv_at hl 0 rfl) ?_
  refine lv_if_eq (tgt := 104) X.1 X.2.1 d_request_83 (by decide) (fun c13 => ?_) (fun c13 => absurd ?_ c13)
  rotate_left
  · (rw [← nI_0, nI_eq (by omega) (by omega)] <;> omega)
  rw [← nI_0] at c13
  rw [nI_eq (by omega) (by omega)] at c13
  refine lv_iconst (v := (nI 0)) X.1 X.2.1 d_request_104 (by decide) ?_
  refine lv_istore (lv' := [(8, .int (nI 0)), (0, .ref h), (1, .int a1), (2, .int a2), (3, .int a3), (4, .int a4), (5, .int a5), (6, .int a6), (7, .int a7)]) X.1 X.2.1 d_request_105 hl (by decide) rfl (fun ls hl => ?_)
  refine lv_aload_n X.1 X.2.1 d_request_107 rfl (lv_at hl 1 rfl) ?_
  refine lv_iconst (v := (nI 0)) X.1 X.2.1 d_request_108 (by decide) ?_
  refine m_puti X Y 2 (by decide) lk_length rfl rfl (t_M_ok 2 (by decide)) rfl rfl (sf_length _ _ _ _) (Nat.le_of_ble_eq_true rfl) d_request_109 (fun H locs Y => ?_)
  refine lv_iload X.1 X.2.1 d_request_112 (lv_at hl 0 rfl) ?_
  refine lv_if_ne (tgt := 119) X.1 X.2.1 d_request_114 (by decide) (fun c14 => absurd c14 ?_) (fun c14 => ?_)
  · (rw [← nI_0, nI_eq (by omega) (by omega)] <;> omega)
  rw [← nI_0] at c14
  rw [nI_eq (by omega) (by omega)] at c14
  refine lv_iconst (v := (-1)) X.1 X.2.1 d_request_117 (by decide) ?_
  exact m_reti hQQ X Y hr hlk ⟨(fun j h2 => ((if_neg h2).trans rfl)), rfl, (fun j  => rfl), rfl, rfl⟩ d_request_118
set_option maxHeartbeats 4000000 in
set_option maxRecDepth 100000 in
theorem c_end_new (l : Launch) (D : mD) (E : mE) (h : Nat) (q : Nat → Nat) (sz : Nat) (I : Nat → Int32) (J : Nat → Int64) (B : Nat → Nat → Int32) (G : Nat → Nat → Int64) (a1 : Int32) (hn : I 2 = nI 0) : Met l y_end (k_end :: lw_tg) (mR 0 0) (va_Pc [.ref h, .int a1] (mPre D E h q (I, J, B, G) sz)) (va_Qi (fun (r : Int32) (u : mS) => (∀ j, j ≠ 2 → u.1 j = I j) ∧ u.2.1 = J ∧ (∀ j, u.2.2.1 j = B j) ∧ u.2.2.2 = G ∧ (r = (if a1 = nI 0 then nI 1 else nI 0))) (mPost D E h q (mA E h q sz)) (mA E h q sz)) 0 0 (mA E h q sz) := by
  refine m_enter (by decide) rfl (Nat.le_of_ble_eq_true rfl) (fun p e s m below meth c ls AV QQ H locs hQQ X Y hZ hA hr hlk hml hl => ?_)
  have Y : mH D E (mA E h q sz) s.heap h q I J B G H locs := Y
  have hl : lv_has ls 2 [(0, .ref h), (1, .int a1)] := hl
  refine lv_iload_n X.1 X.2.1 d_end_0 rfl (lv_at hl 1 rfl) ?_
  refine lv_if_lt (tgt := 12) X.1 X.2.1 d_end_1 (by decide) (fun c1 => ?_) (fun c1 => ?_)
  · skip
    refine lv_iconst (v := (nI 0)) X.1 X.2.1 d_end_12 (by decide) ?_
    exact m_retz hQQ X Y hr hlk rfl ⟨(fun j h2 => rfl), rfl, (fun j  => rfl), rfl, (by rw [if_neg (by simp only [Int32.lt_iff_toInt_lt, Int32.le_iff_toInt_le, ← Int32.toInt_inj, show (nI 0).toInt = 0 from rfl, show (nI 1).toInt = 1 from rfl, show (nI 2).toInt = 2 from rfl, show (nI 3).toInt = 3 from rfl, show (nI 7).toInt = 7 from rfl, show (nI 8).toInt = 8 from rfl, show (nI 63).toInt = 63 from rfl, show (nI 200).toInt = 200 from rfl, show (nI 1000000).toInt = 1000000 from rfl, show (nI 10000000).toInt = 10000000 from rfl, show (nI 2000000000).toInt = 2000000000 from rfl, show (0 : Int32).toInt = 0 from rfl, show (-1 : Int32).toInt = -1 from rfl] at c1 ⊢ <;> omega)])⟩ d_end_13
  · skip
    refine lv_iload_n X.1 X.2.1 d_end_4 rfl (lv_at hl 1 rfl) ?_
    refine lv_aload_n X.1 X.2.1 d_end_5 rfl (lv_at hl 0 rfl) ?_
    refine m_get X Y 2 (by decide) lk_length (gf_length _ _ _) rfl d_end_6 ?_
    refine t_eq (show I 2 = nI (0) from hn) ?_
    refine lv_icmp_le (tgt := 14) X.1 X.2.1 d_end_9 (by decide) (fun c2 => ?_) (fun c2 => ?_)
    · skip
      refine lv_aload_n X.1 X.2.1 d_end_14 rfl (lv_at hl 0 rfl) ?_
      refine lv_iload_n X.1 X.2.1 d_end_15 rfl (lv_at hl 1 rfl) ?_
      refine m_puti X Y 2 (by decide) lk_length rfl rfl (t_M_ok 2 (by decide)) rfl rfl (sf_length _ _ _ _) (Nat.le_of_ble_eq_true rfl) d_end_16 (fun H locs Y => ?_)
      refine lv_iconst (v := (nI 1)) X.1 X.2.1 d_end_19 (by decide) ?_
      exact m_retz hQQ X Y hr hlk rfl ⟨(fun j h2 => ((if_neg h2).trans rfl)), rfl, (fun j  => rfl), rfl, (by rw [if_pos (by simp only [Int32.lt_iff_toInt_lt, Int32.le_iff_toInt_le, ← Int32.toInt_inj, show (nI 0).toInt = 0 from rfl, show (nI 1).toInt = 1 from rfl, show (nI 2).toInt = 2 from rfl, show (nI 3).toInt = 3 from rfl, show (nI 7).toInt = 7 from rfl, show (nI 8).toInt = 8 from rfl, show (nI 63).toInt = 63 from rfl, show (nI 200).toInt = 200 from rfl, show (nI 1000000).toInt = 1000000 from rfl, show (nI 10000000).toInt = 10000000 from rfl, show (nI 2000000000).toInt = 2000000000 from rfl, show (0 : Int32).toInt = 0 from rfl, show (-1 : Int32).toInt = -1 from rfl] at c1 c2 ⊢ <;> omega)])⟩ d_end_20
    · skip
      refine lv_iconst (v := (nI 0)) X.1 X.2.1 d_end_12 (by decide) ?_
      exact m_retz hQQ X Y hr hlk rfl ⟨(fun j h2 => rfl), rfl, (fun j  => rfl), rfl, (by rw [if_neg (by simp only [Int32.lt_iff_toInt_lt, Int32.le_iff_toInt_le, ← Int32.toInt_inj, show (nI 0).toInt = 0 from rfl, show (nI 1).toInt = 1 from rfl, show (nI 2).toInt = 2 from rfl, show (nI 3).toInt = 3 from rfl, show (nI 7).toInt = 7 from rfl, show (nI 8).toInt = 8 from rfl, show (nI 63).toInt = 63 from rfl, show (nI 200).toInt = 200 from rfl, show (nI 1000000).toInt = 1000000 from rfl, show (nI 10000000).toInt = 10000000 from rfl, show (nI 2000000000).toInt = 2000000000 from rfl, show (0 : Int32).toInt = 0 from rfl, show (-1 : Int32).toInt = -1 from rfl] at c1 c2 ⊢ <;> omega)])⟩ d_end_13
set_option maxHeartbeats 4000000 in
set_option maxRecDepth 100000 in
theorem c_out_new (l : Launch) (D : mD) (E : mE) (h : Nat) (q : Nat → Nat) (sz : Nat) (I : Nat → Int32) (J : Nat → Int64) (B : Nat → Nat → Int32) (G : Nat → Nat → Int64) (a1 : Int32) (ho : I 3 = nI 0) : Met l y_out (k_out :: lw_tg) (mR 0 0) (va_Pc [.ref h, .int a1] (mPre D E h q (I, J, B, G) sz)) (va_Qi (fun (r : Int32) (u : mS) => (∀ j, u.1 j = I j) ∧ u.2.1 = J ∧ (∀ j, u.2.2.1 j = B j) ∧ u.2.2.2 = G ∧ (r = (if a1 = -1 then nI 0 else (-1)))) (mPost D E h q (mA E h q sz)) (mA E h q sz)) 0 0 (mA E h q sz) := by
  refine m_enter (by decide) rfl (Nat.le_of_ble_eq_true rfl) (fun p e s m below meth c ls AV QQ H locs hQQ X Y hZ hA hr hlk hml hl => ?_)
  have Y : mH D E (mA E h q sz) s.heap h q I J B G H locs := Y
  have hl : lv_has ls 2 [(0, .ref h), (1, .int a1)] := hl
  refine lv_iload_n X.1 X.2.1 d_out_0 rfl (lv_at hl 1 rfl) ?_
  refine lv_iconst (v := (-1)) X.1 X.2.1 d_out_1 (by decide) ?_
  refine lv_icmp_ne (tgt := 12) X.1 X.2.1 d_out_2 (by decide) (fun c1 => ?_) (fun c1 => ?_)
  · skip
    refine lv_iload_n X.1 X.2.1 d_out_12 rfl (lv_at hl 1 rfl) ?_
    refine lv_if_lt (tgt := 37) X.1 X.2.1 d_out_13 (by decide) (fun c2 => ?_) (fun c2 => ?_)
    · skip
      refine lv_iconst (v := (-1)) X.1 X.2.1 d_out_37 (by decide) ?_
      exact m_reti hQQ X Y hr hlk ⟨(fun j  => rfl), rfl, (fun j  => rfl), rfl, (by rw [if_neg (by simp only [Int32.lt_iff_toInt_lt, Int32.le_iff_toInt_le, ← Int32.toInt_inj, show (nI 0).toInt = 0 from rfl, show (nI 1).toInt = 1 from rfl, show (nI 2).toInt = 2 from rfl, show (nI 3).toInt = 3 from rfl, show (nI 7).toInt = 7 from rfl, show (nI 8).toInt = 8 from rfl, show (nI 63).toInt = 63 from rfl, show (nI 200).toInt = 200 from rfl, show (nI 1000000).toInt = 1000000 from rfl, show (nI 10000000).toInt = 10000000 from rfl, show (nI 2000000000).toInt = 2000000000 from rfl, show (0 : Int32).toInt = 0 from rfl, show (-1 : Int32).toInt = -1 from rfl] at c1 c2 ⊢ <;> omega)])⟩ d_out_38
    · skip
      refine lv_iload_n X.1 X.2.1 d_out_16 rfl (lv_at hl 1 rfl) ?_
      refine lv_aload_n X.1 X.2.1 d_out_17 rfl (lv_at hl 0 rfl) ?_
      refine m_get X Y 3 (by decide) lk_outMany (gf_outMany _ _ _) rfl d_out_18 ?_
      refine t_eq (show I 3 = nI (0) from ho) ?_
      refine lv_icmp_ge (tgt := 37) X.1 X.2.1 d_out_21 (by decide) (fun c3 => ?_) (fun c3 => ?_)
      · skip
        refine lv_iconst (v := (-1)) X.1 X.2.1 d_out_37 (by decide) ?_
        exact m_reti hQQ X Y hr hlk ⟨(fun j  => rfl), rfl, (fun j  => rfl), rfl, (by rw [if_neg (by simp only [Int32.lt_iff_toInt_lt, Int32.le_iff_toInt_le, ← Int32.toInt_inj, show (nI 0).toInt = 0 from rfl, show (nI 1).toInt = 1 from rfl, show (nI 2).toInt = 2 from rfl, show (nI 3).toInt = 3 from rfl, show (nI 7).toInt = 7 from rfl, show (nI 8).toInt = 8 from rfl, show (nI 63).toInt = 63 from rfl, show (nI 200).toInt = 200 from rfl, show (nI 1000000).toInt = 1000000 from rfl, show (nI 10000000).toInt = 10000000 from rfl, show (nI 2000000000).toInt = 2000000000 from rfl, show (0 : Int32).toInt = 0 from rfl, show (-1 : Int32).toInt = -1 from rfl] at c1 c2 c3 ⊢ <;> omega)])⟩ d_out_38
      · skip
        exact False.elim (by simp only [Int32.lt_iff_toInt_lt, Int32.le_iff_toInt_le, ← Int32.toInt_inj, show (nI 0).toInt = 0 from rfl, show (nI 1).toInt = 1 from rfl, show (nI 2).toInt = 2 from rfl, show (nI 3).toInt = 3 from rfl, show (nI 7).toInt = 7 from rfl, show (nI 8).toInt = 8 from rfl, show (nI 63).toInt = 63 from rfl, show (nI 200).toInt = 200 from rfl, show (nI 1000000).toInt = 1000000 from rfl, show (nI 10000000).toInt = 10000000 from rfl, show (nI 2000000000).toInt = 2000000000 from rfl, show (0 : Int32).toInt = 0 from rfl, show (-1 : Int32).toInt = -1 from rfl] at c1 c2 c3 <;> omega)
  · skip
    refine lv_aload_n X.1 X.2.1 d_out_5 rfl (lv_at hl 0 rfl) ?_
    refine m_get X Y 3 (by decide) lk_outMany (gf_outMany _ _ _) rfl d_out_6 ?_
    refine t_eq (show I 3 = nI (0) from ho) ?_
    refine lv_goto (tgt := 38) X.1 X.2.1 d_out_9 (by decide) ?_
    exact m_reti hQQ X Y hr hlk ⟨(fun j  => rfl), rfl, (fun j  => rfl), rfl, (by rw [if_pos (by simp only [Int32.lt_iff_toInt_lt, Int32.le_iff_toInt_le, ← Int32.toInt_inj, show (nI 0).toInt = 0 from rfl, show (nI 1).toInt = 1 from rfl, show (nI 2).toInt = 2 from rfl, show (nI 3).toInt = 3 from rfl, show (nI 7).toInt = 7 from rfl, show (nI 8).toInt = 8 from rfl, show (nI 63).toInt = 63 from rfl, show (nI 200).toInt = 200 from rfl, show (nI 1000000).toInt = 1000000 from rfl, show (nI 10000000).toInt = 10000000 from rfl, show (nI 2000000000).toInt = 2000000000 from rfl, show (0 : Int32).toInt = 0 from rfl, show (-1 : Int32).toInt = -1 from rfl] at c1 ⊢ <;> omega)])⟩ d_out_38
set_option maxHeartbeats 4000000 in
set_option maxRecDepth 100000 in
theorem c_policy_new (l : Launch) (D : mD) (E : mE) (h : Nat) (q : Nat → Nat) (sz : Nat) (I : Nat → Int32) (J : Nat → Int64) (B : Nat → Nat → Int32) (G : Nat → Nat → Int64) (a1 a2 a3 : Int32) (hp : I 43 = nI 1) : Met l y_policy (k_policy :: lw_tg) (mR 0 0) (va_Pc [.ref h, .int a1, .int a2, .int a3] (mPre D E h q (I, J, B, G) sz)) (va_Qi (fun (r : Int32) (u : mS) => (∀ j, u.1 j = I j) ∧ u.2.1 = J ∧ (∀ j, j ≠ 48 → j ≠ 49 → j ≠ 50 → j ≠ 51 → u.2.2.1 j = B j) ∧ u.2.2.2 = G ∧ (r = polR a1 a2 a3)) (mPost D E h q (mA E h q sz)) (mA E h q sz)) 0 0 (mA E h q sz) := by
  refine m_enter (by decide) rfl (Nat.le_of_ble_eq_true rfl) (fun p e s m below meth c ls AV QQ H locs hQQ X Y hZ hA hr hlk hml hl => ?_)
  have Y : mH D E (mA E h q sz) s.heap h q I J B G H locs := Y
  have hl : lv_has ls 4 [(0, .ref h), (1, .int a1), (2, .int a2), (3, .int a3)] := hl
  refine lv_iload_n X.1 X.2.1 d_policy_0 rfl (lv_at hl 1 rfl) ?_
  refine lv_if_lt (tgt := 35) X.1 X.2.1 d_policy_1 (by decide) (fun c1 => ?_) (fun c1 => ?_)
  · skip
    refine lv_iconst (v := (nI 0)) X.1 X.2.1 d_policy_35 (by decide) ?_
    exact m_retz hQQ X Y hr hlk rfl ⟨(fun j  => rfl), rfl, (fun j h48 h49 h50 h51 => rfl), rfl, (by unfold polR; rw [if_neg (by simp only [Int32.lt_iff_toInt_lt, Int32.le_iff_toInt_le, ← Int32.toInt_inj, show (nI 0).toInt = 0 from rfl, show (nI 1).toInt = 1 from rfl, show (nI 2).toInt = 2 from rfl, show (nI 3).toInt = 3 from rfl, show (nI 7).toInt = 7 from rfl, show (nI 8).toInt = 8 from rfl, show (nI 63).toInt = 63 from rfl, show (nI 200).toInt = 200 from rfl, show (nI 1000000).toInt = 1000000 from rfl, show (nI 10000000).toInt = 10000000 from rfl, show (nI 2000000000).toInt = 2000000000 from rfl, show (0 : Int32).toInt = 0 from rfl, show (-1 : Int32).toInt = -1 from rfl] at c1 ⊢ <;> omega)])⟩ d_policy_36
  · skip
    refine lv_iload_n X.1 X.2.1 d_policy_4 rfl (lv_at hl 1 rfl) ?_
    refine lv_aload_n X.1 X.2.1 d_policy_5 rfl (lv_at hl 0 rfl) ?_
    refine m_get X Y 43 (by decide) lk_principals (gf_principals _ _ _) rfl d_policy_6 ?_
    refine t_eq (show I 43 = nI (1) from hp) ?_
    refine lv_icmp_ge (tgt := 35) X.1 X.2.1 d_policy_9 (by decide) (fun c2 => ?_) (fun c2 => ?_)
    · skip
      refine lv_iconst (v := (nI 0)) X.1 X.2.1 d_policy_35 (by decide) ?_
      exact m_retz hQQ X Y hr hlk rfl ⟨(fun j  => rfl), rfl, (fun j h48 h49 h50 h51 => rfl), rfl, (by unfold polR; rw [if_neg (by simp only [Int32.lt_iff_toInt_lt, Int32.le_iff_toInt_le, ← Int32.toInt_inj, show (nI 0).toInt = 0 from rfl, show (nI 1).toInt = 1 from rfl, show (nI 2).toInt = 2 from rfl, show (nI 3).toInt = 3 from rfl, show (nI 7).toInt = 7 from rfl, show (nI 8).toInt = 8 from rfl, show (nI 63).toInt = 63 from rfl, show (nI 200).toInt = 200 from rfl, show (nI 1000000).toInt = 1000000 from rfl, show (nI 10000000).toInt = 10000000 from rfl, show (nI 2000000000).toInt = 2000000000 from rfl, show (0 : Int32).toInt = 0 from rfl, show (-1 : Int32).toInt = -1 from rfl] at c1 c2 ⊢ <;> omega)])⟩ d_policy_36
    · skip
      obtain ⟨n3, hn3, en3⟩ := ((pk_ix a1 (n := 1) (by decide)).resolve_left c1).resolve_left c2
      refine lv_iload_n X.1 X.2.1 d_policy_12 rfl (lv_at hl 2 rfl) ?_
      refine lv_if_lt (tgt := 35) X.1 X.2.1 d_policy_13 (by decide) (fun c4 => ?_) (fun c4 => ?_)
      · skip
        refine lv_iconst (v := (nI 0)) X.1 X.2.1 d_policy_35 (by decide) ?_
        exact m_retz hQQ X Y hr hlk rfl ⟨(fun j  => rfl), rfl, (fun j h48 h49 h50 h51 => rfl), rfl, (by unfold polR; rw [if_neg (by simp only [Int32.lt_iff_toInt_lt, Int32.le_iff_toInt_le, ← Int32.toInt_inj, show (nI 0).toInt = 0 from rfl, show (nI 1).toInt = 1 from rfl, show (nI 2).toInt = 2 from rfl, show (nI 3).toInt = 3 from rfl, show (nI 7).toInt = 7 from rfl, show (nI 8).toInt = 8 from rfl, show (nI 63).toInt = 63 from rfl, show (nI 200).toInt = 200 from rfl, show (nI 1000000).toInt = 1000000 from rfl, show (nI 10000000).toInt = 10000000 from rfl, show (nI 2000000000).toInt = 2000000000 from rfl, show (0 : Int32).toInt = 0 from rfl, show (-1 : Int32).toInt = -1 from rfl] at c1 c2 c4 ⊢ <;> omega)])⟩ d_policy_36
      · skip
        refine lv_iload_n X.1 X.2.1 d_policy_16 rfl (lv_at hl 2 rfl) ?_
        refine lv_iconst (v := (nI 3)) X.1 X.2.1 d_policy_17 (by decide) ?_
        refine lv_icmp_gt (tgt := 35) X.1 X.2.1 d_policy_18 (by decide) (fun c5 => ?_) (fun c5 => ?_)
        · skip
          refine lv_iconst (v := (nI 0)) X.1 X.2.1 d_policy_35 (by decide) ?_
          exact m_retz hQQ X Y hr hlk rfl ⟨(fun j  => rfl), rfl, (fun j h48 h49 h50 h51 => rfl), rfl, (by unfold polR; rw [if_neg (by simp only [Int32.lt_iff_toInt_lt, Int32.le_iff_toInt_le, ← Int32.toInt_inj, show (nI 0).toInt = 0 from rfl, show (nI 1).toInt = 1 from rfl, show (nI 2).toInt = 2 from rfl, show (nI 3).toInt = 3 from rfl, show (nI 7).toInt = 7 from rfl, show (nI 8).toInt = 8 from rfl, show (nI 63).toInt = 63 from rfl, show (nI 200).toInt = 200 from rfl, show (nI 1000000).toInt = 1000000 from rfl, show (nI 10000000).toInt = 10000000 from rfl, show (nI 2000000000).toInt = 2000000000 from rfl, show (0 : Int32).toInt = 0 from rfl, show (-1 : Int32).toInt = -1 from rfl] at c1 c2 c4 c5 ⊢ <;> omega)])⟩ d_policy_36
        · skip
          refine lv_iload_n X.1 X.2.1 d_policy_21 rfl (lv_at hl 3 rfl) ?_
          refine lv_iload_n X.1 X.2.1 d_policy_22 rfl (lv_at hl 2 rfl) ?_
          refine lv_iconst (v := (nI 2)) X.1 X.2.1 d_policy_23 (by decide) ?_
          refine lv_icmp_ge (tgt := 31) X.1 X.2.1 d_policy_24 (by decide) (fun c6 => ?_) (fun c6 => ?_)
          · skip
            refine lv_iconst (v := (nI 0)) X.1 X.2.1 d_policy_31 (by decide) ?_
            refine lv_icmp_ge (tgt := 37) X.1 X.2.1 d_policy_32 (by decide) (fun c7 => ?_) (fun c7 => ?_)
            · skip
              refine lv_iload_n X.1 X.2.1 d_policy_37 rfl (lv_at hl 3 rfl) ?_
              refine lv_iload_n X.1 X.2.1 d_policy_38 rfl (lv_at hl 2 rfl) ?_
              refine lv_if_ne (tgt := 48) X.1 X.2.1 d_policy_39 (by decide) (fun c8 => ?_) (fun c8 => ?_)
              · skip
                refine lv_iload_n X.1 X.2.1 d_policy_48 rfl (lv_at hl 2 rfl) ?_
                refine lv_iconst (v := (nI 1)) X.1 X.2.1 d_policy_49 (by decide) ?_
                refine lv_icmp_ne (tgt := 59) X.1 X.2.1 d_policy_50 (by decide) (fun c9 => ?_) (fun c9 => ?_)
                · skip
                  refine lv_iload_n X.1 X.2.1 d_policy_59 rfl (lv_at hl 2 rfl) ?_
                  refine lv_iconst (v := (nI 2)) X.1 X.2.1 d_policy_60 (by decide) ?_
                  refine lv_icmp_ne (tgt := 69) X.1 X.2.1 d_policy_61 (by decide) (fun c10 => ?_) (fun c10 => ?_)
                  · skip
                    refine lv_ldcw (v := (2000000000)) X.1 X.2.1 X.2.2.2.1 (X.2.2.1 _ cn_351) d_policy_69 ?_
                    refine t_eq (y := nI 2000000000) (by decide) ?_
                    refine lv_icmp_le (tgt := 77) X.1 X.2.1 d_policy_72 (by decide) (fun c11 => ?_) (fun c11 => ?_)
                    · skip
                      refine lv_iload_n X.1 X.2.1 d_policy_77 rfl (lv_at hl 2 rfl) ?_
                      refine lv_if_ne (tgt := 91) X.1 X.2.1 d_policy_78 (by decide) (fun c12 => ?_) (fun c12 => ?_)
                      · skip
                        refine lv_iload_n X.1 X.2.1 d_policy_91 rfl (lv_at hl 2 rfl) ?_
                        refine lv_iconst (v := (nI 1)) X.1 X.2.1 d_policy_92 (by decide) ?_
                        refine lv_icmp_ne (tgt := 106) X.1 X.2.1 d_policy_93 (by decide) (fun c13 => ?_) (fun c13 => ?_)
                        · skip
                          refine lv_iload_n X.1 X.2.1 d_policy_106 rfl (lv_at hl 2 rfl) ?_
                          refine lv_iconst (v := (nI 2)) X.1 X.2.1 d_policy_107 (by decide) ?_
                          refine lv_icmp_ne (tgt := 121) X.1 X.2.1 d_policy_108 (by decide) (fun c14 => ?_) (fun c14 => ?_)
                          · skip
                            refine lv_aload_n X.1 X.2.1 d_policy_121 rfl (lv_at hl 0 rfl) ?_
                            refine m_get X Y 51 (by decide) lk_ends (gf_ends _ _ _) rfl d_policy_122 ?_
                            refine lv_iload_n X.1 X.2.1 d_policy_125 rfl (lv_at hl 1 rfl) ?_
                            refine t_eq en3 ?_
                            refine lv_iload_n X.1 X.2.1 d_policy_126 rfl (lv_at hl 3 rfl) ?_
                            refine m_iast X Y (aw_ends _ _ _ _ _ _ _) (vp_in_nI (by omega) (by decide)) (sw_ends _ _ _ _ _ _ _ _) d_policy_127 (fun H locs Y => ?_)
                            generalize (upd (B 51) ((nI n3)).toNatClampNeg a3) = f15 at Y
                            refine lv_iconst (v := (nI 1)) X.1 X.2.1 d_policy_128 (by decide) ?_
                            exact m_retz hQQ X Y hr hlk rfl ⟨(fun j  => rfl), rfl, (fun j h48 h49 h50 h51 => ((if_neg h51).trans rfl)), rfl, (by unfold polR; rw [if_pos (by simp only [Int32.lt_iff_toInt_lt, Int32.le_iff_toInt_le, ← Int32.toInt_inj, show (nI 0).toInt = 0 from rfl, show (nI 1).toInt = 1 from rfl, show (nI 2).toInt = 2 from rfl, show (nI 3).toInt = 3 from rfl, show (nI 7).toInt = 7 from rfl, show (nI 8).toInt = 8 from rfl, show (nI 63).toInt = 63 from rfl, show (nI 200).toInt = 200 from rfl, show (nI 1000000).toInt = 1000000 from rfl, show (nI 10000000).toInt = 10000000 from rfl, show (nI 2000000000).toInt = 2000000000 from rfl, show (0 : Int32).toInt = 0 from rfl, show (-1 : Int32).toInt = -1 from rfl] at c1 c2 c4 c5 c6 c7 c8 c9 c10 c11 c12 c13 c14 ⊢ <;> omega)])⟩ d_policy_129
                          · skip
                            refine lv_aload_n X.1 X.2.1 d_policy_111 rfl (lv_at hl 0 rfl) ?_
                            refine m_get X Y 50 (by decide) lk_flags (gf_flags _ _ _) rfl d_policy_112 ?_
                            refine lv_iload_n X.1 X.2.1 d_policy_115 rfl (lv_at hl 1 rfl) ?_
                            refine t_eq en3 ?_
                            refine lv_iload_n X.1 X.2.1 d_policy_116 rfl (lv_at hl 3 rfl) ?_
                            refine m_iast X Y (aw_flags _ _ _ _ _ _ _) (vp_in_nI (by omega) (by decide)) (sw_flags _ _ _ _ _ _ _ _) d_policy_117 (fun H locs Y => ?_)
                            generalize (upd (B 50) ((nI n3)).toNatClampNeg a3) = f16 at Y
                            refine lv_goto (tgt := 128) X.1 X.2.1 d_policy_118 (by decide) ?_
                            refine lv_iconst (v := (nI 1)) X.1 X.2.1 d_policy_128 (by decide) ?_
                            exact m_retz hQQ X Y hr hlk rfl ⟨(fun j  => rfl), rfl, (fun j h48 h49 h50 h51 => ((if_neg h50).trans rfl)), rfl, (by unfold polR; rw [if_pos (by simp only [Int32.lt_iff_toInt_lt, Int32.le_iff_toInt_le, ← Int32.toInt_inj, show (nI 0).toInt = 0 from rfl, show (nI 1).toInt = 1 from rfl, show (nI 2).toInt = 2 from rfl, show (nI 3).toInt = 3 from rfl, show (nI 7).toInt = 7 from rfl, show (nI 8).toInt = 8 from rfl, show (nI 63).toInt = 63 from rfl, show (nI 200).toInt = 200 from rfl, show (nI 1000000).toInt = 1000000 from rfl, show (nI 10000000).toInt = 10000000 from rfl, show (nI 2000000000).toInt = 2000000000 from rfl, show (0 : Int32).toInt = 0 from rfl, show (-1 : Int32).toInt = -1 from rfl] at c1 c2 c4 c5 c6 c7 c8 c9 c10 c11 c12 c13 c14 ⊢ <;> omega)])⟩ d_policy_129
                        · skip
                          refine lv_aload_n X.1 X.2.1 d_policy_96 rfl (lv_at hl 0 rfl) ?_
                          refine m_get X Y 49 (by decide) lk_renews (gf_renews _ _ _) rfl d_policy_97 ?_
                          refine lv_iload_n X.1 X.2.1 d_policy_100 rfl (lv_at hl 1 rfl) ?_
                          refine t_eq en3 ?_
                          refine lv_iload_n X.1 X.2.1 d_policy_101 rfl (lv_at hl 3 rfl) ?_
                          refine m_iast X Y (aw_renews _ _ _ _ _ _ _) (vp_in_nI (by omega) (by decide)) (sw_renews _ _ _ _ _ _ _ _) d_policy_102 (fun H locs Y => ?_)
                          generalize (upd (B 49) ((nI n3)).toNatClampNeg a3) = f17 at Y
                          refine lv_goto (tgt := 128) X.1 X.2.1 d_policy_103 (by decide) ?_
                          refine lv_iconst (v := (nI 1)) X.1 X.2.1 d_policy_128 (by decide) ?_
                          exact m_retz hQQ X Y hr hlk rfl ⟨(fun j  => rfl), rfl, (fun j h48 h49 h50 h51 => ((if_neg h49).trans rfl)), rfl, (by unfold polR; rw [if_pos (by simp only [Int32.lt_iff_toInt_lt, Int32.le_iff_toInt_le, ← Int32.toInt_inj, show (nI 0).toInt = 0 from rfl, show (nI 1).toInt = 1 from rfl, show (nI 2).toInt = 2 from rfl, show (nI 3).toInt = 3 from rfl, show (nI 7).toInt = 7 from rfl, show (nI 8).toInt = 8 from rfl, show (nI 63).toInt = 63 from rfl, show (nI 200).toInt = 200 from rfl, show (nI 1000000).toInt = 1000000 from rfl, show (nI 10000000).toInt = 10000000 from rfl, show (nI 2000000000).toInt = 2000000000 from rfl, show (0 : Int32).toInt = 0 from rfl, show (-1 : Int32).toInt = -1 from rfl] at c1 c2 c4 c5 c6 c7 c8 c9 c10 c11 c12 c13 ⊢ <;> omega)])⟩ d_policy_129
                      · skip
                        refine lv_aload_n X.1 X.2.1 d_policy_81 rfl (lv_at hl 0 rfl) ?_
                        refine m_get X Y 48 (by decide) lk_lifes (gf_lifes _ _ _) rfl d_policy_82 ?_
                        refine lv_iload_n X.1 X.2.1 d_policy_85 rfl (lv_at hl 1 rfl) ?_
                        refine t_eq en3 ?_
                        refine lv_iload_n X.1 X.2.1 d_policy_86 rfl (lv_at hl 3 rfl) ?_
                        refine m_iast X Y (aw_lifes _ _ _ _ _ _ _) (vp_in_nI (by omega) (by decide)) (sw_lifes _ _ _ _ _ _ _ _) d_policy_87 (fun H locs Y => ?_)
                        generalize (upd (B 48) ((nI n3)).toNatClampNeg a3) = f18 at Y
                        refine lv_goto (tgt := 128) X.1 X.2.1 d_policy_88 (by decide) ?_
                        refine lv_iconst (v := (nI 1)) X.1 X.2.1 d_policy_128 (by decide) ?_
                        exact m_retz hQQ X Y hr hlk rfl ⟨(fun j  => rfl), rfl, (fun j h48 h49 h50 h51 => ((if_neg h48).trans rfl)), rfl, (by unfold polR; rw [if_pos (by simp only [Int32.lt_iff_toInt_lt, Int32.le_iff_toInt_le, ← Int32.toInt_inj, show (nI 0).toInt = 0 from rfl, show (nI 1).toInt = 1 from rfl, show (nI 2).toInt = 2 from rfl, show (nI 3).toInt = 3 from rfl, show (nI 7).toInt = 7 from rfl, show (nI 8).toInt = 8 from rfl, show (nI 63).toInt = 63 from rfl, show (nI 200).toInt = 200 from rfl, show (nI 1000000).toInt = 1000000 from rfl, show (nI 10000000).toInt = 10000000 from rfl, show (nI 2000000000).toInt = 2000000000 from rfl, show (0 : Int32).toInt = 0 from rfl, show (-1 : Int32).toInt = -1 from rfl] at c1 c2 c4 c5 c6 c7 c8 c9 c10 c11 c12 ⊢ <;> omega)])⟩ d_policy_129
                    · skip
                      refine lv_iconst (v := (nI 0)) X.1 X.2.1 d_policy_75 (by decide) ?_
                      exact m_retz hQQ X Y hr hlk rfl ⟨(fun j  => rfl), rfl, (fun j h48 h49 h50 h51 => rfl), rfl, (by unfold polR; rw [if_neg (by simp only [Int32.lt_iff_toInt_lt, Int32.le_iff_toInt_le, ← Int32.toInt_inj, show (nI 0).toInt = 0 from rfl, show (nI 1).toInt = 1 from rfl, show (nI 2).toInt = 2 from rfl, show (nI 3).toInt = 3 from rfl, show (nI 7).toInt = 7 from rfl, show (nI 8).toInt = 8 from rfl, show (nI 63).toInt = 63 from rfl, show (nI 200).toInt = 200 from rfl, show (nI 1000000).toInt = 1000000 from rfl, show (nI 10000000).toInt = 10000000 from rfl, show (nI 2000000000).toInt = 2000000000 from rfl, show (0 : Int32).toInt = 0 from rfl, show (-1 : Int32).toInt = -1 from rfl] at c1 c2 c4 c5 c6 c7 c8 c9 c10 c11 ⊢ <;> omega)])⟩ d_policy_76
                  · skip
                    refine lv_bipush (v := (nI 63)) X.1 X.2.1 d_policy_64 (by decide) ?_
                    refine lv_goto (tgt := 72) X.1 X.2.1 d_policy_66 (by decide) ?_
                    refine lv_icmp_le (tgt := 77) X.1 X.2.1 d_policy_72 (by decide) (fun c19 => ?_) (fun c19 => ?_)
                    · skip
                      refine lv_iload_n X.1 X.2.1 d_policy_77 rfl (lv_at hl 2 rfl) ?_
                      refine lv_if_ne (tgt := 91) X.1 X.2.1 d_policy_78 (by decide) (fun c20 => ?_) (fun c20 => ?_)
                      · skip
                        refine lv_iload_n X.1 X.2.1 d_policy_91 rfl (lv_at hl 2 rfl) ?_
                        refine lv_iconst (v := (nI 1)) X.1 X.2.1 d_policy_92 (by decide) ?_
                        refine lv_icmp_ne (tgt := 106) X.1 X.2.1 d_policy_93 (by decide) (fun c21 => ?_) (fun c21 => ?_)
                        · skip
                          refine lv_iload_n X.1 X.2.1 d_policy_106 rfl (lv_at hl 2 rfl) ?_
                          refine lv_iconst (v := (nI 2)) X.1 X.2.1 d_policy_107 (by decide) ?_
                          refine lv_icmp_ne (tgt := 121) X.1 X.2.1 d_policy_108 (by decide) (fun c22 => ?_) (fun c22 => ?_)
                          · skip
                            refine lv_aload_n X.1 X.2.1 d_policy_121 rfl (lv_at hl 0 rfl) ?_
                            refine m_get X Y 51 (by decide) lk_ends (gf_ends _ _ _) rfl d_policy_122 ?_
                            refine lv_iload_n X.1 X.2.1 d_policy_125 rfl (lv_at hl 1 rfl) ?_
                            refine t_eq en3 ?_
                            refine lv_iload_n X.1 X.2.1 d_policy_126 rfl (lv_at hl 3 rfl) ?_
                            refine m_iast X Y (aw_ends _ _ _ _ _ _ _) (vp_in_nI (by omega) (by decide)) (sw_ends _ _ _ _ _ _ _ _) d_policy_127 (fun H locs Y => ?_)
                            generalize (upd (B 51) ((nI n3)).toNatClampNeg a3) = f23 at Y
                            refine lv_iconst (v := (nI 1)) X.1 X.2.1 d_policy_128 (by decide) ?_
                            exact m_retz hQQ X Y hr hlk rfl ⟨(fun j  => rfl), rfl, (fun j h48 h49 h50 h51 => ((if_neg h51).trans rfl)), rfl, (by unfold polR; rw [if_pos (by simp only [Int32.lt_iff_toInt_lt, Int32.le_iff_toInt_le, ← Int32.toInt_inj, show (nI 0).toInt = 0 from rfl, show (nI 1).toInt = 1 from rfl, show (nI 2).toInt = 2 from rfl, show (nI 3).toInt = 3 from rfl, show (nI 7).toInt = 7 from rfl, show (nI 8).toInt = 8 from rfl, show (nI 63).toInt = 63 from rfl, show (nI 200).toInt = 200 from rfl, show (nI 1000000).toInt = 1000000 from rfl, show (nI 10000000).toInt = 10000000 from rfl, show (nI 2000000000).toInt = 2000000000 from rfl, show (0 : Int32).toInt = 0 from rfl, show (-1 : Int32).toInt = -1 from rfl] at c1 c2 c4 c5 c6 c7 c8 c9 c10 c19 c20 c21 c22 ⊢ <;> omega)])⟩ d_policy_129
                          · skip
                            refine lv_aload_n X.1 X.2.1 d_policy_111 rfl (lv_at hl 0 rfl) ?_
                            refine m_get X Y 50 (by decide) lk_flags (gf_flags _ _ _) rfl d_policy_112 ?_
                            refine lv_iload_n X.1 X.2.1 d_policy_115 rfl (lv_at hl 1 rfl) ?_
                            refine t_eq en3 ?_
                            refine lv_iload_n X.1 X.2.1 d_policy_116 rfl (lv_at hl 3 rfl) ?_
                            refine m_iast X Y (aw_flags _ _ _ _ _ _ _) (vp_in_nI (by omega) (by decide)) (sw_flags _ _ _ _ _ _ _ _) d_policy_117 (fun H locs Y => ?_)
                            generalize (upd (B 50) ((nI n3)).toNatClampNeg a3) = f24 at Y
                            refine lv_goto (tgt := 128) X.1 X.2.1 d_policy_118 (by decide) ?_
                            refine lv_iconst (v := (nI 1)) X.1 X.2.1 d_policy_128 (by decide) ?_
                            exact m_retz hQQ X Y hr hlk rfl ⟨(fun j  => rfl), rfl, (fun j h48 h49 h50 h51 => ((if_neg h50).trans rfl)), rfl, (by unfold polR; rw [if_pos (by simp only [Int32.lt_iff_toInt_lt, Int32.le_iff_toInt_le, ← Int32.toInt_inj, show (nI 0).toInt = 0 from rfl, show (nI 1).toInt = 1 from rfl, show (nI 2).toInt = 2 from rfl, show (nI 3).toInt = 3 from rfl, show (nI 7).toInt = 7 from rfl, show (nI 8).toInt = 8 from rfl, show (nI 63).toInt = 63 from rfl, show (nI 200).toInt = 200 from rfl, show (nI 1000000).toInt = 1000000 from rfl, show (nI 10000000).toInt = 10000000 from rfl, show (nI 2000000000).toInt = 2000000000 from rfl, show (0 : Int32).toInt = 0 from rfl, show (-1 : Int32).toInt = -1 from rfl] at c1 c2 c4 c5 c6 c7 c8 c9 c10 c19 c20 c21 c22 ⊢ <;> omega)])⟩ d_policy_129
                        · skip
                          refine lv_aload_n X.1 X.2.1 d_policy_96 rfl (lv_at hl 0 rfl) ?_
                          refine m_get X Y 49 (by decide) lk_renews (gf_renews _ _ _) rfl d_policy_97 ?_
                          refine lv_iload_n X.1 X.2.1 d_policy_100 rfl (lv_at hl 1 rfl) ?_
                          refine t_eq en3 ?_
                          refine lv_iload_n X.1 X.2.1 d_policy_101 rfl (lv_at hl 3 rfl) ?_
                          refine m_iast X Y (aw_renews _ _ _ _ _ _ _) (vp_in_nI (by omega) (by decide)) (sw_renews _ _ _ _ _ _ _ _) d_policy_102 (fun H locs Y => ?_)
                          generalize (upd (B 49) ((nI n3)).toNatClampNeg a3) = f25 at Y
                          refine lv_goto (tgt := 128) X.1 X.2.1 d_policy_103 (by decide) ?_
                          refine lv_iconst (v := (nI 1)) X.1 X.2.1 d_policy_128 (by decide) ?_
                          exact m_retz hQQ X Y hr hlk rfl ⟨(fun j  => rfl), rfl, (fun j h48 h49 h50 h51 => ((if_neg h49).trans rfl)), rfl, (by unfold polR; rw [if_pos (by simp only [Int32.lt_iff_toInt_lt, Int32.le_iff_toInt_le, ← Int32.toInt_inj, show (nI 0).toInt = 0 from rfl, show (nI 1).toInt = 1 from rfl, show (nI 2).toInt = 2 from rfl, show (nI 3).toInt = 3 from rfl, show (nI 7).toInt = 7 from rfl, show (nI 8).toInt = 8 from rfl, show (nI 63).toInt = 63 from rfl, show (nI 200).toInt = 200 from rfl, show (nI 1000000).toInt = 1000000 from rfl, show (nI 10000000).toInt = 10000000 from rfl, show (nI 2000000000).toInt = 2000000000 from rfl, show (0 : Int32).toInt = 0 from rfl, show (-1 : Int32).toInt = -1 from rfl] at c1 c2 c4 c5 c6 c7 c8 c9 c10 c19 c20 c21 ⊢ <;> omega)])⟩ d_policy_129
                      · skip
                        refine lv_aload_n X.1 X.2.1 d_policy_81 rfl (lv_at hl 0 rfl) ?_
                        refine m_get X Y 48 (by decide) lk_lifes (gf_lifes _ _ _) rfl d_policy_82 ?_
                        refine lv_iload_n X.1 X.2.1 d_policy_85 rfl (lv_at hl 1 rfl) ?_
                        refine t_eq en3 ?_
                        refine lv_iload_n X.1 X.2.1 d_policy_86 rfl (lv_at hl 3 rfl) ?_
                        refine m_iast X Y (aw_lifes _ _ _ _ _ _ _) (vp_in_nI (by omega) (by decide)) (sw_lifes _ _ _ _ _ _ _ _) d_policy_87 (fun H locs Y => ?_)
                        generalize (upd (B 48) ((nI n3)).toNatClampNeg a3) = f26 at Y
                        refine lv_goto (tgt := 128) X.1 X.2.1 d_policy_88 (by decide) ?_
                        refine lv_iconst (v := (nI 1)) X.1 X.2.1 d_policy_128 (by decide) ?_
                        exact m_retz hQQ X Y hr hlk rfl ⟨(fun j  => rfl), rfl, (fun j h48 h49 h50 h51 => ((if_neg h48).trans rfl)), rfl, (by unfold polR; rw [if_pos (by simp only [Int32.lt_iff_toInt_lt, Int32.le_iff_toInt_le, ← Int32.toInt_inj, show (nI 0).toInt = 0 from rfl, show (nI 1).toInt = 1 from rfl, show (nI 2).toInt = 2 from rfl, show (nI 3).toInt = 3 from rfl, show (nI 7).toInt = 7 from rfl, show (nI 8).toInt = 8 from rfl, show (nI 63).toInt = 63 from rfl, show (nI 200).toInt = 200 from rfl, show (nI 1000000).toInt = 1000000 from rfl, show (nI 10000000).toInt = 10000000 from rfl, show (nI 2000000000).toInt = 2000000000 from rfl, show (0 : Int32).toInt = 0 from rfl, show (-1 : Int32).toInt = -1 from rfl] at c1 c2 c4 c5 c6 c7 c8 c9 c10 c19 c20 ⊢ <;> omega)])⟩ d_policy_129
                    · skip
                      refine lv_iconst (v := (nI 0)) X.1 X.2.1 d_policy_75 (by decide) ?_
                      exact m_retz hQQ X Y hr hlk rfl ⟨(fun j  => rfl), rfl, (fun j h48 h49 h50 h51 => rfl), rfl, (by unfold polR; rw [if_neg (by simp only [Int32.lt_iff_toInt_lt, Int32.le_iff_toInt_le, ← Int32.toInt_inj, show (nI 0).toInt = 0 from rfl, show (nI 1).toInt = 1 from rfl, show (nI 2).toInt = 2 from rfl, show (nI 3).toInt = 3 from rfl, show (nI 7).toInt = 7 from rfl, show (nI 8).toInt = 8 from rfl, show (nI 63).toInt = 63 from rfl, show (nI 200).toInt = 200 from rfl, show (nI 1000000).toInt = 1000000 from rfl, show (nI 10000000).toInt = 10000000 from rfl, show (nI 2000000000).toInt = 2000000000 from rfl, show (0 : Int32).toInt = 0 from rfl, show (-1 : Int32).toInt = -1 from rfl] at c1 c2 c4 c5 c6 c7 c8 c9 c10 c19 ⊢ <;> omega)])⟩ d_policy_76
                · skip
                  refine lv_ldcw (v := (10000000)) X.1 X.2.1 X.2.2.2.1 (X.2.2.1 _ cn_645) d_policy_53 ?_
                  refine t_eq (y := nI 10000000) (by decide) ?_
                  refine lv_goto (tgt := 72) X.1 X.2.1 d_policy_56 (by decide) ?_
                  refine lv_icmp_le (tgt := 77) X.1 X.2.1 d_policy_72 (by decide) (fun c27 => ?_) (fun c27 => ?_)
                  · skip
                    refine lv_iload_n X.1 X.2.1 d_policy_77 rfl (lv_at hl 2 rfl) ?_
                    refine lv_if_ne (tgt := 91) X.1 X.2.1 d_policy_78 (by decide) (fun c28 => ?_) (fun c28 => ?_)
                    · skip
                      refine lv_iload_n X.1 X.2.1 d_policy_91 rfl (lv_at hl 2 rfl) ?_
                      refine lv_iconst (v := (nI 1)) X.1 X.2.1 d_policy_92 (by decide) ?_
                      refine lv_icmp_ne (tgt := 106) X.1 X.2.1 d_policy_93 (by decide) (fun c29 => ?_) (fun c29 => ?_)
                      · skip
                        refine lv_iload_n X.1 X.2.1 d_policy_106 rfl (lv_at hl 2 rfl) ?_
                        refine lv_iconst (v := (nI 2)) X.1 X.2.1 d_policy_107 (by decide) ?_
                        refine lv_icmp_ne (tgt := 121) X.1 X.2.1 d_policy_108 (by decide) (fun c30 => ?_) (fun c30 => ?_)
                        · skip
                          refine lv_aload_n X.1 X.2.1 d_policy_121 rfl (lv_at hl 0 rfl) ?_
                          refine m_get X Y 51 (by decide) lk_ends (gf_ends _ _ _) rfl d_policy_122 ?_
                          refine lv_iload_n X.1 X.2.1 d_policy_125 rfl (lv_at hl 1 rfl) ?_
                          refine t_eq en3 ?_
                          refine lv_iload_n X.1 X.2.1 d_policy_126 rfl (lv_at hl 3 rfl) ?_
                          refine m_iast X Y (aw_ends _ _ _ _ _ _ _) (vp_in_nI (by omega) (by decide)) (sw_ends _ _ _ _ _ _ _ _) d_policy_127 (fun H locs Y => ?_)
                          generalize (upd (B 51) ((nI n3)).toNatClampNeg a3) = f31 at Y
                          refine lv_iconst (v := (nI 1)) X.1 X.2.1 d_policy_128 (by decide) ?_
                          exact m_retz hQQ X Y hr hlk rfl ⟨(fun j  => rfl), rfl, (fun j h48 h49 h50 h51 => ((if_neg h51).trans rfl)), rfl, (by unfold polR; rw [if_pos (by simp only [Int32.lt_iff_toInt_lt, Int32.le_iff_toInt_le, ← Int32.toInt_inj, show (nI 0).toInt = 0 from rfl, show (nI 1).toInt = 1 from rfl, show (nI 2).toInt = 2 from rfl, show (nI 3).toInt = 3 from rfl, show (nI 7).toInt = 7 from rfl, show (nI 8).toInt = 8 from rfl, show (nI 63).toInt = 63 from rfl, show (nI 200).toInt = 200 from rfl, show (nI 1000000).toInt = 1000000 from rfl, show (nI 10000000).toInt = 10000000 from rfl, show (nI 2000000000).toInt = 2000000000 from rfl, show (0 : Int32).toInt = 0 from rfl, show (-1 : Int32).toInt = -1 from rfl] at c1 c2 c4 c5 c6 c7 c8 c9 c27 c28 c29 c30 ⊢ <;> omega)])⟩ d_policy_129
                        · skip
                          refine lv_aload_n X.1 X.2.1 d_policy_111 rfl (lv_at hl 0 rfl) ?_
                          refine m_get X Y 50 (by decide) lk_flags (gf_flags _ _ _) rfl d_policy_112 ?_
                          refine lv_iload_n X.1 X.2.1 d_policy_115 rfl (lv_at hl 1 rfl) ?_
                          refine t_eq en3 ?_
                          refine lv_iload_n X.1 X.2.1 d_policy_116 rfl (lv_at hl 3 rfl) ?_
                          refine m_iast X Y (aw_flags _ _ _ _ _ _ _) (vp_in_nI (by omega) (by decide)) (sw_flags _ _ _ _ _ _ _ _) d_policy_117 (fun H locs Y => ?_)
                          generalize (upd (B 50) ((nI n3)).toNatClampNeg a3) = f32 at Y
                          refine lv_goto (tgt := 128) X.1 X.2.1 d_policy_118 (by decide) ?_
                          refine lv_iconst (v := (nI 1)) X.1 X.2.1 d_policy_128 (by decide) ?_
                          exact m_retz hQQ X Y hr hlk rfl ⟨(fun j  => rfl), rfl, (fun j h48 h49 h50 h51 => ((if_neg h50).trans rfl)), rfl, (by unfold polR; rw [if_pos (by simp only [Int32.lt_iff_toInt_lt, Int32.le_iff_toInt_le, ← Int32.toInt_inj, show (nI 0).toInt = 0 from rfl, show (nI 1).toInt = 1 from rfl, show (nI 2).toInt = 2 from rfl, show (nI 3).toInt = 3 from rfl, show (nI 7).toInt = 7 from rfl, show (nI 8).toInt = 8 from rfl, show (nI 63).toInt = 63 from rfl, show (nI 200).toInt = 200 from rfl, show (nI 1000000).toInt = 1000000 from rfl, show (nI 10000000).toInt = 10000000 from rfl, show (nI 2000000000).toInt = 2000000000 from rfl, show (0 : Int32).toInt = 0 from rfl, show (-1 : Int32).toInt = -1 from rfl] at c1 c2 c4 c5 c6 c7 c8 c9 c27 c28 c29 c30 ⊢ <;> omega)])⟩ d_policy_129
                      · skip
                        refine lv_aload_n X.1 X.2.1 d_policy_96 rfl (lv_at hl 0 rfl) ?_
                        refine m_get X Y 49 (by decide) lk_renews (gf_renews _ _ _) rfl d_policy_97 ?_
                        refine lv_iload_n X.1 X.2.1 d_policy_100 rfl (lv_at hl 1 rfl) ?_
                        refine t_eq en3 ?_
                        refine lv_iload_n X.1 X.2.1 d_policy_101 rfl (lv_at hl 3 rfl) ?_
                        refine m_iast X Y (aw_renews _ _ _ _ _ _ _) (vp_in_nI (by omega) (by decide)) (sw_renews _ _ _ _ _ _ _ _) d_policy_102 (fun H locs Y => ?_)
                        generalize (upd (B 49) ((nI n3)).toNatClampNeg a3) = f33 at Y
                        refine lv_goto (tgt := 128) X.1 X.2.1 d_policy_103 (by decide) ?_
                        refine lv_iconst (v := (nI 1)) X.1 X.2.1 d_policy_128 (by decide) ?_
                        exact m_retz hQQ X Y hr hlk rfl ⟨(fun j  => rfl), rfl, (fun j h48 h49 h50 h51 => ((if_neg h49).trans rfl)), rfl, (by unfold polR; rw [if_pos (by simp only [Int32.lt_iff_toInt_lt, Int32.le_iff_toInt_le, ← Int32.toInt_inj, show (nI 0).toInt = 0 from rfl, show (nI 1).toInt = 1 from rfl, show (nI 2).toInt = 2 from rfl, show (nI 3).toInt = 3 from rfl, show (nI 7).toInt = 7 from rfl, show (nI 8).toInt = 8 from rfl, show (nI 63).toInt = 63 from rfl, show (nI 200).toInt = 200 from rfl, show (nI 1000000).toInt = 1000000 from rfl, show (nI 10000000).toInt = 10000000 from rfl, show (nI 2000000000).toInt = 2000000000 from rfl, show (0 : Int32).toInt = 0 from rfl, show (-1 : Int32).toInt = -1 from rfl] at c1 c2 c4 c5 c6 c7 c8 c9 c27 c28 c29 ⊢ <;> omega)])⟩ d_policy_129
                    · skip
                      refine lv_aload_n X.1 X.2.1 d_policy_81 rfl (lv_at hl 0 rfl) ?_
                      refine m_get X Y 48 (by decide) lk_lifes (gf_lifes _ _ _) rfl d_policy_82 ?_
                      refine lv_iload_n X.1 X.2.1 d_policy_85 rfl (lv_at hl 1 rfl) ?_
                      refine t_eq en3 ?_
                      refine lv_iload_n X.1 X.2.1 d_policy_86 rfl (lv_at hl 3 rfl) ?_
                      refine m_iast X Y (aw_lifes _ _ _ _ _ _ _) (vp_in_nI (by omega) (by decide)) (sw_lifes _ _ _ _ _ _ _ _) d_policy_87 (fun H locs Y => ?_)
                      generalize (upd (B 48) ((nI n3)).toNatClampNeg a3) = f34 at Y
                      refine lv_goto (tgt := 128) X.1 X.2.1 d_policy_88 (by decide) ?_
                      refine lv_iconst (v := (nI 1)) X.1 X.2.1 d_policy_128 (by decide) ?_
                      exact m_retz hQQ X Y hr hlk rfl ⟨(fun j  => rfl), rfl, (fun j h48 h49 h50 h51 => ((if_neg h48).trans rfl)), rfl, (by unfold polR; rw [if_pos (by simp only [Int32.lt_iff_toInt_lt, Int32.le_iff_toInt_le, ← Int32.toInt_inj, show (nI 0).toInt = 0 from rfl, show (nI 1).toInt = 1 from rfl, show (nI 2).toInt = 2 from rfl, show (nI 3).toInt = 3 from rfl, show (nI 7).toInt = 7 from rfl, show (nI 8).toInt = 8 from rfl, show (nI 63).toInt = 63 from rfl, show (nI 200).toInt = 200 from rfl, show (nI 1000000).toInt = 1000000 from rfl, show (nI 10000000).toInt = 10000000 from rfl, show (nI 2000000000).toInt = 2000000000 from rfl, show (0 : Int32).toInt = 0 from rfl, show (-1 : Int32).toInt = -1 from rfl] at c1 c2 c4 c5 c6 c7 c8 c9 c27 c28 ⊢ <;> omega)])⟩ d_policy_129
                  · skip
                    refine lv_iconst (v := (nI 0)) X.1 X.2.1 d_policy_75 (by decide) ?_
                    exact m_retz hQQ X Y hr hlk rfl ⟨(fun j  => rfl), rfl, (fun j h48 h49 h50 h51 => rfl), rfl, (by unfold polR; rw [if_neg (by simp only [Int32.lt_iff_toInt_lt, Int32.le_iff_toInt_le, ← Int32.toInt_inj, show (nI 0).toInt = 0 from rfl, show (nI 1).toInt = 1 from rfl, show (nI 2).toInt = 2 from rfl, show (nI 3).toInt = 3 from rfl, show (nI 7).toInt = 7 from rfl, show (nI 8).toInt = 8 from rfl, show (nI 63).toInt = 63 from rfl, show (nI 200).toInt = 200 from rfl, show (nI 1000000).toInt = 1000000 from rfl, show (nI 10000000).toInt = 10000000 from rfl, show (nI 2000000000).toInt = 2000000000 from rfl, show (0 : Int32).toInt = 0 from rfl, show (-1 : Int32).toInt = -1 from rfl] at c1 c2 c4 c5 c6 c7 c8 c9 c27 ⊢ <;> omega)])⟩ d_policy_76
              · skip
                refine lv_ldcw (v := (1000000)) X.1 X.2.1 X.2.2.2.1 (X.2.2.1 _ cn_644) d_policy_42 ?_
                refine t_eq (y := nI 1000000) (by decide) ?_
                refine lv_goto (tgt := 72) X.1 X.2.1 d_policy_45 (by decide) ?_
                refine lv_icmp_le (tgt := 77) X.1 X.2.1 d_policy_72 (by decide) (fun c35 => ?_) (fun c35 => ?_)
                · skip
                  refine lv_iload_n X.1 X.2.1 d_policy_77 rfl (lv_at hl 2 rfl) ?_
                  refine lv_if_ne (tgt := 91) X.1 X.2.1 d_policy_78 (by decide) (fun c36 => ?_) (fun c36 => ?_)
                  · skip
                    refine lv_iload_n X.1 X.2.1 d_policy_91 rfl (lv_at hl 2 rfl) ?_
                    refine lv_iconst (v := (nI 1)) X.1 X.2.1 d_policy_92 (by decide) ?_
                    refine lv_icmp_ne (tgt := 106) X.1 X.2.1 d_policy_93 (by decide) (fun c37 => ?_) (fun c37 => ?_)
                    · skip
                      refine lv_iload_n X.1 X.2.1 d_policy_106 rfl (lv_at hl 2 rfl) ?_
                      refine lv_iconst (v := (nI 2)) X.1 X.2.1 d_policy_107 (by decide) ?_
                      refine lv_icmp_ne (tgt := 121) X.1 X.2.1 d_policy_108 (by decide) (fun c38 => ?_) (fun c38 => ?_)
                      · skip
                        refine lv_aload_n X.1 X.2.1 d_policy_121 rfl (lv_at hl 0 rfl) ?_
                        refine m_get X Y 51 (by decide) lk_ends (gf_ends _ _ _) rfl d_policy_122 ?_
                        refine lv_iload_n X.1 X.2.1 d_policy_125 rfl (lv_at hl 1 rfl) ?_
                        refine t_eq en3 ?_
                        refine lv_iload_n X.1 X.2.1 d_policy_126 rfl (lv_at hl 3 rfl) ?_
                        refine m_iast X Y (aw_ends _ _ _ _ _ _ _) (vp_in_nI (by omega) (by decide)) (sw_ends _ _ _ _ _ _ _ _) d_policy_127 (fun H locs Y => ?_)
                        generalize (upd (B 51) ((nI n3)).toNatClampNeg a3) = f39 at Y
                        refine lv_iconst (v := (nI 1)) X.1 X.2.1 d_policy_128 (by decide) ?_
                        exact m_retz hQQ X Y hr hlk rfl ⟨(fun j  => rfl), rfl, (fun j h48 h49 h50 h51 => ((if_neg h51).trans rfl)), rfl, (by unfold polR; rw [if_pos (by simp only [Int32.lt_iff_toInt_lt, Int32.le_iff_toInt_le, ← Int32.toInt_inj, show (nI 0).toInt = 0 from rfl, show (nI 1).toInt = 1 from rfl, show (nI 2).toInt = 2 from rfl, show (nI 3).toInt = 3 from rfl, show (nI 7).toInt = 7 from rfl, show (nI 8).toInt = 8 from rfl, show (nI 63).toInt = 63 from rfl, show (nI 200).toInt = 200 from rfl, show (nI 1000000).toInt = 1000000 from rfl, show (nI 10000000).toInt = 10000000 from rfl, show (nI 2000000000).toInt = 2000000000 from rfl, show (0 : Int32).toInt = 0 from rfl, show (-1 : Int32).toInt = -1 from rfl] at c1 c2 c4 c5 c6 c7 c8 c35 c36 c37 c38 ⊢ <;> omega)])⟩ d_policy_129
                      · skip
                        refine lv_aload_n X.1 X.2.1 d_policy_111 rfl (lv_at hl 0 rfl) ?_
                        refine m_get X Y 50 (by decide) lk_flags (gf_flags _ _ _) rfl d_policy_112 ?_
                        refine lv_iload_n X.1 X.2.1 d_policy_115 rfl (lv_at hl 1 rfl) ?_
                        refine t_eq en3 ?_
                        refine lv_iload_n X.1 X.2.1 d_policy_116 rfl (lv_at hl 3 rfl) ?_
                        refine m_iast X Y (aw_flags _ _ _ _ _ _ _) (vp_in_nI (by omega) (by decide)) (sw_flags _ _ _ _ _ _ _ _) d_policy_117 (fun H locs Y => ?_)
                        generalize (upd (B 50) ((nI n3)).toNatClampNeg a3) = f40 at Y
                        refine lv_goto (tgt := 128) X.1 X.2.1 d_policy_118 (by decide) ?_
                        refine lv_iconst (v := (nI 1)) X.1 X.2.1 d_policy_128 (by decide) ?_
                        exact m_retz hQQ X Y hr hlk rfl ⟨(fun j  => rfl), rfl, (fun j h48 h49 h50 h51 => ((if_neg h50).trans rfl)), rfl, (by unfold polR; rw [if_pos (by simp only [Int32.lt_iff_toInt_lt, Int32.le_iff_toInt_le, ← Int32.toInt_inj, show (nI 0).toInt = 0 from rfl, show (nI 1).toInt = 1 from rfl, show (nI 2).toInt = 2 from rfl, show (nI 3).toInt = 3 from rfl, show (nI 7).toInt = 7 from rfl, show (nI 8).toInt = 8 from rfl, show (nI 63).toInt = 63 from rfl, show (nI 200).toInt = 200 from rfl, show (nI 1000000).toInt = 1000000 from rfl, show (nI 10000000).toInt = 10000000 from rfl, show (nI 2000000000).toInt = 2000000000 from rfl, show (0 : Int32).toInt = 0 from rfl, show (-1 : Int32).toInt = -1 from rfl] at c1 c2 c4 c5 c6 c7 c8 c35 c36 c37 c38 ⊢ <;> omega)])⟩ d_policy_129
                    · skip
                      refine lv_aload_n X.1 X.2.1 d_policy_96 rfl (lv_at hl 0 rfl) ?_
                      refine m_get X Y 49 (by decide) lk_renews (gf_renews _ _ _) rfl d_policy_97 ?_
                      refine lv_iload_n X.1 X.2.1 d_policy_100 rfl (lv_at hl 1 rfl) ?_
                      refine t_eq en3 ?_
                      refine lv_iload_n X.1 X.2.1 d_policy_101 rfl (lv_at hl 3 rfl) ?_
                      refine m_iast X Y (aw_renews _ _ _ _ _ _ _) (vp_in_nI (by omega) (by decide)) (sw_renews _ _ _ _ _ _ _ _) d_policy_102 (fun H locs Y => ?_)
                      generalize (upd (B 49) ((nI n3)).toNatClampNeg a3) = f41 at Y
                      refine lv_goto (tgt := 128) X.1 X.2.1 d_policy_103 (by decide) ?_
                      refine lv_iconst (v := (nI 1)) X.1 X.2.1 d_policy_128 (by decide) ?_
                      exact m_retz hQQ X Y hr hlk rfl ⟨(fun j  => rfl), rfl, (fun j h48 h49 h50 h51 => ((if_neg h49).trans rfl)), rfl, (by unfold polR; rw [if_pos (by simp only [Int32.lt_iff_toInt_lt, Int32.le_iff_toInt_le, ← Int32.toInt_inj, show (nI 0).toInt = 0 from rfl, show (nI 1).toInt = 1 from rfl, show (nI 2).toInt = 2 from rfl, show (nI 3).toInt = 3 from rfl, show (nI 7).toInt = 7 from rfl, show (nI 8).toInt = 8 from rfl, show (nI 63).toInt = 63 from rfl, show (nI 200).toInt = 200 from rfl, show (nI 1000000).toInt = 1000000 from rfl, show (nI 10000000).toInt = 10000000 from rfl, show (nI 2000000000).toInt = 2000000000 from rfl, show (0 : Int32).toInt = 0 from rfl, show (-1 : Int32).toInt = -1 from rfl] at c1 c2 c4 c5 c6 c7 c8 c35 c36 c37 ⊢ <;> omega)])⟩ d_policy_129
                  · skip
                    refine lv_aload_n X.1 X.2.1 d_policy_81 rfl (lv_at hl 0 rfl) ?_
                    refine m_get X Y 48 (by decide) lk_lifes (gf_lifes _ _ _) rfl d_policy_82 ?_
                    refine lv_iload_n X.1 X.2.1 d_policy_85 rfl (lv_at hl 1 rfl) ?_
                    refine t_eq en3 ?_
                    refine lv_iload_n X.1 X.2.1 d_policy_86 rfl (lv_at hl 3 rfl) ?_
                    refine m_iast X Y (aw_lifes _ _ _ _ _ _ _) (vp_in_nI (by omega) (by decide)) (sw_lifes _ _ _ _ _ _ _ _) d_policy_87 (fun H locs Y => ?_)
                    generalize (upd (B 48) ((nI n3)).toNatClampNeg a3) = f42 at Y
                    refine lv_goto (tgt := 128) X.1 X.2.1 d_policy_88 (by decide) ?_
                    refine lv_iconst (v := (nI 1)) X.1 X.2.1 d_policy_128 (by decide) ?_
                    exact m_retz hQQ X Y hr hlk rfl ⟨(fun j  => rfl), rfl, (fun j h48 h49 h50 h51 => ((if_neg h48).trans rfl)), rfl, (by unfold polR; rw [if_pos (by simp only [Int32.lt_iff_toInt_lt, Int32.le_iff_toInt_le, ← Int32.toInt_inj, show (nI 0).toInt = 0 from rfl, show (nI 1).toInt = 1 from rfl, show (nI 2).toInt = 2 from rfl, show (nI 3).toInt = 3 from rfl, show (nI 7).toInt = 7 from rfl, show (nI 8).toInt = 8 from rfl, show (nI 63).toInt = 63 from rfl, show (nI 200).toInt = 200 from rfl, show (nI 1000000).toInt = 1000000 from rfl, show (nI 10000000).toInt = 10000000 from rfl, show (nI 2000000000).toInt = 2000000000 from rfl, show (0 : Int32).toInt = 0 from rfl, show (-1 : Int32).toInt = -1 from rfl] at c1 c2 c4 c5 c6 c7 c8 c35 c36 ⊢ <;> omega)])⟩ d_policy_129
                · skip
                  refine lv_iconst (v := (nI 0)) X.1 X.2.1 d_policy_75 (by decide) ?_
                  exact m_retz hQQ X Y hr hlk rfl ⟨(fun j  => rfl), rfl, (fun j h48 h49 h50 h51 => rfl), rfl, (by unfold polR; rw [if_neg (by simp only [Int32.lt_iff_toInt_lt, Int32.le_iff_toInt_le, ← Int32.toInt_inj, show (nI 0).toInt = 0 from rfl, show (nI 1).toInt = 1 from rfl, show (nI 2).toInt = 2 from rfl, show (nI 3).toInt = 3 from rfl, show (nI 7).toInt = 7 from rfl, show (nI 8).toInt = 8 from rfl, show (nI 63).toInt = 63 from rfl, show (nI 200).toInt = 200 from rfl, show (nI 1000000).toInt = 1000000 from rfl, show (nI 10000000).toInt = 10000000 from rfl, show (nI 2000000000).toInt = 2000000000 from rfl, show (0 : Int32).toInt = 0 from rfl, show (-1 : Int32).toInt = -1 from rfl] at c1 c2 c4 c5 c6 c7 c8 c35 ⊢ <;> omega)])⟩ d_policy_76
            · skip
              refine lv_iconst (v := (nI 0)) X.1 X.2.1 d_policy_35 (by decide) ?_
              exact m_retz hQQ X Y hr hlk rfl ⟨(fun j  => rfl), rfl, (fun j h48 h49 h50 h51 => rfl), rfl, (by unfold polR; rw [if_neg (by simp only [Int32.lt_iff_toInt_lt, Int32.le_iff_toInt_le, ← Int32.toInt_inj, show (nI 0).toInt = 0 from rfl, show (nI 1).toInt = 1 from rfl, show (nI 2).toInt = 2 from rfl, show (nI 3).toInt = 3 from rfl, show (nI 7).toInt = 7 from rfl, show (nI 8).toInt = 8 from rfl, show (nI 63).toInt = 63 from rfl, show (nI 200).toInt = 200 from rfl, show (nI 1000000).toInt = 1000000 from rfl, show (nI 10000000).toInt = 10000000 from rfl, show (nI 2000000000).toInt = 2000000000 from rfl, show (0 : Int32).toInt = 0 from rfl, show (-1 : Int32).toInt = -1 from rfl] at c1 c2 c4 c5 c6 c7 ⊢ <;> omega)])⟩ d_policy_36
          · skip
            refine lv_iconst (v := (nI 1)) X.1 X.2.1 d_policy_27 (by decide) ?_
            refine lv_goto (tgt := 32) X.1 X.2.1 d_policy_28 (by decide) ?_
            refine lv_icmp_ge (tgt := 37) X.1 X.2.1 d_policy_32 (by decide) (fun c43 => ?_) (fun c43 => ?_)
            · skip
              refine lv_iload_n X.1 X.2.1 d_policy_37 rfl (lv_at hl 3 rfl) ?_
              refine lv_iload_n X.1 X.2.1 d_policy_38 rfl (lv_at hl 2 rfl) ?_
              refine lv_if_ne (tgt := 48) X.1 X.2.1 d_policy_39 (by decide) (fun c44 => ?_) (fun c44 => ?_)
              · skip
                refine lv_iload_n X.1 X.2.1 d_policy_48 rfl (lv_at hl 2 rfl) ?_
                refine lv_iconst (v := (nI 1)) X.1 X.2.1 d_policy_49 (by decide) ?_
                refine lv_icmp_ne (tgt := 59) X.1 X.2.1 d_policy_50 (by decide) (fun c45 => ?_) (fun c45 => ?_)
                · skip
                  refine lv_iload_n X.1 X.2.1 d_policy_59 rfl (lv_at hl 2 rfl) ?_
                  refine lv_iconst (v := (nI 2)) X.1 X.2.1 d_policy_60 (by decide) ?_
                  refine lv_icmp_ne (tgt := 69) X.1 X.2.1 d_policy_61 (by decide) (fun c46 => ?_) (fun c46 => ?_)
                  · skip
                    refine lv_ldcw (v := (2000000000)) X.1 X.2.1 X.2.2.2.1 (X.2.2.1 _ cn_351) d_policy_69 ?_
                    refine t_eq (y := nI 2000000000) (by decide) ?_
                    refine lv_icmp_le (tgt := 77) X.1 X.2.1 d_policy_72 (by decide) (fun c47 => ?_) (fun c47 => ?_)
                    · skip
                      refine lv_iload_n X.1 X.2.1 d_policy_77 rfl (lv_at hl 2 rfl) ?_
                      refine lv_if_ne (tgt := 91) X.1 X.2.1 d_policy_78 (by decide) (fun c48 => ?_) (fun c48 => ?_)
                      · skip
                        refine lv_iload_n X.1 X.2.1 d_policy_91 rfl (lv_at hl 2 rfl) ?_
                        refine lv_iconst (v := (nI 1)) X.1 X.2.1 d_policy_92 (by decide) ?_
                        refine lv_icmp_ne (tgt := 106) X.1 X.2.1 d_policy_93 (by decide) (fun c49 => ?_) (fun c49 => ?_)
                        · skip
                          refine lv_iload_n X.1 X.2.1 d_policy_106 rfl (lv_at hl 2 rfl) ?_
                          refine lv_iconst (v := (nI 2)) X.1 X.2.1 d_policy_107 (by decide) ?_
                          refine lv_icmp_ne (tgt := 121) X.1 X.2.1 d_policy_108 (by decide) (fun c50 => ?_) (fun c50 => ?_)
                          · skip
                            refine lv_aload_n X.1 X.2.1 d_policy_121 rfl (lv_at hl 0 rfl) ?_
                            refine m_get X Y 51 (by decide) lk_ends (gf_ends _ _ _) rfl d_policy_122 ?_
                            refine lv_iload_n X.1 X.2.1 d_policy_125 rfl (lv_at hl 1 rfl) ?_
                            refine t_eq en3 ?_
                            refine lv_iload_n X.1 X.2.1 d_policy_126 rfl (lv_at hl 3 rfl) ?_
                            refine m_iast X Y (aw_ends _ _ _ _ _ _ _) (vp_in_nI (by omega) (by decide)) (sw_ends _ _ _ _ _ _ _ _) d_policy_127 (fun H locs Y => ?_)
                            generalize (upd (B 51) ((nI n3)).toNatClampNeg a3) = f51 at Y
                            refine lv_iconst (v := (nI 1)) X.1 X.2.1 d_policy_128 (by decide) ?_
                            exact m_retz hQQ X Y hr hlk rfl ⟨(fun j  => rfl), rfl, (fun j h48 h49 h50 h51 => ((if_neg h51).trans rfl)), rfl, (by unfold polR; rw [if_pos (by simp only [Int32.lt_iff_toInt_lt, Int32.le_iff_toInt_le, ← Int32.toInt_inj, show (nI 0).toInt = 0 from rfl, show (nI 1).toInt = 1 from rfl, show (nI 2).toInt = 2 from rfl, show (nI 3).toInt = 3 from rfl, show (nI 7).toInt = 7 from rfl, show (nI 8).toInt = 8 from rfl, show (nI 63).toInt = 63 from rfl, show (nI 200).toInt = 200 from rfl, show (nI 1000000).toInt = 1000000 from rfl, show (nI 10000000).toInt = 10000000 from rfl, show (nI 2000000000).toInt = 2000000000 from rfl, show (0 : Int32).toInt = 0 from rfl, show (-1 : Int32).toInt = -1 from rfl] at c1 c2 c4 c5 c6 c43 c44 c45 c46 c47 c48 c49 c50 ⊢ <;> omega)])⟩ d_policy_129
                          · skip
                            refine lv_aload_n X.1 X.2.1 d_policy_111 rfl (lv_at hl 0 rfl) ?_
                            refine m_get X Y 50 (by decide) lk_flags (gf_flags _ _ _) rfl d_policy_112 ?_
                            refine lv_iload_n X.1 X.2.1 d_policy_115 rfl (lv_at hl 1 rfl) ?_
                            refine t_eq en3 ?_
                            refine lv_iload_n X.1 X.2.1 d_policy_116 rfl (lv_at hl 3 rfl) ?_
                            refine m_iast X Y (aw_flags _ _ _ _ _ _ _) (vp_in_nI (by omega) (by decide)) (sw_flags _ _ _ _ _ _ _ _) d_policy_117 (fun H locs Y => ?_)
                            generalize (upd (B 50) ((nI n3)).toNatClampNeg a3) = f52 at Y
                            refine lv_goto (tgt := 128) X.1 X.2.1 d_policy_118 (by decide) ?_
                            refine lv_iconst (v := (nI 1)) X.1 X.2.1 d_policy_128 (by decide) ?_
                            exact m_retz hQQ X Y hr hlk rfl ⟨(fun j  => rfl), rfl, (fun j h48 h49 h50 h51 => ((if_neg h50).trans rfl)), rfl, (by unfold polR; rw [if_pos (by simp only [Int32.lt_iff_toInt_lt, Int32.le_iff_toInt_le, ← Int32.toInt_inj, show (nI 0).toInt = 0 from rfl, show (nI 1).toInt = 1 from rfl, show (nI 2).toInt = 2 from rfl, show (nI 3).toInt = 3 from rfl, show (nI 7).toInt = 7 from rfl, show (nI 8).toInt = 8 from rfl, show (nI 63).toInt = 63 from rfl, show (nI 200).toInt = 200 from rfl, show (nI 1000000).toInt = 1000000 from rfl, show (nI 10000000).toInt = 10000000 from rfl, show (nI 2000000000).toInt = 2000000000 from rfl, show (0 : Int32).toInt = 0 from rfl, show (-1 : Int32).toInt = -1 from rfl] at c1 c2 c4 c5 c6 c43 c44 c45 c46 c47 c48 c49 c50 ⊢ <;> omega)])⟩ d_policy_129
                        · skip
                          refine lv_aload_n X.1 X.2.1 d_policy_96 rfl (lv_at hl 0 rfl) ?_
                          refine m_get X Y 49 (by decide) lk_renews (gf_renews _ _ _) rfl d_policy_97 ?_
                          refine lv_iload_n X.1 X.2.1 d_policy_100 rfl (lv_at hl 1 rfl) ?_
                          refine t_eq en3 ?_
                          refine lv_iload_n X.1 X.2.1 d_policy_101 rfl (lv_at hl 3 rfl) ?_
                          refine m_iast X Y (aw_renews _ _ _ _ _ _ _) (vp_in_nI (by omega) (by decide)) (sw_renews _ _ _ _ _ _ _ _) d_policy_102 (fun H locs Y => ?_)
                          generalize (upd (B 49) ((nI n3)).toNatClampNeg a3) = f53 at Y
                          refine lv_goto (tgt := 128) X.1 X.2.1 d_policy_103 (by decide) ?_
                          refine lv_iconst (v := (nI 1)) X.1 X.2.1 d_policy_128 (by decide) ?_
                          exact m_retz hQQ X Y hr hlk rfl ⟨(fun j  => rfl), rfl, (fun j h48 h49 h50 h51 => ((if_neg h49).trans rfl)), rfl, (by unfold polR; rw [if_pos (by simp only [Int32.lt_iff_toInt_lt, Int32.le_iff_toInt_le, ← Int32.toInt_inj, show (nI 0).toInt = 0 from rfl, show (nI 1).toInt = 1 from rfl, show (nI 2).toInt = 2 from rfl, show (nI 3).toInt = 3 from rfl, show (nI 7).toInt = 7 from rfl, show (nI 8).toInt = 8 from rfl, show (nI 63).toInt = 63 from rfl, show (nI 200).toInt = 200 from rfl, show (nI 1000000).toInt = 1000000 from rfl, show (nI 10000000).toInt = 10000000 from rfl, show (nI 2000000000).toInt = 2000000000 from rfl, show (0 : Int32).toInt = 0 from rfl, show (-1 : Int32).toInt = -1 from rfl] at c1 c2 c4 c5 c6 c43 c44 c45 c46 c47 c48 c49 ⊢ <;> omega)])⟩ d_policy_129
                      · skip
                        refine lv_aload_n X.1 X.2.1 d_policy_81 rfl (lv_at hl 0 rfl) ?_
                        refine m_get X Y 48 (by decide) lk_lifes (gf_lifes _ _ _) rfl d_policy_82 ?_
                        refine lv_iload_n X.1 X.2.1 d_policy_85 rfl (lv_at hl 1 rfl) ?_
                        refine t_eq en3 ?_
                        refine lv_iload_n X.1 X.2.1 d_policy_86 rfl (lv_at hl 3 rfl) ?_
                        refine m_iast X Y (aw_lifes _ _ _ _ _ _ _) (vp_in_nI (by omega) (by decide)) (sw_lifes _ _ _ _ _ _ _ _) d_policy_87 (fun H locs Y => ?_)
                        generalize (upd (B 48) ((nI n3)).toNatClampNeg a3) = f54 at Y
                        refine lv_goto (tgt := 128) X.1 X.2.1 d_policy_88 (by decide) ?_
                        refine lv_iconst (v := (nI 1)) X.1 X.2.1 d_policy_128 (by decide) ?_
                        exact m_retz hQQ X Y hr hlk rfl ⟨(fun j  => rfl), rfl, (fun j h48 h49 h50 h51 => ((if_neg h48).trans rfl)), rfl, (by unfold polR; rw [if_pos (by simp only [Int32.lt_iff_toInt_lt, Int32.le_iff_toInt_le, ← Int32.toInt_inj, show (nI 0).toInt = 0 from rfl, show (nI 1).toInt = 1 from rfl, show (nI 2).toInt = 2 from rfl, show (nI 3).toInt = 3 from rfl, show (nI 7).toInt = 7 from rfl, show (nI 8).toInt = 8 from rfl, show (nI 63).toInt = 63 from rfl, show (nI 200).toInt = 200 from rfl, show (nI 1000000).toInt = 1000000 from rfl, show (nI 10000000).toInt = 10000000 from rfl, show (nI 2000000000).toInt = 2000000000 from rfl, show (0 : Int32).toInt = 0 from rfl, show (-1 : Int32).toInt = -1 from rfl] at c1 c2 c4 c5 c6 c43 c44 c45 c46 c47 c48 ⊢ <;> omega)])⟩ d_policy_129
                    · skip
                      refine lv_iconst (v := (nI 0)) X.1 X.2.1 d_policy_75 (by decide) ?_
                      exact m_retz hQQ X Y hr hlk rfl ⟨(fun j  => rfl), rfl, (fun j h48 h49 h50 h51 => rfl), rfl, (by unfold polR; rw [if_neg (by simp only [Int32.lt_iff_toInt_lt, Int32.le_iff_toInt_le, ← Int32.toInt_inj, show (nI 0).toInt = 0 from rfl, show (nI 1).toInt = 1 from rfl, show (nI 2).toInt = 2 from rfl, show (nI 3).toInt = 3 from rfl, show (nI 7).toInt = 7 from rfl, show (nI 8).toInt = 8 from rfl, show (nI 63).toInt = 63 from rfl, show (nI 200).toInt = 200 from rfl, show (nI 1000000).toInt = 1000000 from rfl, show (nI 10000000).toInt = 10000000 from rfl, show (nI 2000000000).toInt = 2000000000 from rfl, show (0 : Int32).toInt = 0 from rfl, show (-1 : Int32).toInt = -1 from rfl] at c1 c2 c4 c5 c6 c43 c44 c45 c46 c47 ⊢ <;> omega)])⟩ d_policy_76
                  · skip
                    refine lv_bipush (v := (nI 63)) X.1 X.2.1 d_policy_64 (by decide) ?_
                    refine lv_goto (tgt := 72) X.1 X.2.1 d_policy_66 (by decide) ?_
                    refine lv_icmp_le (tgt := 77) X.1 X.2.1 d_policy_72 (by decide) (fun c55 => ?_) (fun c55 => ?_)
                    · skip
                      refine lv_iload_n X.1 X.2.1 d_policy_77 rfl (lv_at hl 2 rfl) ?_
                      refine lv_if_ne (tgt := 91) X.1 X.2.1 d_policy_78 (by decide) (fun c56 => ?_) (fun c56 => ?_)
                      · skip
                        refine lv_iload_n X.1 X.2.1 d_policy_91 rfl (lv_at hl 2 rfl) ?_
                        refine lv_iconst (v := (nI 1)) X.1 X.2.1 d_policy_92 (by decide) ?_
                        refine lv_icmp_ne (tgt := 106) X.1 X.2.1 d_policy_93 (by decide) (fun c57 => ?_) (fun c57 => ?_)
                        · skip
                          refine lv_iload_n X.1 X.2.1 d_policy_106 rfl (lv_at hl 2 rfl) ?_
                          refine lv_iconst (v := (nI 2)) X.1 X.2.1 d_policy_107 (by decide) ?_
                          refine lv_icmp_ne (tgt := 121) X.1 X.2.1 d_policy_108 (by decide) (fun c58 => ?_) (fun c58 => ?_)
                          · skip
                            refine lv_aload_n X.1 X.2.1 d_policy_121 rfl (lv_at hl 0 rfl) ?_
                            refine m_get X Y 51 (by decide) lk_ends (gf_ends _ _ _) rfl d_policy_122 ?_
                            refine lv_iload_n X.1 X.2.1 d_policy_125 rfl (lv_at hl 1 rfl) ?_
                            refine t_eq en3 ?_
                            refine lv_iload_n X.1 X.2.1 d_policy_126 rfl (lv_at hl 3 rfl) ?_
                            refine m_iast X Y (aw_ends _ _ _ _ _ _ _) (vp_in_nI (by omega) (by decide)) (sw_ends _ _ _ _ _ _ _ _) d_policy_127 (fun H locs Y => ?_)
                            generalize (upd (B 51) ((nI n3)).toNatClampNeg a3) = f59 at Y
                            refine lv_iconst (v := (nI 1)) X.1 X.2.1 d_policy_128 (by decide) ?_
                            exact m_retz hQQ X Y hr hlk rfl ⟨(fun j  => rfl), rfl, (fun j h48 h49 h50 h51 => ((if_neg h51).trans rfl)), rfl, (by unfold polR; rw [if_pos (by simp only [Int32.lt_iff_toInt_lt, Int32.le_iff_toInt_le, ← Int32.toInt_inj, show (nI 0).toInt = 0 from rfl, show (nI 1).toInt = 1 from rfl, show (nI 2).toInt = 2 from rfl, show (nI 3).toInt = 3 from rfl, show (nI 7).toInt = 7 from rfl, show (nI 8).toInt = 8 from rfl, show (nI 63).toInt = 63 from rfl, show (nI 200).toInt = 200 from rfl, show (nI 1000000).toInt = 1000000 from rfl, show (nI 10000000).toInt = 10000000 from rfl, show (nI 2000000000).toInt = 2000000000 from rfl, show (0 : Int32).toInt = 0 from rfl, show (-1 : Int32).toInt = -1 from rfl] at c1 c2 c4 c5 c6 c43 c44 c45 c46 c55 c56 c57 c58 ⊢ <;> omega)])⟩ d_policy_129
                          · skip
                            refine lv_aload_n X.1 X.2.1 d_policy_111 rfl (lv_at hl 0 rfl) ?_
                            refine m_get X Y 50 (by decide) lk_flags (gf_flags _ _ _) rfl d_policy_112 ?_
                            refine lv_iload_n X.1 X.2.1 d_policy_115 rfl (lv_at hl 1 rfl) ?_
                            refine t_eq en3 ?_
                            refine lv_iload_n X.1 X.2.1 d_policy_116 rfl (lv_at hl 3 rfl) ?_
                            refine m_iast X Y (aw_flags _ _ _ _ _ _ _) (vp_in_nI (by omega) (by decide)) (sw_flags _ _ _ _ _ _ _ _) d_policy_117 (fun H locs Y => ?_)
                            generalize (upd (B 50) ((nI n3)).toNatClampNeg a3) = f60 at Y
                            refine lv_goto (tgt := 128) X.1 X.2.1 d_policy_118 (by decide) ?_
                            refine lv_iconst (v := (nI 1)) X.1 X.2.1 d_policy_128 (by decide) ?_
                            exact m_retz hQQ X Y hr hlk rfl ⟨(fun j  => rfl), rfl, (fun j h48 h49 h50 h51 => ((if_neg h50).trans rfl)), rfl, (by unfold polR; rw [if_pos (by simp only [Int32.lt_iff_toInt_lt, Int32.le_iff_toInt_le, ← Int32.toInt_inj, show (nI 0).toInt = 0 from rfl, show (nI 1).toInt = 1 from rfl, show (nI 2).toInt = 2 from rfl, show (nI 3).toInt = 3 from rfl, show (nI 7).toInt = 7 from rfl, show (nI 8).toInt = 8 from rfl, show (nI 63).toInt = 63 from rfl, show (nI 200).toInt = 200 from rfl, show (nI 1000000).toInt = 1000000 from rfl, show (nI 10000000).toInt = 10000000 from rfl, show (nI 2000000000).toInt = 2000000000 from rfl, show (0 : Int32).toInt = 0 from rfl, show (-1 : Int32).toInt = -1 from rfl] at c1 c2 c4 c5 c6 c43 c44 c45 c46 c55 c56 c57 c58 ⊢ <;> omega)])⟩ d_policy_129
                        · skip
                          refine lv_aload_n X.1 X.2.1 d_policy_96 rfl (lv_at hl 0 rfl) ?_
                          refine m_get X Y 49 (by decide) lk_renews (gf_renews _ _ _) rfl d_policy_97 ?_
                          refine lv_iload_n X.1 X.2.1 d_policy_100 rfl (lv_at hl 1 rfl) ?_
                          refine t_eq en3 ?_
                          refine lv_iload_n X.1 X.2.1 d_policy_101 rfl (lv_at hl 3 rfl) ?_
                          refine m_iast X Y (aw_renews _ _ _ _ _ _ _) (vp_in_nI (by omega) (by decide)) (sw_renews _ _ _ _ _ _ _ _) d_policy_102 (fun H locs Y => ?_)
                          generalize (upd (B 49) ((nI n3)).toNatClampNeg a3) = f61 at Y
                          refine lv_goto (tgt := 128) X.1 X.2.1 d_policy_103 (by decide) ?_
                          refine lv_iconst (v := (nI 1)) X.1 X.2.1 d_policy_128 (by decide) ?_
                          exact m_retz hQQ X Y hr hlk rfl ⟨(fun j  => rfl), rfl, (fun j h48 h49 h50 h51 => ((if_neg h49).trans rfl)), rfl, (by unfold polR; rw [if_pos (by simp only [Int32.lt_iff_toInt_lt, Int32.le_iff_toInt_le, ← Int32.toInt_inj, show (nI 0).toInt = 0 from rfl, show (nI 1).toInt = 1 from rfl, show (nI 2).toInt = 2 from rfl, show (nI 3).toInt = 3 from rfl, show (nI 7).toInt = 7 from rfl, show (nI 8).toInt = 8 from rfl, show (nI 63).toInt = 63 from rfl, show (nI 200).toInt = 200 from rfl, show (nI 1000000).toInt = 1000000 from rfl, show (nI 10000000).toInt = 10000000 from rfl, show (nI 2000000000).toInt = 2000000000 from rfl, show (0 : Int32).toInt = 0 from rfl, show (-1 : Int32).toInt = -1 from rfl] at c1 c2 c4 c5 c6 c43 c44 c45 c46 c55 c56 c57 ⊢ <;> omega)])⟩ d_policy_129
                      · skip
                        refine lv_aload_n X.1 X.2.1 d_policy_81 rfl (lv_at hl 0 rfl) ?_
                        refine m_get X Y 48 (by decide) lk_lifes (gf_lifes _ _ _) rfl d_policy_82 ?_
                        refine lv_iload_n X.1 X.2.1 d_policy_85 rfl (lv_at hl 1 rfl) ?_
                        refine t_eq en3 ?_
                        refine lv_iload_n X.1 X.2.1 d_policy_86 rfl (lv_at hl 3 rfl) ?_
                        refine m_iast X Y (aw_lifes _ _ _ _ _ _ _) (vp_in_nI (by omega) (by decide)) (sw_lifes _ _ _ _ _ _ _ _) d_policy_87 (fun H locs Y => ?_)
                        generalize (upd (B 48) ((nI n3)).toNatClampNeg a3) = f62 at Y
                        refine lv_goto (tgt := 128) X.1 X.2.1 d_policy_88 (by decide) ?_
                        refine lv_iconst (v := (nI 1)) X.1 X.2.1 d_policy_128 (by decide) ?_
                        exact m_retz hQQ X Y hr hlk rfl ⟨(fun j  => rfl), rfl, (fun j h48 h49 h50 h51 => ((if_neg h48).trans rfl)), rfl, (by unfold polR; rw [if_pos (by simp only [Int32.lt_iff_toInt_lt, Int32.le_iff_toInt_le, ← Int32.toInt_inj, show (nI 0).toInt = 0 from rfl, show (nI 1).toInt = 1 from rfl, show (nI 2).toInt = 2 from rfl, show (nI 3).toInt = 3 from rfl, show (nI 7).toInt = 7 from rfl, show (nI 8).toInt = 8 from rfl, show (nI 63).toInt = 63 from rfl, show (nI 200).toInt = 200 from rfl, show (nI 1000000).toInt = 1000000 from rfl, show (nI 10000000).toInt = 10000000 from rfl, show (nI 2000000000).toInt = 2000000000 from rfl, show (0 : Int32).toInt = 0 from rfl, show (-1 : Int32).toInt = -1 from rfl] at c1 c2 c4 c5 c6 c43 c44 c45 c46 c55 c56 ⊢ <;> omega)])⟩ d_policy_129
                    · skip
                      refine lv_iconst (v := (nI 0)) X.1 X.2.1 d_policy_75 (by decide) ?_
                      exact m_retz hQQ X Y hr hlk rfl ⟨(fun j  => rfl), rfl, (fun j h48 h49 h50 h51 => rfl), rfl, (by unfold polR; rw [if_neg (by simp only [Int32.lt_iff_toInt_lt, Int32.le_iff_toInt_le, ← Int32.toInt_inj, show (nI 0).toInt = 0 from rfl, show (nI 1).toInt = 1 from rfl, show (nI 2).toInt = 2 from rfl, show (nI 3).toInt = 3 from rfl, show (nI 7).toInt = 7 from rfl, show (nI 8).toInt = 8 from rfl, show (nI 63).toInt = 63 from rfl, show (nI 200).toInt = 200 from rfl, show (nI 1000000).toInt = 1000000 from rfl, show (nI 10000000).toInt = 10000000 from rfl, show (nI 2000000000).toInt = 2000000000 from rfl, show (0 : Int32).toInt = 0 from rfl, show (-1 : Int32).toInt = -1 from rfl] at c1 c2 c4 c5 c6 c43 c44 c45 c46 c55 ⊢ <;> omega)])⟩ d_policy_76
                · skip
                  refine lv_ldcw (v := (10000000)) X.1 X.2.1 X.2.2.2.1 (X.2.2.1 _ cn_645) d_policy_53 ?_
                  refine t_eq (y := nI 10000000) (by decide) ?_
                  refine lv_goto (tgt := 72) X.1 X.2.1 d_policy_56 (by decide) ?_
                  refine lv_icmp_le (tgt := 77) X.1 X.2.1 d_policy_72 (by decide) (fun c63 => ?_) (fun c63 => ?_)
                  · skip
                    refine lv_iload_n X.1 X.2.1 d_policy_77 rfl (lv_at hl 2 rfl) ?_
                    refine lv_if_ne (tgt := 91) X.1 X.2.1 d_policy_78 (by decide) (fun c64 => ?_) (fun c64 => ?_)
                    · skip
                      refine lv_iload_n X.1 X.2.1 d_policy_91 rfl (lv_at hl 2 rfl) ?_
                      refine lv_iconst (v := (nI 1)) X.1 X.2.1 d_policy_92 (by decide) ?_
                      refine lv_icmp_ne (tgt := 106) X.1 X.2.1 d_policy_93 (by decide) (fun c65 => ?_) (fun c65 => ?_)
                      · skip
                        refine lv_iload_n X.1 X.2.1 d_policy_106 rfl (lv_at hl 2 rfl) ?_
                        refine lv_iconst (v := (nI 2)) X.1 X.2.1 d_policy_107 (by decide) ?_
                        refine lv_icmp_ne (tgt := 121) X.1 X.2.1 d_policy_108 (by decide) (fun c66 => ?_) (fun c66 => ?_)
                        · skip
                          refine lv_aload_n X.1 X.2.1 d_policy_121 rfl (lv_at hl 0 rfl) ?_
                          refine m_get X Y 51 (by decide) lk_ends (gf_ends _ _ _) rfl d_policy_122 ?_
                          refine lv_iload_n X.1 X.2.1 d_policy_125 rfl (lv_at hl 1 rfl) ?_
                          refine t_eq en3 ?_
                          refine lv_iload_n X.1 X.2.1 d_policy_126 rfl (lv_at hl 3 rfl) ?_
                          refine m_iast X Y (aw_ends _ _ _ _ _ _ _) (vp_in_nI (by omega) (by decide)) (sw_ends _ _ _ _ _ _ _ _) d_policy_127 (fun H locs Y => ?_)
                          generalize (upd (B 51) ((nI n3)).toNatClampNeg a3) = f67 at Y
                          refine lv_iconst (v := (nI 1)) X.1 X.2.1 d_policy_128 (by decide) ?_
                          exact m_retz hQQ X Y hr hlk rfl ⟨(fun j  => rfl), rfl, (fun j h48 h49 h50 h51 => ((if_neg h51).trans rfl)), rfl, (by unfold polR; rw [if_pos (by simp only [Int32.lt_iff_toInt_lt, Int32.le_iff_toInt_le, ← Int32.toInt_inj, show (nI 0).toInt = 0 from rfl, show (nI 1).toInt = 1 from rfl, show (nI 2).toInt = 2 from rfl, show (nI 3).toInt = 3 from rfl, show (nI 7).toInt = 7 from rfl, show (nI 8).toInt = 8 from rfl, show (nI 63).toInt = 63 from rfl, show (nI 200).toInt = 200 from rfl, show (nI 1000000).toInt = 1000000 from rfl, show (nI 10000000).toInt = 10000000 from rfl, show (nI 2000000000).toInt = 2000000000 from rfl, show (0 : Int32).toInt = 0 from rfl, show (-1 : Int32).toInt = -1 from rfl] at c1 c2 c4 c5 c6 c43 c44 c45 c63 c64 c65 c66 ⊢ <;> omega)])⟩ d_policy_129
                        · skip
                          refine lv_aload_n X.1 X.2.1 d_policy_111 rfl (lv_at hl 0 rfl) ?_
                          refine m_get X Y 50 (by decide) lk_flags (gf_flags _ _ _) rfl d_policy_112 ?_
                          refine lv_iload_n X.1 X.2.1 d_policy_115 rfl (lv_at hl 1 rfl) ?_
                          refine t_eq en3 ?_
                          refine lv_iload_n X.1 X.2.1 d_policy_116 rfl (lv_at hl 3 rfl) ?_
                          refine m_iast X Y (aw_flags _ _ _ _ _ _ _) (vp_in_nI (by omega) (by decide)) (sw_flags _ _ _ _ _ _ _ _) d_policy_117 (fun H locs Y => ?_)
                          generalize (upd (B 50) ((nI n3)).toNatClampNeg a3) = f68 at Y
                          refine lv_goto (tgt := 128) X.1 X.2.1 d_policy_118 (by decide) ?_
                          refine lv_iconst (v := (nI 1)) X.1 X.2.1 d_policy_128 (by decide) ?_
                          exact m_retz hQQ X Y hr hlk rfl ⟨(fun j  => rfl), rfl, (fun j h48 h49 h50 h51 => ((if_neg h50).trans rfl)), rfl, (by unfold polR; rw [if_pos (by simp only [Int32.lt_iff_toInt_lt, Int32.le_iff_toInt_le, ← Int32.toInt_inj, show (nI 0).toInt = 0 from rfl, show (nI 1).toInt = 1 from rfl, show (nI 2).toInt = 2 from rfl, show (nI 3).toInt = 3 from rfl, show (nI 7).toInt = 7 from rfl, show (nI 8).toInt = 8 from rfl, show (nI 63).toInt = 63 from rfl, show (nI 200).toInt = 200 from rfl, show (nI 1000000).toInt = 1000000 from rfl, show (nI 10000000).toInt = 10000000 from rfl, show (nI 2000000000).toInt = 2000000000 from rfl, show (0 : Int32).toInt = 0 from rfl, show (-1 : Int32).toInt = -1 from rfl] at c1 c2 c4 c5 c6 c43 c44 c45 c63 c64 c65 c66 ⊢ <;> omega)])⟩ d_policy_129
                      · skip
                        refine lv_aload_n X.1 X.2.1 d_policy_96 rfl (lv_at hl 0 rfl) ?_
                        refine m_get X Y 49 (by decide) lk_renews (gf_renews _ _ _) rfl d_policy_97 ?_
                        refine lv_iload_n X.1 X.2.1 d_policy_100 rfl (lv_at hl 1 rfl) ?_
                        refine t_eq en3 ?_
                        refine lv_iload_n X.1 X.2.1 d_policy_101 rfl (lv_at hl 3 rfl) ?_
                        refine m_iast X Y (aw_renews _ _ _ _ _ _ _) (vp_in_nI (by omega) (by decide)) (sw_renews _ _ _ _ _ _ _ _) d_policy_102 (fun H locs Y => ?_)
                        generalize (upd (B 49) ((nI n3)).toNatClampNeg a3) = f69 at Y
                        refine lv_goto (tgt := 128) X.1 X.2.1 d_policy_103 (by decide) ?_
                        refine lv_iconst (v := (nI 1)) X.1 X.2.1 d_policy_128 (by decide) ?_
                        exact m_retz hQQ X Y hr hlk rfl ⟨(fun j  => rfl), rfl, (fun j h48 h49 h50 h51 => ((if_neg h49).trans rfl)), rfl, (by unfold polR; rw [if_pos (by simp only [Int32.lt_iff_toInt_lt, Int32.le_iff_toInt_le, ← Int32.toInt_inj, show (nI 0).toInt = 0 from rfl, show (nI 1).toInt = 1 from rfl, show (nI 2).toInt = 2 from rfl, show (nI 3).toInt = 3 from rfl, show (nI 7).toInt = 7 from rfl, show (nI 8).toInt = 8 from rfl, show (nI 63).toInt = 63 from rfl, show (nI 200).toInt = 200 from rfl, show (nI 1000000).toInt = 1000000 from rfl, show (nI 10000000).toInt = 10000000 from rfl, show (nI 2000000000).toInt = 2000000000 from rfl, show (0 : Int32).toInt = 0 from rfl, show (-1 : Int32).toInt = -1 from rfl] at c1 c2 c4 c5 c6 c43 c44 c45 c63 c64 c65 ⊢ <;> omega)])⟩ d_policy_129
                    · skip
                      refine lv_aload_n X.1 X.2.1 d_policy_81 rfl (lv_at hl 0 rfl) ?_
                      refine m_get X Y 48 (by decide) lk_lifes (gf_lifes _ _ _) rfl d_policy_82 ?_
                      refine lv_iload_n X.1 X.2.1 d_policy_85 rfl (lv_at hl 1 rfl) ?_
                      refine t_eq en3 ?_
                      refine lv_iload_n X.1 X.2.1 d_policy_86 rfl (lv_at hl 3 rfl) ?_
                      refine m_iast X Y (aw_lifes _ _ _ _ _ _ _) (vp_in_nI (by omega) (by decide)) (sw_lifes _ _ _ _ _ _ _ _) d_policy_87 (fun H locs Y => ?_)
                      generalize (upd (B 48) ((nI n3)).toNatClampNeg a3) = f70 at Y
                      refine lv_goto (tgt := 128) X.1 X.2.1 d_policy_88 (by decide) ?_
                      refine lv_iconst (v := (nI 1)) X.1 X.2.1 d_policy_128 (by decide) ?_
                      exact m_retz hQQ X Y hr hlk rfl ⟨(fun j  => rfl), rfl, (fun j h48 h49 h50 h51 => ((if_neg h48).trans rfl)), rfl, (by unfold polR; rw [if_pos (by simp only [Int32.lt_iff_toInt_lt, Int32.le_iff_toInt_le, ← Int32.toInt_inj, show (nI 0).toInt = 0 from rfl, show (nI 1).toInt = 1 from rfl, show (nI 2).toInt = 2 from rfl, show (nI 3).toInt = 3 from rfl, show (nI 7).toInt = 7 from rfl, show (nI 8).toInt = 8 from rfl, show (nI 63).toInt = 63 from rfl, show (nI 200).toInt = 200 from rfl, show (nI 1000000).toInt = 1000000 from rfl, show (nI 10000000).toInt = 10000000 from rfl, show (nI 2000000000).toInt = 2000000000 from rfl, show (0 : Int32).toInt = 0 from rfl, show (-1 : Int32).toInt = -1 from rfl] at c1 c2 c4 c5 c6 c43 c44 c45 c63 c64 ⊢ <;> omega)])⟩ d_policy_129
                  · skip
                    refine lv_iconst (v := (nI 0)) X.1 X.2.1 d_policy_75 (by decide) ?_
                    exact m_retz hQQ X Y hr hlk rfl ⟨(fun j  => rfl), rfl, (fun j h48 h49 h50 h51 => rfl), rfl, (by unfold polR; rw [if_neg (by simp only [Int32.lt_iff_toInt_lt, Int32.le_iff_toInt_le, ← Int32.toInt_inj, show (nI 0).toInt = 0 from rfl, show (nI 1).toInt = 1 from rfl, show (nI 2).toInt = 2 from rfl, show (nI 3).toInt = 3 from rfl, show (nI 7).toInt = 7 from rfl, show (nI 8).toInt = 8 from rfl, show (nI 63).toInt = 63 from rfl, show (nI 200).toInt = 200 from rfl, show (nI 1000000).toInt = 1000000 from rfl, show (nI 10000000).toInt = 10000000 from rfl, show (nI 2000000000).toInt = 2000000000 from rfl, show (0 : Int32).toInt = 0 from rfl, show (-1 : Int32).toInt = -1 from rfl] at c1 c2 c4 c5 c6 c43 c44 c45 c63 ⊢ <;> omega)])⟩ d_policy_76
              · skip
                refine lv_ldcw (v := (1000000)) X.1 X.2.1 X.2.2.2.1 (X.2.2.1 _ cn_644) d_policy_42 ?_
                refine t_eq (y := nI 1000000) (by decide) ?_
                refine lv_goto (tgt := 72) X.1 X.2.1 d_policy_45 (by decide) ?_
                refine lv_icmp_le (tgt := 77) X.1 X.2.1 d_policy_72 (by decide) (fun c71 => ?_) (fun c71 => ?_)
                · skip
                  refine lv_iload_n X.1 X.2.1 d_policy_77 rfl (lv_at hl 2 rfl) ?_
                  refine lv_if_ne (tgt := 91) X.1 X.2.1 d_policy_78 (by decide) (fun c72 => ?_) (fun c72 => ?_)
                  · skip
                    refine lv_iload_n X.1 X.2.1 d_policy_91 rfl (lv_at hl 2 rfl) ?_
                    refine lv_iconst (v := (nI 1)) X.1 X.2.1 d_policy_92 (by decide) ?_
                    refine lv_icmp_ne (tgt := 106) X.1 X.2.1 d_policy_93 (by decide) (fun c73 => ?_) (fun c73 => ?_)
                    · skip
                      refine lv_iload_n X.1 X.2.1 d_policy_106 rfl (lv_at hl 2 rfl) ?_
                      refine lv_iconst (v := (nI 2)) X.1 X.2.1 d_policy_107 (by decide) ?_
                      refine lv_icmp_ne (tgt := 121) X.1 X.2.1 d_policy_108 (by decide) (fun c74 => ?_) (fun c74 => ?_)
                      · skip
                        refine lv_aload_n X.1 X.2.1 d_policy_121 rfl (lv_at hl 0 rfl) ?_
                        refine m_get X Y 51 (by decide) lk_ends (gf_ends _ _ _) rfl d_policy_122 ?_
                        refine lv_iload_n X.1 X.2.1 d_policy_125 rfl (lv_at hl 1 rfl) ?_
                        refine t_eq en3 ?_
                        refine lv_iload_n X.1 X.2.1 d_policy_126 rfl (lv_at hl 3 rfl) ?_
                        refine m_iast X Y (aw_ends _ _ _ _ _ _ _) (vp_in_nI (by omega) (by decide)) (sw_ends _ _ _ _ _ _ _ _) d_policy_127 (fun H locs Y => ?_)
                        generalize (upd (B 51) ((nI n3)).toNatClampNeg a3) = f75 at Y
                        refine lv_iconst (v := (nI 1)) X.1 X.2.1 d_policy_128 (by decide) ?_
                        exact m_retz hQQ X Y hr hlk rfl ⟨(fun j  => rfl), rfl, (fun j h48 h49 h50 h51 => ((if_neg h51).trans rfl)), rfl, (by unfold polR; rw [if_pos (by simp only [Int32.lt_iff_toInt_lt, Int32.le_iff_toInt_le, ← Int32.toInt_inj, show (nI 0).toInt = 0 from rfl, show (nI 1).toInt = 1 from rfl, show (nI 2).toInt = 2 from rfl, show (nI 3).toInt = 3 from rfl, show (nI 7).toInt = 7 from rfl, show (nI 8).toInt = 8 from rfl, show (nI 63).toInt = 63 from rfl, show (nI 200).toInt = 200 from rfl, show (nI 1000000).toInt = 1000000 from rfl, show (nI 10000000).toInt = 10000000 from rfl, show (nI 2000000000).toInt = 2000000000 from rfl, show (0 : Int32).toInt = 0 from rfl, show (-1 : Int32).toInt = -1 from rfl] at c1 c2 c4 c5 c6 c43 c44 c71 c72 c73 c74 ⊢ <;> omega)])⟩ d_policy_129
                      · skip
                        refine lv_aload_n X.1 X.2.1 d_policy_111 rfl (lv_at hl 0 rfl) ?_
                        refine m_get X Y 50 (by decide) lk_flags (gf_flags _ _ _) rfl d_policy_112 ?_
                        refine lv_iload_n X.1 X.2.1 d_policy_115 rfl (lv_at hl 1 rfl) ?_
                        refine t_eq en3 ?_
                        refine lv_iload_n X.1 X.2.1 d_policy_116 rfl (lv_at hl 3 rfl) ?_
                        refine m_iast X Y (aw_flags _ _ _ _ _ _ _) (vp_in_nI (by omega) (by decide)) (sw_flags _ _ _ _ _ _ _ _) d_policy_117 (fun H locs Y => ?_)
                        generalize (upd (B 50) ((nI n3)).toNatClampNeg a3) = f76 at Y
                        refine lv_goto (tgt := 128) X.1 X.2.1 d_policy_118 (by decide) ?_
                        refine lv_iconst (v := (nI 1)) X.1 X.2.1 d_policy_128 (by decide) ?_
                        exact m_retz hQQ X Y hr hlk rfl ⟨(fun j  => rfl), rfl, (fun j h48 h49 h50 h51 => ((if_neg h50).trans rfl)), rfl, (by unfold polR; rw [if_pos (by simp only [Int32.lt_iff_toInt_lt, Int32.le_iff_toInt_le, ← Int32.toInt_inj, show (nI 0).toInt = 0 from rfl, show (nI 1).toInt = 1 from rfl, show (nI 2).toInt = 2 from rfl, show (nI 3).toInt = 3 from rfl, show (nI 7).toInt = 7 from rfl, show (nI 8).toInt = 8 from rfl, show (nI 63).toInt = 63 from rfl, show (nI 200).toInt = 200 from rfl, show (nI 1000000).toInt = 1000000 from rfl, show (nI 10000000).toInt = 10000000 from rfl, show (nI 2000000000).toInt = 2000000000 from rfl, show (0 : Int32).toInt = 0 from rfl, show (-1 : Int32).toInt = -1 from rfl] at c1 c2 c4 c5 c6 c43 c44 c71 c72 c73 c74 ⊢ <;> omega)])⟩ d_policy_129
                    · skip
                      refine lv_aload_n X.1 X.2.1 d_policy_96 rfl (lv_at hl 0 rfl) ?_
                      refine m_get X Y 49 (by decide) lk_renews (gf_renews _ _ _) rfl d_policy_97 ?_
                      refine lv_iload_n X.1 X.2.1 d_policy_100 rfl (lv_at hl 1 rfl) ?_
                      refine t_eq en3 ?_
                      refine lv_iload_n X.1 X.2.1 d_policy_101 rfl (lv_at hl 3 rfl) ?_
                      refine m_iast X Y (aw_renews _ _ _ _ _ _ _) (vp_in_nI (by omega) (by decide)) (sw_renews _ _ _ _ _ _ _ _) d_policy_102 (fun H locs Y => ?_)
                      generalize (upd (B 49) ((nI n3)).toNatClampNeg a3) = f77 at Y
                      refine lv_goto (tgt := 128) X.1 X.2.1 d_policy_103 (by decide) ?_
                      refine lv_iconst (v := (nI 1)) X.1 X.2.1 d_policy_128 (by decide) ?_
                      exact m_retz hQQ X Y hr hlk rfl ⟨(fun j  => rfl), rfl, (fun j h48 h49 h50 h51 => ((if_neg h49).trans rfl)), rfl, (by unfold polR; rw [if_pos (by simp only [Int32.lt_iff_toInt_lt, Int32.le_iff_toInt_le, ← Int32.toInt_inj, show (nI 0).toInt = 0 from rfl, show (nI 1).toInt = 1 from rfl, show (nI 2).toInt = 2 from rfl, show (nI 3).toInt = 3 from rfl, show (nI 7).toInt = 7 from rfl, show (nI 8).toInt = 8 from rfl, show (nI 63).toInt = 63 from rfl, show (nI 200).toInt = 200 from rfl, show (nI 1000000).toInt = 1000000 from rfl, show (nI 10000000).toInt = 10000000 from rfl, show (nI 2000000000).toInt = 2000000000 from rfl, show (0 : Int32).toInt = 0 from rfl, show (-1 : Int32).toInt = -1 from rfl] at c1 c2 c4 c5 c6 c43 c44 c71 c72 c73 ⊢ <;> omega)])⟩ d_policy_129
                  · skip
                    refine lv_aload_n X.1 X.2.1 d_policy_81 rfl (lv_at hl 0 rfl) ?_
                    refine m_get X Y 48 (by decide) lk_lifes (gf_lifes _ _ _) rfl d_policy_82 ?_
                    refine lv_iload_n X.1 X.2.1 d_policy_85 rfl (lv_at hl 1 rfl) ?_
                    refine t_eq en3 ?_
                    refine lv_iload_n X.1 X.2.1 d_policy_86 rfl (lv_at hl 3 rfl) ?_
                    refine m_iast X Y (aw_lifes _ _ _ _ _ _ _) (vp_in_nI (by omega) (by decide)) (sw_lifes _ _ _ _ _ _ _ _) d_policy_87 (fun H locs Y => ?_)
                    generalize (upd (B 48) ((nI n3)).toNatClampNeg a3) = f78 at Y
                    refine lv_goto (tgt := 128) X.1 X.2.1 d_policy_88 (by decide) ?_
                    refine lv_iconst (v := (nI 1)) X.1 X.2.1 d_policy_128 (by decide) ?_
                    exact m_retz hQQ X Y hr hlk rfl ⟨(fun j  => rfl), rfl, (fun j h48 h49 h50 h51 => ((if_neg h48).trans rfl)), rfl, (by unfold polR; rw [if_pos (by simp only [Int32.lt_iff_toInt_lt, Int32.le_iff_toInt_le, ← Int32.toInt_inj, show (nI 0).toInt = 0 from rfl, show (nI 1).toInt = 1 from rfl, show (nI 2).toInt = 2 from rfl, show (nI 3).toInt = 3 from rfl, show (nI 7).toInt = 7 from rfl, show (nI 8).toInt = 8 from rfl, show (nI 63).toInt = 63 from rfl, show (nI 200).toInt = 200 from rfl, show (nI 1000000).toInt = 1000000 from rfl, show (nI 10000000).toInt = 10000000 from rfl, show (nI 2000000000).toInt = 2000000000 from rfl, show (0 : Int32).toInt = 0 from rfl, show (-1 : Int32).toInt = -1 from rfl] at c1 c2 c4 c5 c6 c43 c44 c71 c72 ⊢ <;> omega)])⟩ d_policy_129
                · skip
                  refine lv_iconst (v := (nI 0)) X.1 X.2.1 d_policy_75 (by decide) ?_
                  exact m_retz hQQ X Y hr hlk rfl ⟨(fun j  => rfl), rfl, (fun j h48 h49 h50 h51 => rfl), rfl, (by unfold polR; rw [if_neg (by simp only [Int32.lt_iff_toInt_lt, Int32.le_iff_toInt_le, ← Int32.toInt_inj, show (nI 0).toInt = 0 from rfl, show (nI 1).toInt = 1 from rfl, show (nI 2).toInt = 2 from rfl, show (nI 3).toInt = 3 from rfl, show (nI 7).toInt = 7 from rfl, show (nI 8).toInt = 8 from rfl, show (nI 63).toInt = 63 from rfl, show (nI 200).toInt = 200 from rfl, show (nI 1000000).toInt = 1000000 from rfl, show (nI 10000000).toInt = 10000000 from rfl, show (nI 2000000000).toInt = 2000000000 from rfl, show (0 : Int32).toInt = 0 from rfl, show (-1 : Int32).toInt = -1 from rfl] at c1 c2 c4 c5 c6 c43 c44 c71 ⊢ <;> omega)])⟩ d_policy_76
            · skip
              refine lv_iconst (v := (nI 0)) X.1 X.2.1 d_policy_35 (by decide) ?_
              exact m_retz hQQ X Y hr hlk rfl ⟨(fun j  => rfl), rfl, (fun j h48 h49 h50 h51 => rfl), rfl, (by unfold polR; rw [if_neg (by simp only [Int32.lt_iff_toInt_lt, Int32.le_iff_toInt_le, ← Int32.toInt_inj, show (nI 0).toInt = 0 from rfl, show (nI 1).toInt = 1 from rfl, show (nI 2).toInt = 2 from rfl, show (nI 3).toInt = 3 from rfl, show (nI 7).toInt = 7 from rfl, show (nI 8).toInt = 8 from rfl, show (nI 63).toInt = 63 from rfl, show (nI 200).toInt = 200 from rfl, show (nI 1000000).toInt = 1000000 from rfl, show (nI 10000000).toInt = 10000000 from rfl, show (nI 2000000000).toInt = 2000000000 from rfl, show (0 : Int32).toInt = 0 from rfl, show (-1 : Int32).toInt = -1 from rfl] at c1 c2 c4 c5 c6 c43 ⊢ <;> omega)])⟩ d_policy_36
set_option maxHeartbeats 4000000 in
set_option maxRecDepth 100000 in
theorem c_change_new (l : Launch) (D : mD) (E : mE) (h : Nat) (q : Nat → Nat) (sz : Nat) (I : Nat → Int32) (J : Nat → Int64) (B : Nat → Nat → Int32) (G : Nat → Nat → Int64) (a1 a2 : Int32) (hn : I 2 = nI 0) (hp : I 43 = nI 1) (hv : B 46 0 = nI 1) (hns : B 45 0 = nI 12) (y12 : by8 (B 12)) (y13 : by8 (B 13)) (y16 : by8 (B 16)) (y17 : by8 (B 17)) : Met l y_change (k_change :: lw_tg) (mR 7 172) (va_Pc [.ref h, .int a1, .int a2] (mPre D E h q (I, J, B, G) sz)) (va_Qi (fun (r : Int32) (u : mS) => (∀ j, j ≠ 2 → j ≠ 8 → j ≠ 14 → j ≠ 18 → j ≠ 29 → j ≠ 30 → u.1 j = I j) ∧ u.2.1 = J ∧ (∀ j, j ≠ 5 → j ≠ 6 → j ≠ 7 → j ≠ 9 → j ≠ 10 → j ≠ 11 → j ≠ 12 → j ≠ 13 → j ≠ 15 → j ≠ 16 → j ≠ 17 → j ≠ 19 → j ≠ 20 → j ≠ 21 → j ≠ 24 → j ≠ 25 → j ≠ 26 → j ≠ 27 → j ≠ 46 → j ≠ 47 → j ≠ 52 → j ≠ 56 → u.2.2.1 j = B j) ∧ u.2.2.2 = G ∧ (r = (if a1 = nI 0 ∧ nI 1 ≤ a2 ∧ a2 ≤ nI 200 then nI 2 else (-1)))) (mPost D E h q (mA E h q sz)) (mA E h q sz)) 0 0 (mA E h q sz) := by
  refine m_enter (by decide) rfl (Nat.le_of_ble_eq_true rfl) (fun p e s m below meth c ls AV QQ H locs hQQ X Y hZ hA hr hlk hml hl => ?_)
  have Y : mH D E (mA E h q sz) s.heap h q I J B G H locs := Y
  have hl : lv_has ls 4 [(0, .ref h), (1, .int a1), (2, .int a2)] := hl
  refine lv_iload_n X.1 X.2.1 d_change_0 rfl (lv_at hl 1 rfl) ?_
  refine lv_if_lt (tgt := 40) X.1 X.2.1 d_change_1 (by decide) (fun c1 => ?_) (fun c1 => ?_)
  · skip
    refine lv_iconst (v := (nI 0)) X.1 X.2.1 d_change_40 (by decide) ?_
    refine lv_istore_n (lv' := [(3, .int (nI 0)), (0, .ref h), (1, .int a1), (2, .int a2)]) X.1 X.2.1 d_change_41 rfl hl (by decide) rfl (fun ls hl => ?_)
    refine lv_aload_n X.1 X.2.1 d_change_42 rfl (lv_at hl 1 rfl) ?_
    refine lv_iconst (v := (nI 0)) X.1 X.2.1 d_change_43 (by decide) ?_
    refine m_puti X Y 2 (by decide) lk_length rfl rfl (t_M_ok 2 (by decide)) rfl rfl (sf_length _ _ _ _) (Nat.le_of_ble_eq_true rfl) d_change_44 (fun H locs Y => ?_)
    refine lv_iload_n X.1 X.2.1 d_change_47 rfl (lv_at hl 0 rfl) ?_
    refine lv_if_ne (tgt := 53) X.1 X.2.1 d_change_48 (by decide) (fun c2 => absurd c2 ?_) (fun c2 => ?_)
    · (rw [← nI_0, nI_eq (by omega) (by omega)] <;> omega)
    rw [← nI_0] at c2
    rw [nI_eq (by omega) (by omega)] at c2
    refine lv_iconst (v := (-1)) X.1 X.2.1 d_change_51 (by decide) ?_
    exact m_reti hQQ X Y hr hlk ⟨(fun j h2 h8 h14 h18 h29 h30 => ((if_neg h2).trans rfl)), rfl, (fun j h5 h6 h7 h9 h10 h11 h12 h13 h15 h16 h17 h19 h20 h21 h24 h25 h26 h27 h46 h47 h52 h56 => rfl), rfl, (by rw [if_neg (by simp only [Int32.lt_iff_toInt_lt, Int32.le_iff_toInt_le, ← Int32.toInt_inj, show (nI 0).toInt = 0 from rfl, show (nI 1).toInt = 1 from rfl, show (nI 2).toInt = 2 from rfl, show (nI 3).toInt = 3 from rfl, show (nI 7).toInt = 7 from rfl, show (nI 8).toInt = 8 from rfl, show (nI 63).toInt = 63 from rfl, show (nI 200).toInt = 200 from rfl, show (nI 1000000).toInt = 1000000 from rfl, show (nI 10000000).toInt = 10000000 from rfl, show (nI 2000000000).toInt = 2000000000 from rfl, show (0 : Int32).toInt = 0 from rfl, show (-1 : Int32).toInt = -1 from rfl] at c1 c2 ⊢ <;> omega)])⟩ d_change_52
  · skip
    refine lv_iload_n X.1 X.2.1 d_change_4 rfl (lv_at hl 1 rfl) ?_
    refine lv_aload_n X.1 X.2.1 d_change_5 rfl (lv_at hl 0 rfl) ?_
    refine m_get X Y 43 (by decide) lk_principals (gf_principals _ _ _) rfl d_change_6 ?_
    refine t_eq (show I 43 = nI (1) from hp) ?_
    refine lv_icmp_ge (tgt := 40) X.1 X.2.1 d_change_9 (by decide) (fun c3 => ?_) (fun c3 => ?_)
    · skip
      refine lv_iconst (v := (nI 0)) X.1 X.2.1 d_change_40 (by decide) ?_
      refine lv_istore_n (lv' := [(3, .int (nI 0)), (0, .ref h), (1, .int a1), (2, .int a2)]) X.1 X.2.1 d_change_41 rfl hl (by decide) rfl (fun ls hl => ?_)
      refine lv_aload_n X.1 X.2.1 d_change_42 rfl (lv_at hl 1 rfl) ?_
      refine lv_iconst (v := (nI 0)) X.1 X.2.1 d_change_43 (by decide) ?_
      refine m_puti X Y 2 (by decide) lk_length rfl rfl (t_M_ok 2 (by decide)) rfl rfl (sf_length _ _ _ _) (Nat.le_of_ble_eq_true rfl) d_change_44 (fun H locs Y => ?_)
      refine lv_iload_n X.1 X.2.1 d_change_47 rfl (lv_at hl 0 rfl) ?_
      refine lv_if_ne (tgt := 53) X.1 X.2.1 d_change_48 (by decide) (fun c4 => absurd c4 ?_) (fun c4 => ?_)
      · (rw [← nI_0, nI_eq (by omega) (by omega)] <;> omega)
      rw [← nI_0] at c4
      rw [nI_eq (by omega) (by omega)] at c4
      refine lv_iconst (v := (-1)) X.1 X.2.1 d_change_51 (by decide) ?_
      exact m_reti hQQ X Y hr hlk ⟨(fun j h2 h8 h14 h18 h29 h30 => ((if_neg h2).trans rfl)), rfl, (fun j h5 h6 h7 h9 h10 h11 h12 h13 h15 h16 h17 h19 h20 h21 h24 h25 h26 h27 h46 h47 h52 h56 => rfl), rfl, (by rw [if_neg (by simp only [Int32.lt_iff_toInt_lt, Int32.le_iff_toInt_le, ← Int32.toInt_inj, show (nI 0).toInt = 0 from rfl, show (nI 1).toInt = 1 from rfl, show (nI 2).toInt = 2 from rfl, show (nI 3).toInt = 3 from rfl, show (nI 7).toInt = 7 from rfl, show (nI 8).toInt = 8 from rfl, show (nI 63).toInt = 63 from rfl, show (nI 200).toInt = 200 from rfl, show (nI 1000000).toInt = 1000000 from rfl, show (nI 10000000).toInt = 10000000 from rfl, show (nI 2000000000).toInt = 2000000000 from rfl, show (0 : Int32).toInt = 0 from rfl, show (-1 : Int32).toInt = -1 from rfl] at c1 c3 c4 ⊢ <;> omega)])⟩ d_change_52
    · skip
      refine lv_iload_n X.1 X.2.1 d_change_12 rfl (lv_at hl 2 rfl) ?_
      refine lv_iconst (v := (nI 1)) X.1 X.2.1 d_change_13 (by decide) ?_
      refine lv_icmp_lt (tgt := 40) X.1 X.2.1 d_change_14 (by decide) (fun c5 => ?_) (fun c5 => ?_)
      · skip
        refine lv_iconst (v := (nI 0)) X.1 X.2.1 d_change_40 (by decide) ?_
        refine lv_istore_n (lv' := [(3, .int (nI 0)), (0, .ref h), (1, .int a1), (2, .int a2)]) X.1 X.2.1 d_change_41 rfl hl (by decide) rfl (fun ls hl => ?_)
        refine lv_aload_n X.1 X.2.1 d_change_42 rfl (lv_at hl 1 rfl) ?_
        refine lv_iconst (v := (nI 0)) X.1 X.2.1 d_change_43 (by decide) ?_
        refine m_puti X Y 2 (by decide) lk_length rfl rfl (t_M_ok 2 (by decide)) rfl rfl (sf_length _ _ _ _) (Nat.le_of_ble_eq_true rfl) d_change_44 (fun H locs Y => ?_)
        refine lv_iload_n X.1 X.2.1 d_change_47 rfl (lv_at hl 0 rfl) ?_
        refine lv_if_ne (tgt := 53) X.1 X.2.1 d_change_48 (by decide) (fun c6 => absurd c6 ?_) (fun c6 => ?_)
        · (rw [← nI_0, nI_eq (by omega) (by omega)] <;> omega)
        rw [← nI_0] at c6
        rw [nI_eq (by omega) (by omega)] at c6
        refine lv_iconst (v := (-1)) X.1 X.2.1 d_change_51 (by decide) ?_
        exact m_reti hQQ X Y hr hlk ⟨(fun j h2 h8 h14 h18 h29 h30 => ((if_neg h2).trans rfl)), rfl, (fun j h5 h6 h7 h9 h10 h11 h12 h13 h15 h16 h17 h19 h20 h21 h24 h25 h26 h27 h46 h47 h52 h56 => rfl), rfl, (by rw [if_neg (by simp only [Int32.lt_iff_toInt_lt, Int32.le_iff_toInt_le, ← Int32.toInt_inj, show (nI 0).toInt = 0 from rfl, show (nI 1).toInt = 1 from rfl, show (nI 2).toInt = 2 from rfl, show (nI 3).toInt = 3 from rfl, show (nI 7).toInt = 7 from rfl, show (nI 8).toInt = 8 from rfl, show (nI 63).toInt = 63 from rfl, show (nI 200).toInt = 200 from rfl, show (nI 1000000).toInt = 1000000 from rfl, show (nI 10000000).toInt = 10000000 from rfl, show (nI 2000000000).toInt = 2000000000 from rfl, show (0 : Int32).toInt = 0 from rfl, show (-1 : Int32).toInt = -1 from rfl] at c1 c3 c5 c6 ⊢ <;> omega)])⟩ d_change_52
      · skip
        refine lv_iload_n X.1 X.2.1 d_change_17 rfl (lv_at hl 2 rfl) ?_
        refine lv_sipush (v := (nI 200)) X.1 X.2.1 d_change_18 (by decide) ?_
        refine lv_icmp_gt (tgt := 40) X.1 X.2.1 d_change_21 (by decide) (fun c7 => ?_) (fun c7 => ?_)
        · skip
          refine lv_iconst (v := (nI 0)) X.1 X.2.1 d_change_40 (by decide) ?_
          refine lv_istore_n (lv' := [(3, .int (nI 0)), (0, .ref h), (1, .int a1), (2, .int a2)]) X.1 X.2.1 d_change_41 rfl hl (by decide) rfl (fun ls hl => ?_)
          refine lv_aload_n X.1 X.2.1 d_change_42 rfl (lv_at hl 1 rfl) ?_
          refine lv_iconst (v := (nI 0)) X.1 X.2.1 d_change_43 (by decide) ?_
          refine m_puti X Y 2 (by decide) lk_length rfl rfl (t_M_ok 2 (by decide)) rfl rfl (sf_length _ _ _ _) (Nat.le_of_ble_eq_true rfl) d_change_44 (fun H locs Y => ?_)
          refine lv_iload_n X.1 X.2.1 d_change_47 rfl (lv_at hl 0 rfl) ?_
          refine lv_if_ne (tgt := 53) X.1 X.2.1 d_change_48 (by decide) (fun c8 => absurd c8 ?_) (fun c8 => ?_)
          · (rw [← nI_0, nI_eq (by omega) (by omega)] <;> omega)
          rw [← nI_0] at c8
          rw [nI_eq (by omega) (by omega)] at c8
          refine lv_iconst (v := (-1)) X.1 X.2.1 d_change_51 (by decide) ?_
          exact m_reti hQQ X Y hr hlk ⟨(fun j h2 h8 h14 h18 h29 h30 => ((if_neg h2).trans rfl)), rfl, (fun j h5 h6 h7 h9 h10 h11 h12 h13 h15 h16 h17 h19 h20 h21 h24 h25 h26 h27 h46 h47 h52 h56 => rfl), rfl, (by rw [if_neg (by simp only [Int32.lt_iff_toInt_lt, Int32.le_iff_toInt_le, ← Int32.toInt_inj, show (nI 0).toInt = 0 from rfl, show (nI 1).toInt = 1 from rfl, show (nI 2).toInt = 2 from rfl, show (nI 3).toInt = 3 from rfl, show (nI 7).toInt = 7 from rfl, show (nI 8).toInt = 8 from rfl, show (nI 63).toInt = 63 from rfl, show (nI 200).toInt = 200 from rfl, show (nI 1000000).toInt = 1000000 from rfl, show (nI 10000000).toInt = 10000000 from rfl, show (nI 2000000000).toInt = 2000000000 from rfl, show (0 : Int32).toInt = 0 from rfl, show (-1 : Int32).toInt = -1 from rfl] at c1 c3 c5 c7 c8 ⊢ <;> omega)])⟩ d_change_52
        · skip
          obtain ⟨n9, hn9, en9⟩ := ((pk_ix a1 (n := 1) (by decide)).resolve_left c1).resolve_left c3
          obtain rfl : n9 = 0 := by omega
          obtain ⟨k2, hk2, ek2⟩ := nI_of (show ¬ a2 < 0 by simp only [Int32.lt_iff_toInt_lt, Int32.le_iff_toInt_le, ← Int32.toInt_inj, show (nI 0).toInt = 0 from rfl, show (nI 1).toInt = 1 from rfl, show (nI 2).toInt = 2 from rfl, show (nI 3).toInt = 3 from rfl, show (nI 7).toInt = 7 from rfl, show (nI 8).toInt = 8 from rfl, show (nI 63).toInt = 63 from rfl, show (nI 200).toInt = 200 from rfl, show (nI 1000000).toInt = 1000000 from rfl, show (nI 10000000).toInt = 10000000 from rfl, show (nI 2000000000).toInt = 2000000000 from rfl, show (0 : Int32).toInt = 0 from rfl, show (-1 : Int32).toInt = -1 from rfl] at c5 ⊢ <;> omega)
          have h1k2 : 1 ≤ k2 := by rw [ek2, nI_ltI (by omega) (by omega)] at c5; omega
          have h2k2 : k2 ≤ 200 := by rw [ek2, nI_ltI (by omega) (by omega)] at c7; omega
          refine lv_aload_n X.1 X.2.1 d_change_24 rfl (lv_at hl 0 rfl) ?_
          refine lv_iconst (v := (nI 0)) X.1 X.2.1 d_change_25 (by decide) ?_
          refine lv_aload_n X.1 X.2.1 d_change_26 rfl (lv_at hl 0 rfl) ?_
          refine m_get X Y 2 (by decide) lk_length (gf_length _ _ _) rfl d_change_27 ?_
          refine t_eq (show I 2 = nI (0) from hn) ?_
          refine m_calli (As := [.int (nI 0), .int (nI (0))]) (rest := []) (n := 2) X Y hZ hA hml hl.1 (c_passwordRead l D E h q H.size I J B G (0) (0) (by omega) (by omega)) kl_passwordRead ks_passwordRead kx_passwordRead ki_passwordRead ini_M hd_passwordRead ⟨by decide, by decide⟩ rfl (Nat.le_of_ble_eq_true rfl) d_change_30 ⟨Nat.le_refl _, Nat.le_refl _⟩ (fun r18 u H locs hp Y => ?_)
          obtain ⟨I10, J11, B12, G13⟩ := u
          obtain ⟨hI14, eJ16, hB15, eG17, hk19, pr18⟩ := hp
          dsimp only at hI14 eJ16 hB15 eG17 hk19 pr18 Y
          rw [eJ16, eG17] at Y
          have hI20 : (∀ j, j ≠ 2 → j ≠ 8 → j ≠ 14 → j ≠ 18 → j ≠ 29 → j ≠ 30 → I10 j = I j) := fun j h2 h8 h14 h18 h29 h30 => (hI14 j h30).trans ((fun j h2 h8 h14 h18 h29 h30 => rfl) j h2 h8 h14 h18 h29 h30)
          have hB21 : (∀ j, j ≠ 5 → j ≠ 6 → j ≠ 7 → j ≠ 9 → j ≠ 10 → j ≠ 11 → j ≠ 12 → j ≠ 13 → j ≠ 15 → j ≠ 16 → j ≠ 17 → j ≠ 19 → j ≠ 20 → j ≠ 21 → j ≠ 24 → j ≠ 25 → j ≠ 26 → j ≠ 27 → j ≠ 46 → j ≠ 47 → j ≠ 52 → j ≠ 56 → B12 j = B j) := fun j h5 h6 h7 h9 h10 h11 h12 h13 h15 h16 h17 h19 h20 h21 h24 h25 h26 h27 h46 h47 h52 h56 => (hB15 j h25).trans ((fun j h5 h6 h7 h9 h10 h11 h12 h13 h15 h16 h17 h19 h20 h21 h24 h25 h26 h27 h46 h47 h52 h56 => rfl) j h5 h6 h7 h9 h10 h11 h12 h13 h15 h16 h17 h19 h20 h21 h24 h25 h26 h27 h46 h47 h52 h56)
          have ga22 : (B12 46) 0 = nI 1 := by rw [hB15 46 (by decide)]; exact (show (B 46) 0 = nI 1 from hv)
          have ga23 : (B12 45) 0 = nI 12 := by rw [hB15 45 (by decide)]; exact (show (B 45) 0 = nI 12 from hns)
          refine t_eq (pr18.2.2 rfl) ?_
          refine lv_if_eq (tgt := 40) X.1 X.2.1 d_change_33 (by decide) (fun c24 => absurd c24 ?_) (fun c24 => ?_)
          · (rw [← nI_0, nI_eq (by omega) (by omega)] <;> omega)
          rw [← nI_0] at c24
          rw [nI_eq (by omega) (by omega)] at c24
          refine lv_iconst (v := (nI 1)) X.1 X.2.1 d_change_36 (by decide) ?_
          refine lv_goto (tgt := 41) X.1 X.2.1 d_change_37 (by decide) ?_
          refine lv_istore_n (lv' := [(3, .int (nI 1)), (0, .ref h), (1, .int a1), (2, .int a2)]) X.1 X.2.1 d_change_41 rfl hl (by decide) rfl (fun ls hl => ?_)
          refine lv_aload_n X.1 X.2.1 d_change_42 rfl (lv_at hl 1 rfl) ?_
          refine lv_iconst (v := (nI 0)) X.1 X.2.1 d_change_43 (by decide) ?_
          refine m_puti X Y 2 (by decide) lk_length rfl rfl (t_M_ok 2 (by decide)) rfl rfl (sf_length _ _ _ _) (Nat.le_of_ble_eq_true rfl) d_change_44 (fun H locs Y => ?_)
          refine lv_iload_n X.1 X.2.1 d_change_47 rfl (lv_at hl 0 rfl) ?_
          refine lv_if_ne (tgt := 53) X.1 X.2.1 d_change_48 (by decide) (fun c25 => ?_) (fun c25 => absurd c25 ?_)
          rotate_left
          · (rw [← nI_0, nI_eq (by omega) (by omega)] <;> omega)
          rw [← nI_0] at c25
          rw [nI_eq (by omega) (by omega)] at c25
          refine lv_aload_n X.1 X.2.1 d_change_53 rfl (lv_at hl 1 rfl) ?_
          refine lv_iload_n X.1 X.2.1 d_change_54 rfl (lv_at hl 2 rfl) ?_
          refine t_eq en9 ?_
          refine lv_iload_n X.1 X.2.1 d_change_55 rfl (lv_at hl 3 rfl) ?_
          refine t_eq ek2 ?_
          refine m_callv (As := [.int (nI 0), .int (nI k2)]) (rest := []) (n := 2) X Y hZ hA hml hl.1 (c_setKeys l D E h q H.size (upd I10 2 (nI 0)) J B12 G (0) (k2) (1) (12) ((0 - (0))) (by omega) (by omega) (by omega) (show B12 46 0 = nI (1) from ga22) (by omega) (show B12 45 0 = nI (12) from ga23) (by omega) (show (upd I10 2 (nI 0)) 30 = nI ((0 - (0))) from ((pk_un (by decide)).trans hk19)) (by omega) (show by8 (B12 12) from (by8_eq (hB15 12 (by decide)) y12)) (show by8 (B12 13) from (by8_eq (hB15 13 (by decide)) y13)) (show by8 (B12 16) from (by8_eq (hB15 16 (by decide)) y16)) (show by8 (B12 17) from (by8_eq (hB15 17 (by decide)) y17))) kl_setKeys ks_setKeys kx_setKeys ki_setKeys ini_M hd_setKeys ⟨by decide, by decide⟩ rfl (Nat.le_of_ble_eq_true rfl) d_change_56 ⟨Nat.le_refl _, Nat.le_refl _⟩ (fun u H locs hp Y => ?_)
          obtain ⟨I26, J27, B28, G29⟩ := u
          obtain ⟨hI30, eJ32, hB31, eG33, y35, y36, y37, y38, hx39⟩ := hp
          dsimp only at hI30 eJ32 hB31 eG33 y35 y36 y37 y38 hx39 Y
          rw [eJ32, eG33] at Y
          have hI40 : (∀ j, j ≠ 2 → j ≠ 8 → j ≠ 14 → j ≠ 18 → j ≠ 29 → j ≠ 30 → I26 j = I j) := fun j h2 h8 h14 h18 h29 h30 => (hI30 j h8 h14 h18 h29).trans ((fun j h2 h8 h14 h18 h29 h30 => ((if_neg h2).trans (hI20 j h2 h8 h14 h18 h29 h30))) j h2 h8 h14 h18 h29 h30)
          have hB41 : (∀ j, j ≠ 5 → j ≠ 6 → j ≠ 7 → j ≠ 9 → j ≠ 10 → j ≠ 11 → j ≠ 12 → j ≠ 13 → j ≠ 15 → j ≠ 16 → j ≠ 17 → j ≠ 19 → j ≠ 20 → j ≠ 21 → j ≠ 24 → j ≠ 25 → j ≠ 26 → j ≠ 27 → j ≠ 46 → j ≠ 47 → j ≠ 52 → j ≠ 56 → B28 j = B j) := fun j h5 h6 h7 h9 h10 h11 h12 h13 h15 h16 h17 h19 h20 h21 h24 h25 h26 h27 h46 h47 h52 h56 => (hB31 j h5 h6 h7 h9 h10 h11 h12 h13 h15 h16 h17 h19 h20 h21 h24 h26 h27 h46 h47 h52 h56).trans ((fun j h5 h6 h7 h9 h10 h11 h12 h13 h15 h16 h17 h19 h20 h21 h24 h25 h26 h27 h46 h47 h52 h56 => (hB21 j h5 h6 h7 h9 h10 h11 h12 h13 h15 h16 h17 h19 h20 h21 h24 h25 h26 h27 h46 h47 h52 h56)) j h5 h6 h7 h9 h10 h11 h12 h13 h15 h16 h17 h19 h20 h21 h24 h25 h26 h27 h46 h47 h52 h56)
          have ga42 : (B28 45) 0 = nI 12 := by rw [hB31 45 (by decide) (by decide) (by decide) (by decide) (by decide) (by decide) (by decide) (by decide) (by decide) (by decide) (by decide) (by decide) (by decide) (by decide) (by decide) (by decide) (by decide) (by decide) (by decide) (by decide) (by decide)]; exact (show (B12 45) 0 = nI 12 from ga23)
          refine lv_aload_n X.1 X.2.1 d_change_59 rfl (lv_at hl 1 rfl) ?_
          refine m_get X Y 46 (by decide) lk_versions (gf_versions _ _ _) rfl d_change_60 ?_
          refine lv_iload_n X.1 X.2.1 d_change_63 rfl (lv_at hl 2 rfl) ?_
          refine t_eq en9 ?_
          refine m_iald X Y (aw_versions _ _ _ _ _ _ _) (vp_in_nI (by omega) (by decide)) d_change_64 ?_
          refine t_eq (show B28 46 ((nI 0)).toNatClampNeg = nI (1 + 1) from hx39) ?_
          exact m_reti hQQ X Y hr hlk ⟨(fun j h2 h8 h14 h18 h29 h30 => (hI40 j h2 h8 h14 h18 h29 h30)), rfl, (fun j h5 h6 h7 h9 h10 h11 h12 h13 h15 h16 h17 h19 h20 h21 h24 h25 h26 h27 h46 h47 h52 h56 => (hB41 j h5 h6 h7 h9 h10 h11 h12 h13 h15 h16 h17 h19 h20 h21 h24 h25 h26 h27 h46 h47 h52 h56)), rfl, (by rw [if_pos ⟨en9, by simp only [Int32.lt_iff_toInt_lt, Int32.le_iff_toInt_le, ← Int32.toInt_inj, show (nI 0).toInt = 0 from rfl, show (nI 1).toInt = 1 from rfl, show (nI 2).toInt = 2 from rfl, show (nI 3).toInt = 3 from rfl, show (nI 7).toInt = 7 from rfl, show (nI 8).toInt = 8 from rfl, show (nI 63).toInt = 63 from rfl, show (nI 200).toInt = 200 from rfl, show (nI 1000000).toInt = 1000000 from rfl, show (nI 10000000).toInt = 10000000 from rfl, show (nI 2000000000).toInt = 2000000000 from rfl, show (0 : Int32).toInt = 0 from rfl, show (-1 : Int32).toInt = -1 from rfl] at c5 ⊢ <;> omega, by simp only [Int32.lt_iff_toInt_lt, Int32.le_iff_toInt_le, ← Int32.toInt_inj, show (nI 0).toInt = 0 from rfl, show (nI 1).toInt = 1 from rfl, show (nI 2).toInt = 2 from rfl, show (nI 3).toInt = 3 from rfl, show (nI 7).toInt = 7 from rfl, show (nI 8).toInt = 8 from rfl, show (nI 63).toInt = 63 from rfl, show (nI 200).toInt = 200 from rfl, show (nI 1000000).toInt = 1000000 from rfl, show (nI 10000000).toInt = 10000000 from rfl, show (nI 2000000000).toInt = 2000000000 from rfl, show (0 : Int32).toInt = 0 from rfl, show (-1 : Int32).toInt = -1 from rfl] at c7 ⊢ <;> omega⟩])⟩ d_change_65
