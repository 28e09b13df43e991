/-! What is written when a request is refused. -/
section TOPQ
variable {p : Program} {l : Launch} {e : Env} {R : Room} {s : State} {m : MethodId} {args : Array Value} {below : List Frame} {meth : Method} {c : Code} {H : Heap} {locs : List Loc} {cells slots : Nat} {Q : State → Prop} {pc : Nat} {ls : Array Slot} {rest : List Value}
theorem t_eql {x y : Int64} (hxy : x = y) (kk : W p l e R s m args below meth c H locs cells slots Q (F0 m pc ls (.long y :: rest))) : W p l e R s m args below meth c H locs cells slots Q (F0 m pc ls (.long x :: rest)) := hxy ▸ kk
end TOPQ
theorem pk_lne {n : Nat} (h0 : 0 < n) (h : n < 2 ^ 63) : ¬ lN n = 0 := fun h9 => by
  have h8 : lN n = lN 0 := h9
  rw [pk_lEQ h (by decide)] at h8
  omega
theorem nb_128 : ∀ v, v < 128 → nI v &&& nI 128 = nI 0 := by decide +kernel
theorem lb_shr8 : ∀ v, v < 128 → lN v >>> ((nI 8).toInt64 &&& 63) = lN 0 := by decide +kernel
theorem m1_s (n : Nat) : nI n - nI 1 = nI n + (-1) := by rw [Int32.sub_eq_add_neg]; congr 1
theorem m1_p (a : Nat) : nI a + (-1) + nI 1 = nI a := by rw [Int32.add_assoc]; exact Int32.add_zero _
theorem m1_q (a : Nat) : nI a - (-1) - nI 1 = nI a := by rw [Int32.sub_eq_add_neg, Int32.sub_eq_add_neg, Int32.add_assoc]; exact Int32.add_zero _
theorem m1_lt {n : Nat} (h : n < 2 ^ 31) : ¬ nI n < (-1) := by
  rw [Int32.lt_iff_toInt_lt, nI_toInt h, show (-1 : Int32).toInt = -1 from rfl]
  omega
def dOf (y m : Nat) : Nat := if m = 2 then (if y % 4 = 0 then 29 else 28) else if m = 4 ∨ m = 6 ∨ m = 9 ∨ m = 11 then 30 else 31
theorem dOf_bd (y m : Nat) : 28 ≤ dOf y m ∧ dOf y m ≤ 31 := by
  unfold dOf
  split
  · split <;> omega
  · split <;> omega
abbrev b_putNumber : ByteArray := prog_14_method_64_code
def y_putNumber : MethodName := ⟨R_M, "putNumber", "(J)V"⟩
abbrev k_putNumber : Cond := .code y_putNumber b_putNumber 8 none
theorem ki_putNumber : k_putNumber ∈ lw_tg := in_t 2609 (by decide +kernel)
theorem ks_putNumber : Cond.instanceMethod y_putNumber ∈ lw_tg := in_t 2608 (by decide +kernel)
theorem kl_putNumber : Cond.methodLink R_M 563 y_putNumber ∈ lw_tg := in_t 2606 (by decide +kernel)
theorem d_putNumber_0 : decode b_putNumber 0 = .ok (.aload_n 0, 1) := by decide +kernel
theorem d_putNumber_1 : decode b_putNumber 1 = .ok (.getfield 553, 3) := by decide +kernel
theorem d_putNumber_4 : decode b_putNumber 4 = .ok (.istore_n 3, 1) := by decide +kernel
theorem d_putNumber_5 : decode b_putNumber 5 = .ok (.lload_n 1, 1) := by decide +kernel
theorem d_putNumber_6 : decode b_putNumber 6 = .ok (.lstore 4, 2) := by decide +kernel
theorem d_putNumber_8 : decode b_putNumber 8 = .ok (.iconst 1, 1) := by decide +kernel
theorem d_putNumber_9 : decode b_putNumber 9 = .ok (.istore 6, 2) := by decide +kernel
theorem d_putNumber_11 : decode b_putNumber 11 = .ok (.iload 6, 2) := by decide +kernel
theorem d_putNumber_13 : decode b_putNumber 13 = .ok (.ifCond .eq 62, 3) := by decide +kernel
theorem d_putNumber_16 : decode b_putNumber 16 = .ok (.aload_n 0, 1) := by decide +kernel
theorem d_putNumber_17 : decode b_putNumber 17 = .ok (.lload 4, 2) := by decide +kernel
theorem d_putNumber_19 : decode b_putNumber 19 = .ok (.l2i, 1) := by decide +kernel
theorem d_putNumber_20 : decode b_putNumber 20 = .ok (.invokevirtual 556, 3) := by decide +kernel
theorem d_putNumber_23 : decode b_putNumber 23 = .ok (.lload 4, 2) := by decide +kernel
theorem d_putNumber_25 : decode b_putNumber 25 = .ok (.l2i, 1) := by decide +kernel
theorem d_putNumber_26 : decode b_putNumber 26 = .ok (.sipush 128, 3) := by decide +kernel
theorem d_putNumber_29 : decode b_putNumber 29 = .ok (.iand, 1) := by decide +kernel
theorem d_putNumber_30 : decode b_putNumber 30 = .ok (.istore 7, 2) := by decide +kernel
theorem d_putNumber_32 : decode b_putNumber 32 = .ok (.lload 4, 2) := by decide +kernel
theorem d_putNumber_34 : decode b_putNumber 34 = .ok (.bipush 8, 2) := by decide +kernel
theorem d_putNumber_36 : decode b_putNumber 36 = .ok (.lshr, 1) := by decide +kernel
theorem d_putNumber_37 : decode b_putNumber 37 = .ok (.lstore 4, 2) := by decide +kernel
theorem d_putNumber_39 : decode b_putNumber 39 = .ok (.lload 4, 2) := by decide +kernel
theorem d_putNumber_41 : decode b_putNumber 41 = .ok (.lconst 0, 1) := by decide +kernel
theorem d_putNumber_42 : decode b_putNumber 42 = .ok (.lcmp, 1) := by decide +kernel
theorem d_putNumber_43 : decode b_putNumber 43 = .ok (.ifCond .ne 8, 3) := by decide +kernel
theorem d_putNumber_46 : decode b_putNumber 46 = .ok (.iload 7, 2) := by decide +kernel
theorem d_putNumber_48 : decode b_putNumber 48 = .ok (.ifCond .eq 21, 3) := by decide +kernel
theorem d_putNumber_69 : decode b_putNumber 69 = .ok (.iconst 0, 1) := by decide +kernel
theorem d_putNumber_70 : decode b_putNumber 70 = .ok (.istore 6, 2) := by decide +kernel
theorem d_putNumber_72 : decode b_putNumber 72 = .ok (.goto (-61), 3) := by decide +kernel
theorem d_putNumber_75 : decode b_putNumber 75 = .ok (.aload_n 0, 1) := by decide +kernel
theorem d_putNumber_76 : decode b_putNumber 76 = .ok (.iconst 2, 1) := by decide +kernel
theorem d_putNumber_77 : decode b_putNumber 77 = .ok (.iload_n 3, 1) := by decide +kernel
theorem d_putNumber_78 : decode b_putNumber 78 = .ok (.invokevirtual 559, 3) := by decide +kernel
theorem d_putNumber_81 : decode b_putNumber 81 = .ok (.return_, 1) := by decide +kernel
abbrev b_numberField : ByteArray := prog_14_method_65_code
def y_numberField : MethodName := ⟨R_M, "numberField", "(IJ)V"⟩
abbrev k_numberField : Cond := .code y_numberField b_numberField 5 none
theorem ki_numberField : k_numberField ∈ lw_tg := in_t 2605 (by decide +kernel)
theorem ks_numberField : Cond.instanceMethod y_numberField ∈ lw_tg := in_t 2604 (by decide +kernel)
theorem kl_numberField : Cond.methodLink R_M 588 y_numberField ∈ lw_tg := in_t 2602 (by decide +kernel)
theorem d_numberField_0 : decode b_numberField 0 = .ok (.aload_n 0, 1) := by decide +kernel
theorem d_numberField_1 : decode b_numberField 1 = .ok (.getfield 553, 3) := by decide +kernel
theorem d_numberField_4 : decode b_numberField 4 = .ok (.istore 4, 2) := by decide +kernel
theorem d_numberField_6 : decode b_numberField 6 = .ok (.aload_n 0, 1) := by decide +kernel
theorem d_numberField_7 : decode b_numberField 7 = .ok (.lload_n 2, 1) := by decide +kernel
theorem d_numberField_8 : decode b_numberField 8 = .ok (.invokevirtual 563, 3) := by decide +kernel
theorem d_numberField_11 : decode b_numberField 11 = .ok (.aload_n 0, 1) := by decide +kernel
theorem d_numberField_12 : decode b_numberField 12 = .ok (.iload_n 1, 1) := by decide +kernel
theorem d_numberField_13 : decode b_numberField 13 = .ok (.iload 4, 2) := by decide +kernel
theorem d_numberField_15 : decode b_numberField 15 = .ok (.invokevirtual 567, 3) := by decide +kernel
theorem d_numberField_18 : decode b_numberField 18 = .ok (.return_, 1) := by decide +kernel
abbrev b_daysOf : ByteArray := prog_14_method_37_code
def y_daysOf : MethodName := ⟨R_M, "daysOf", "(II)I"⟩
abbrev k_daysOf : Cond := .code y_daysOf b_daysOf 2 (some .int)
theorem ki_daysOf : k_daysOf ∈ lw_tg := in_t 2399 (by decide +kernel)
theorem ks_daysOf : Cond.static y_daysOf ∈ lw_tg := in_t 2398 (by decide +kernel)
theorem kl_daysOf : Cond.methodLink R_M 456 y_daysOf ∈ lw_tg := in_t 2397 (by decide +kernel)
theorem d_daysOf_0 : decode b_daysOf 0 = .ok (.iload_n 1, 1) := by decide +kernel
theorem d_daysOf_1 : decode b_daysOf 1 = .ok (.iconst 2, 1) := by decide +kernel
theorem d_daysOf_2 : decode b_daysOf 2 = .ok (.if_icmp .ne 19, 3) := by decide +kernel
theorem d_daysOf_5 : decode b_daysOf 5 = .ok (.iload_n 0, 1) := by decide +kernel
theorem d_daysOf_6 : decode b_daysOf 6 = .ok (.iconst 4, 1) := by decide +kernel
theorem d_daysOf_7 : decode b_daysOf 7 = .ok (.irem, 1) := by decide +kernel
theorem d_daysOf_8 : decode b_daysOf 8 = .ok (.ifCond .ne 8, 3) := by decide +kernel
theorem d_daysOf_11 : decode b_daysOf 11 = .ok (.bipush 29, 2) := by decide +kernel
theorem d_daysOf_13 : decode b_daysOf 13 = .ok (.goto 38, 3) := by decide +kernel
theorem d_daysOf_16 : decode b_daysOf 16 = .ok (.bipush 28, 2) := by decide +kernel
theorem d_daysOf_18 : decode b_daysOf 18 = .ok (.goto 33, 3) := by decide +kernel
theorem d_daysOf_21 : decode b_daysOf 21 = .ok (.iload_n 1, 1) := by decide +kernel
theorem d_daysOf_22 : decode b_daysOf 22 = .ok (.iconst 4, 1) := by decide +kernel
theorem d_daysOf_23 : decode b_daysOf 23 = .ok (.if_icmp .eq 21, 3) := by decide +kernel
theorem d_daysOf_26 : decode b_daysOf 26 = .ok (.iload_n 1, 1) := by decide +kernel
theorem d_daysOf_27 : decode b_daysOf 27 = .ok (.bipush 6, 2) := by decide +kernel
theorem d_daysOf_29 : decode b_daysOf 29 = .ok (.if_icmp .eq 15, 3) := by decide +kernel
theorem d_daysOf_32 : decode b_daysOf 32 = .ok (.iload_n 1, 1) := by decide +kernel
theorem d_daysOf_33 : decode b_daysOf 33 = .ok (.bipush 9, 2) := by decide +kernel
theorem d_daysOf_35 : decode b_daysOf 35 = .ok (.if_icmp .eq 9, 3) := by decide +kernel
theorem d_daysOf_38 : decode b_daysOf 38 = .ok (.iload_n 1, 1) := by decide +kernel
theorem d_daysOf_39 : decode b_daysOf 39 = .ok (.bipush 11, 2) := by decide +kernel
theorem d_daysOf_41 : decode b_daysOf 41 = .ok (.if_icmp .ne 8, 3) := by decide +kernel
theorem d_daysOf_44 : decode b_daysOf 44 = .ok (.bipush 30, 2) := by decide +kernel
theorem d_daysOf_46 : decode b_daysOf 46 = .ok (.goto 5, 3) := by decide +kernel
theorem d_daysOf_49 : decode b_daysOf 49 = .ok (.bipush 31, 2) := by decide +kernel
theorem d_daysOf_51 : decode b_daysOf 51 = .ok (.ireturn, 1) := by decide +kernel
abbrev b_putTime : ByteArray := prog_14_method_72_code
def y_putTime : MethodName := ⟨R_M, "putTime", "(J)V"⟩
abbrev k_putTime : Cond := .code y_putTime b_putTime 8 none
theorem ki_putTime : k_putTime ∈ lw_tg := in_t 2593 (by decide +kernel)
theorem ks_putTime : Cond.instanceMethod y_putTime ∈ lw_tg := in_t 2592 (by decide +kernel)
theorem kl_putTime : Cond.methodLink R_M 578 y_putTime ∈ lw_tg := in_t 2590 (by decide +kernel)
theorem d_putTime_0 : decode b_putTime 0 = .ok (.aload_n 0, 1) := by decide +kernel
theorem d_putTime_1 : decode b_putTime 1 = .ok (.getfield 553, 3) := by decide +kernel
theorem d_putTime_4 : decode b_putTime 4 = .ok (.istore_n 3, 1) := by decide +kernel
theorem d_putTime_5 : decode b_putTime 5 = .ok (.lload_n 1, 1) := by decide +kernel
theorem d_putTime_6 : decode b_putTime 6 = .ok (.ldc2_w 464, 3) := by decide +kernel
theorem d_putTime_9 : decode b_putTime 9 = .ok (.ldiv, 1) := by decide +kernel
theorem d_putTime_10 : decode b_putTime 10 = .ok (.l2i, 1) := by decide +kernel
theorem d_putTime_11 : decode b_putTime 11 = .ok (.istore 4, 2) := by decide +kernel
theorem d_putTime_13 : decode b_putTime 13 = .ok (.lload_n 1, 1) := by decide +kernel
theorem d_putTime_14 : decode b_putTime 14 = .ok (.ldc2_w 464, 3) := by decide +kernel
theorem d_putTime_17 : decode b_putTime 17 = .ok (.lrem, 1) := by decide +kernel
theorem d_putTime_18 : decode b_putTime 18 = .ok (.l2i, 1) := by decide +kernel
theorem d_putTime_19 : decode b_putTime 19 = .ok (.istore 5, 2) := by decide +kernel
theorem d_putTime_21 : decode b_putTime 21 = .ok (.sipush 1970, 3) := by decide +kernel
theorem d_putTime_24 : decode b_putTime 24 = .ok (.istore 6, 2) := by decide +kernel
theorem d_putTime_26 : decode b_putTime 26 = .ok (.iload 4, 2) := by decide +kernel
theorem d_putTime_28 : decode b_putTime 28 = .ok (.iload 6, 2) := by decide +kernel
theorem d_putTime_30 : decode b_putTime 30 = .ok (.iconst 4, 1) := by decide +kernel
theorem d_putTime_31 : decode b_putTime 31 = .ok (.irem, 1) := by decide +kernel
theorem d_putTime_32 : decode b_putTime 32 = .ok (.ifCond .ne 17, 3) := by decide +kernel
theorem d_putTime_35 : decode b_putTime 35 = .ok (.iload 6, 2) := by decide +kernel
theorem d_putTime_37 : decode b_putTime 37 = .ok (.sipush 2100, 3) := by decide +kernel
theorem d_putTime_40 : decode b_putTime 40 = .ok (.if_icmp .eq 9, 3) := by decide +kernel
theorem d_putTime_43 : decode b_putTime 43 = .ok (.sipush 366, 3) := by decide +kernel
theorem d_putTime_46 : decode b_putTime 46 = .ok (.goto 6, 3) := by decide +kernel
theorem d_putTime_49 : decode b_putTime 49 = .ok (.sipush 365, 3) := by decide +kernel
theorem d_putTime_52 : decode b_putTime 52 = .ok (.if_icmp .lt 38, 3) := by decide +kernel
theorem d_putTime_55 : decode b_putTime 55 = .ok (.iload 4, 2) := by decide +kernel
theorem d_putTime_57 : decode b_putTime 57 = .ok (.iload 6, 2) := by decide +kernel
theorem d_putTime_59 : decode b_putTime 59 = .ok (.iconst 4, 1) := by decide +kernel
theorem d_putTime_60 : decode b_putTime 60 = .ok (.irem, 1) := by decide +kernel
theorem d_putTime_61 : decode b_putTime 61 = .ok (.ifCond .ne 17, 3) := by decide +kernel
theorem d_putTime_64 : decode b_putTime 64 = .ok (.iload 6, 2) := by decide +kernel
theorem d_putTime_66 : decode b_putTime 66 = .ok (.sipush 2100, 3) := by decide +kernel
theorem d_putTime_69 : decode b_putTime 69 = .ok (.if_icmp .eq 9, 3) := by decide +kernel
theorem d_putTime_72 : decode b_putTime 72 = .ok (.sipush 366, 3) := by decide +kernel
theorem d_putTime_75 : decode b_putTime 75 = .ok (.goto 6, 3) := by decide +kernel
theorem d_putTime_78 : decode b_putTime 78 = .ok (.sipush 365, 3) := by decide +kernel
theorem d_putTime_81 : decode b_putTime 81 = .ok (.isub, 1) := by decide +kernel
theorem d_putTime_82 : decode b_putTime 82 = .ok (.istore 4, 2) := by decide +kernel
theorem d_putTime_84 : decode b_putTime 84 = .ok (.iinc 6 1, 3) := by decide +kernel
theorem d_putTime_87 : decode b_putTime 87 = .ok (.goto (-61), 3) := by decide +kernel
theorem d_putTime_90 : decode b_putTime 90 = .ok (.iconst 1, 1) := by decide +kernel
theorem d_putTime_91 : decode b_putTime 91 = .ok (.istore 7, 2) := by decide +kernel
theorem d_putTime_93 : decode b_putTime 93 = .ok (.iload 4, 2) := by decide +kernel
theorem d_putTime_95 : decode b_putTime 95 = .ok (.iload 6, 2) := by decide +kernel
theorem d_putTime_97 : decode b_putTime 97 = .ok (.iload 7, 2) := by decide +kernel
theorem d_putTime_99 : decode b_putTime 99 = .ok (.invokestatic 456, 3) := by decide +kernel
theorem d_putTime_102 : decode b_putTime 102 = .ok (.if_icmp .lt 21, 3) := by decide +kernel
theorem d_putTime_105 : decode b_putTime 105 = .ok (.iload 4, 2) := by decide +kernel
theorem d_putTime_107 : decode b_putTime 107 = .ok (.iload 6, 2) := by decide +kernel
theorem d_putTime_109 : decode b_putTime 109 = .ok (.iload 7, 2) := by decide +kernel
theorem d_putTime_111 : decode b_putTime 111 = .ok (.invokestatic 456, 3) := by decide +kernel
theorem d_putTime_114 : decode b_putTime 114 = .ok (.isub, 1) := by decide +kernel
theorem d_putTime_115 : decode b_putTime 115 = .ok (.istore 4, 2) := by decide +kernel
theorem d_putTime_117 : decode b_putTime 117 = .ok (.iinc 7 1, 3) := by decide +kernel
theorem d_putTime_120 : decode b_putTime 120 = .ok (.goto (-27), 3) := by decide +kernel
theorem d_putTime_123 : decode b_putTime 123 = .ok (.aload_n 0, 1) := by decide +kernel
theorem d_putTime_124 : decode b_putTime 124 = .ok (.bipush 90, 2) := by decide +kernel
theorem d_putTime_126 : decode b_putTime 126 = .ok (.invokevirtual 556, 3) := by decide +kernel
theorem d_putTime_129 : decode b_putTime 129 = .ok (.aload_n 0, 1) := by decide +kernel
theorem d_putTime_130 : decode b_putTime 130 = .ok (.iload 5, 2) := by decide +kernel
theorem d_putTime_132 : decode b_putTime 132 = .ok (.bipush 60, 2) := by decide +kernel
theorem d_putTime_134 : decode b_putTime 134 = .ok (.irem, 1) := by decide +kernel
theorem d_putTime_135 : decode b_putTime 135 = .ok (.invokevirtual 581, 3) := by decide +kernel
theorem d_putTime_138 : decode b_putTime 138 = .ok (.aload_n 0, 1) := by decide +kernel
theorem d_putTime_139 : decode b_putTime 139 = .ok (.iload 5, 2) := by decide +kernel
theorem d_putTime_141 : decode b_putTime 141 = .ok (.bipush 60, 2) := by decide +kernel
theorem d_putTime_143 : decode b_putTime 143 = .ok (.idiv, 1) := by decide +kernel
theorem d_putTime_144 : decode b_putTime 144 = .ok (.bipush 60, 2) := by decide +kernel
theorem d_putTime_146 : decode b_putTime 146 = .ok (.irem, 1) := by decide +kernel
theorem d_putTime_147 : decode b_putTime 147 = .ok (.invokevirtual 581, 3) := by decide +kernel
theorem d_putTime_150 : decode b_putTime 150 = .ok (.aload_n 0, 1) := by decide +kernel
theorem d_putTime_151 : decode b_putTime 151 = .ok (.iload 5, 2) := by decide +kernel
theorem d_putTime_153 : decode b_putTime 153 = .ok (.sipush 3600, 3) := by decide +kernel
theorem d_putTime_156 : decode b_putTime 156 = .ok (.idiv, 1) := by decide +kernel
theorem d_putTime_157 : decode b_putTime 157 = .ok (.invokevirtual 581, 3) := by decide +kernel
theorem d_putTime_160 : decode b_putTime 160 = .ok (.aload_n 0, 1) := by decide +kernel
theorem d_putTime_161 : decode b_putTime 161 = .ok (.iload 4, 2) := by decide +kernel
theorem d_putTime_163 : decode b_putTime 163 = .ok (.iconst 1, 1) := by decide +kernel
theorem d_putTime_164 : decode b_putTime 164 = .ok (.iadd, 1) := by decide +kernel
theorem d_putTime_165 : decode b_putTime 165 = .ok (.invokevirtual 581, 3) := by decide +kernel
theorem d_putTime_168 : decode b_putTime 168 = .ok (.aload_n 0, 1) := by decide +kernel
theorem d_putTime_169 : decode b_putTime 169 = .ok (.iload 7, 2) := by decide +kernel
theorem d_putTime_171 : decode b_putTime 171 = .ok (.invokevirtual 581, 3) := by decide +kernel
theorem d_putTime_174 : decode b_putTime 174 = .ok (.aload_n 0, 1) := by decide +kernel
theorem d_putTime_175 : decode b_putTime 175 = .ok (.iload 6, 2) := by decide +kernel
theorem d_putTime_177 : decode b_putTime 177 = .ok (.bipush 100, 2) := by decide +kernel
theorem d_putTime_179 : decode b_putTime 179 = .ok (.irem, 1) := by decide +kernel
theorem d_putTime_180 : decode b_putTime 180 = .ok (.invokevirtual 581, 3) := by decide +kernel
theorem d_putTime_183 : decode b_putTime 183 = .ok (.aload_n 0, 1) := by decide +kernel
theorem d_putTime_184 : decode b_putTime 184 = .ok (.iload 6, 2) := by decide +kernel
theorem d_putTime_186 : decode b_putTime 186 = .ok (.bipush 100, 2) := by decide +kernel
theorem d_putTime_188 : decode b_putTime 188 = .ok (.idiv, 1) := by decide +kernel
theorem d_putTime_189 : decode b_putTime 189 = .ok (.invokevirtual 581, 3) := by decide +kernel
theorem d_putTime_192 : decode b_putTime 192 = .ok (.aload_n 0, 1) := by decide +kernel
theorem d_putTime_193 : decode b_putTime 193 = .ok (.bipush 24, 2) := by decide +kernel
theorem d_putTime_195 : decode b_putTime 195 = .ok (.iload_n 3, 1) := by decide +kernel
theorem d_putTime_196 : decode b_putTime 196 = .ok (.invokevirtual 559, 3) := by decide +kernel
theorem d_putTime_199 : decode b_putTime 199 = .ok (.return_, 1) := by decide +kernel
abbrev b_timeField : ByteArray := prog_14_method_71_code
def y_timeField : MethodName := ⟨R_M, "timeField", "(IJ)V"⟩
abbrev k_timeField : Cond := .code y_timeField b_timeField 5 none
theorem ki_timeField : k_timeField ∈ lw_tg := in_t 2589 (by decide +kernel)
theorem ks_timeField : Cond.instanceMethod y_timeField ∈ lw_tg := in_t 2588 (by decide +kernel)
theorem kl_timeField : Cond.methodLink R_M 884 y_timeField ∈ lw_tg := in_t 2586 (by decide +kernel)
theorem d_timeField_0 : decode b_timeField 0 = .ok (.aload_n 0, 1) := by decide +kernel
theorem d_timeField_1 : decode b_timeField 1 = .ok (.getfield 553, 3) := by decide +kernel
theorem d_timeField_4 : decode b_timeField 4 = .ok (.istore 4, 2) := by decide +kernel
theorem d_timeField_6 : decode b_timeField 6 = .ok (.aload_n 0, 1) := by decide +kernel
theorem d_timeField_7 : decode b_timeField 7 = .ok (.lload_n 2, 1) := by decide +kernel
theorem d_timeField_8 : decode b_timeField 8 = .ok (.invokevirtual 578, 3) := by decide +kernel
theorem d_timeField_11 : decode b_timeField 11 = .ok (.aload_n 0, 1) := by decide +kernel
theorem d_timeField_12 : decode b_timeField 12 = .ok (.iload_n 1, 1) := by decide +kernel
theorem d_timeField_13 : decode b_timeField 13 = .ok (.iload 4, 2) := by decide +kernel
theorem d_timeField_15 : decode b_timeField 15 = .ok (.invokevirtual 567, 3) := by decide +kernel
theorem d_timeField_18 : decode b_timeField 18 = .ok (.return_, 1) := by decide +kernel
abbrev b_putParts : ByteArray := prog_14_method_79_code
def y_putParts : MethodName := ⟨R_M, "putParts", "([BII)V"⟩
abbrev k_putParts : Cond := .code y_putParts b_putParts 7 none
theorem ki_putParts : k_putParts ∈ lw_tg := in_t 2713 (by decide +kernel)
theorem ks_putParts : Cond.instanceMethod y_putParts ∈ lw_tg := in_t 2712 (by decide +kernel)
theorem kl_putParts : Cond.methodLink R_M 595 y_putParts ∈ lw_tg := in_t 2710 (by decide +kernel)
theorem d_putParts_0 : decode b_putParts 0 = .ok (.iload_n 3, 1) := by decide +kernel
theorem d_putParts_1 : decode b_putParts 1 = .ok (.istore 4, 2) := by decide +kernel
theorem d_putParts_3 : decode b_putParts 3 = .ok (.iload_n 3, 1) := by decide +kernel
theorem d_putParts_4 : decode b_putParts 4 = .ok (.iconst 1, 1) := by decide +kernel
theorem d_putParts_5 : decode b_putParts 5 = .ok (.isub, 1) := by decide +kernel
theorem d_putParts_6 : decode b_putParts 6 = .ok (.istore 5, 2) := by decide +kernel
theorem d_putParts_8 : decode b_putParts 8 = .ok (.iload 5, 2) := by decide +kernel
theorem d_putParts_10 : decode b_putParts 10 = .ok (.iconst (-1), 1) := by decide +kernel
theorem d_putParts_11 : decode b_putParts 11 = .ok (.if_icmp .lt 64, 3) := by decide +kernel
theorem d_putParts_14 : decode b_putParts 14 = .ok (.iload 5, 2) := by decide +kernel
theorem d_putParts_16 : decode b_putParts 16 = .ok (.ifCond .lt 17, 3) := by decide +kernel
theorem d_putParts_19 : decode b_putParts 19 = .ok (.aload_n 1, 1) := by decide +kernel
theorem d_putParts_20 : decode b_putParts 20 = .ok (.iload_n 2, 1) := by decide +kernel
theorem d_putParts_21 : decode b_putParts 21 = .ok (.iload 5, 2) := by decide +kernel
theorem d_putParts_23 : decode b_putParts 23 = .ok (.iadd, 1) := by decide +kernel
theorem d_putParts_24 : decode b_putParts 24 = .ok (.baload, 1) := by decide +kernel
theorem d_putParts_25 : decode b_putParts 25 = .ok (.bipush 47, 2) := by decide +kernel
theorem d_putParts_27 : decode b_putParts 27 = .ok (.if_icmp .eq 6, 3) := by decide +kernel
theorem d_putParts_30 : decode b_putParts 30 = .ok (.goto 39, 3) := by decide +kernel
theorem d_putParts_33 : decode b_putParts 33 = .ok (.aload_n 0, 1) := by decide +kernel
theorem d_putParts_34 : decode b_putParts 34 = .ok (.getfield 553, 3) := by decide +kernel
theorem d_putParts_37 : decode b_putParts 37 = .ok (.istore 6, 2) := by decide +kernel
theorem d_putParts_39 : decode b_putParts 39 = .ok (.aload_n 0, 1) := by decide +kernel
theorem d_putParts_40 : decode b_putParts 40 = .ok (.aload_n 1, 1) := by decide +kernel
theorem d_putParts_41 : decode b_putParts 41 = .ok (.iload_n 2, 1) := by decide +kernel
theorem d_putParts_42 : decode b_putParts 42 = .ok (.iload 5, 2) := by decide +kernel
theorem d_putParts_44 : decode b_putParts 44 = .ok (.iadd, 1) := by decide +kernel
theorem d_putParts_45 : decode b_putParts 45 = .ok (.iconst 1, 1) := by decide +kernel
theorem d_putParts_46 : decode b_putParts 46 = .ok (.iadd, 1) := by decide +kernel
theorem d_putParts_47 : decode b_putParts 47 = .ok (.iload 4, 2) := by decide +kernel
theorem d_putParts_49 : decode b_putParts 49 = .ok (.iload 5, 2) := by decide +kernel
theorem d_putParts_51 : decode b_putParts 51 = .ok (.isub, 1) := by decide +kernel
theorem d_putParts_52 : decode b_putParts 52 = .ok (.iconst 1, 1) := by decide +kernel
theorem d_putParts_53 : decode b_putParts 53 = .ok (.isub, 1) := by decide +kernel
theorem d_putParts_54 : decode b_putParts 54 = .ok (.invokevirtual 574, 3) := by decide +kernel
theorem d_putParts_57 : decode b_putParts 57 = .ok (.aload_n 0, 1) := by decide +kernel
theorem d_putParts_58 : decode b_putParts 58 = .ok (.bipush 27, 2) := by decide +kernel
theorem d_putParts_60 : decode b_putParts 60 = .ok (.iload 6, 2) := by decide +kernel
theorem d_putParts_62 : decode b_putParts 62 = .ok (.invokevirtual 559, 3) := by decide +kernel
theorem d_putParts_65 : decode b_putParts 65 = .ok (.iload 5, 2) := by decide +kernel
theorem d_putParts_67 : decode b_putParts 67 = .ok (.istore 4, 2) := by decide +kernel
theorem d_putParts_69 : decode b_putParts 69 = .ok (.iinc 5 (-1), 3) := by decide +kernel
theorem d_putParts_72 : decode b_putParts 72 = .ok (.goto (-64), 3) := by decide +kernel
theorem d_putParts_75 : decode b_putParts 75 = .ok (.return_, 1) := by decide +kernel
abbrev b_nameField : ByteArray := prog_14_method_78_code
def y_nameField : MethodName := ⟨R_M, "nameField", "(III)V"⟩
abbrev k_nameField : Cond := .code y_nameField b_nameField 6 none
theorem ki_nameField : k_nameField ∈ lw_tg := in_t 2709 (by decide +kernel)
theorem ks_nameField : Cond.instanceMethod y_nameField ∈ lw_tg := in_t 2708 (by decide +kernel)
theorem kl_nameField : Cond.methodLink R_M 908 y_nameField ∈ lw_tg := in_t 2706 (by decide +kernel)
theorem d_nameField_0 : decode b_nameField 0 = .ok (.aload_n 0, 1) := by decide +kernel
theorem d_nameField_1 : decode b_nameField 1 = .ok (.getfield 553, 3) := by decide +kernel
theorem d_nameField_4 : decode b_nameField 4 = .ok (.istore 4, 2) := by decide +kernel
theorem d_nameField_6 : decode b_nameField 6 = .ok (.aload_n 0, 1) := by decide +kernel
theorem d_nameField_7 : decode b_nameField 7 = .ok (.getfield 553, 3) := by decide +kernel
theorem d_nameField_10 : decode b_nameField 10 = .ok (.istore 5, 2) := by decide +kernel
theorem d_nameField_12 : decode b_nameField 12 = .ok (.aload_n 0, 1) := by decide +kernel
theorem d_nameField_13 : decode b_nameField 13 = .ok (.aload_n 0, 1) := by decide +kernel
theorem d_nameField_14 : decode b_nameField 14 = .ok (.getfield 101, 3) := by decide +kernel
theorem d_nameField_17 : decode b_nameField 17 = .ok (.bipush 40, 2) := by decide +kernel
theorem d_nameField_19 : decode b_nameField 19 = .ok (.iload_n 2, 1) := by decide +kernel
theorem d_nameField_20 : decode b_nameField 20 = .ok (.imul, 1) := by decide +kernel
theorem d_nameField_21 : decode b_nameField 21 = .ok (.aload_n 0, 1) := by decide +kernel
theorem d_nameField_22 : decode b_nameField 22 = .ok (.getfield 104, 3) := by decide +kernel
theorem d_nameField_25 : decode b_nameField 25 = .ok (.iload_n 2, 1) := by decide +kernel
theorem d_nameField_26 : decode b_nameField 26 = .ok (.iaload, 1) := by decide +kernel
theorem d_nameField_27 : decode b_nameField 27 = .ok (.invokevirtual 595, 3) := by decide +kernel
theorem d_nameField_30 : decode b_nameField 30 = .ok (.aload_n 0, 1) := by decide +kernel
theorem d_nameField_31 : decode b_nameField 31 = .ok (.bipush 48, 2) := by decide +kernel
theorem d_nameField_33 : decode b_nameField 33 = .ok (.iload 5, 2) := by decide +kernel
theorem d_nameField_35 : decode b_nameField 35 = .ok (.invokevirtual 559, 3) := by decide +kernel
theorem d_nameField_38 : decode b_nameField 38 = .ok (.aload_n 0, 1) := by decide +kernel
theorem d_nameField_39 : decode b_nameField 39 = .ok (.iconst 1, 1) := by decide +kernel
theorem d_nameField_40 : decode b_nameField 40 = .ok (.iload 5, 2) := by decide +kernel
theorem d_nameField_42 : decode b_nameField 42 = .ok (.invokevirtual 567, 3) := by decide +kernel
theorem d_nameField_45 : decode b_nameField 45 = .ok (.aload_n 0, 1) := by decide +kernel
theorem d_nameField_46 : decode b_nameField 46 = .ok (.iconst 0, 1) := by decide +kernel
theorem d_nameField_47 : decode b_nameField 47 = .ok (.iload_n 3, 1) := by decide +kernel
theorem d_nameField_48 : decode b_nameField 48 = .ok (.i2l, 1) := by decide +kernel
theorem d_nameField_49 : decode b_nameField 49 = .ok (.invokevirtual 588, 3) := by decide +kernel
theorem d_nameField_52 : decode b_nameField 52 = .ok (.aload_n 0, 1) := by decide +kernel
theorem d_nameField_53 : decode b_nameField 53 = .ok (.bipush 48, 2) := by decide +kernel
theorem d_nameField_55 : decode b_nameField 55 = .ok (.iload 4, 2) := by decide +kernel
theorem d_nameField_57 : decode b_nameField 57 = .ok (.invokevirtual 559, 3) := by decide +kernel
theorem d_nameField_60 : decode b_nameField 60 = .ok (.aload_n 0, 1) := by decide +kernel
theorem d_nameField_61 : decode b_nameField 61 = .ok (.iload_n 1, 1) := by decide +kernel
theorem d_nameField_62 : decode b_nameField 62 = .ok (.iload 4, 2) := by decide +kernel
theorem d_nameField_64 : decode b_nameField 64 = .ok (.invokevirtual 567, 3) := by decide +kernel
theorem d_nameField_67 : decode b_nameField 67 = .ok (.return_, 1) := by decide +kernel
abbrev b_errorHead : ByteArray := prog_14_method_123_code
def y_errorHead : MethodName := ⟨R_M, "errorHead", "(I)V"⟩
abbrev k_errorHead : Cond := .code y_errorHead b_errorHead 2 none
theorem ki_errorHead : k_errorHead ∈ lw_tg := in_t 2717 (by decide +kernel)
theorem ks_errorHead : Cond.instanceMethod y_errorHead ∈ lw_tg := in_t 2716 (by decide +kernel)
theorem kl_errorHead : Cond.methodLink R_M 911 y_errorHead ∈ lw_tg := in_t 2714 (by decide +kernel)
theorem d_errorHead_0 : decode b_errorHead 0 = .ok (.aload_n 0, 1) := by decide +kernel
theorem d_errorHead_1 : decode b_errorHead 1 = .ok (.bipush 6, 2) := by decide +kernel
theorem d_errorHead_3 : decode b_errorHead 3 = .ok (.iload_n 1, 1) := by decide +kernel
theorem d_errorHead_4 : decode b_errorHead 4 = .ok (.i2l, 1) := by decide +kernel
theorem d_errorHead_5 : decode b_errorHead 5 = .ok (.invokevirtual 588, 3) := by decide +kernel
theorem d_errorHead_8 : decode b_errorHead 8 = .ok (.aload_n 0, 1) := by decide +kernel
theorem d_errorHead_9 : decode b_errorHead 9 = .ok (.iconst 5, 1) := by decide +kernel
theorem d_errorHead_10 : decode b_errorHead 10 = .ok (.lconst 0, 1) := by decide +kernel
theorem d_errorHead_11 : decode b_errorHead 11 = .ok (.invokevirtual 588, 3) := by decide +kernel
theorem d_errorHead_14 : decode b_errorHead 14 = .ok (.aload_n 0, 1) := by decide +kernel
theorem d_errorHead_15 : decode b_errorHead 15 = .ok (.iconst 4, 1) := by decide +kernel
theorem d_errorHead_16 : decode b_errorHead 16 = .ok (.aload_n 0, 1) := by decide +kernel
theorem d_errorHead_17 : decode b_errorHead 17 = .ok (.getfield 18, 3) := by decide +kernel
theorem d_errorHead_20 : decode b_errorHead 20 = .ok (.i2l, 1) := by decide +kernel
theorem d_errorHead_21 : decode b_errorHead 21 = .ok (.invokevirtual 884, 3) := by decide +kernel
theorem d_errorHead_24 : decode b_errorHead 24 = .ok (.aload_n 0, 1) := by decide +kernel
theorem d_errorHead_25 : decode b_errorHead 25 = .ok (.iconst 1, 1) := by decide +kernel
theorem d_errorHead_26 : decode b_errorHead 26 = .ok (.ldc2_w 914, 3) := by decide +kernel
theorem d_errorHead_29 : decode b_errorHead 29 = .ok (.invokevirtual 588, 3) := by decide +kernel
theorem d_errorHead_32 : decode b_errorHead 32 = .ok (.aload_n 0, 1) := by decide +kernel
theorem d_errorHead_33 : decode b_errorHead 33 = .ok (.iconst 0, 1) := by decide +kernel
theorem d_errorHead_34 : decode b_errorHead 34 = .ok (.ldc2_w 669, 3) := by decide +kernel
theorem d_errorHead_37 : decode b_errorHead 37 = .ok (.invokevirtual 588, 3) := by decide +kernel
theorem d_errorHead_40 : decode b_errorHead 40 = .ok (.aload_n 0, 1) := by decide +kernel
theorem d_errorHead_41 : decode b_errorHead 41 = .ok (.bipush 48, 2) := by decide +kernel
theorem d_errorHead_43 : decode b_errorHead 43 = .ok (.ldc 9, 2) := by decide +kernel
theorem d_errorHead_45 : decode b_errorHead 45 = .ok (.invokevirtual 559, 3) := by decide +kernel
theorem d_errorHead_48 : decode b_errorHead 48 = .ok (.aload_n 0, 1) := by decide +kernel
theorem d_errorHead_49 : decode b_errorHead 49 = .ok (.bipush 126, 2) := by decide +kernel
theorem d_errorHead_51 : decode b_errorHead 51 = .ok (.ldc 9, 2) := by decide +kernel
theorem d_errorHead_53 : decode b_errorHead 53 = .ok (.invokevirtual 559, 3) := by decide +kernel
theorem d_errorHead_56 : decode b_errorHead 56 = .ok (.return_, 1) := by decide +kernel
abbrev b_element : ByteArray := prog_14_method_40_code
def y_element : MethodName := ⟨R_M, "element", "(III)Z"⟩
abbrev k_element : Cond := .code y_element b_element 8 (some .boolean)
theorem ki_element : k_element ∈ lw_tg := in_t 2372 (by decide +kernel)
theorem ks_element : Cond.instanceMethod y_element ∈ lw_tg := in_t 2371 (by decide +kernel)
theorem kl_element : Cond.methodLink R_M 476 y_element ∈ lw_tg := in_t 2369 (by decide +kernel)
theorem d_element_0 : decode b_element 0 = .ok (.iload_n 1, 1) := by decide +kernel
theorem d_element_1 : decode b_element 1 = .ok (.iconst 2, 1) := by decide +kernel
theorem d_element_2 : decode b_element 2 = .ok (.iadd, 1) := by decide +kernel
theorem d_element_3 : decode b_element 3 = .ok (.iload_n 2, 1) := by decide +kernel
theorem d_element_4 : decode b_element 4 = .ok (.if_icmp .gt 17, 3) := by decide +kernel
theorem d_element_21 : decode b_element 21 = .ok (.iconst 0, 1) := by decide +kernel
theorem d_element_22 : decode b_element 22 = .ok (.ireturn, 1) := by decide +kernel
abbrev b_whole : ByteArray := prog_14_method_41_code
def y_whole : MethodName := ⟨R_M, "whole", "(III)Z"⟩
abbrev k_whole : Cond := .code y_whole b_whole 4 (some .boolean)
theorem ki_whole : k_whole ∈ lw_tg := in_t 2368 (by decide +kernel)
theorem ks_whole : Cond.instanceMethod y_whole ∈ lw_tg := in_t 2367 (by decide +kernel)
theorem kl_whole : Cond.methodLink R_M 480 y_whole ∈ lw_tg := in_t 2365 (by decide +kernel)
theorem d_whole_0 : decode b_whole 0 = .ok (.aload_n 0, 1) := by decide +kernel
theorem d_whole_1 : decode b_whole 1 = .ok (.iload_n 1, 1) := by decide +kernel
theorem d_whole_2 : decode b_whole 2 = .ok (.iload_n 2, 1) := by decide +kernel
theorem d_whole_3 : decode b_whole 3 = .ok (.iload_n 3, 1) := by decide +kernel
theorem d_whole_4 : decode b_whole 4 = .ok (.invokevirtual 476, 3) := by decide +kernel
theorem d_whole_7 : decode b_whole 7 = .ok (.ifCond .eq 15, 3) := by decide +kernel
theorem d_whole_22 : decode b_whole 22 = .ok (.iconst 0, 1) := by decide +kernel
theorem d_whole_23 : decode b_whole 23 = .ok (.ireturn, 1) := by decide +kernel
abbrev b_applied : ByteArray := prog_14_method_43_code
def y_applied : MethodName := ⟨R_M, "applied", "(ILjava/lang/String;III)Z"⟩
abbrev k_applied : Cond := .code y_applied b_applied 6 (some .boolean)
theorem ki_applied : k_applied ∈ lw_tg := in_t 2364 (by decide +kernel)
theorem ks_applied : Cond.instanceMethod y_applied ∈ lw_tg := in_t 2363 (by decide +kernel)
theorem kl_applied : Cond.methodLink R_M 522 y_applied ∈ lw_tg := in_t 2361 (by decide +kernel)
theorem d_applied_0 : decode b_applied 0 = .ok (.aload_n 0, 1) := by decide +kernel
theorem d_applied_1 : decode b_applied 1 = .ok (.iload_n 3, 1) := by decide +kernel
theorem d_applied_2 : decode b_applied 2 = .ok (.iload 4, 2) := by decide +kernel
theorem d_applied_4 : decode b_applied 4 = .ok (.bipush 96, 2) := by decide +kernel
theorem d_applied_6 : decode b_applied 6 = .ok (.iload_n 1, 1) := by decide +kernel
theorem d_applied_7 : decode b_applied 7 = .ok (.iadd, 1) := by decide +kernel
theorem d_applied_8 : decode b_applied 8 = .ok (.invokevirtual 480, 3) := by decide +kernel
theorem d_applied_11 : decode b_applied 11 = .ok (.ifCond .ne 5, 3) := by decide +kernel
theorem d_applied_14 : decode b_applied 14 = .ok (.iconst 0, 1) := by decide +kernel
theorem d_applied_15 : decode b_applied 15 = .ok (.ireturn, 1) := by decide +kernel
abbrev b_asked : ByteArray := prog_14_method_100_code
def y_asked : MethodName := ⟨R_M, "asked", "(I)I"⟩
abbrev k_asked : Cond := .code y_asked b_asked 4 (some .int)
theorem ki_asked : k_asked ∈ lw_tg := in_t 2359 (by decide +kernel)
theorem ks_asked : Cond.instanceMethod y_asked ∈ lw_tg := in_t 2358 (by decide +kernel)
theorem kl_asked : Cond.methodLink R_M 654 y_asked ∈ lw_tg := in_t 2356 (by decide +kernel)
theorem d_asked_0 : decode b_asked 0 = .ok (.iload_n 1, 1) := by decide +kernel
theorem d_asked_1 : decode b_asked 1 = .ok (.ifCond .ne 7, 3) := by decide +kernel
theorem d_asked_4 : decode b_asked 4 = .ok (.iconst 0, 1) := by decide +kernel
theorem d_asked_5 : decode b_asked 5 = .ok (.goto 13, 3) := by decide +kernel
theorem d_asked_18 : decode b_asked 18 = .ok (.istore_n 2, 1) := by decide +kernel
theorem d_asked_19 : decode b_asked 19 = .ok (.aload_n 0, 1) := by decide +kernel
theorem d_asked_20 : decode b_asked 20 = .ok (.iload_n 2, 1) := by decide +kernel
theorem d_asked_21 : decode b_asked 21 = .ok (.bipush 106, 2) := by decide +kernel
theorem d_asked_23 : decode b_asked 23 = .ok (.if_icmp .ne 7, 3) := by decide +kernel
theorem d_asked_30 : decode b_asked 30 = .ok (.iconst 0, 1) := by decide +kernel
theorem d_asked_31 : decode b_asked 31 = .ok (.putfield 660, 3) := by decide +kernel
theorem d_asked_34 : decode b_asked 34 = .ok (.aload_n 0, 1) := by decide +kernel
theorem d_asked_35 : decode b_asked 35 = .ok (.getfield 660, 3) := by decide +kernel
theorem d_asked_38 : decode b_asked 38 = .ok (.ifCond .eq 18, 3) := by decide +kernel
theorem d_asked_56 : decode b_asked 56 = .ok (.iload_n 2, 1) := by decide +kernel
theorem d_asked_57 : decode b_asked 57 = .ok (.bipush 108, 2) := by decide +kernel
theorem d_asked_59 : decode b_asked 59 = .ok (.if_icmp .ne 22, 3) := by decide +kernel
theorem d_asked_81 : decode b_asked 81 = .ok (.iconst 0, 1) := by decide +kernel
theorem d_asked_82 : decode b_asked 82 = .ok (.istore_n 3, 1) := by decide +kernel
theorem d_asked_83 : decode b_asked 83 = .ok (.iload_n 3, 1) := by decide +kernel
theorem d_asked_84 : decode b_asked 84 = .ok (.ifCond .ne 6, 3) := by decide +kernel
theorem d_asked_87 : decode b_asked 87 = .ok (.bipush 60, 2) := by decide +kernel
theorem d_asked_89 : decode b_asked 89 = .ok (.ireturn, 1) := by decide +kernel
abbrev b_error : ByteArray := prog_14_method_122_code
def y_error : MethodName := ⟨R_M, "error", "(I)V"⟩
abbrev k_error : Cond := .code y_error b_error 5 none
theorem ki_error : k_error ∈ lw_tg := in_t 2705 (by decide +kernel)
theorem ks_error : Cond.instanceMethod y_error ∈ lw_tg := in_t 2704 (by decide +kernel)
theorem kl_error : Cond.methodLink R_M 657 y_error ∈ lw_tg := in_t 2702 (by decide +kernel)
theorem d_error_0 : decode b_error 0 = .ok (.aload_n 0, 1) := by decide +kernel
theorem d_error_1 : decode b_error 1 = .ok (.invokevirtual 861, 3) := by decide +kernel
theorem d_error_4 : decode b_error 4 = .ok (.aload_n 0, 1) := by decide +kernel
theorem d_error_5 : decode b_error 5 = .ok (.getfield 651, 3) := by decide +kernel
theorem d_error_8 : decode b_error 8 = .ok (.ifCond .eq 130, 3) := by decide +kernel
theorem d_error_138 : decode b_error 138 = .ok (.aload_n 0, 1) := by decide +kernel
theorem d_error_139 : decode b_error 139 = .ok (.getfield 648, 3) := by decide +kernel
theorem d_error_142 : decode b_error 142 = .ok (.ifCond .eq 33, 3) := by decide +kernel
theorem d_error_175 : decode b_error 175 = .ok (.aload_n 0, 1) := by decide +kernel
theorem d_error_176 : decode b_error 176 = .ok (.bipush 10, 2) := by decide +kernel
theorem d_error_178 : decode b_error 178 = .ok (.iconst 0, 1) := by decide +kernel
theorem d_error_179 : decode b_error 179 = .ok (.iconst 2, 1) := by decide +kernel
theorem d_error_180 : decode b_error 180 = .ok (.invokevirtual 908, 3) := by decide +kernel
theorem d_error_183 : decode b_error 183 = .ok (.aload_n 0, 1) := by decide +kernel
theorem d_error_184 : decode b_error 184 = .ok (.bipush 9, 2) := by decide +kernel
theorem d_error_186 : decode b_error 186 = .ok (.ldc_w 621, 3) := by decide +kernel
theorem d_error_189 : decode b_error 189 = .ok (.invokevirtual 878, 3) := by decide +kernel
theorem d_error_192 : decode b_error 192 = .ok (.aload_n 0, 1) := by decide +kernel
theorem d_error_193 : decode b_error 193 = .ok (.getfield 648, 3) := by decide +kernel
theorem d_error_196 : decode b_error 196 = .ok (.ifCond .eq 55, 3) := by decide +kernel
theorem d_error_251 : decode b_error 251 = .ok (.aload_n 0, 1) := by decide +kernel
theorem d_error_252 : decode b_error 252 = .ok (.iload_n 1, 1) := by decide +kernel
theorem d_error_253 : decode b_error 253 = .ok (.invokevirtual 911, 3) := by decide +kernel
theorem d_error_256 : decode b_error 256 = .ok (.aload_n 0, 1) := by decide +kernel
theorem d_error_257 : decode b_error 257 = .ok (.invokevirtual 905, 3) := by decide +kernel
theorem d_error_260 : decode b_error 260 = .ok (.return_, 1) := by decide +kernel
abbrev b_kdc : ByteArray := prog_14_method_99_code
def y_kdc : MethodName := ⟨R_M, "kdc", "()I"⟩
abbrev k_kdc : Cond := .code y_kdc b_kdc 3 (some .int)
theorem ki_kdc : k_kdc ∈ lw_tg := in_t 2355 (by decide +kernel)
theorem ks_kdc : Cond.instanceMethod y_kdc ∈ lw_tg := in_t 2353 (by decide +kernel)
theorem d_kdc_0 : decode b_kdc 0 = .ok (.aload_n 0, 1) := by decide +kernel
theorem d_kdc_1 : decode b_kdc 1 = .ok (.getfield 332, 3) := by decide +kernel
theorem d_kdc_4 : decode b_kdc 4 = .ok (.istore_n 1, 1) := by decide +kernel
theorem d_kdc_5 : decode b_kdc 5 = .ok (.aload_n 0, 1) := by decide +kernel
theorem d_kdc_6 : decode b_kdc 6 = .ok (.iconst 0, 1) := by decide +kernel
theorem d_kdc_7 : decode b_kdc 7 = .ok (.putfield 332, 3) := by decide +kernel
theorem d_kdc_10 : decode b_kdc 10 = .ok (.aload_n 0, 1) := by decide +kernel
theorem d_kdc_11 : decode b_kdc 11 = .ok (.iconst 0, 1) := by decide +kernel
theorem d_kdc_12 : decode b_kdc 12 = .ok (.putfield 648, 3) := by decide +kernel
theorem d_kdc_15 : decode b_kdc 15 = .ok (.aload_n 0, 1) := by decide +kernel
theorem d_kdc_16 : decode b_kdc 16 = .ok (.iconst 0, 1) := by decide +kernel
theorem d_kdc_17 : decode b_kdc 17 = .ok (.putfield 651, 3) := by decide +kernel
theorem d_kdc_20 : decode b_kdc 20 = .ok (.aload_n 0, 1) := by decide +kernel
theorem d_kdc_21 : decode b_kdc 21 = .ok (.iload_n 1, 1) := by decide +kernel
theorem d_kdc_22 : decode b_kdc 22 = .ok (.invokevirtual 654, 3) := by decide +kernel
theorem d_kdc_25 : decode b_kdc 25 = .ok (.istore_n 2, 1) := by decide +kernel
theorem d_kdc_26 : decode b_kdc 26 = .ok (.iload_n 2, 1) := by decide +kernel
theorem d_kdc_27 : decode b_kdc 27 = .ok (.ifCond .eq 8, 3) := by decide +kernel
theorem d_kdc_30 : decode b_kdc 30 = .ok (.aload_n 0, 1) := by decide +kernel
theorem d_kdc_31 : decode b_kdc 31 = .ok (.iload_n 2, 1) := by decide +kernel
theorem d_kdc_32 : decode b_kdc 32 = .ok (.invokevirtual 657, 3) := by decide +kernel
theorem d_kdc_35 : decode b_kdc 35 = .ok (.iload_n 2, 1) := by decide +kernel
theorem d_kdc_36 : decode b_kdc 36 = .ok (.ireturn, 1) := by decide +kernel
abbrev b_served : ByteArray := prog_14_method_144_code
def y_served : MethodName := ⟨R_M, "served", "(II)I"⟩
abbrev k_served : Cond := .code y_served b_served 8 (some .int)
theorem ki_served : k_served ∈ lw_tg := List.mem_filter.mpr ⟨List.mem_append_right _ (List.mem_append_right _ (List.mem_append_right _ (List.mem_append_right _ (List.mem_append_right _ (List.mem_append_right _ (List.mem_append_right _ (List.mem_append_right _ (List.mem_append_right _ (List.mem_append_right _ (List.mem_append_right _ (List.mem_append_right _ (List.mem_append_left _ (List.mem_of_getElem? (i := 176) rfl))))))))))))), rfl⟩
theorem ks_served : Cond.instanceMethod y_served ∈ lw_tg := in_t 2815 (by decide +kernel)
theorem kl_served : Cond.methodLink R_M 978 y_served ∈ lw_tg := in_t 2813 (by decide +kernel)
theorem d_served_0 : decode b_served 0 = .ok (.aload_n 0, 1) := by decide +kernel
theorem d_served_1 : decode b_served 1 = .ok (.bipush 14, 2) := by decide +kernel
theorem d_served_3 : decode b_served 3 = .ok (.ldc_w 797, 3) := by decide +kernel
theorem d_served_6 : decode b_served 6 = .ok (.iconst 0, 1) := by decide +kernel
theorem d_served_7 : decode b_served 7 = .ok (.iload_n 2, 1) := by decide +kernel
theorem d_served_8 : decode b_served 8 = .ok (.iconst 2, 1) := by decide +kernel
theorem d_served_9 : decode b_served 9 = .ok (.invokevirtual 522, 3) := by decide +kernel
theorem d_served_12 : decode b_served 12 = .ok (.ifCond .ne 6, 3) := by decide +kernel
theorem d_served_15 : decode b_served 15 = .ok (.bipush (-60), 2) := by decide +kernel
theorem d_served_17 : decode b_served 17 = .ok (.ireturn, 1) := by decide +kernel
abbrev b_serve : ByteArray := prog_14_method_143_code
def y_serve : MethodName := ⟨R_M, "serve", "(I)I"⟩
abbrev k_serve : Cond := .code y_serve b_serve 4 (some .int)
theorem ki_serve : k_serve ∈ lw_tg := in_t 2812 (by decide +kernel)
theorem ks_serve : Cond.instanceMethod y_serve ∈ lw_tg := in_t 2810 (by decide +kernel)
theorem d_serve_0 : decode b_serve 0 = .ok (.aload_n 0, 1) := by decide +kernel
theorem d_serve_1 : decode b_serve 1 = .ok (.getfield 332, 3) := by decide +kernel
theorem d_serve_4 : decode b_serve 4 = .ok (.istore_n 2, 1) := by decide +kernel
theorem d_serve_5 : decode b_serve 5 = .ok (.aload_n 0, 1) := by decide +kernel
theorem d_serve_6 : decode b_serve 6 = .ok (.iconst 0, 1) := by decide +kernel
theorem d_serve_7 : decode b_serve 7 = .ok (.putfield 332, 3) := by decide +kernel
theorem d_serve_10 : decode b_serve 10 = .ok (.iload_n 1, 1) := by decide +kernel
theorem d_serve_11 : decode b_serve 11 = .ok (.ifCond .lt 11, 3) := by decide +kernel
theorem d_serve_14 : decode b_serve 14 = .ok (.iload_n 1, 1) := by decide +kernel
theorem d_serve_15 : decode b_serve 15 = .ok (.aload_n 0, 1) := by decide +kernel
theorem d_serve_16 : decode b_serve 16 = .ok (.getfield 630, 3) := by decide +kernel
theorem d_serve_19 : decode b_serve 19 = .ok (.if_icmp .lt 5, 3) := by decide +kernel
theorem d_serve_22 : decode b_serve 22 = .ok (.iconst (-1), 1) := by decide +kernel
theorem d_serve_23 : decode b_serve 23 = .ok (.ireturn, 1) := by decide +kernel
theorem d_serve_24 : decode b_serve 24 = .ok (.aload_n 0, 1) := by decide +kernel
theorem d_serve_25 : decode b_serve 25 = .ok (.iload_n 1, 1) := by decide +kernel
theorem d_serve_26 : decode b_serve 26 = .ok (.iload_n 2, 1) := by decide +kernel
theorem d_serve_27 : decode b_serve 27 = .ok (.invokevirtual 978, 3) := by decide +kernel
theorem d_serve_30 : decode b_serve 30 = .ok (.istore_n 3, 1) := by decide +kernel
theorem d_serve_31 : decode b_serve 31 = .ok (.iload_n 3, 1) := by decide +kernel
theorem d_serve_32 : decode b_serve 32 = .ok (.ifCond .lt 5, 3) := by decide +kernel
theorem d_serve_37 : decode b_serve 37 = .ok (.aload_n 0, 1) := by decide +kernel
theorem d_serve_38 : decode b_serve 38 = .ok (.invokevirtual 861, 3) := by decide +kernel
theorem d_serve_41 : decode b_serve 41 = .ok (.aload_n 0, 1) := by decide +kernel
theorem d_serve_42 : decode b_serve 42 = .ok (.bipush 10, 2) := by decide +kernel
theorem d_serve_44 : decode b_serve 44 = .ok (.iload_n 1, 1) := by decide +kernel
theorem d_serve_45 : decode b_serve 45 = .ok (.iconst 2, 1) := by decide +kernel
theorem d_serve_46 : decode b_serve 46 = .ok (.invokevirtual 908, 3) := by decide +kernel
theorem d_serve_49 : decode b_serve 49 = .ok (.aload_n 0, 1) := by decide +kernel
theorem d_serve_50 : decode b_serve 50 = .ok (.bipush 9, 2) := by decide +kernel
theorem d_serve_52 : decode b_serve 52 = .ok (.ldc_w 621, 3) := by decide +kernel
theorem d_serve_55 : decode b_serve 55 = .ok (.invokevirtual 878, 3) := by decide +kernel
theorem d_serve_58 : decode b_serve 58 = .ok (.aload_n 0, 1) := by decide +kernel
theorem d_serve_59 : decode b_serve 59 = .ok (.iload_n 3, 1) := by decide +kernel
theorem d_serve_60 : decode b_serve 60 = .ok (.ineg, 1) := by decide +kernel
theorem d_serve_61 : decode b_serve 61 = .ok (.invokevirtual 911, 3) := by decide +kernel
theorem d_serve_64 : decode b_serve 64 = .ok (.aload_n 0, 1) := by decide +kernel
theorem d_serve_65 : decode b_serve 65 = .ok (.invokevirtual 905, 3) := by decide +kernel
theorem d_serve_68 : decode b_serve 68 = .ok (.iload_n 3, 1) := by decide +kernel
theorem d_serve_69 : decode b_serve 69 = .ok (.ireturn, 1) := by decide +kernel
theorem cl_464 : Cond.constantLong R_M 464 (86400) ∈ lw_tg := in_t 2404 (by decide +kernel)
theorem cl_914 : Cond.constantLong R_M 914 (30) ∈ lw_tg := in_t 2718 (by decide +kernel)
theorem cl_899 : Cond.constantLong R_M 899 (19) ∈ lw_tg := in_t 2650 (by decide +kernel)
theorem cl_799 : Cond.constantLong R_M 799 (14) ∈ lw_tg := in_t 2666 (by decide +kernel)
theorem cl_646 : Cond.constantLong R_M 646 (300) ∈ lw_tg := in_t 2488 (by decide +kernel)
theorem kx_putNumber : Cond.selects R_M y_putNumber y_putNumber ∈ lw_tg := List.mem_filter.mpr ⟨List.mem_append_left _ (List.mem_of_getElem? (i := 145) (by decide +kernel)), rfl⟩
theorem hd_putNumber : y_putNumber.cls = R_M ∧ y_putNumber.cls ≠ "java/lang/invoke/MethodHandle" ∧ y_putNumber.cls ≠ "java/lang/invoke/VarHandle" ∧ (parseMethodDescriptor y_putNumber.desc).map (fun d => d.parameters.length) = some 1 := by decide +kernel
theorem kx_numberField : Cond.selects R_M y_numberField y_numberField ∈ lw_tg := List.mem_filter.mpr ⟨List.mem_append_left _ (List.mem_of_getElem? (i := 144) (by decide +kernel)), rfl⟩
theorem hd_numberField : y_numberField.cls = R_M ∧ y_numberField.cls ≠ "java/lang/invoke/MethodHandle" ∧ y_numberField.cls ≠ "java/lang/invoke/VarHandle" ∧ (parseMethodDescriptor y_numberField.desc).map (fun d => d.parameters.length) = some 2 := by decide +kernel
theorem kx_putTime : Cond.selects R_M y_putTime y_putTime ∈ lw_tg := List.mem_filter.mpr ⟨List.mem_append_left _ (List.mem_of_getElem? (i := 141) (by decide +kernel)), rfl⟩
theorem hd_putTime : y_putTime.cls = R_M ∧ y_putTime.cls ≠ "java/lang/invoke/MethodHandle" ∧ y_putTime.cls ≠ "java/lang/invoke/VarHandle" ∧ (parseMethodDescriptor y_putTime.desc).map (fun d => d.parameters.length) = some 1 := by decide +kernel
theorem kx_timeField : Cond.selects R_M y_timeField y_timeField ∈ lw_tg := List.mem_filter.mpr ⟨List.mem_append_left _ (List.mem_of_getElem? (i := 140) (by decide +kernel)), rfl⟩
theorem hd_timeField : y_timeField.cls = R_M ∧ y_timeField.cls ≠ "java/lang/invoke/MethodHandle" ∧ y_timeField.cls ≠ "java/lang/invoke/VarHandle" ∧ (parseMethodDescriptor y_timeField.desc).map (fun d => d.parameters.length) = some 2 := by decide +kernel
theorem kx_putParts : Cond.selects R_M y_putParts y_putParts ∈ lw_tg := List.mem_filter.mpr ⟨List.mem_append_left _ (List.mem_of_getElem? (i := 169) (by decide +kernel)), rfl⟩
theorem hd_putParts : y_putParts.cls = R_M ∧ y_putParts.cls ≠ "java/lang/invoke/MethodHandle" ∧ y_putParts.cls ≠ "java/lang/invoke/VarHandle" ∧ (parseMethodDescriptor y_putParts.desc).map (fun d => d.parameters.length) = some 3 := by decide +kernel
theorem kx_nameField : Cond.selects R_M y_nameField y_nameField ∈ lw_tg := List.mem_filter.mpr ⟨List.mem_append_left _ (List.mem_of_getElem? (i := 168) (by decide +kernel)), rfl⟩
theorem hd_nameField : y_nameField.cls = R_M ∧ y_nameField.cls ≠ "java/lang/invoke/MethodHandle" ∧ y_nameField.cls ≠ "java/lang/invoke/VarHandle" ∧ (parseMethodDescriptor y_nameField.desc).map (fun d => d.parameters.length) = some 3 := by decide +kernel
theorem kx_errorHead : Cond.selects R_M y_errorHead y_errorHead ∈ lw_tg := List.mem_filter.mpr ⟨List.mem_append_left _ (List.mem_of_getElem? (i := 170) (by decide +kernel)), rfl⟩
theorem hd_errorHead : y_errorHead.cls = R_M ∧ y_errorHead.cls ≠ "java/lang/invoke/MethodHandle" ∧ y_errorHead.cls ≠ "java/lang/invoke/VarHandle" ∧ (parseMethodDescriptor y_errorHead.desc).map (fun d => d.parameters.length) = some 1 := by decide +kernel
theorem kx_element : Cond.selects R_M y_element y_element ∈ lw_tg := List.mem_filter.mpr ⟨List.mem_append_left _ (List.mem_of_getElem? (i := 96) (by decide +kernel)), rfl⟩
theorem hd_element : y_element.cls = R_M ∧ y_element.cls ≠ "java/lang/invoke/MethodHandle" ∧ y_element.cls ≠ "java/lang/invoke/VarHandle" ∧ (parseMethodDescriptor y_element.desc).map (fun d => d.parameters.length) = some 3 := by decide +kernel
theorem kx_whole : Cond.selects R_M y_whole y_whole ∈ lw_tg := List.mem_filter.mpr ⟨List.mem_append_left _ (List.mem_of_getElem? (i := 95) (by decide +kernel)), rfl⟩
theorem hd_whole : y_whole.cls = R_M ∧ y_whole.cls ≠ "java/lang/invoke/MethodHandle" ∧ y_whole.cls ≠ "java/lang/invoke/VarHandle" ∧ (parseMethodDescriptor y_whole.desc).map (fun d => d.parameters.length) = some 3 := by decide +kernel
theorem kx_applied : Cond.selects R_M y_applied y_applied ∈ lw_tg := List.mem_filter.mpr ⟨List.mem_append_left _ (List.mem_of_getElem? (i := 94) (by decide +kernel)), rfl⟩
theorem hd_applied : y_applied.cls = R_M ∧ y_applied.cls ≠ "java/lang/invoke/MethodHandle" ∧ y_applied.cls ≠ "java/lang/invoke/VarHandle" ∧ (parseMethodDescriptor y_applied.desc).map (fun d => d.parameters.length) = some 5 := by decide +kernel
theorem kx_asked : Cond.selects R_M y_asked y_asked ∈ lw_tg := List.mem_filter.mpr ⟨List.mem_append_left _ (List.mem_of_getElem? (i := 93) (by decide +kernel)), rfl⟩
theorem hd_asked : y_asked.cls = R_M ∧ y_asked.cls ≠ "java/lang/invoke/MethodHandle" ∧ y_asked.cls ≠ "java/lang/invoke/VarHandle" ∧ (parseMethodDescriptor y_asked.desc).map (fun d => d.parameters.length) = some 1 := by decide +kernel
theorem kx_error : Cond.selects R_M y_error y_error ∈ lw_tg := List.mem_filter.mpr ⟨List.mem_append_left _ (List.mem_of_getElem? (i := 167) (by decide +kernel)), rfl⟩
theorem hd_error : y_error.cls = R_M ∧ y_error.cls ≠ "java/lang/invoke/MethodHandle" ∧ y_error.cls ≠ "java/lang/invoke/VarHandle" ∧ (parseMethodDescriptor y_error.desc).map (fun d => d.parameters.length) = some 1 := by decide +kernel
theorem kx_kdc : Cond.selects R_M y_kdc y_kdc ∈ lw_tg := in_t 2354 (by decide +kernel)
theorem hd_kdc : y_kdc.cls = R_M ∧ y_kdc.cls ≠ "java/lang/invoke/MethodHandle" ∧ y_kdc.cls ≠ "java/lang/invoke/VarHandle" ∧ (parseMethodDescriptor y_kdc.desc).map (fun d => d.parameters.length) = some 0 := by decide +kernel
theorem kx_served : Cond.selects R_M y_served y_served ∈ lw_tg := List.mem_filter.mpr ⟨List.mem_append_left _ (List.mem_of_getElem? (i := 183) (by decide +kernel)), rfl⟩
theorem hd_served : y_served.cls = R_M ∧ y_served.cls ≠ "java/lang/invoke/MethodHandle" ∧ y_served.cls ≠ "java/lang/invoke/VarHandle" ∧ (parseMethodDescriptor y_served.desc).map (fun d => d.parameters.length) = some 2 := by decide +kernel
theorem kx_serve : Cond.selects R_M y_serve y_serve ∈ lw_tg := in_t 2811 (by decide +kernel)
theorem hd_serve : y_serve.cls = R_M ∧ y_serve.cls ≠ "java/lang/invoke/MethodHandle" ∧ y_serve.cls ≠ "java/lang/invoke/VarHandle" ∧ (parseMethodDescriptor y_serve.desc).map (fun d => d.parameters.length) = some 1 := by decide +kernel
set_option maxHeartbeats 4000000 in
set_option maxRecDepth 100000 in
theorem c_putNumber_s (l : Launch) (D : mD) (E : mE) (h : Nat) (q : Nat → Nat) (sz : Nat) (I : Nat → Int32) (J : Nat → Int64) (B : Nat → Nat → Int32) (G : Nat → Nat → Int64) (v : Nat) (hv : v < 128) (V : Nat) (hV : I 42 = nI V) (hVl : 12 ≤ V) (hV6 : V ≤ 60000) : Met l y_putNumber (k_putNumber :: lw_tg) (mR 2 46) (va_Pc [.ref h, .long (lN v)] (mPre D E h q (I, J, B, G) sz)) (va_Qv (fun (u : mS) => (∀ j, j ≠ 42 → u.1 j = I j) ∧ u.2.1 = J ∧ (∀ j, j ≠ 0 → u.2.2.1 j = B j) ∧ u.2.2.2 = G ∧ (∃ V2, V ≤ V2 + 6 ∧ V2 ≤ V ∧ u.1 42 = nI V2)) (mPost D E h q (mA E h q sz)) (mA E h q sz)) 0 0 (mA E h q sz) := by
  refine m_enter (by decide) rfl (Nat.le_of_ble_eq_true rfl) (fun p e s m below meth c ls AV QQ H locs hQQ X Y hZ hA hr hlk hml hl => ?_)
  have Y : mH D E (mA E h q sz) s.heap h q I J B G H locs := Y
  have hl : lv_has ls 8 [(0, .ref h), (1, .long (lN v))] := hl
  refine lv_aload_n X.1 X.2.1 d_putNumber_0 rfl (lv_at hl 0 rfl) ?_
  refine m_get X Y 42 (by decide) lk_w0 (gf_w0 _ _ _) rfl d_putNumber_1 ?_
  refine t_eq (show I 42 = nI (V) from hV) ?_
  refine lv_istore_n (lv' := [(3, .int (nI (V))), (0, .ref h), (1, .long (lN v))]) X.1 X.2.1 d_putNumber_4 rfl hl (by decide) rfl (fun ls hl => ?_)
  refine lv_lload_n X.1 X.2.1 d_putNumber_5 rfl (lv_at hl 2 rfl) ?_
  refine lv_lstore (lv' := [(4, .long (lN v)), (3, .int (nI (V))), (0, .ref h), (1, .long (lN v))]) X.1 X.2.1 d_putNumber_6 hl (by decide) rfl (fun ls hl => ?_)
  refine lv_iconst (v := (nI 1)) X.1 X.2.1 d_putNumber_8 (by decide) ?_
  refine lv_istore (lv' := [(6, .int (nI 1)), (4, .long (lN v)), (3, .int (nI (V))), (0, .ref h), (1, .long (lN v))]) X.1 X.2.1 d_putNumber_9 hl (by decide) rfl (fun ls hl => ?_)
  refine lv_iload X.1 X.2.1 d_putNumber_11 (lv_at hl 0 rfl) ?_
  refine lv_if_eq (tgt := 75) X.1 X.2.1 d_putNumber_13 (by decide) (fun c1 => absurd c1 ?_) (fun c1 => ?_)
  · (rw [← nI_0, nI_eq (by omega) (by omega)] <;> omega)
  rw [← nI_0] at c1
  rw [nI_eq (by omega) (by omega)] at c1
  refine lv_aload_n X.1 X.2.1 d_putNumber_16 rfl (lv_at hl 3 rfl) ?_
  refine lv_lload X.1 X.2.1 d_putNumber_17 (lv_at hl 1 rfl) ?_
  refine lv_l2i (v := nI (v)) X.1 X.2.1 d_putNumber_19 (lN_i _) ?_
  refine m_callv (As := [.int (nI (v))]) (rest := []) (n := 1) X Y hZ hA hml hl.1 (c_one l D E h q H.size I J B G (nI (v)) (V - 1) ((show I 42 = nI (V) from hV).trans (congrArg nI (show (V : Nat) = V - 1 + 1 by omega))) (by omega)) kl_one ks_one kx_one ki_one ini_M hd_one ⟨by decide, by decide⟩ rfl (Nat.le_of_ble_eq_true rfl) d_putNumber_20 ⟨Nat.le_refl _, Nat.le_refl _⟩ (fun u H locs hp Y => ?_)
  obtain ⟨I2, J3, B4, G5⟩ := u
  obtain ⟨hI6, eJ8, hB7, eG9, hk11⟩ := hp
  dsimp only at hI6 eJ8 hB7 eG9 hk11 Y
  rw [eJ8, eG9] at Y
  have hI12 : (∀ j, j ≠ 42 → I2 j = I j) := fun j h42 => (hI6 j h42).trans ((fun j h42 => rfl) j h42)
  have hB13 : (∀ j, j ≠ 0 → B4 j = B j) := fun j h0 => (hB7 j h0).trans ((fun j h0 => rfl) j h0)
  refine lv_lload X.1 X.2.1 d_putNumber_23 (lv_at hl 1 rfl) ?_
  refine lv_l2i (v := nI (v)) X.1 X.2.1 d_putNumber_25 (lN_i _) ?_
  refine lv_sipush (v := (nI 128)) X.1 X.2.1 d_putNumber_26 (by decide) ?_
  refine lv_iand X.1 X.2.1 d_putNumber_29 ?_
  refine t_eq (nb_128 v hv) ?_
  refine lv_istore (lv' := [(7, .int (nI 0)), (6, .int (nI 1)), (4, .long (lN v)), (3, .int (nI (V))), (0, .ref h), (1, .long (lN v))]) X.1 X.2.1 d_putNumber_30 hl (by decide) rfl (fun ls hl => ?_)
  refine lv_lload X.1 X.2.1 d_putNumber_32 (lv_at hl 2 rfl) ?_
  refine lv_bipush (v := (nI 8)) X.1 X.2.1 d_putNumber_34 (by decide) ?_
  refine lv_lshr (v := lN 0) X.1 X.2.1 d_putNumber_36 (lb_shr8 v hv) ?_
  refine lv_lstore (lv' := [(4, .long (lN 0)), (7, .int (nI 0)), (6, .int (nI 1)), (3, .int (nI (V))), (0, .ref h), (1, .long (lN v))]) X.1 X.2.1 d_putNumber_37 hl (by decide) rfl (fun ls hl => ?_)
  refine lv_lload X.1 X.2.1 d_putNumber_39 (lv_at hl 0 rfl) ?_
  refine lv_lconst (v := 0) X.1 X.2.1 d_putNumber_41 rfl ?_
  refine t_eql (y := lN 0) (by decide) ?_
  refine W.lcmp X.1 X.2.1 d_putNumber_42 ?_
  refine t_eq (y := nI 0) (by decide) ?_
  refine lv_if_ne (tgt := 51) X.1 X.2.1 d_putNumber_43 (by decide) (fun c14 => absurd c14 ?_) (fun c14 => ?_)
  · (rw [← nI_0, nI_eq (by omega) (by omega)] <;> omega)
  rw [← nI_0] at c14
  rw [nI_eq (by omega) (by omega)] at c14
  refine lv_iload X.1 X.2.1 d_putNumber_46 (lv_at hl 1 rfl) ?_
  refine lv_if_eq (tgt := 69) X.1 X.2.1 d_putNumber_48 (by decide) (fun c15 => ?_) (fun c15 => absurd ?_ c15)
  rotate_left
  · (rw [← nI_0, nI_eq (by omega) (by omega)] <;> omega)
  rw [← nI_0] at c15
  rw [nI_eq (by omega) (by omega)] at c15
  refine lv_iconst (v := (nI 0)) X.1 X.2.1 d_putNumber_69 (by decide) ?_
  refine lv_istore (lv' := [(6, .int (nI 0)), (4, .long (lN 0)), (7, .int (nI 0)), (3, .int (nI (V))), (0, .ref h), (1, .long (lN v))]) X.1 X.2.1 d_putNumber_70 hl (by decide) rfl (fun ls hl => ?_)
  refine lv_goto (tgt := 11) X.1 X.2.1 d_putNumber_72 (by decide) ?_
  refine lv_iload X.1 X.2.1 d_putNumber_11 (lv_at hl 0 rfl) ?_
  refine lv_if_eq (tgt := 75) X.1 X.2.1 d_putNumber_13 (by decide) (fun c16 => ?_) (fun c16 => absurd ?_ c16)
  rotate_left
  · (rw [← nI_0, nI_eq (by omega) (by omega)] <;> omega)
  rw [← nI_0] at c16
  rw [nI_eq (by omega) (by omega)] at c16
  refine lv_aload_n X.1 X.2.1 d_putNumber_75 rfl (lv_at hl 4 rfl) ?_
  refine lv_iconst (v := (nI 2)) X.1 X.2.1 d_putNumber_76 (by decide) ?_
  refine lv_iload_n X.1 X.2.1 d_putNumber_77 rfl (lv_at hl 3 rfl) ?_
  refine m_callv (As := [.int (nI 2), .int (nI (V))]) (rest := []) (n := 2) X Y hZ hA hml hl.1 (c_head l D E h q H.size I2 J B4 G (nI 2) (V) ((V - 1)) (show I2 42 = nI ((V - 1)) from hk11) (by omega) (by omega) (by omega)) kl_head ks_head kx_head ki_head ini_M hd_head ⟨by decide, by decide⟩ rfl (Nat.le_of_ble_eq_true rfl) d_putNumber_78 ⟨Nat.le_refl _, Nat.le_refl _⟩ (fun u H locs hp Y => ?_)
  obtain ⟨I17, J18, B19, G20⟩ := u
  obtain ⟨hI21, eJ23, hB22, eG24, hx26⟩ := hp
  dsimp only at hI21 eJ23 hB22 eG24 hx26 Y
  rw [eJ23, eG24] at Y
  have hI27 : (∀ j, j ≠ 42 → I17 j = I j) := fun j h42 => (hI21 j h42).trans ((fun j h42 => (hI12 j h42)) j h42)
  have hB28 : (∀ j, j ≠ 0 → B19 j = B j) := fun j h0 => (hB22 j h0).trans ((fun j h0 => (hB13 j h0)) j h0)
  obtain ⟨V29, hV29a, hV29b, hV29c⟩ := hx26
  exact m_retv hQQ X Y hr hlk ⟨(fun j h42 => (hI27 j h42)), rfl, (fun j h0 => (hB28 j h0)), rfl, ⟨V29, by omega, by omega, (show I17 42 = nI (V29) from hV29c)⟩⟩ d_putNumber_81
set_option maxHeartbeats 4000000 in
set_option maxRecDepth 100000 in
theorem c_numberField_s (l : Launch) (D : mD) (E : mE) (h : Nat) (q : Nat → Nat) (sz : Nat) (I : Nat → Int32) (J : Nat → Int64) (B : Nat → Nat → Int32) (G : Nat → Nat → Int64) (a1 : Int32) (v : Nat) (hv : v < 128) (V : Nat) (hV : I 42 = nI V) (hVl : 20 ≤ V) (hV6 : V ≤ 60000) : Met l y_numberField (k_numberField :: lw_tg) (mR 3 73) (va_Pc [.ref h, .int a1, .long (lN v)] (mPre D E h q (I, J, B, G) sz)) (va_Qv (fun (u : mS) => (∀ j, j ≠ 42 → u.1 j = I j) ∧ u.2.1 = J ∧ (∀ j, j ≠ 0 → u.2.2.1 j = B j) ∧ u.2.2.2 = G ∧ (∃ V2, V ≤ V2 + 11 ∧ V2 ≤ V ∧ u.1 42 = nI V2)) (mPost D E h q (mA E h q sz)) (mA E h q sz)) 0 0 (mA E h q sz) := by
  refine m_enter (by decide) rfl (Nat.le_of_ble_eq_true rfl) (fun p e s m below meth c ls AV QQ H locs hQQ X Y hZ hA hr hlk hml hl => ?_)
  have Y : mH D E (mA E h q sz) s.heap h q I J B G H locs := Y
  have hl : lv_has ls 5 [(0, .ref h), (1, .int a1), (2, .long (lN v))] := hl
  refine lv_aload_n X.1 X.2.1 d_numberField_0 rfl (lv_at hl 0 rfl) ?_
  refine m_get X Y 42 (by decide) lk_w0 (gf_w0 _ _ _) rfl d_numberField_1 ?_
  refine t_eq (show I 42 = nI (V) from hV) ?_
  refine lv_istore (lv' := [(4, .int (nI (V))), (0, .ref h), (1, .int a1), (2, .long (lN v))]) X.1 X.2.1 d_numberField_4 hl (by decide) rfl (fun ls hl => ?_)
  refine lv_aload_n X.1 X.2.1 d_numberField_6 rfl (lv_at hl 1 rfl) ?_
  refine lv_lload_n X.1 X.2.1 d_numberField_7 rfl (lv_at hl 3 rfl) ?_
  refine m_callv (As := [.long (lN v)]) (rest := []) (n := 1) X Y hZ hA hml hl.1 (c_putNumber_s l D E h q H.size I J B G (v) (by omega) (V) (show I 42 = nI (V) from hV) (by omega) (by omega)) kl_putNumber ks_putNumber kx_putNumber ki_putNumber ini_M hd_putNumber ⟨by decide, by decide⟩ rfl (Nat.le_of_ble_eq_true rfl) d_numberField_8 ⟨Nat.le_refl _, Nat.le_refl _⟩ (fun u H locs hp Y => ?_)
  obtain ⟨I1, J2, B3, G4⟩ := u
  obtain ⟨hI5, eJ7, hB6, eG8, hx10⟩ := hp
  dsimp only at hI5 eJ7 hB6 eG8 hx10 Y
  rw [eJ7, eG8] at Y
  have hI11 : (∀ j, j ≠ 42 → I1 j = I j) := fun j h42 => (hI5 j h42).trans ((fun j h42 => rfl) j h42)
  have hB12 : (∀ j, j ≠ 0 → B3 j = B j) := fun j h0 => (hB6 j h0).trans ((fun j h0 => rfl) j h0)
  obtain ⟨V13, hV13a, hV13b, hV13c⟩ := hx10
  refine lv_aload_n X.1 X.2.1 d_numberField_11 rfl (lv_at hl 1 rfl) ?_
  refine lv_iload_n X.1 X.2.1 d_numberField_12 rfl (lv_at hl 2 rfl) ?_
  refine lv_iload X.1 X.2.1 d_numberField_13 (lv_at hl 0 rfl) ?_
  refine m_callv (As := [.int a1, .int (nI (V))]) (rest := []) (n := 2) X Y hZ hA hml hl.1 (c_field l D E h q H.size I1 J B3 G a1 (V) (V13) (show I1 42 = nI (V13) from hV13c) (by omega) (by omega) (by omega)) kl_field ks_field kx_field ki_field ini_M hd_field ⟨by decide, by decide⟩ rfl (Nat.le_of_ble_eq_true rfl) d_numberField_15 ⟨Nat.le_refl _, Nat.le_refl _⟩ (fun u H locs hp Y => ?_)
  obtain ⟨I14, J15, B16, G17⟩ := u
  obtain ⟨hI18, eJ20, hB19, eG21, hx23⟩ := hp
  dsimp only at hI18 eJ20 hB19 eG21 hx23 Y
  rw [eJ20, eG21] at Y
  have hI24 : (∀ j, j ≠ 42 → I14 j = I j) := fun j h42 => (hI18 j h42).trans ((fun j h42 => (hI11 j h42)) j h42)
  have hB25 : (∀ j, j ≠ 0 → B16 j = B j) := fun j h0 => (hB19 j h0).trans ((fun j h0 => (hB12 j h0)) j h0)
  obtain ⟨V26, hV26a, hV26b, hV26c⟩ := hx23
  exact m_retv hQQ X Y hr hlk ⟨(fun j h42 => (hI24 j h42)), rfl, (fun j h0 => (hB25 j h0)), rfl, ⟨V26, by omega, by omega, (show I14 42 = nI (V26) from hV26c)⟩⟩ d_numberField_18
set_option maxHeartbeats 4000000 in
set_option maxRecDepth 100000 in
theorem c_daysOf (l : Launch) (a0 a1 : Nat) (h0 : a0 < 100000) (h1 : a1 < 100000) : Met l y_daysOf (k_daysOf :: lw_tg) (mR 0 0) (va_Pc [.int (nI a0), .int (nI a1)] pPre) (va_Qi (fun (r : Int32) (_ : Unit) => r = nI (dOf a0 a1)) (fun _ _ => True) (fun _ => False)) 0 0 (fun _ => False) := by
  refine p_enter (by decide) rfl (Nat.le_of_ble_eq_true rfl) (fun p e s m below meth c ls AV QQ H locs hQQ hS X hr hlk hml hl => ?_)
  have hl : lv_has ls 2 [(0, .int (nI a0)), (1, .int (nI a1))] := hl
  refine lv_iload_n X.1 X.2.1 d_daysOf_0 rfl (lv_at hl 1 rfl) ?_
  refine lv_iconst (v := (nI 2)) X.1 X.2.1 d_daysOf_1 (by decide) ?_
  refine lv_icmp_ne (tgt := 21) X.1 X.2.1 d_daysOf_2 (by decide) (fun c1 => ?_) (fun c1 => ?_)
  · skip
    rw [nI_eq (by omega) (by omega)] at c1
    refine lv_iload_n X.1 X.2.1 d_daysOf_21 rfl (lv_at hl 1 rfl) ?_
    refine lv_iconst (v := (nI 4)) X.1 X.2.1 d_daysOf_22 (by decide) ?_
    refine lv_icmp_eq (tgt := 44) X.1 X.2.1 d_daysOf_23 (by decide) (fun c2 => ?_) (fun c2 => ?_)
    · skip
      rw [nI_eq (by omega) (by omega)] at c2
      refine lv_bipush (v := (nI 30)) X.1 X.2.1 d_daysOf_44 (by decide) ?_
      refine lv_goto (tgt := 51) X.1 X.2.1 d_daysOf_46 (by decide) ?_
      exact p_reti hQQ hS X hr hlk (show (nI 30) = nI (dOf a0 a1) from congrArg nI (by unfold dOf; first | (rw [if_pos (by omega), if_pos (by omega)]) | (rw [if_pos (by omega), if_neg (by omega)]) | (rw [if_neg (by omega), if_pos (by omega)]) | (rw [if_neg (by omega), if_neg (by omega)]))) d_daysOf_51
    · skip
      rw [nI_eq (by omega) (by omega)] at c2
      refine lv_iload_n X.1 X.2.1 d_daysOf_26 rfl (lv_at hl 1 rfl) ?_
      refine lv_bipush (v := (nI 6)) X.1 X.2.1 d_daysOf_27 (by decide) ?_
      refine lv_icmp_eq (tgt := 44) X.1 X.2.1 d_daysOf_29 (by decide) (fun c3 => ?_) (fun c3 => ?_)
      · skip
        rw [nI_eq (by omega) (by omega)] at c3
        refine lv_bipush (v := (nI 30)) X.1 X.2.1 d_daysOf_44 (by decide) ?_
        refine lv_goto (tgt := 51) X.1 X.2.1 d_daysOf_46 (by decide) ?_
        exact p_reti hQQ hS X hr hlk (show (nI 30) = nI (dOf a0 a1) from congrArg nI (by unfold dOf; first | (rw [if_pos (by omega), if_pos (by omega)]) | (rw [if_pos (by omega), if_neg (by omega)]) | (rw [if_neg (by omega), if_pos (by omega)]) | (rw [if_neg (by omega), if_neg (by omega)]))) d_daysOf_51
      · skip
        rw [nI_eq (by omega) (by omega)] at c3
        refine lv_iload_n X.1 X.2.1 d_daysOf_32 rfl (lv_at hl 1 rfl) ?_
        refine lv_bipush (v := (nI 9)) X.1 X.2.1 d_daysOf_33 (by decide) ?_
        refine lv_icmp_eq (tgt := 44) X.1 X.2.1 d_daysOf_35 (by decide) (fun c4 => ?_) (fun c4 => ?_)
        · skip
          rw [nI_eq (by omega) (by omega)] at c4
          refine lv_bipush (v := (nI 30)) X.1 X.2.1 d_daysOf_44 (by decide) ?_
          refine lv_goto (tgt := 51) X.1 X.2.1 d_daysOf_46 (by decide) ?_
          exact p_reti hQQ hS X hr hlk (show (nI 30) = nI (dOf a0 a1) from congrArg nI (by unfold dOf; first | (rw [if_pos (by omega), if_pos (by omega)]) | (rw [if_pos (by omega), if_neg (by omega)]) | (rw [if_neg (by omega), if_pos (by omega)]) | (rw [if_neg (by omega), if_neg (by omega)]))) d_daysOf_51
        · skip
          rw [nI_eq (by omega) (by omega)] at c4
          refine lv_iload_n X.1 X.2.1 d_daysOf_38 rfl (lv_at hl 1 rfl) ?_
          refine lv_bipush (v := (nI 11)) X.1 X.2.1 d_daysOf_39 (by decide) ?_
          refine lv_icmp_ne (tgt := 49) X.1 X.2.1 d_daysOf_41 (by decide) (fun c5 => ?_) (fun c5 => ?_)
          · skip
            rw [nI_eq (by omega) (by omega)] at c5
            refine lv_bipush (v := (nI 31)) X.1 X.2.1 d_daysOf_49 (by decide) ?_
            exact p_reti hQQ hS X hr hlk (show (nI 31) = nI (dOf a0 a1) from congrArg nI (by unfold dOf; first | (rw [if_pos (by omega), if_pos (by omega)]) | (rw [if_pos (by omega), if_neg (by omega)]) | (rw [if_neg (by omega), if_pos (by omega)]) | (rw [if_neg (by omega), if_neg (by omega)]))) d_daysOf_51
          · skip
            rw [nI_eq (by omega) (by omega)] at c5
            refine lv_bipush (v := (nI 30)) X.1 X.2.1 d_daysOf_44 (by decide) ?_
            refine lv_goto (tgt := 51) X.1 X.2.1 d_daysOf_46 (by decide) ?_
            exact p_reti hQQ hS X hr hlk (show (nI 30) = nI (dOf a0 a1) from congrArg nI (by unfold dOf; first | (rw [if_pos (by omega), if_pos (by omega)]) | (rw [if_pos (by omega), if_neg (by omega)]) | (rw [if_neg (by omega), if_pos (by omega)]) | (rw [if_neg (by omega), if_neg (by omega)]))) d_daysOf_51
  · skip
    rw [nI_eq (by omega) (by omega)] at c1
    refine lv_iload_n X.1 X.2.1 d_daysOf_5 rfl (lv_at hl 0 rfl) ?_
    refine lv_iconst (v := (nI 4)) X.1 X.2.1 d_daysOf_6 (by decide) ?_
    refine lv_irem X.1 X.2.1 d_daysOf_7 (nI_ne0 (by omega) (by omega)) ?_
    refine t_eq (y := nI ((a0) % (4))) (pk_rem (by omega) (by omega) (by omega)) ?_
    refine lv_if_ne (tgt := 16) X.1 X.2.1 d_daysOf_8 (by decide) (fun c6 => ?_) (fun c6 => ?_)
    · skip
      rw [← nI_0] at c6
      rw [nI_eq (by omega) (by omega)] at c6
      refine lv_bipush (v := (nI 28)) X.1 X.2.1 d_daysOf_16 (by decide) ?_
      refine lv_goto (tgt := 51) X.1 X.2.1 d_daysOf_18 (by decide) ?_
      exact p_reti hQQ hS X hr hlk (show (nI 28) = nI (dOf a0 a1) from congrArg nI (by unfold dOf; first | (rw [if_pos (by omega), if_pos (by omega)]) | (rw [if_pos (by omega), if_neg (by omega)]) | (rw [if_neg (by omega), if_pos (by omega)]) | (rw [if_neg (by omega), if_neg (by omega)]))) d_daysOf_51
    · skip
      rw [← nI_0] at c6
      rw [nI_eq (by omega) (by omega)] at c6
      refine lv_bipush (v := (nI 29)) X.1 X.2.1 d_daysOf_11 (by decide) ?_
      refine lv_goto (tgt := 51) X.1 X.2.1 d_daysOf_13 (by decide) ?_
      exact p_reti hQQ hS X hr hlk (show (nI 29) = nI (dOf a0 a1) from congrArg nI (by unfold dOf; first | (rw [if_pos (by omega), if_pos (by omega)]) | (rw [if_pos (by omega), if_neg (by omega)]) | (rw [if_neg (by omega), if_pos (by omega)]) | (rw [if_neg (by omega), if_neg (by omega)]))) d_daysOf_51
set_option maxHeartbeats 4000000 in
set_option maxRecDepth 100000 in
theorem c_putTime (l : Launch) (D : mD) (E : mE) (h : Nat) (q : Nat → Nat) (sz : Nat) (I : Nat → Int32) (J : Nat → Int64) (B : Nat → Nat → Int32) (G : Nat → Nat → Int64) (t : Nat) (ht : t ≤ 2100000000) (V : Nat) (hV : I 42 = nI V) (hVl : 40 ≤ V) (hV6 : V ≤ 60000) : Met l y_putTime (k_putTime :: lw_tg) (mR 2 46) (va_Pc [.ref h, .long (lN t)] (mPre D E h q (I, J, B, G) sz)) (va_Qv (fun (u : mS) => (∀ j, j ≠ 42 → u.1 j = I j) ∧ u.2.1 = J ∧ (∀ j, j ≠ 0 → u.2.2.1 j = B j) ∧ u.2.2.2 = G ∧ (∃ V2, V ≤ V2 + 20 ∧ V2 ≤ V ∧ u.1 42 = nI V2)) (mPost D E h q (mA E h q sz)) (mA E h q sz)) 0 0 (mA E h q sz) := by
  refine m_enter (by decide) rfl (Nat.le_of_ble_eq_true rfl) (fun p e s m below meth c ls AV QQ H locs hQQ X Y hZ hA hr hlk hml hl => ?_)
  have Y : mH D E (mA E h q sz) s.heap h q I J B G H locs := Y
  have hl : lv_has ls 8 [(0, .ref h), (1, .long (lN t))] := hl
  refine lv_aload_n X.1 X.2.1 d_putTime_0 rfl (lv_at hl 0 rfl) ?_
  refine m_get X Y 42 (by decide) lk_w0 (gf_w0 _ _ _) rfl d_putTime_1 ?_
  refine t_eq (show I 42 = nI (V) from hV) ?_
  refine lv_istore_n (lv' := [(3, .int (nI (V))), (0, .ref h), (1, .long (lN t))]) X.1 X.2.1 d_putTime_4 rfl hl (by decide) rfl (fun ls hl => ?_)
  refine lv_lload_n X.1 X.2.1 d_putTime_5 rfl (lv_at hl 2 rfl) ?_
  refine lv_ldc2 (v := (86400)) X.1 X.2.1 X.2.2.2.1 (X.2.2.1 _ cl_464) d_putTime_6 ?_
  refine t_eql (y := lN 86400) (by decide) ?_
  refine lv_ldiv X.1 X.2.1 d_putTime_9 (pk_lne (by omega) (by omega)) ?_
  refine t_eql (pk_lDiv (by omega) (by omega) (by omega)) ?_
  refine lv_l2i (v := nI ((t) / (86400))) X.1 X.2.1 d_putTime_10 (lN_i _) ?_
  refine lv_istore (lv' := [(4, .int (nI ((t) / (86400)))), (3, .int (nI (V))), (0, .ref h), (1, .long (lN t))]) X.1 X.2.1 d_putTime_11 hl (by decide) rfl (fun ls hl => ?_)
  refine lv_lload_n X.1 X.2.1 d_putTime_13 rfl (lv_at hl 3 rfl) ?_
  refine lv_ldc2 (v := (86400)) X.1 X.2.1 X.2.2.2.1 (X.2.2.1 _ cl_464) d_putTime_14 ?_
  refine t_eql (y := lN 86400) (by decide) ?_
  refine lv_lrem X.1 X.2.1 d_putTime_17 (pk_lne (by omega) (by omega)) ?_
  refine t_eql (pk_lRem (by omega) (by omega) (by omega)) ?_
  refine lv_l2i (v := nI ((t) % (86400))) X.1 X.2.1 d_putTime_18 (lN_i _) ?_
  refine lv_istore (lv' := [(5, .int (nI ((t) % (86400)))), (4, .int (nI ((t) / (86400)))), (3, .int (nI (V))), (0, .ref h), (1, .long (lN t))]) X.1 X.2.1 d_putTime_19 hl (by decide) rfl (fun ls hl => ?_)
  refine lv_sipush (v := (nI 1970)) X.1 X.2.1 d_putTime_21 (by decide) ?_
  refine lv_istore (lv' := [(6, .int (nI 1970)), (5, .int (nI ((t) % (86400)))), (4, .int (nI ((t) / (86400)))), (3, .int (nI (V))), (0, .ref h), (1, .long (lN t))]) X.1 X.2.1 d_putTime_24 hl (by decide) rfl (fun ls hl => ?_)
  have hD : t / 86400 ≤ 24400 := by omega
  have ct1 : ∀ (d y mo : Nat) (H : Heap) (locs : List Loc) (ls : Array Slot), d ≤ 400 → 1970 ≤ y → y ≤ 2100 → mo ≤ 100 → mH D E (mA E h q sz) s.heap h q I J B G H locs → lv_has ls 8 [(6, .int (nI y)), (5, .int (nI ((t) % (86400)))), (4, .int (nI d)), (3, .int (nI (V))), (0, .ref h), (1, .long (lN t)), (7, .int (nI mo))] → W p l e (mR 2 46) s m AV below meth c H locs 0 0 QQ (F0 m 123 ls []) := by
    intro d y mo H locs ls hc2 hc3 hc4 hc5 Y hl
    refine lv_aload_n X.1 X.2.1 d_putTime_123 rfl (lv_at hl 4 rfl) ?_
    refine lv_bipush (v := (nI 90)) X.1 X.2.1 d_putTime_124 (by decide) ?_
    refine m_callv (As := [.int (nI 90)]) (rest := []) (n := 1) X Y hZ hA hml hl.1 (c_one l D E h q H.size I J B G (nI 90) (V - 1) ((show I 42 = nI (V) from hV).trans (congrArg nI (show (V : Nat) = V - 1 + 1 by omega))) (by omega)) kl_one ks_one kx_one ki_one ini_M hd_one ⟨by decide, by decide⟩ rfl (Nat.le_of_ble_eq_true rfl) d_putTime_126 ⟨Nat.le_refl _, Nat.le_refl _⟩ (fun u H locs hp Y => ?_)
    obtain ⟨I6, J7, B8, G9⟩ := u
    obtain ⟨hI10, eJ12, hB11, eG13, hk15⟩ := hp
    dsimp only at hI10 eJ12 hB11 eG13 hk15 Y
    rw [eJ12, eG13] at Y
    have hI16 : (∀ j, j ≠ 42 → I6 j = I j) := fun j h42 => (hI10 j h42).trans ((fun j h42 => rfl) j h42)
    have hB17 : (∀ j, j ≠ 0 → B8 j = B j) := fun j h0 => (hB11 j h0).trans ((fun j h0 => rfl) j h0)
    refine lv_aload_n X.1 X.2.1 d_putTime_129 rfl (lv_at hl 4 rfl) ?_
    refine lv_iload X.1 X.2.1 d_putTime_130 (lv_at hl 1 rfl) ?_
    refine lv_bipush (v := (nI 60)) X.1 X.2.1 d_putTime_132 (by decide) ?_
    refine lv_irem X.1 X.2.1 d_putTime_134 (nI_ne0 (by omega) (by omega)) ?_
    refine t_eq (y := nI (((t) % (86400)) % (60))) (pk_rem (by omega) (by omega) (by omega)) ?_
    refine m_callv (As := [.int (nI (((t) % (86400)) % (60)))]) (rest := []) (n := 1) X Y hZ hA hml hl.1 (c_putTwo l D E h q H.size I6 J B8 G (((t) % (86400)) % (60)) ((V - 1)) (by omega) (show I6 42 = nI ((V - 1)) from hk15) (by omega) (by omega)) kl_putTwo ks_putTwo kx_putTwo ki_putTwo ini_M hd_putTwo ⟨by decide, by decide⟩ rfl (Nat.le_of_ble_eq_true rfl) d_putTime_135 ⟨Nat.le_refl _, Nat.le_refl _⟩ (fun u H locs hp Y => ?_)
    obtain ⟨I18, J19, B20, G21⟩ := u
    obtain ⟨hI22, eJ24, hB23, eG25, hk27⟩ := hp
    dsimp only at hI22 eJ24 hB23 eG25 hk27 Y
    rw [eJ24, eG25] at Y
    have hI28 : (∀ j, j ≠ 42 → I18 j = I j) := fun j h42 => (hI22 j h42).trans ((fun j h42 => (hI16 j h42)) j h42)
    have hB29 : (∀ j, j ≠ 0 → B20 j = B j) := fun j h0 => (hB23 j h0).trans ((fun j h0 => (hB17 j h0)) j h0)
    refine lv_aload_n X.1 X.2.1 d_putTime_138 rfl (lv_at hl 4 rfl) ?_
    refine lv_iload X.1 X.2.1 d_putTime_139 (lv_at hl 1 rfl) ?_
    refine lv_bipush (v := (nI 60)) X.1 X.2.1 d_putTime_141 (by decide) ?_
    refine lv_idiv X.1 X.2.1 d_putTime_143 (nI_ne0 (by omega) (by omega)) ?_
    refine t_eq (y := nI (((t) % (86400)) / (60))) (pk_div (by omega) (by omega) (by omega)) ?_
    refine lv_bipush (v := (nI 60)) X.1 X.2.1 d_putTime_144 (by decide) ?_
    refine lv_irem X.1 X.2.1 d_putTime_146 (nI_ne0 (by omega) (by omega)) ?_
    refine t_eq (y := nI ((((t) % (86400)) / (60)) % (60))) (pk_rem (by omega) (by omega) (by omega)) ?_
    refine m_callv (As := [.int (nI ((((t) % (86400)) / (60)) % (60)))]) (rest := []) (n := 1) X Y hZ hA hml hl.1 (c_putTwo l D E h q H.size I18 J B20 G ((((t) % (86400)) / (60)) % (60)) (((V - 1) - 2)) (by omega) (show I18 42 = nI (((V - 1) - 2)) from hk27) (by omega) (by omega)) kl_putTwo ks_putTwo kx_putTwo ki_putTwo ini_M hd_putTwo ⟨by decide, by decide⟩ rfl (Nat.le_of_ble_eq_true rfl) d_putTime_147 ⟨Nat.le_refl _, Nat.le_refl _⟩ (fun u H locs hp Y => ?_)
    obtain ⟨I30, J31, B32, G33⟩ := u
    obtain ⟨hI34, eJ36, hB35, eG37, hk39⟩ := hp
    dsimp only at hI34 eJ36 hB35 eG37 hk39 Y
    rw [eJ36, eG37] at Y
    have hI40 : (∀ j, j ≠ 42 → I30 j = I j) := fun j h42 => (hI34 j h42).trans ((fun j h42 => (hI28 j h42)) j h42)
    have hB41 : (∀ j, j ≠ 0 → B32 j = B j) := fun j h0 => (hB35 j h0).trans ((fun j h0 => (hB29 j h0)) j h0)
    refine lv_aload_n X.1 X.2.1 d_putTime_150 rfl (lv_at hl 4 rfl) ?_
    refine lv_iload X.1 X.2.1 d_putTime_151 (lv_at hl 1 rfl) ?_
    refine lv_sipush (v := (nI 3600)) X.1 X.2.1 d_putTime_153 (by decide) ?_
    refine lv_idiv X.1 X.2.1 d_putTime_156 (nI_ne0 (by omega) (by omega)) ?_
    refine t_eq (y := nI (((t) % (86400)) / (3600))) (pk_div (by omega) (by omega) (by omega)) ?_
    refine m_callv (As := [.int (nI (((t) % (86400)) / (3600)))]) (rest := []) (n := 1) X Y hZ hA hml hl.1 (c_putTwo l D E h q H.size I30 J B32 G (((t) % (86400)) / (3600)) ((((V - 1) - 2) - 2)) (by omega) (show I30 42 = nI ((((V - 1) - 2) - 2)) from hk39) (by omega) (by omega)) kl_putTwo ks_putTwo kx_putTwo ki_putTwo ini_M hd_putTwo ⟨by decide, by decide⟩ rfl (Nat.le_of_ble_eq_true rfl) d_putTime_157 ⟨Nat.le_refl _, Nat.le_refl _⟩ (fun u H locs hp Y => ?_)
    obtain ⟨I42, J43, B44, G45⟩ := u
    obtain ⟨hI46, eJ48, hB47, eG49, hk51⟩ := hp
    dsimp only at hI46 eJ48 hB47 eG49 hk51 Y
    rw [eJ48, eG49] at Y
    have hI52 : (∀ j, j ≠ 42 → I42 j = I j) := fun j h42 => (hI46 j h42).trans ((fun j h42 => (hI40 j h42)) j h42)
    have hB53 : (∀ j, j ≠ 0 → B44 j = B j) := fun j h0 => (hB47 j h0).trans ((fun j h0 => (hB41 j h0)) j h0)
    refine lv_aload_n X.1 X.2.1 d_putTime_160 rfl (lv_at hl 4 rfl) ?_
    refine lv_iload X.1 X.2.1 d_putTime_161 (lv_at hl 2 rfl) ?_
    refine lv_iconst (v := (nI 1)) X.1 X.2.1 d_putTime_163 (by decide) ?_
    refine lv_iadd X.1 X.2.1 d_putTime_164 ?_
    refine t_eq (y := nI (d + 1)) (nI_add _ _) ?_
    refine m_callv (As := [.int (nI (d + 1))]) (rest := []) (n := 1) X Y hZ hA hml hl.1 (c_putTwo l D E h q H.size I42 J B44 G (d + 1) (((((V - 1) - 2) - 2) - 2)) (by omega) (show I42 42 = nI (((((V - 1) - 2) - 2) - 2)) from hk51) (by omega) (by omega)) kl_putTwo ks_putTwo kx_putTwo ki_putTwo ini_M hd_putTwo ⟨by decide, by decide⟩ rfl (Nat.le_of_ble_eq_true rfl) d_putTime_165 ⟨Nat.le_refl _, Nat.le_refl _⟩ (fun u H locs hp Y => ?_)
    obtain ⟨I54, J55, B56, G57⟩ := u
    obtain ⟨hI58, eJ60, hB59, eG61, hk63⟩ := hp
    dsimp only at hI58 eJ60 hB59 eG61 hk63 Y
    rw [eJ60, eG61] at Y
    have hI64 : (∀ j, j ≠ 42 → I54 j = I j) := fun j h42 => (hI58 j h42).trans ((fun j h42 => (hI52 j h42)) j h42)
    have hB65 : (∀ j, j ≠ 0 → B56 j = B j) := fun j h0 => (hB59 j h0).trans ((fun j h0 => (hB53 j h0)) j h0)
    refine lv_aload_n X.1 X.2.1 d_putTime_168 rfl (lv_at hl 4 rfl) ?_
    refine lv_iload X.1 X.2.1 d_putTime_169 (lv_at hl 6 rfl) ?_
    refine m_callv (As := [.int (nI mo)]) (rest := []) (n := 1) X Y hZ hA hml hl.1 (c_putTwo l D E h q H.size I54 J B56 G (mo) ((((((V - 1) - 2) - 2) - 2) - 2)) (by omega) (show I54 42 = nI ((((((V - 1) - 2) - 2) - 2) - 2)) from hk63) (by omega) (by omega)) kl_putTwo ks_putTwo kx_putTwo ki_putTwo ini_M hd_putTwo ⟨by decide, by decide⟩ rfl (Nat.le_of_ble_eq_true rfl) d_putTime_171 ⟨Nat.le_refl _, Nat.le_refl _⟩ (fun u H locs hp Y => ?_)
    obtain ⟨I66, J67, B68, G69⟩ := u
    obtain ⟨hI70, eJ72, hB71, eG73, hk75⟩ := hp
    dsimp only at hI70 eJ72 hB71 eG73 hk75 Y
    rw [eJ72, eG73] at Y
    have hI76 : (∀ j, j ≠ 42 → I66 j = I j) := fun j h42 => (hI70 j h42).trans ((fun j h42 => (hI64 j h42)) j h42)
    have hB77 : (∀ j, j ≠ 0 → B68 j = B j) := fun j h0 => (hB71 j h0).trans ((fun j h0 => (hB65 j h0)) j h0)
    refine lv_aload_n X.1 X.2.1 d_putTime_174 rfl (lv_at hl 4 rfl) ?_
    refine lv_iload X.1 X.2.1 d_putTime_175 (lv_at hl 0 rfl) ?_
    refine lv_bipush (v := (nI 100)) X.1 X.2.1 d_putTime_177 (by decide) ?_
    refine lv_irem X.1 X.2.1 d_putTime_179 (nI_ne0 (by omega) (by omega)) ?_
    refine t_eq (y := nI ((y) % (100))) (pk_rem (by omega) (by omega) (by omega)) ?_
    refine m_callv (As := [.int (nI ((y) % (100)))]) (rest := []) (n := 1) X Y hZ hA hml hl.1 (c_putTwo l D E h q H.size I66 J B68 G ((y) % (100)) (((((((V - 1) - 2) - 2) - 2) - 2) - 2)) (by omega) (show I66 42 = nI (((((((V - 1) - 2) - 2) - 2) - 2) - 2)) from hk75) (by omega) (by omega)) kl_putTwo ks_putTwo kx_putTwo ki_putTwo ini_M hd_putTwo ⟨by decide, by decide⟩ rfl (Nat.le_of_ble_eq_true rfl) d_putTime_180 ⟨Nat.le_refl _, Nat.le_refl _⟩ (fun u H locs hp Y => ?_)
    obtain ⟨I78, J79, B80, G81⟩ := u
    obtain ⟨hI82, eJ84, hB83, eG85, hk87⟩ := hp
    dsimp only at hI82 eJ84 hB83 eG85 hk87 Y
    rw [eJ84, eG85] at Y
    have hI88 : (∀ j, j ≠ 42 → I78 j = I j) := fun j h42 => (hI82 j h42).trans ((fun j h42 => (hI76 j h42)) j h42)
    have hB89 : (∀ j, j ≠ 0 → B80 j = B j) := fun j h0 => (hB83 j h0).trans ((fun j h0 => (hB77 j h0)) j h0)
    refine lv_aload_n X.1 X.2.1 d_putTime_183 rfl (lv_at hl 4 rfl) ?_
    refine lv_iload X.1 X.2.1 d_putTime_184 (lv_at hl 0 rfl) ?_
    refine lv_bipush (v := (nI 100)) X.1 X.2.1 d_putTime_186 (by decide) ?_
    refine lv_idiv X.1 X.2.1 d_putTime_188 (nI_ne0 (by omega) (by omega)) ?_
    refine t_eq (y := nI ((y) / (100))) (pk_div (by omega) (by omega) (by omega)) ?_
    refine m_callv (As := [.int (nI ((y) / (100)))]) (rest := []) (n := 1) X Y hZ hA hml hl.1 (c_putTwo l D E h q H.size I78 J B80 G ((y) / (100)) ((((((((V - 1) - 2) - 2) - 2) - 2) - 2) - 2)) (by omega) (show I78 42 = nI ((((((((V - 1) - 2) - 2) - 2) - 2) - 2) - 2)) from hk87) (by omega) (by omega)) kl_putTwo ks_putTwo kx_putTwo ki_putTwo ini_M hd_putTwo ⟨by decide, by decide⟩ rfl (Nat.le_of_ble_eq_true rfl) d_putTime_189 ⟨Nat.le_refl _, Nat.le_refl _⟩ (fun u H locs hp Y => ?_)
    obtain ⟨I90, J91, B92, G93⟩ := u
    obtain ⟨hI94, eJ96, hB95, eG97, hk99⟩ := hp
    dsimp only at hI94 eJ96 hB95 eG97 hk99 Y
    rw [eJ96, eG97] at Y
    have hI100 : (∀ j, j ≠ 42 → I90 j = I j) := fun j h42 => (hI94 j h42).trans ((fun j h42 => (hI88 j h42)) j h42)
    have hB101 : (∀ j, j ≠ 0 → B92 j = B j) := fun j h0 => (hB95 j h0).trans ((fun j h0 => (hB89 j h0)) j h0)
    refine lv_aload_n X.1 X.2.1 d_putTime_192 rfl (lv_at hl 4 rfl) ?_
    refine lv_bipush (v := (nI 24)) X.1 X.2.1 d_putTime_193 (by decide) ?_
    refine lv_iload_n X.1 X.2.1 d_putTime_195 rfl (lv_at hl 3 rfl) ?_
    refine m_callv (As := [.int (nI 24), .int (nI (V))]) (rest := []) (n := 2) X Y hZ hA hml hl.1 (c_head l D E h q H.size I90 J B92 G (nI 24) (V) (((((((((V - 1) - 2) - 2) - 2) - 2) - 2) - 2) - 2)) (show I90 42 = nI (((((((((V - 1) - 2) - 2) - 2) - 2) - 2) - 2) - 2)) from hk99) (by omega) (by omega) (by omega)) kl_head ks_head kx_head ki_head ini_M hd_head ⟨by decide, by decide⟩ rfl (Nat.le_of_ble_eq_true rfl) d_putTime_196 ⟨Nat.le_refl _, Nat.le_refl _⟩ (fun u H locs hp Y => ?_)
    obtain ⟨I102, J103, B104, G105⟩ := u
    obtain ⟨hI106, eJ108, hB107, eG109, hx111⟩ := hp
    dsimp only at hI106 eJ108 hB107 eG109 hx111 Y
    rw [eJ108, eG109] at Y
    have hI112 : (∀ j, j ≠ 42 → I102 j = I j) := fun j h42 => (hI106 j h42).trans ((fun j h42 => (hI100 j h42)) j h42)
    have hB113 : (∀ j, j ≠ 0 → B104 j = B j) := fun j h0 => (hB107 j h0).trans ((fun j h0 => (hB101 j h0)) j h0)
    obtain ⟨V114, hV114a, hV114b, hV114c⟩ := hx111
    exact m_retv hQQ X Y hr hlk ⟨(fun j h42 => (hI112 j h42)), rfl, (fun j h0 => (hB113 j h0)), rfl, ⟨V114, by omega, by omega, (show I102 42 = nI (V114) from hV114c)⟩⟩ d_putTime_199
  have ct115 : ∀ (d y : Nat) (H : Heap) (locs : List Loc) (ls : Array Slot), d < 366 → 1970 ≤ y → y ≤ 2100 → mH D E (mA E h q sz) s.heap h q I J B G H locs → lv_has ls 8 [(6, .int (nI y)), (5, .int (nI ((t) % (86400)))), (4, .int (nI d)), (3, .int (nI (V))), (0, .ref h), (1, .long (lN t))] → W p l e (mR 2 46) s m AV below meth c H locs 0 0 QQ (F0 m 90 ls []) := by
    intro d y H locs ls hc116 hc117 hc118 Y hl
    refine lv_iconst (v := (nI 1)) X.1 X.2.1 d_putTime_90 (by decide) ?_
    refine lv_istore (lv' := [(7, .int (nI 1)), (6, .int (nI y)), (5, .int (nI ((t) % (86400)))), (4, .int (nI d)), (3, .int (nI (V))), (0, .ref h), (1, .long (lN t))]) X.1 X.2.1 d_putTime_91 hl (by decide) rfl (fun ls hl => ?_)
    have lp119 : ∀ (n120 d mo : Nat) (H : Heap) (locs : List Loc) (ls : Array Slot), d ≤ n120 → d + 28 * mo ≤ 400 → 1 ≤ mo → mH D E (mA E h q sz) s.heap h q I J B G H locs → lv_has ls 8 [(7, .int (nI mo)), (6, .int (nI y)), (5, .int (nI ((t) % (86400)))), (4, .int (nI d)), (3, .int (nI (V))), (0, .ref h), (1, .long (lN t))] → W p l e (mR 2 46) s m AV below meth c H locs 0 0 QQ (F0 m 93 ls []) := by
      intro n120
      induction n120 with
      | zero =>
        intro d mo H locs ls hm124 hc122 hc123 Y hl
        refine lv_iload X.1 X.2.1 d_putTime_93 (lv_at hl 3 rfl) ?_
        refine lv_iload X.1 X.2.1 d_putTime_95 (lv_at hl 1 rfl) ?_
        refine lv_iload X.1 X.2.1 d_putTime_97 (lv_at hl 0 rfl) ?_
        refine p_calli (As := [.int (nI y), .int (nI mo)]) (rest := [.int (nI d)]) (n := 2) X Y hml hl.1 (c_daysOf l (y) (mo) (by omega) (by omega)) kl_daysOf ks_daysOf ki_daysOf ini_M (by decide +kernel) ⟨by decide, by decide⟩ rfl (Nat.le_of_ble_eq_true rfl) d_putTime_99 ⟨Nat.le_refl _, Nat.le_refl _⟩ (fun r125 H locs hpr125 Y => ?_)
        refine t_eq hpr125 ?_
        have hd126 := dOf_bd (y) (mo)
        refine lv_icmp_lt (tgt := 123) X.1 X.2.1 d_putTime_102 (by decide) (fun c127 => ?_) (fun c127 => ?_)
        · skip
          rw [nI_ltI (by omega) (by omega)] at c127
          exact ct1 (d) (y) (mo) _ _ _ (by omega) (by omega) (by omega) (by omega) Y (lv_sub hl [1, 2, 3, 4, 5, 6, 0] rfl)
        · skip
          rw [nI_ltI (by omega) (by omega)] at c127
          refine lv_iload X.1 X.2.1 d_putTime_105 (lv_at hl 3 rfl) ?_
          refine lv_iload X.1 X.2.1 d_putTime_107 (lv_at hl 1 rfl) ?_
          refine lv_iload X.1 X.2.1 d_putTime_109 (lv_at hl 0 rfl) ?_
          refine p_calli (As := [.int (nI y), .int (nI mo)]) (rest := [.int (nI d)]) (n := 2) X Y hml hl.1 (c_daysOf l (y) (mo) (by omega) (by omega)) kl_daysOf ks_daysOf ki_daysOf ini_M (by decide +kernel) ⟨by decide, by decide⟩ rfl (Nat.le_of_ble_eq_true rfl) d_putTime_111 ⟨Nat.le_refl _, Nat.le_refl _⟩ (fun r128 H locs hpr128 Y => ?_)
          refine t_eq hpr128 ?_
          have hd129 := dOf_bd (y) (mo)
          refine lv_isub X.1 X.2.1 d_putTime_114 ?_
          refine t_eq (y := nI (d - (dOf (y) (mo)))) (pk_sub (by omega)) ?_
          refine lv_istore (lv' := [(4, .int (nI (d - (dOf (y) (mo))))), (7, .int (nI mo)), (6, .int (nI y)), (5, .int (nI ((t) % (86400)))), (3, .int (nI (V))), (0, .ref h), (1, .long (lN t))]) X.1 X.2.1 d_putTime_115 hl (by decide) rfl (fun ls hl => ?_)
          refine lv_iinc (v := (nI (mo + 1))) (lv' := [(7, .int (nI (mo + 1))), (4, .int (nI (d - (dOf (y) (mo))))), (6, .int (nI y)), (5, .int (nI ((t) % (86400)))), (3, .int (nI (V))), (0, .ref h), (1, .long (lN t))]) X.1 X.2.1 d_putTime_117 hl (k := 1) rfl (nI_add _ 1) (by decide) rfl (fun ls hl => ?_)
          refine lv_goto (tgt := 93) X.1 X.2.1 d_putTime_120 (by decide) ?_
          exact False.elim (by omega)
      | succ n120 ih121 =>
        intro d mo H locs ls hm124 hc122 hc123 Y hl
        refine lv_iload X.1 X.2.1 d_putTime_93 (lv_at hl 3 rfl) ?_
        refine lv_iload X.1 X.2.1 d_putTime_95 (lv_at hl 1 rfl) ?_
        refine lv_iload X.1 X.2.1 d_putTime_97 (lv_at hl 0 rfl) ?_
        refine p_calli (As := [.int (nI y), .int (nI mo)]) (rest := [.int (nI d)]) (n := 2) X Y hml hl.1 (c_daysOf l (y) (mo) (by omega) (by omega)) kl_daysOf ks_daysOf ki_daysOf ini_M (by decide +kernel) ⟨by decide, by decide⟩ rfl (Nat.le_of_ble_eq_true rfl) d_putTime_99 ⟨Nat.le_refl _, Nat.le_refl _⟩ (fun r130 H locs hpr130 Y => ?_)
        refine t_eq hpr130 ?_
        have hd131 := dOf_bd (y) (mo)
        refine lv_icmp_lt (tgt := 123) X.1 X.2.1 d_putTime_102 (by decide) (fun c132 => ?_) (fun c132 => ?_)
        · skip
          rw [nI_ltI (by omega) (by omega)] at c132
          exact ct1 (d) (y) (mo) _ _ _ (by omega) (by omega) (by omega) (by omega) Y (lv_sub hl [1, 2, 3, 4, 5, 6, 0] rfl)
        · skip
          rw [nI_ltI (by omega) (by omega)] at c132
          refine lv_iload X.1 X.2.1 d_putTime_105 (lv_at hl 3 rfl) ?_
          refine lv_iload X.1 X.2.1 d_putTime_107 (lv_at hl 1 rfl) ?_
          refine lv_iload X.1 X.2.1 d_putTime_109 (lv_at hl 0 rfl) ?_
          refine p_calli (As := [.int (nI y), .int (nI mo)]) (rest := [.int (nI d)]) (n := 2) X Y hml hl.1 (c_daysOf l (y) (mo) (by omega) (by omega)) kl_daysOf ks_daysOf ki_daysOf ini_M (by decide +kernel) ⟨by decide, by decide⟩ rfl (Nat.le_of_ble_eq_true rfl) d_putTime_111 ⟨Nat.le_refl _, Nat.le_refl _⟩ (fun r133 H locs hpr133 Y => ?_)
          refine t_eq hpr133 ?_
          have hd134 := dOf_bd (y) (mo)
          refine lv_isub X.1 X.2.1 d_putTime_114 ?_
          refine t_eq (y := nI (d - (dOf (y) (mo)))) (pk_sub (by omega)) ?_
          refine lv_istore (lv' := [(4, .int (nI (d - (dOf (y) (mo))))), (7, .int (nI mo)), (6, .int (nI y)), (5, .int (nI ((t) % (86400)))), (3, .int (nI (V))), (0, .ref h), (1, .long (lN t))]) X.1 X.2.1 d_putTime_115 hl (by decide) rfl (fun ls hl => ?_)
          refine lv_iinc (v := (nI (mo + 1))) (lv' := [(7, .int (nI (mo + 1))), (4, .int (nI (d - (dOf (y) (mo))))), (6, .int (nI y)), (5, .int (nI ((t) % (86400)))), (3, .int (nI (V))), (0, .ref h), (1, .long (lN t))]) X.1 X.2.1 d_putTime_117 hl (k := 1) rfl (nI_add _ 1) (by decide) rfl (fun ls hl => ?_)
          refine lv_goto (tgt := 93) X.1 X.2.1 d_putTime_120 (by decide) ?_
          exact ih121 (d - (dOf (y) (mo))) (mo + 1) _ _ _ (by omega) (by omega) (by omega) Y (lv_sub hl [0, 2, 3, 1, 4, 5, 6] rfl)
    exact lp119 (400) (d) (1) _ _ _ (by omega) (by omega) (by omega) Y (lv_sub hl [0, 1, 2, 3, 4, 5, 6] rfl)
  have lp135 : ∀ (n136 d y : Nat) (H : Heap) (locs : List Loc) (ls : Array Slot), d ≤ n136 → 365 * y + d ≤ 365 * 1970 + t / 86400 → 1970 ≤ y → mH D E (mA E h q sz) s.heap h q I J B G H locs → lv_has ls 8 [(6, .int (nI y)), (5, .int (nI ((t) % (86400)))), (4, .int (nI d)), (3, .int (nI (V))), (0, .ref h), (1, .long (lN t))] → W p l e (mR 2 46) s m AV below meth c H locs 0 0 QQ (F0 m 26 ls []) := by
    intro n136
    induction n136 with
    | zero =>
      intro d y H locs ls hm140 hc138 hc139 Y hl
      refine lv_iload X.1 X.2.1 d_putTime_26 (lv_at hl 2 rfl) ?_
      refine lv_iload X.1 X.2.1 d_putTime_28 (lv_at hl 0 rfl) ?_
      refine lv_iconst (v := (nI 4)) X.1 X.2.1 d_putTime_30 (by decide) ?_
      refine lv_irem X.1 X.2.1 d_putTime_31 (nI_ne0 (by omega) (by omega)) ?_
      refine t_eq (y := nI ((y) % (4))) (pk_rem (by omega) (by omega) (by omega)) ?_
      refine lv_if_ne (tgt := 49) X.1 X.2.1 d_putTime_32 (by decide) (fun c141 => ?_) (fun c141 => ?_)
      · skip
        rw [← nI_0] at c141
        rw [nI_eq (by omega) (by omega)] at c141
        refine lv_sipush (v := (nI 365)) X.1 X.2.1 d_putTime_49 (by decide) ?_
        refine lv_icmp_lt (tgt := 90) X.1 X.2.1 d_putTime_52 (by decide) (fun c142 => ?_) (fun c142 => ?_)
        · skip
          rw [nI_ltI (by omega) (by omega)] at c142
          exact ct115 (d) (y) _ _ _ (by omega) (by omega) (by omega) Y (lv_sub hl [0, 1, 2, 3, 4, 5] rfl)
        · skip
          rw [nI_ltI (by omega) (by omega)] at c142
          refine lv_iload X.1 X.2.1 d_putTime_55 (lv_at hl 2 rfl) ?_
          refine lv_iload X.1 X.2.1 d_putTime_57 (lv_at hl 0 rfl) ?_
          refine lv_iconst (v := (nI 4)) X.1 X.2.1 d_putTime_59 (by decide) ?_
          refine lv_irem X.1 X.2.1 d_putTime_60 (nI_ne0 (by omega) (by omega)) ?_
          refine t_eq (y := nI ((y) % (4))) (pk_rem (by omega) (by omega) (by omega)) ?_
          refine lv_if_ne (tgt := 78) X.1 X.2.1 d_putTime_61 (by decide) (fun c143 => ?_) (fun c143 => ?_)
          · skip
            rw [← nI_0] at c143
            rw [nI_eq (by omega) (by omega)] at c143
            refine lv_sipush (v := (nI 365)) X.1 X.2.1 d_putTime_78 (by decide) ?_
            refine lv_isub X.1 X.2.1 d_putTime_81 ?_
            refine t_eq (y := nI (d - (365))) (pk_sub (by omega)) ?_
            refine lv_istore (lv' := [(4, .int (nI (d - (365)))), (6, .int (nI y)), (5, .int (nI ((t) % (86400)))), (3, .int (nI (V))), (0, .ref h), (1, .long (lN t))]) X.1 X.2.1 d_putTime_82 hl (by decide) rfl (fun ls hl => ?_)
            refine lv_iinc (v := (nI (y + 1))) (lv' := [(6, .int (nI (y + 1))), (4, .int (nI (d - (365)))), (5, .int (nI ((t) % (86400)))), (3, .int (nI (V))), (0, .ref h), (1, .long (lN t))]) X.1 X.2.1 d_putTime_84 hl (k := 1) rfl (nI_add _ 1) (by decide) rfl (fun ls hl => ?_)
            refine lv_goto (tgt := 26) X.1 X.2.1 d_putTime_87 (by decide) ?_
            exact False.elim (by omega)
          · skip
            rw [← nI_0] at c143
            rw [nI_eq (by omega) (by omega)] at c143
            refine lv_iload X.1 X.2.1 d_putTime_64 (lv_at hl 0 rfl) ?_
            refine lv_sipush (v := (nI 2100)) X.1 X.2.1 d_putTime_66 (by decide) ?_
            refine lv_icmp_eq (tgt := 78) X.1 X.2.1 d_putTime_69 (by decide) (fun c144 => ?_) (fun c144 => ?_)
            · skip
              rw [nI_eq (by omega) (by omega)] at c144
              refine lv_sipush (v := (nI 365)) X.1 X.2.1 d_putTime_78 (by decide) ?_
              refine lv_isub X.1 X.2.1 d_putTime_81 ?_
              refine t_eq (y := nI (d - (365))) (pk_sub (by omega)) ?_
              refine lv_istore (lv' := [(4, .int (nI (d - (365)))), (6, .int (nI y)), (5, .int (nI ((t) % (86400)))), (3, .int (nI (V))), (0, .ref h), (1, .long (lN t))]) X.1 X.2.1 d_putTime_82 hl (by decide) rfl (fun ls hl => ?_)
              refine lv_iinc (v := (nI (y + 1))) (lv' := [(6, .int (nI (y + 1))), (4, .int (nI (d - (365)))), (5, .int (nI ((t) % (86400)))), (3, .int (nI (V))), (0, .ref h), (1, .long (lN t))]) X.1 X.2.1 d_putTime_84 hl (k := 1) rfl (nI_add _ 1) (by decide) rfl (fun ls hl => ?_)
              refine lv_goto (tgt := 26) X.1 X.2.1 d_putTime_87 (by decide) ?_
              exact False.elim (by omega)
            · skip
              rw [nI_eq (by omega) (by omega)] at c144
              refine lv_sipush (v := (nI 366)) X.1 X.2.1 d_putTime_72 (by decide) ?_
              refine lv_goto (tgt := 81) X.1 X.2.1 d_putTime_75 (by decide) ?_
              refine lv_isub X.1 X.2.1 d_putTime_81 ?_
              refine t_eq (y := nI (d - (366))) (pk_sub (by omega)) ?_
              refine lv_istore (lv' := [(4, .int (nI (d - (366)))), (6, .int (nI y)), (5, .int (nI ((t) % (86400)))), (3, .int (nI (V))), (0, .ref h), (1, .long (lN t))]) X.1 X.2.1 d_putTime_82 hl (by decide) rfl (fun ls hl => ?_)
              refine lv_iinc (v := (nI (y + 1))) (lv' := [(6, .int (nI (y + 1))), (4, .int (nI (d - (366)))), (5, .int (nI ((t) % (86400)))), (3, .int (nI (V))), (0, .ref h), (1, .long (lN t))]) X.1 X.2.1 d_putTime_84 hl (k := 1) rfl (nI_add _ 1) (by decide) rfl (fun ls hl => ?_)
              refine lv_goto (tgt := 26) X.1 X.2.1 d_putTime_87 (by decide) ?_
              exact False.elim (by omega)
      · skip
        rw [← nI_0] at c141
        rw [nI_eq (by omega) (by omega)] at c141
        refine lv_iload X.1 X.2.1 d_putTime_35 (lv_at hl 0 rfl) ?_
        refine lv_sipush (v := (nI 2100)) X.1 X.2.1 d_putTime_37 (by decide) ?_
        refine lv_icmp_eq (tgt := 49) X.1 X.2.1 d_putTime_40 (by decide) (fun c145 => ?_) (fun c145 => ?_)
        · skip
          rw [nI_eq (by omega) (by omega)] at c145
          refine lv_sipush (v := (nI 365)) X.1 X.2.1 d_putTime_49 (by decide) ?_
          refine lv_icmp_lt (tgt := 90) X.1 X.2.1 d_putTime_52 (by decide) (fun c146 => ?_) (fun c146 => ?_)
          · skip
            rw [nI_ltI (by omega) (by omega)] at c146
            exact ct115 (d) (y) _ _ _ (by omega) (by omega) (by omega) Y (lv_sub hl [0, 1, 2, 3, 4, 5] rfl)
          · skip
            rw [nI_ltI (by omega) (by omega)] at c146
            refine lv_iload X.1 X.2.1 d_putTime_55 (lv_at hl 2 rfl) ?_
            refine lv_iload X.1 X.2.1 d_putTime_57 (lv_at hl 0 rfl) ?_
            refine lv_iconst (v := (nI 4)) X.1 X.2.1 d_putTime_59 (by decide) ?_
            refine lv_irem X.1 X.2.1 d_putTime_60 (nI_ne0 (by omega) (by omega)) ?_
            refine t_eq (y := nI ((y) % (4))) (pk_rem (by omega) (by omega) (by omega)) ?_
            refine lv_if_ne (tgt := 78) X.1 X.2.1 d_putTime_61 (by decide) (fun c147 => ?_) (fun c147 => ?_)
            · skip
              rw [← nI_0] at c147
              rw [nI_eq (by omega) (by omega)] at c147
              refine lv_sipush (v := (nI 365)) X.1 X.2.1 d_putTime_78 (by decide) ?_
              refine lv_isub X.1 X.2.1 d_putTime_81 ?_
              refine t_eq (y := nI (d - (365))) (pk_sub (by omega)) ?_
              refine lv_istore (lv' := [(4, .int (nI (d - (365)))), (6, .int (nI y)), (5, .int (nI ((t) % (86400)))), (3, .int (nI (V))), (0, .ref h), (1, .long (lN t))]) X.1 X.2.1 d_putTime_82 hl (by decide) rfl (fun ls hl => ?_)
              refine lv_iinc (v := (nI (y + 1))) (lv' := [(6, .int (nI (y + 1))), (4, .int (nI (d - (365)))), (5, .int (nI ((t) % (86400)))), (3, .int (nI (V))), (0, .ref h), (1, .long (lN t))]) X.1 X.2.1 d_putTime_84 hl (k := 1) rfl (nI_add _ 1) (by decide) rfl (fun ls hl => ?_)
              refine lv_goto (tgt := 26) X.1 X.2.1 d_putTime_87 (by decide) ?_
              exact False.elim (by omega)
            · skip
              rw [← nI_0] at c147
              rw [nI_eq (by omega) (by omega)] at c147
              refine lv_iload X.1 X.2.1 d_putTime_64 (lv_at hl 0 rfl) ?_
              refine lv_sipush (v := (nI 2100)) X.1 X.2.1 d_putTime_66 (by decide) ?_
              refine lv_icmp_eq (tgt := 78) X.1 X.2.1 d_putTime_69 (by decide) (fun c148 => ?_) (fun c148 => ?_)
              · skip
                rw [nI_eq (by omega) (by omega)] at c148
                refine lv_sipush (v := (nI 365)) X.1 X.2.1 d_putTime_78 (by decide) ?_
                refine lv_isub X.1 X.2.1 d_putTime_81 ?_
                refine t_eq (y := nI (d - (365))) (pk_sub (by omega)) ?_
                refine lv_istore (lv' := [(4, .int (nI (d - (365)))), (6, .int (nI y)), (5, .int (nI ((t) % (86400)))), (3, .int (nI (V))), (0, .ref h), (1, .long (lN t))]) X.1 X.2.1 d_putTime_82 hl (by decide) rfl (fun ls hl => ?_)
                refine lv_iinc (v := (nI (y + 1))) (lv' := [(6, .int (nI (y + 1))), (4, .int (nI (d - (365)))), (5, .int (nI ((t) % (86400)))), (3, .int (nI (V))), (0, .ref h), (1, .long (lN t))]) X.1 X.2.1 d_putTime_84 hl (k := 1) rfl (nI_add _ 1) (by decide) rfl (fun ls hl => ?_)
                refine lv_goto (tgt := 26) X.1 X.2.1 d_putTime_87 (by decide) ?_
                exact False.elim (by omega)
              · skip
                rw [nI_eq (by omega) (by omega)] at c148
                refine lv_sipush (v := (nI 366)) X.1 X.2.1 d_putTime_72 (by decide) ?_
                refine lv_goto (tgt := 81) X.1 X.2.1 d_putTime_75 (by decide) ?_
                refine lv_isub X.1 X.2.1 d_putTime_81 ?_
                refine t_eq (y := nI (d - (366))) (pk_sub (by omega)) ?_
                refine lv_istore (lv' := [(4, .int (nI (d - (366)))), (6, .int (nI y)), (5, .int (nI ((t) % (86400)))), (3, .int (nI (V))), (0, .ref h), (1, .long (lN t))]) X.1 X.2.1 d_putTime_82 hl (by decide) rfl (fun ls hl => ?_)
                refine lv_iinc (v := (nI (y + 1))) (lv' := [(6, .int (nI (y + 1))), (4, .int (nI (d - (366)))), (5, .int (nI ((t) % (86400)))), (3, .int (nI (V))), (0, .ref h), (1, .long (lN t))]) X.1 X.2.1 d_putTime_84 hl (k := 1) rfl (nI_add _ 1) (by decide) rfl (fun ls hl => ?_)
                refine lv_goto (tgt := 26) X.1 X.2.1 d_putTime_87 (by decide) ?_
                exact False.elim (by omega)
        · skip
          rw [nI_eq (by omega) (by omega)] at c145
          refine lv_sipush (v := (nI 366)) X.1 X.2.1 d_putTime_43 (by decide) ?_
          refine lv_goto (tgt := 52) X.1 X.2.1 d_putTime_46 (by decide) ?_
          refine lv_icmp_lt (tgt := 90) X.1 X.2.1 d_putTime_52 (by decide) (fun c149 => ?_) (fun c149 => ?_)
          · skip
            rw [nI_ltI (by omega) (by omega)] at c149
            exact ct115 (d) (y) _ _ _ (by omega) (by omega) (by omega) Y (lv_sub hl [0, 1, 2, 3, 4, 5] rfl)
          · skip
            rw [nI_ltI (by omega) (by omega)] at c149
            refine lv_iload X.1 X.2.1 d_putTime_55 (lv_at hl 2 rfl) ?_
            refine lv_iload X.1 X.2.1 d_putTime_57 (lv_at hl 0 rfl) ?_
            refine lv_iconst (v := (nI 4)) X.1 X.2.1 d_putTime_59 (by decide) ?_
            refine lv_irem X.1 X.2.1 d_putTime_60 (nI_ne0 (by omega) (by omega)) ?_
            refine t_eq (y := nI ((y) % (4))) (pk_rem (by omega) (by omega) (by omega)) ?_
            refine lv_if_ne (tgt := 78) X.1 X.2.1 d_putTime_61 (by decide) (fun c150 => ?_) (fun c150 => ?_)
            · skip
              rw [← nI_0] at c150
              rw [nI_eq (by omega) (by omega)] at c150
              refine lv_sipush (v := (nI 365)) X.1 X.2.1 d_putTime_78 (by decide) ?_
              refine lv_isub X.1 X.2.1 d_putTime_81 ?_
              refine t_eq (y := nI (d - (365))) (pk_sub (by omega)) ?_
              refine lv_istore (lv' := [(4, .int (nI (d - (365)))), (6, .int (nI y)), (5, .int (nI ((t) % (86400)))), (3, .int (nI (V))), (0, .ref h), (1, .long (lN t))]) X.1 X.2.1 d_putTime_82 hl (by decide) rfl (fun ls hl => ?_)
              refine lv_iinc (v := (nI (y + 1))) (lv' := [(6, .int (nI (y + 1))), (4, .int (nI (d - (365)))), (5, .int (nI ((t) % (86400)))), (3, .int (nI (V))), (0, .ref h), (1, .long (lN t))]) X.1 X.2.1 d_putTime_84 hl (k := 1) rfl (nI_add _ 1) (by decide) rfl (fun ls hl => ?_)
              refine lv_goto (tgt := 26) X.1 X.2.1 d_putTime_87 (by decide) ?_
              exact False.elim (by omega)
            · skip
              rw [← nI_0] at c150
              rw [nI_eq (by omega) (by omega)] at c150
              refine lv_iload X.1 X.2.1 d_putTime_64 (lv_at hl 0 rfl) ?_
              refine lv_sipush (v := (nI 2100)) X.1 X.2.1 d_putTime_66 (by decide) ?_
              refine lv_icmp_eq (tgt := 78) X.1 X.2.1 d_putTime_69 (by decide) (fun c151 => ?_) (fun c151 => ?_)
              · skip
                rw [nI_eq (by omega) (by omega)] at c151
                refine lv_sipush (v := (nI 365)) X.1 X.2.1 d_putTime_78 (by decide) ?_
                refine lv_isub X.1 X.2.1 d_putTime_81 ?_
                refine t_eq (y := nI (d - (365))) (pk_sub (by omega)) ?_
                refine lv_istore (lv' := [(4, .int (nI (d - (365)))), (6, .int (nI y)), (5, .int (nI ((t) % (86400)))), (3, .int (nI (V))), (0, .ref h), (1, .long (lN t))]) X.1 X.2.1 d_putTime_82 hl (by decide) rfl (fun ls hl => ?_)
                refine lv_iinc (v := (nI (y + 1))) (lv' := [(6, .int (nI (y + 1))), (4, .int (nI (d - (365)))), (5, .int (nI ((t) % (86400)))), (3, .int (nI (V))), (0, .ref h), (1, .long (lN t))]) X.1 X.2.1 d_putTime_84 hl (k := 1) rfl (nI_add _ 1) (by decide) rfl (fun ls hl => ?_)
                refine lv_goto (tgt := 26) X.1 X.2.1 d_putTime_87 (by decide) ?_
                exact False.elim (by omega)
              · skip
                rw [nI_eq (by omega) (by omega)] at c151
                refine lv_sipush (v := (nI 366)) X.1 X.2.1 d_putTime_72 (by decide) ?_
                refine lv_goto (tgt := 81) X.1 X.2.1 d_putTime_75 (by decide) ?_
                refine lv_isub X.1 X.2.1 d_putTime_81 ?_
                refine t_eq (y := nI (d - (366))) (pk_sub (by omega)) ?_
                refine lv_istore (lv' := [(4, .int (nI (d - (366)))), (6, .int (nI y)), (5, .int (nI ((t) % (86400)))), (3, .int (nI (V))), (0, .ref h), (1, .long (lN t))]) X.1 X.2.1 d_putTime_82 hl (by decide) rfl (fun ls hl => ?_)
                refine lv_iinc (v := (nI (y + 1))) (lv' := [(6, .int (nI (y + 1))), (4, .int (nI (d - (366)))), (5, .int (nI ((t) % (86400)))), (3, .int (nI (V))), (0, .ref h), (1, .long (lN t))]) X.1 X.2.1 d_putTime_84 hl (k := 1) rfl (nI_add _ 1) (by decide) rfl (fun ls hl => ?_)
                refine lv_goto (tgt := 26) X.1 X.2.1 d_putTime_87 (by decide) ?_
                exact False.elim (by omega)
    | succ n136 ih137 =>
      intro d y H locs ls hm140 hc138 hc139 Y hl
      refine lv_iload X.1 X.2.1 d_putTime_26 (lv_at hl 2 rfl) ?_
      refine lv_iload X.1 X.2.1 d_putTime_28 (lv_at hl 0 rfl) ?_
      refine lv_iconst (v := (nI 4)) X.1 X.2.1 d_putTime_30 (by decide) ?_
      refine lv_irem X.1 X.2.1 d_putTime_31 (nI_ne0 (by omega) (by omega)) ?_
      refine t_eq (y := nI ((y) % (4))) (pk_rem (by omega) (by omega) (by omega)) ?_
      refine lv_if_ne (tgt := 49) X.1 X.2.1 d_putTime_32 (by decide) (fun c152 => ?_) (fun c152 => ?_)
      · skip
        rw [← nI_0] at c152
        rw [nI_eq (by omega) (by omega)] at c152
        refine lv_sipush (v := (nI 365)) X.1 X.2.1 d_putTime_49 (by decide) ?_
        refine lv_icmp_lt (tgt := 90) X.1 X.2.1 d_putTime_52 (by decide) (fun c153 => ?_) (fun c153 => ?_)
        · skip
          rw [nI_ltI (by omega) (by omega)] at c153
          exact ct115 (d) (y) _ _ _ (by omega) (by omega) (by omega) Y (lv_sub hl [0, 1, 2, 3, 4, 5] rfl)
        · skip
          rw [nI_ltI (by omega) (by omega)] at c153
          refine lv_iload X.1 X.2.1 d_putTime_55 (lv_at hl 2 rfl) ?_
          refine lv_iload X.1 X.2.1 d_putTime_57 (lv_at hl 0 rfl) ?_
          refine lv_iconst (v := (nI 4)) X.1 X.2.1 d_putTime_59 (by decide) ?_
          refine lv_irem X.1 X.2.1 d_putTime_60 (nI_ne0 (by omega) (by omega)) ?_
          refine t_eq (y := nI ((y) % (4))) (pk_rem (by omega) (by omega) (by omega)) ?_
          refine lv_if_ne (tgt := 78) X.1 X.2.1 d_putTime_61 (by decide) (fun c154 => ?_) (fun c154 => ?_)
          · skip
            rw [← nI_0] at c154
            rw [nI_eq (by omega) (by omega)] at c154
            refine lv_sipush (v := (nI 365)) X.1 X.2.1 d_putTime_78 (by decide) ?_
            refine lv_isub X.1 X.2.1 d_putTime_81 ?_
            refine t_eq (y := nI (d - (365))) (pk_sub (by omega)) ?_
            refine lv_istore (lv' := [(4, .int (nI (d - (365)))), (6, .int (nI y)), (5, .int (nI ((t) % (86400)))), (3, .int (nI (V))), (0, .ref h), (1, .long (lN t))]) X.1 X.2.1 d_putTime_82 hl (by decide) rfl (fun ls hl => ?_)
            refine lv_iinc (v := (nI (y + 1))) (lv' := [(6, .int (nI (y + 1))), (4, .int (nI (d - (365)))), (5, .int (nI ((t) % (86400)))), (3, .int (nI (V))), (0, .ref h), (1, .long (lN t))]) X.1 X.2.1 d_putTime_84 hl (k := 1) rfl (nI_add _ 1) (by decide) rfl (fun ls hl => ?_)
            refine lv_goto (tgt := 26) X.1 X.2.1 d_putTime_87 (by decide) ?_
            exact ih137 (d - (365)) (y + 1) _ _ _ (by omega) (by omega) (by omega) Y (lv_sub hl [0, 2, 1, 3, 4, 5] rfl)
          · skip
            rw [← nI_0] at c154
            rw [nI_eq (by omega) (by omega)] at c154
            refine lv_iload X.1 X.2.1 d_putTime_64 (lv_at hl 0 rfl) ?_
            refine lv_sipush (v := (nI 2100)) X.1 X.2.1 d_putTime_66 (by decide) ?_
            refine lv_icmp_eq (tgt := 78) X.1 X.2.1 d_putTime_69 (by decide) (fun c155 => ?_) (fun c155 => ?_)
            · skip
              rw [nI_eq (by omega) (by omega)] at c155
              refine lv_sipush (v := (nI 365)) X.1 X.2.1 d_putTime_78 (by decide) ?_
              refine lv_isub X.1 X.2.1 d_putTime_81 ?_
              refine t_eq (y := nI (d - (365))) (pk_sub (by omega)) ?_
              refine lv_istore (lv' := [(4, .int (nI (d - (365)))), (6, .int (nI y)), (5, .int (nI ((t) % (86400)))), (3, .int (nI (V))), (0, .ref h), (1, .long (lN t))]) X.1 X.2.1 d_putTime_82 hl (by decide) rfl (fun ls hl => ?_)
              refine lv_iinc (v := (nI (y + 1))) (lv' := [(6, .int (nI (y + 1))), (4, .int (nI (d - (365)))), (5, .int (nI ((t) % (86400)))), (3, .int (nI (V))), (0, .ref h), (1, .long (lN t))]) X.1 X.2.1 d_putTime_84 hl (k := 1) rfl (nI_add _ 1) (by decide) rfl (fun ls hl => ?_)
              refine lv_goto (tgt := 26) X.1 X.2.1 d_putTime_87 (by decide) ?_
              exact ih137 (d - (365)) (y + 1) _ _ _ (by omega) (by omega) (by omega) Y (lv_sub hl [0, 2, 1, 3, 4, 5] rfl)
            · skip
              rw [nI_eq (by omega) (by omega)] at c155
              refine lv_sipush (v := (nI 366)) X.1 X.2.1 d_putTime_72 (by decide) ?_
              refine lv_goto (tgt := 81) X.1 X.2.1 d_putTime_75 (by decide) ?_
              refine lv_isub X.1 X.2.1 d_putTime_81 ?_
              refine t_eq (y := nI (d - (366))) (pk_sub (by omega)) ?_
              refine lv_istore (lv' := [(4, .int (nI (d - (366)))), (6, .int (nI y)), (5, .int (nI ((t) % (86400)))), (3, .int (nI (V))), (0, .ref h), (1, .long (lN t))]) X.1 X.2.1 d_putTime_82 hl (by decide) rfl (fun ls hl => ?_)
              refine lv_iinc (v := (nI (y + 1))) (lv' := [(6, .int (nI (y + 1))), (4, .int (nI (d - (366)))), (5, .int (nI ((t) % (86400)))), (3, .int (nI (V))), (0, .ref h), (1, .long (lN t))]) X.1 X.2.1 d_putTime_84 hl (k := 1) rfl (nI_add _ 1) (by decide) rfl (fun ls hl => ?_)
              refine lv_goto (tgt := 26) X.1 X.2.1 d_putTime_87 (by decide) ?_
              exact ih137 (d - (366)) (y + 1) _ _ _ (by omega) (by omega) (by omega) Y (lv_sub hl [0, 2, 1, 3, 4, 5] rfl)
      · skip
        rw [← nI_0] at c152
        rw [nI_eq (by omega) (by omega)] at c152
        refine lv_iload X.1 X.2.1 d_putTime_35 (lv_at hl 0 rfl) ?_
        refine lv_sipush (v := (nI 2100)) X.1 X.2.1 d_putTime_37 (by decide) ?_
        refine lv_icmp_eq (tgt := 49) X.1 X.2.1 d_putTime_40 (by decide) (fun c156 => ?_) (fun c156 => ?_)
        · skip
          rw [nI_eq (by omega) (by omega)] at c156
          refine lv_sipush (v := (nI 365)) X.1 X.2.1 d_putTime_49 (by decide) ?_
          refine lv_icmp_lt (tgt := 90) X.1 X.2.1 d_putTime_52 (by decide) (fun c157 => ?_) (fun c157 => ?_)
          · skip
            rw [nI_ltI (by omega) (by omega)] at c157
            exact ct115 (d) (y) _ _ _ (by omega) (by omega) (by omega) Y (lv_sub hl [0, 1, 2, 3, 4, 5] rfl)
          · skip
            rw [nI_ltI (by omega) (by omega)] at c157
            refine lv_iload X.1 X.2.1 d_putTime_55 (lv_at hl 2 rfl) ?_
            refine lv_iload X.1 X.2.1 d_putTime_57 (lv_at hl 0 rfl) ?_
            refine lv_iconst (v := (nI 4)) X.1 X.2.1 d_putTime_59 (by decide) ?_
            refine lv_irem X.1 X.2.1 d_putTime_60 (nI_ne0 (by omega) (by omega)) ?_
            refine t_eq (y := nI ((y) % (4))) (pk_rem (by omega) (by omega) (by omega)) ?_
            refine lv_if_ne (tgt := 78) X.1 X.2.1 d_putTime_61 (by decide) (fun c158 => ?_) (fun c158 => ?_)
            · skip
              rw [← nI_0] at c158
              rw [nI_eq (by omega) (by omega)] at c158
              refine lv_sipush (v := (nI 365)) X.1 X.2.1 d_putTime_78 (by decide) ?_
              refine lv_isub X.1 X.2.1 d_putTime_81 ?_
              refine t_eq (y := nI (d - (365))) (pk_sub (by omega)) ?_
              refine lv_istore (lv' := [(4, .int (nI (d - (365)))), (6, .int (nI y)), (5, .int (nI ((t) % (86400)))), (3, .int (nI (V))), (0, .ref h), (1, .long (lN t))]) X.1 X.2.1 d_putTime_82 hl (by decide) rfl (fun ls hl => ?_)
              refine lv_iinc (v := (nI (y + 1))) (lv' := [(6, .int (nI (y + 1))), (4, .int (nI (d - (365)))), (5, .int (nI ((t) % (86400)))), (3, .int (nI (V))), (0, .ref h), (1, .long (lN t))]) X.1 X.2.1 d_putTime_84 hl (k := 1) rfl (nI_add _ 1) (by decide) rfl (fun ls hl => ?_)
              refine lv_goto (tgt := 26) X.1 X.2.1 d_putTime_87 (by decide) ?_
              exact ih137 (d - (365)) (y + 1) _ _ _ (by omega) (by omega) (by omega) Y (lv_sub hl [0, 2, 1, 3, 4, 5] rfl)
            · skip
              rw [← nI_0] at c158
              rw [nI_eq (by omega) (by omega)] at c158
              refine lv_iload X.1 X.2.1 d_putTime_64 (lv_at hl 0 rfl) ?_
              refine lv_sipush (v := (nI 2100)) X.1 X.2.1 d_putTime_66 (by decide) ?_
              refine lv_icmp_eq (tgt := 78) X.1 X.2.1 d_putTime_69 (by decide) (fun c159 => ?_) (fun c159 => ?_)
              · skip
                rw [nI_eq (by omega) (by omega)] at c159
                refine lv_sipush (v := (nI 365)) X.1 X.2.1 d_putTime_78 (by decide) ?_
                refine lv_isub X.1 X.2.1 d_putTime_81 ?_
                refine t_eq (y := nI (d - (365))) (pk_sub (by omega)) ?_
                refine lv_istore (lv' := [(4, .int (nI (d - (365)))), (6, .int (nI y)), (5, .int (nI ((t) % (86400)))), (3, .int (nI (V))), (0, .ref h), (1, .long (lN t))]) X.1 X.2.1 d_putTime_82 hl (by decide) rfl (fun ls hl => ?_)
                refine lv_iinc (v := (nI (y + 1))) (lv' := [(6, .int (nI (y + 1))), (4, .int (nI (d - (365)))), (5, .int (nI ((t) % (86400)))), (3, .int (nI (V))), (0, .ref h), (1, .long (lN t))]) X.1 X.2.1 d_putTime_84 hl (k := 1) rfl (nI_add _ 1) (by decide) rfl (fun ls hl => ?_)
                refine lv_goto (tgt := 26) X.1 X.2.1 d_putTime_87 (by decide) ?_
                exact ih137 (d - (365)) (y + 1) _ _ _ (by omega) (by omega) (by omega) Y (lv_sub hl [0, 2, 1, 3, 4, 5] rfl)
              · skip
                rw [nI_eq (by omega) (by omega)] at c159
                refine lv_sipush (v := (nI 366)) X.1 X.2.1 d_putTime_72 (by decide) ?_
                refine lv_goto (tgt := 81) X.1 X.2.1 d_putTime_75 (by decide) ?_
                refine lv_isub X.1 X.2.1 d_putTime_81 ?_
                refine t_eq (y := nI (d - (366))) (pk_sub (by omega)) ?_
                refine lv_istore (lv' := [(4, .int (nI (d - (366)))), (6, .int (nI y)), (5, .int (nI ((t) % (86400)))), (3, .int (nI (V))), (0, .ref h), (1, .long (lN t))]) X.1 X.2.1 d_putTime_82 hl (by decide) rfl (fun ls hl => ?_)
                refine lv_iinc (v := (nI (y + 1))) (lv' := [(6, .int (nI (y + 1))), (4, .int (nI (d - (366)))), (5, .int (nI ((t) % (86400)))), (3, .int (nI (V))), (0, .ref h), (1, .long (lN t))]) X.1 X.2.1 d_putTime_84 hl (k := 1) rfl (nI_add _ 1) (by decide) rfl (fun ls hl => ?_)
                refine lv_goto (tgt := 26) X.1 X.2.1 d_putTime_87 (by decide) ?_
                exact ih137 (d - (366)) (y + 1) _ _ _ (by omega) (by omega) (by omega) Y (lv_sub hl [0, 2, 1, 3, 4, 5] rfl)
        · skip
          rw [nI_eq (by omega) (by omega)] at c156
          refine lv_sipush (v := (nI 366)) X.1 X.2.1 d_putTime_43 (by decide) ?_
          refine lv_goto (tgt := 52) X.1 X.2.1 d_putTime_46 (by decide) ?_
          refine lv_icmp_lt (tgt := 90) X.1 X.2.1 d_putTime_52 (by decide) (fun c160 => ?_) (fun c160 => ?_)
          · skip
            rw [nI_ltI (by omega) (by omega)] at c160
            exact ct115 (d) (y) _ _ _ (by omega) (by omega) (by omega) Y (lv_sub hl [0, 1, 2, 3, 4, 5] rfl)
          · skip
            rw [nI_ltI (by omega) (by omega)] at c160
            refine lv_iload X.1 X.2.1 d_putTime_55 (lv_at hl 2 rfl) ?_
            refine lv_iload X.1 X.2.1 d_putTime_57 (lv_at hl 0 rfl) ?_
            refine lv_iconst (v := (nI 4)) X.1 X.2.1 d_putTime_59 (by decide) ?_
            refine lv_irem X.1 X.2.1 d_putTime_60 (nI_ne0 (by omega) (by omega)) ?_
            refine t_eq (y := nI ((y) % (4))) (pk_rem (by omega) (by omega) (by omega)) ?_
            refine lv_if_ne (tgt := 78) X.1 X.2.1 d_putTime_61 (by decide) (fun c161 => ?_) (fun c161 => ?_)
            · skip
              rw [← nI_0] at c161
              rw [nI_eq (by omega) (by omega)] at c161
              refine lv_sipush (v := (nI 365)) X.1 X.2.1 d_putTime_78 (by decide) ?_
              refine lv_isub X.1 X.2.1 d_putTime_81 ?_
              refine t_eq (y := nI (d - (365))) (pk_sub (by omega)) ?_
              refine lv_istore (lv' := [(4, .int (nI (d - (365)))), (6, .int (nI y)), (5, .int (nI ((t) % (86400)))), (3, .int (nI (V))), (0, .ref h), (1, .long (lN t))]) X.1 X.2.1 d_putTime_82 hl (by decide) rfl (fun ls hl => ?_)
              refine lv_iinc (v := (nI (y + 1))) (lv' := [(6, .int (nI (y + 1))), (4, .int (nI (d - (365)))), (5, .int (nI ((t) % (86400)))), (3, .int (nI (V))), (0, .ref h), (1, .long (lN t))]) X.1 X.2.1 d_putTime_84 hl (k := 1) rfl (nI_add _ 1) (by decide) rfl (fun ls hl => ?_)
              refine lv_goto (tgt := 26) X.1 X.2.1 d_putTime_87 (by decide) ?_
              exact ih137 (d - (365)) (y + 1) _ _ _ (by omega) (by omega) (by omega) Y (lv_sub hl [0, 2, 1, 3, 4, 5] rfl)
            · skip
              rw [← nI_0] at c161
              rw [nI_eq (by omega) (by omega)] at c161
              refine lv_iload X.1 X.2.1 d_putTime_64 (lv_at hl 0 rfl) ?_
              refine lv_sipush (v := (nI 2100)) X.1 X.2.1 d_putTime_66 (by decide) ?_
              refine lv_icmp_eq (tgt := 78) X.1 X.2.1 d_putTime_69 (by decide) (fun c162 => ?_) (fun c162 => ?_)
              · skip
                rw [nI_eq (by omega) (by omega)] at c162
                refine lv_sipush (v := (nI 365)) X.1 X.2.1 d_putTime_78 (by decide) ?_
                refine lv_isub X.1 X.2.1 d_putTime_81 ?_
                refine t_eq (y := nI (d - (365))) (pk_sub (by omega)) ?_
                refine lv_istore (lv' := [(4, .int (nI (d - (365)))), (6, .int (nI y)), (5, .int (nI ((t) % (86400)))), (3, .int (nI (V))), (0, .ref h), (1, .long (lN t))]) X.1 X.2.1 d_putTime_82 hl (by decide) rfl (fun ls hl => ?_)
                refine lv_iinc (v := (nI (y + 1))) (lv' := [(6, .int (nI (y + 1))), (4, .int (nI (d - (365)))), (5, .int (nI ((t) % (86400)))), (3, .int (nI (V))), (0, .ref h), (1, .long (lN t))]) X.1 X.2.1 d_putTime_84 hl (k := 1) rfl (nI_add _ 1) (by decide) rfl (fun ls hl => ?_)
                refine lv_goto (tgt := 26) X.1 X.2.1 d_putTime_87 (by decide) ?_
                exact ih137 (d - (365)) (y + 1) _ _ _ (by omega) (by omega) (by omega) Y (lv_sub hl [0, 2, 1, 3, 4, 5] rfl)
              · skip
                rw [nI_eq (by omega) (by omega)] at c162
                refine lv_sipush (v := (nI 366)) X.1 X.2.1 d_putTime_72 (by decide) ?_
                refine lv_goto (tgt := 81) X.1 X.2.1 d_putTime_75 (by decide) ?_
                refine lv_isub X.1 X.2.1 d_putTime_81 ?_
                refine t_eq (y := nI (d - (366))) (pk_sub (by omega)) ?_
                refine lv_istore (lv' := [(4, .int (nI (d - (366)))), (6, .int (nI y)), (5, .int (nI ((t) % (86400)))), (3, .int (nI (V))), (0, .ref h), (1, .long (lN t))]) X.1 X.2.1 d_putTime_82 hl (by decide) rfl (fun ls hl => ?_)
                refine lv_iinc (v := (nI (y + 1))) (lv' := [(6, .int (nI (y + 1))), (4, .int (nI (d - (366)))), (5, .int (nI ((t) % (86400)))), (3, .int (nI (V))), (0, .ref h), (1, .long (lN t))]) X.1 X.2.1 d_putTime_84 hl (k := 1) rfl (nI_add _ 1) (by decide) rfl (fun ls hl => ?_)
                refine lv_goto (tgt := 26) X.1 X.2.1 d_putTime_87 (by decide) ?_
                exact ih137 (d - (366)) (y + 1) _ _ _ (by omega) (by omega) (by omega) Y (lv_sub hl [0, 2, 1, 3, 4, 5] rfl)
  exact lp135 (24400) ((t) / (86400)) (1970) _ _ _ (by omega) (by omega) (by omega) Y (lv_sub hl [0, 1, 2, 3, 4, 5] rfl)
set_option maxHeartbeats 4000000 in
set_option maxRecDepth 100000 in
theorem c_timeField (l : Launch) (D : mD) (E : mE) (h : Nat) (q : Nat → Nat) (sz : Nat) (I : Nat → Int32) (J : Nat → Int64) (B : Nat → Nat → Int32) (G : Nat → Nat → Int64) (a1 : Int32) (t : Nat) (ht : t ≤ 2100000000) (V : Nat) (hV : I 42 = nI V) (hVl : 50 ≤ V) (hV6 : V ≤ 60000) : Met l y_timeField (k_timeField :: lw_tg) (mR 3 73) (va_Pc [.ref h, .int a1, .long (lN t)] (mPre D E h q (I, J, B, G) sz)) (va_Qv (fun (u : mS) => (∀ j, j ≠ 42 → u.1 j = I j) ∧ u.2.1 = J ∧ (∀ j, j ≠ 0 → u.2.2.1 j = B j) ∧ u.2.2.2 = G ∧ (∃ V2, V ≤ V2 + 25 ∧ V2 ≤ V ∧ u.1 42 = nI V2)) (mPost D E h q (mA E h q sz)) (mA E h q sz)) 0 0 (mA E h q sz) := by
  refine m_enter (by decide) rfl (Nat.le_of_ble_eq_true rfl) (fun p e s m below meth c ls AV QQ H locs hQQ X Y hZ hA hr hlk hml hl => ?_)
  have Y : mH D E (mA E h q sz) s.heap h q I J B G H locs := Y
  have hl : lv_has ls 5 [(0, .ref h), (1, .int a1), (2, .long (lN t))] := hl
  refine lv_aload_n X.1 X.2.1 d_timeField_0 rfl (lv_at hl 0 rfl) ?_
  refine m_get X Y 42 (by decide) lk_w0 (gf_w0 _ _ _) rfl d_timeField_1 ?_
  refine t_eq (show I 42 = nI (V) from hV) ?_
  refine lv_istore (lv' := [(4, .int (nI (V))), (0, .ref h), (1, .int a1), (2, .long (lN t))]) X.1 X.2.1 d_timeField_4 hl (by decide) rfl (fun ls hl => ?_)
  refine lv_aload_n X.1 X.2.1 d_timeField_6 rfl (lv_at hl 1 rfl) ?_
  refine lv_lload_n X.1 X.2.1 d_timeField_7 rfl (lv_at hl 3 rfl) ?_
  refine m_callv (As := [.long (lN t)]) (rest := []) (n := 1) X Y hZ hA hml hl.1 (c_putTime l D E h q H.size I J B G (t) (by omega) (V) (show I 42 = nI (V) from hV) (by omega) (by omega)) kl_putTime ks_putTime kx_putTime ki_putTime ini_M hd_putTime ⟨by decide, by decide⟩ rfl (Nat.le_of_ble_eq_true rfl) d_timeField_8 ⟨Nat.le_refl _, Nat.le_refl _⟩ (fun u H locs hp Y => ?_)
  obtain ⟨I1, J2, B3, G4⟩ := u
  obtain ⟨hI5, eJ7, hB6, eG8, hx10⟩ := hp
  dsimp only at hI5 eJ7 hB6 eG8 hx10 Y
  rw [eJ7, eG8] at Y
  have hI11 : (∀ j, j ≠ 42 → I1 j = I j) := fun j h42 => (hI5 j h42).trans ((fun j h42 => rfl) j h42)
  have hB12 : (∀ j, j ≠ 0 → B3 j = B j) := fun j h0 => (hB6 j h0).trans ((fun j h0 => rfl) j h0)
  obtain ⟨V13, hV13a, hV13b, hV13c⟩ := hx10
  refine lv_aload_n X.1 X.2.1 d_timeField_11 rfl (lv_at hl 1 rfl) ?_
  refine lv_iload_n X.1 X.2.1 d_timeField_12 rfl (lv_at hl 2 rfl) ?_
  refine lv_iload X.1 X.2.1 d_timeField_13 (lv_at hl 0 rfl) ?_
  refine m_callv (As := [.int a1, .int (nI (V))]) (rest := []) (n := 2) X Y hZ hA hml hl.1 (c_field l D E h q H.size I1 J B3 G a1 (V) (V13) (show I1 42 = nI (V13) from hV13c) (by omega) (by omega) (by omega)) kl_field ks_field kx_field ki_field ini_M hd_field ⟨by decide, by decide⟩ rfl (Nat.le_of_ble_eq_true rfl) d_timeField_15 ⟨Nat.le_refl _, Nat.le_refl _⟩ (fun u H locs hp Y => ?_)
  obtain ⟨I14, J15, B16, G17⟩ := u
  obtain ⟨hI18, eJ20, hB19, eG21, hx23⟩ := hp
  dsimp only at hI18 eJ20 hB19 eG21 hx23 Y
  rw [eJ20, eG21] at Y
  have hI24 : (∀ j, j ≠ 42 → I14 j = I j) := fun j h42 => (hI18 j h42).trans ((fun j h42 => (hI11 j h42)) j h42)
  have hB25 : (∀ j, j ≠ 0 → B16 j = B j) := fun j h0 => (hB19 j h0).trans ((fun j h0 => (hB12 j h0)) j h0)
  obtain ⟨V26, hV26a, hV26b, hV26c⟩ := hx23
  exact m_retv hQQ X Y hr hlk ⟨(fun j h42 => (hI24 j h42)), rfl, (fun j h0 => (hB25 j h0)), rfl, ⟨V26, by omega, by omega, (show I14 42 = nI (V26) from hV26c)⟩⟩ d_timeField_18
set_option maxHeartbeats 4000000 in
set_option maxRecDepth 100000 in
theorem c_putBytes_names (l : Launch) (D : mD) (E : mE) (h : Nat) (q : Nat → Nat) (sz : Nat) (I : Nat → Int32) (J : Nat → Int64) (B : Nat → Nat → Int32) (G : Nat → Nat → Int64) (a n V : Nat) (han : a + n ≤ 480) (hV : I 42 = nI V) (hnV : n ≤ V) (hV6 : V ≤ 60000) : Met l y_putBytes (k_putBytes :: lw_tg) (mR 1 21) (va_Pc [.ref h, .ref (q 44), .int (nI a), .int (nI n)] (mPre D E h q (I, J, B, G) sz)) (va_Qv (fun (u : mS) => (∀ j, j ≠ 42 → u.1 j = I j) ∧ u.2.1 = J ∧ (∀ j, j ≠ 0 → u.2.2.1 j = B j) ∧ u.2.2.2 = G ∧ u.1 42 = nI (V - n)) (mPost D E h q (mA E h q sz)) (mA E h q sz)) 0 0 (mA E h q sz) := by
  refine m_enter (by decide) rfl (Nat.le_of_ble_eq_true rfl) (fun p e s m below meth c ls AV QQ H locs hQQ X Y hZ hA hr hlk hml hl => ?_)
  have Y : mH D E (mA E h q sz) s.heap h q I J B G H locs := Y
  have hl : lv_has ls 5 [(0, .ref h), (1, .ref (q 44)), (2, .int (nI a)), (3, .int (nI n))] := hl
  refine lv_iload_n X.1 X.2.1 d_putBytes_0 rfl (lv_at hl 3 rfl) ?_
  refine lv_iconst (v := (nI 1)) X.1 X.2.1 d_putBytes_1 (by decide) ?_
  refine lv_isub X.1 X.2.1 d_putBytes_2 ?_
  refine t_eq (m1_s n) ?_
  refine lv_istore (lv' := [(4, .int (nI n + (-1))), (0, .ref h), (1, .ref (q 44)), (2, .int (nI a)), (3, .int (nI n))]) X.1 X.2.1 d_putBytes_3 hl (by decide) rfl (fun ls hl => ?_)
  have lp4 : ∀ (n1 : Nat) (I5 : Nat → Int32) (B6 : Nat → Nat → Int32) (H : Heap) (locs : List Loc) (ls : Array Slot), n1 ≤ n → (∀ j, j ≠ 0 → B6 j = B j) → (∀ j, j ≠ 42 → I5 j = I j) → I5 42 = nI (V - n + n1) → mH D E (mA E h q sz) s.heap h q I5 J B6 G H locs → lv_has ls 5 [(4, .int (nI n1 + (-1))), (0, .ref h), (1, .ref (q 44)), (2, .int (nI a)), (3, .int (nI n))] → W p l e (mR 1 21) s m AV below meth c H locs 0 0 QQ (F0 m 5 ls []) := by
    intro n1
    induction n1 with
    | zero =>
      intro  I5 B6 H locs ls hii2  hB7 hI8 hk9  Y hl
      refine lv_iload X.1 X.2.1 d_putBytes_5 (lv_at hl 0 rfl) ?_
      refine lv_if_lt (tgt := 26) X.1 X.2.1 d_putBytes_7 (by decide) (fun c10 => ?_) (fun c10 => absurd ?_ c10)
      rotate_left
      · decide
      exact m_retv hQQ X Y hr hlk ⟨(fun j h42 => (hI8 j h42)), rfl, (fun j h0 => (hB7 j h0)), rfl, (show I5 42 = nI (V - n) from (show I5 42 = nI (V - n + 0) from hk9).trans (congrArg nI (show (V - n + 0 : Nat) = V - n by omega)))⟩ d_putBytes_26
    | succ n1 ih3 =>
      intro  I5 B6 H locs ls hii2  hB7 hI8 hk9  Y hl
      rw [show nI (n1 + 1) + (-1) = nI n1 from pk_m1 n1] at hl
      refine lv_iload X.1 X.2.1 d_putBytes_5 (lv_at hl 0 rfl) ?_
      refine lv_if_lt (tgt := 26) X.1 X.2.1 d_putBytes_7 (by decide) (fun c11 => absurd c11 ?_) (fun c11 => ?_)
      · (exact nI_pos (by omega))
      rw [← nI_0] at c11
      rw [nI_ltI (by omega) (by omega)] at c11
      refine lv_aload_n X.1 X.2.1 d_putBytes_10 rfl (lv_at hl 1 rfl) ?_
      refine lv_aload_n X.1 X.2.1 d_putBytes_11 rfl (lv_at hl 2 rfl) ?_
      refine lv_iload_n X.1 X.2.1 d_putBytes_12 rfl (lv_at hl 3 rfl) ?_
      refine lv_iload X.1 X.2.1 d_putBytes_13 (lv_at hl 0 rfl) ?_
      refine lv_iadd X.1 X.2.1 d_putBytes_15 ?_
      refine t_eq (y := nI (a + n1)) (nI_add _ _) ?_
      refine m_bald X Y (aw_names _ _ _ _ _ _ _) (vp_in_nI (by omega) (by decide)) d_putBytes_16 ?_
      refine t_any (fun v12 => ?_)
      refine m_callv (As := [.int v12]) (rest := []) (n := 1) X Y hZ hA hml hl.1 (c_one l D E h q H.size I5 J B6 G v12 (V - n + (n1 + 1) - 1) ((show I5 42 = nI (V - n + (n1 + 1)) from hk9).trans (congrArg nI (show (V - n + (n1 + 1) : Nat) = V - n + (n1 + 1) - 1 + 1 by omega))) (by omega)) kl_one ks_one kx_one ki_one ini_M hd_one ⟨by decide, by decide⟩ rfl (Nat.le_of_ble_eq_true rfl) d_putBytes_17 ⟨Nat.le_refl _, Nat.le_refl _⟩ (fun u H locs hp Y => ?_)
      obtain ⟨I13, J14, B15, G16⟩ := u
      obtain ⟨hI17, eJ19, hB18, eG20, hk22⟩ := hp
      dsimp only at hI17 eJ19 hB18 eG20 hk22 Y
      rw [eJ19, eG20] at Y
      have hI23 : (∀ j, j ≠ 42 → I13 j = I j) := fun j h42 => (hI17 j h42).trans ((fun j h42 => (hI8 j h42)) j h42)
      have hB24 : (∀ j, j ≠ 0 → B15 j = B j) := fun j h0 => (hB18 j h0).trans ((fun j h0 => (hB7 j h0)) j h0)
      refine lv_iinc (v := (nI n1 + (-1))) (lv' := [(4, .int (nI n1 + (-1))), (0, .ref h), (1, .ref (q 44)), (2, .int (nI a)), (3, .int (nI n))]) X.1 X.2.1 d_putBytes_20 hl (k := 0) rfl (congrArg (fun z => nI n1 + z) (by decide)) (by decide) rfl (fun ls hl => ?_)
      refine lv_goto (tgt := 5) X.1 X.2.1 d_putBytes_23 (by decide) ?_
      exact ih3  I13 B15 _ _ _ (by omega)  (fun j h0 => (hB24 j h0)) (fun j h42 => (hI23 j h42)) ((show I13 42 = nI ((V - n + (n1 + 1) - 1)) from hk22).trans (congrArg nI (show ((V - n + (n1 + 1) - 1) : Nat) = V - n + n1 by omega)))  Y (lv_sub hl [0, 1, 2, 3, 4] rfl)
  exact lp4 (n)  I B _ _ _ (by omega)  (fun j h0 => rfl) (fun j h42 => rfl) ((show I 42 = nI (V) from hV).trans (congrArg nI (show (V : Nat) = V - n + n by omega)))  Y (lv_sub hl [0, 1, 2, 3, 4] rfl)
set_option maxHeartbeats 4000000 in
set_option maxRecDepth 100000 in
theorem c_putParts_names (l : Launch) (D : mD) (E : mE) (h : Nat) (q : Nat → Nat) (sz : Nat) (I : Nat → Int32) (J : Nat → Int64) (B : Nat → Nat → Int32) (G : Nat → Nat → Int64) (a n V : Nat) (han : a + n ≤ 480) (hn : n ≤ 40) (hV : I 42 = nI V) (hnV : 300 ≤ V) (hV6 : V ≤ 60000) : Met l y_putParts (k_putParts :: lw_tg) (mR 2 46) (va_Pc [.ref h, .ref (q 44), .int (nI a), .int (nI n)] (mPre D E h q (I, J, B, G) sz)) (va_Qv (fun (u : mS) => (∀ j, j ≠ 42 → u.1 j = I j) ∧ u.2.1 = J ∧ (∀ j, j ≠ 0 → u.2.2.1 j = B j) ∧ u.2.2.2 = G ∧ (∃ V2, V ≤ V2 + 6 * n + 5 ∧ V2 ≤ V ∧ u.1 42 = nI V2)) (mPost D E h q (mA E h q sz)) (mA E h q sz)) 0 0 (mA E h q sz) := by
  refine m_enter (by decide) rfl (Nat.le_of_ble_eq_true rfl) (fun p e s m below meth c ls AV QQ H locs hQQ X Y hZ hA hr hlk hml hl => ?_)
  have Y : mH D E (mA E h q sz) s.heap h q I J B G H locs := Y
  have hl : lv_has ls 7 [(0, .ref h), (1, .ref (q 44)), (2, .int (nI a)), (3, .int (nI n))] := hl
  refine lv_iload_n X.1 X.2.1 d_putParts_0 rfl (lv_at hl 3 rfl) ?_
  refine lv_istore (lv' := [(4, .int (nI n)), (0, .ref h), (1, .ref (q 44)), (2, .int (nI a)), (3, .int (nI n))]) X.1 X.2.1 d_putParts_1 hl (by decide) rfl (fun ls hl => ?_)
  refine lv_iload_n X.1 X.2.1 d_putParts_3 rfl (lv_at hl 4 rfl) ?_
  refine lv_iconst (v := (nI 1)) X.1 X.2.1 d_putParts_4 (by decide) ?_
  refine lv_isub X.1 X.2.1 d_putParts_5 ?_
  refine t_eq (m1_s n) ?_
  refine lv_istore (lv' := [(5, .int (nI n + (-1))), (4, .int (nI n)), (0, .ref h), (1, .ref (q 44)), (2, .int (nI a)), (3, .int (nI n))]) X.1 X.2.1 d_putParts_6 hl (by decide) rfl (fun ls hl => ?_)
  have lp1 : ∀ (j e0 W1 : Nat) (I3 : Nat → Int32) (B4 : Nat → Nat → Int32) (H : Heap) (locs : List Loc) (ls : Array Slot), e0 ≤ n → j ≤ e0 → W1 ≤ V → V ≤ W1 + (n - e0) + 5 * (n - j) → (∀ j, j ≠ 42 → I3 j = I j) → (∀ j, j ≠ 0 → B4 j = B j) → I3 42 = nI W1 → mH D E (mA E h q sz) s.heap h q I3 J B4 G H locs → lv_has ls 7 [(5, .int (nI j + (-1))), (4, .int (nI e0)), (0, .ref h), (1, .ref (q 44)), (2, .int (nI a)), (3, .int (nI n))] → W p l e (mR 2 46) s m AV below meth c H locs 0 0 QQ (F0 m 8 ls []) := by
    intro j
    induction j with
    | zero =>
      intro e0 W1 I3 B4 H locs ls he1 he2 hW1 hW2 hI5 hB6 hk7 Y hl
      refine lv_iload X.1 X.2.1 d_putParts_8 (lv_at hl 0 rfl) ?_
      refine lv_iconst (v := (-1)) X.1 X.2.1 d_putParts_10 (by decide) ?_
      refine lv_icmp_lt (tgt := 75) X.1 X.2.1 d_putParts_11 (by decide) (fun c8 => absurd c8 ?_) (fun c8 => ?_)
      · decide
      refine lv_iload X.1 X.2.1 d_putParts_14 (lv_at hl 0 rfl) ?_
      refine lv_if_lt (tgt := 33) X.1 X.2.1 d_putParts_16 (by decide) (fun c9 => ?_) (fun c9 => absurd ?_ c9)
      rotate_left
      · decide
      refine lv_aload_n X.1 X.2.1 d_putParts_33 rfl (lv_at hl 2 rfl) ?_
      refine m_get X Y 42 (by decide) lk_w0 (gf_w0 _ _ _) rfl d_putParts_34 ?_
      refine t_eq (show I3 42 = nI (W1) from hk7) ?_
      refine lv_istore (lv' := [(6, .int (nI (W1))), (5, .int (-1)), (4, .int (nI e0)), (0, .ref h), (1, .ref (q 44)), (2, .int (nI a)), (3, .int (nI n))]) X.1 X.2.1 d_putParts_37 hl (by decide) rfl (fun ls hl => ?_)
      refine lv_aload_n X.1 X.2.1 d_putParts_39 rfl (lv_at hl 3 rfl) ?_
      refine lv_aload_n X.1 X.2.1 d_putParts_40 rfl (lv_at hl 4 rfl) ?_
      refine lv_iload_n X.1 X.2.1 d_putParts_41 rfl (lv_at hl 5 rfl) ?_
      refine lv_iload X.1 X.2.1 d_putParts_42 (lv_at hl 1 rfl) ?_
      refine lv_iadd X.1 X.2.1 d_putParts_44 ?_
      refine lv_iconst (v := (nI 1)) X.1 X.2.1 d_putParts_45 (by decide) ?_
      refine lv_iadd X.1 X.2.1 d_putParts_46 ?_
      refine t_eq (m1_p a) ?_
      refine lv_iload X.1 X.2.1 d_putParts_47 (lv_at hl 2 rfl) ?_
      refine lv_iload X.1 X.2.1 d_putParts_49 (lv_at hl 1 rfl) ?_
      refine lv_isub X.1 X.2.1 d_putParts_51 ?_
      refine lv_iconst (v := (nI 1)) X.1 X.2.1 d_putParts_52 (by decide) ?_
      refine lv_isub X.1 X.2.1 d_putParts_53 ?_
      refine t_eq (m1_q e0) ?_
      refine m_callv (As := [.ref (q 44), .int (nI a), .int (nI e0)]) (rest := []) (n := 3) X Y hZ hA hml hl.1 (c_putBytes_names l D E h q H.size I3 J B4 G (a) (e0) (W1) (by omega) (show I3 42 = nI (W1) from hk7) (by omega) (by omega)) kl_putBytes ks_putBytes kx_putBytes ki_putBytes ini_M hd_putBytes ⟨by decide, by decide⟩ rfl (Nat.le_of_ble_eq_true rfl) d_putParts_54 ⟨Nat.le_refl _, Nat.le_refl _⟩ (fun u H locs hp Y => ?_)
      obtain ⟨I10, J11, B12, G13⟩ := u
      obtain ⟨hI14, eJ16, hB15, eG17, hk19⟩ := hp
      dsimp only at hI14 eJ16 hB15 eG17 hk19 Y
      rw [eJ16, eG17] at Y
      have hI20 : (∀ j, j ≠ 42 → I10 j = I j) := fun j h42 => (hI14 j h42).trans ((fun j h42 => (hI5 j h42)) j h42)
      have hB21 : (∀ j, j ≠ 0 → B12 j = B j) := fun j h0 => (hB15 j h0).trans ((fun j h0 => (hB6 j h0)) j h0)
      refine lv_aload_n X.1 X.2.1 d_putParts_57 rfl (lv_at hl 3 rfl) ?_
      refine lv_bipush (v := (nI 27)) X.1 X.2.1 d_putParts_58 (by decide) ?_
      refine lv_iload X.1 X.2.1 d_putParts_60 (lv_at hl 0 rfl) ?_
      refine m_callv (As := [.int (nI 27), .int (nI (W1))]) (rest := []) (n := 2) X Y hZ hA hml hl.1 (c_head l D E h q H.size I10 J B12 G (nI 27) (W1) ((W1 - (e0))) (show I10 42 = nI ((W1 - (e0))) from hk19) (by omega) (by omega) (by omega)) kl_head ks_head kx_head ki_head ini_M hd_head ⟨by decide, by decide⟩ rfl (Nat.le_of_ble_eq_true rfl) d_putParts_62 ⟨Nat.le_refl _, Nat.le_refl _⟩ (fun u H locs hp Y => ?_)
      obtain ⟨I22, J23, B24, G25⟩ := u
      obtain ⟨hI26, eJ28, hB27, eG29, hx31⟩ := hp
      dsimp only at hI26 eJ28 hB27 eG29 hx31 Y
      rw [eJ28, eG29] at Y
      have hI32 : (∀ j, j ≠ 42 → I22 j = I j) := fun j h42 => (hI26 j h42).trans ((fun j h42 => (hI20 j h42)) j h42)
      have hB33 : (∀ j, j ≠ 0 → B24 j = B j) := fun j h0 => (hB27 j h0).trans ((fun j h0 => (hB21 j h0)) j h0)
      obtain ⟨V34, hV34a, hV34b, hV34c⟩ := hx31
      refine lv_iload X.1 X.2.1 d_putParts_65 (lv_at hl 1 rfl) ?_
      refine lv_istore (lv' := [(4, .int (-1)), (6, .int (nI (W1))), (5, .int (-1)), (0, .ref h), (1, .ref (q 44)), (2, .int (nI a)), (3, .int (nI n))]) X.1 X.2.1 d_putParts_67 hl (by decide) rfl (fun ls hl => ?_)
      refine lv_iinc (v := (-2)) (lv' := [(5, .int (-2)), (4, .int (-1)), (6, .int (nI (W1))), (0, .ref h), (1, .ref (q 44)), (2, .int (nI a)), (3, .int (nI n))]) X.1 X.2.1 d_putParts_69 hl (k := 2) rfl (by decide) (by decide) rfl (fun ls hl => ?_)
      refine lv_goto (tgt := 8) X.1 X.2.1 d_putParts_72 (by decide) ?_
      refine lv_iload X.1 X.2.1 d_putParts_8 (lv_at hl 0 rfl) ?_
      refine lv_iconst (v := (-1)) X.1 X.2.1 d_putParts_10 (by decide) ?_
      refine lv_icmp_lt (tgt := 75) X.1 X.2.1 d_putParts_11 (by decide) (fun c35 => ?_) (fun c35 => absurd ?_ c35)
      rotate_left
      · decide
      exact m_retv hQQ X Y hr hlk ⟨(fun j h42 => (hI32 j h42)), rfl, (fun j h0 => (hB33 j h0)), rfl, ⟨V34, by omega, by omega, (show I22 42 = nI (V34) from hV34c)⟩⟩ d_putParts_75
    | succ i ih2 =>
      intro e0 W1 I3 B4 H locs ls he1 he2 hW1 hW2 hI5 hB6 hk7 Y hl
      rw [show nI (i + 1) + (-1) = nI i from pk_m1 i] at hl
      refine lv_iload X.1 X.2.1 d_putParts_8 (lv_at hl 0 rfl) ?_
      refine lv_iconst (v := (-1)) X.1 X.2.1 d_putParts_10 (by decide) ?_
      refine lv_icmp_lt (tgt := 75) X.1 X.2.1 d_putParts_11 (by decide) (fun c36 => absurd c36 ?_) (fun c36 => ?_)
      · exact m1_lt (by omega)
      refine lv_iload X.1 X.2.1 d_putParts_14 (lv_at hl 0 rfl) ?_
      refine lv_if_lt (tgt := 33) X.1 X.2.1 d_putParts_16 (by decide) (fun c37 => absurd c37 ?_) (fun c37 => ?_)
      · (exact nI_pos (by omega))
      rw [← nI_0] at c37
      rw [nI_ltI (by omega) (by omega)] at c37
      refine lv_aload_n X.1 X.2.1 d_putParts_19 rfl (lv_at hl 3 rfl) ?_
      refine lv_iload_n X.1 X.2.1 d_putParts_20 rfl (lv_at hl 4 rfl) ?_
      refine lv_iload X.1 X.2.1 d_putParts_21 (lv_at hl 0 rfl) ?_
      refine lv_iadd X.1 X.2.1 d_putParts_23 ?_
      refine t_eq (y := nI (a + i)) (nI_add _ _) ?_
      refine m_bald X Y (aw_names _ _ _ _ _ _ _) (vp_in_nI (by omega) (by decide)) d_putParts_24 ?_
      refine t_any (fun v38 => ?_)
      refine lv_bipush (v := (nI 47)) X.1 X.2.1 d_putParts_25 (by decide) ?_
      refine lv_icmp_eq (tgt := 33) X.1 X.2.1 d_putParts_27 (by decide) (fun c39 => ?_) (fun c39 => ?_)
      · skip
        refine lv_aload_n X.1 X.2.1 d_putParts_33 rfl (lv_at hl 2 rfl) ?_
        refine m_get X Y 42 (by decide) lk_w0 (gf_w0 _ _ _) rfl d_putParts_34 ?_
        refine t_eq (show I3 42 = nI (W1) from hk7) ?_
        refine lv_istore (lv' := [(6, .int (nI (W1))), (5, .int (nI i)), (4, .int (nI e0)), (0, .ref h), (1, .ref (q 44)), (2, .int (nI a)), (3, .int (nI n))]) X.1 X.2.1 d_putParts_37 hl (by decide) rfl (fun ls hl => ?_)
        refine lv_aload_n X.1 X.2.1 d_putParts_39 rfl (lv_at hl 3 rfl) ?_
        refine lv_aload_n X.1 X.2.1 d_putParts_40 rfl (lv_at hl 4 rfl) ?_
        refine lv_iload_n X.1 X.2.1 d_putParts_41 rfl (lv_at hl 5 rfl) ?_
        refine lv_iload X.1 X.2.1 d_putParts_42 (lv_at hl 1 rfl) ?_
        refine lv_iadd X.1 X.2.1 d_putParts_44 ?_
        refine t_eq (y := nI (a + i)) (nI_add _ _) ?_
        refine lv_iconst (v := (nI 1)) X.1 X.2.1 d_putParts_45 (by decide) ?_
        refine lv_iadd X.1 X.2.1 d_putParts_46 ?_
        refine t_eq (y := nI (a + i + 1)) (nI_add _ _) ?_
        refine lv_iload X.1 X.2.1 d_putParts_47 (lv_at hl 2 rfl) ?_
        refine lv_iload X.1 X.2.1 d_putParts_49 (lv_at hl 1 rfl) ?_
        refine lv_isub X.1 X.2.1 d_putParts_51 ?_
        refine t_eq (y := nI (e0 - (i))) (pk_sub (by omega)) ?_
        refine lv_iconst (v := (nI 1)) X.1 X.2.1 d_putParts_52 (by decide) ?_
        refine lv_isub X.1 X.2.1 d_putParts_53 ?_
        refine t_eq (y := nI (e0 - (i) - (1))) (pk_sub (by omega)) ?_
        refine m_callv (As := [.ref (q 44), .int (nI (a + i + 1)), .int (nI (e0 - (i) - (1)))]) (rest := []) (n := 3) X Y hZ hA hml hl.1 (c_putBytes_names l D E h q H.size I3 J B4 G (a + i + 1) (e0 - (i) - (1)) (W1) (by omega) (show I3 42 = nI (W1) from hk7) (by omega) (by omega)) kl_putBytes ks_putBytes kx_putBytes ki_putBytes ini_M hd_putBytes ⟨by decide, by decide⟩ rfl (Nat.le_of_ble_eq_true rfl) d_putParts_54 ⟨Nat.le_refl _, Nat.le_refl _⟩ (fun u H locs hp Y => ?_)
        obtain ⟨I40, J41, B42, G43⟩ := u
        obtain ⟨hI44, eJ46, hB45, eG47, hk49⟩ := hp
        dsimp only at hI44 eJ46 hB45 eG47 hk49 Y
        rw [eJ46, eG47] at Y
        have hI50 : (∀ j, j ≠ 42 → I40 j = I j) := fun j h42 => (hI44 j h42).trans ((fun j h42 => (hI5 j h42)) j h42)
        have hB51 : (∀ j, j ≠ 0 → B42 j = B j) := fun j h0 => (hB45 j h0).trans ((fun j h0 => (hB6 j h0)) j h0)
        refine lv_aload_n X.1 X.2.1 d_putParts_57 rfl (lv_at hl 3 rfl) ?_
        refine lv_bipush (v := (nI 27)) X.1 X.2.1 d_putParts_58 (by decide) ?_
        refine lv_iload X.1 X.2.1 d_putParts_60 (lv_at hl 0 rfl) ?_
        refine m_callv (As := [.int (nI 27), .int (nI (W1))]) (rest := []) (n := 2) X Y hZ hA hml hl.1 (c_head l D E h q H.size I40 J B42 G (nI 27) (W1) ((W1 - (e0 - (i) - (1)))) (show I40 42 = nI ((W1 - (e0 - (i) - (1)))) from hk49) (by omega) (by omega) (by omega)) kl_head ks_head kx_head ki_head ini_M hd_head ⟨by decide, by decide⟩ rfl (Nat.le_of_ble_eq_true rfl) d_putParts_62 ⟨Nat.le_refl _, Nat.le_refl _⟩ (fun u H locs hp Y => ?_)
        obtain ⟨I52, J53, B54, G55⟩ := u
        obtain ⟨hI56, eJ58, hB57, eG59, hx61⟩ := hp
        dsimp only at hI56 eJ58 hB57 eG59 hx61 Y
        rw [eJ58, eG59] at Y
        have hI62 : (∀ j, j ≠ 42 → I52 j = I j) := fun j h42 => (hI56 j h42).trans ((fun j h42 => (hI50 j h42)) j h42)
        have hB63 : (∀ j, j ≠ 0 → B54 j = B j) := fun j h0 => (hB57 j h0).trans ((fun j h0 => (hB51 j h0)) j h0)
        obtain ⟨V64, hV64a, hV64b, hV64c⟩ := hx61
        refine lv_iload X.1 X.2.1 d_putParts_65 (lv_at hl 1 rfl) ?_
        refine lv_istore (lv' := [(4, .int (nI i)), (6, .int (nI (W1))), (5, .int (nI i)), (0, .ref h), (1, .ref (q 44)), (2, .int (nI a)), (3, .int (nI n))]) X.1 X.2.1 d_putParts_67 hl (by decide) rfl (fun ls hl => ?_)
        refine lv_iinc (v := (nI i + (-1))) (lv' := [(5, .int (nI i + (-1))), (4, .int (nI i)), (6, .int (nI (W1))), (0, .ref h), (1, .ref (q 44)), (2, .int (nI a)), (3, .int (nI n))]) X.1 X.2.1 d_putParts_69 hl (k := 2) rfl (congrArg (fun z => nI i + z) (by decide)) (by decide) rfl (fun ls hl => ?_)
        refine lv_goto (tgt := 8) X.1 X.2.1 d_putParts_72 (by decide) ?_
        exact ih2 (i) (V64) _ _ _ _ _ (by omega) (by omega) (by omega) (by omega) (fun j h42 => (hI62 j h42)) (fun j h0 => (hB63 j h0)) (show I52 42 = nI (V64) from hV64c) Y (lv_sub hl [0, 1, 3, 4, 5, 6] rfl)
      · skip
        refine lv_goto (tgt := 69) X.1 X.2.1 d_putParts_30 (by decide) ?_
        refine lv_iinc (v := (nI i + (-1))) (lv' := [(5, .int (nI i + (-1))), (4, .int (nI e0)), (0, .ref h), (1, .ref (q 44)), (2, .int (nI a)), (3, .int (nI n))]) X.1 X.2.1 d_putParts_69 hl (k := 0) rfl (congrArg (fun z => nI i + z) (by decide)) (by decide) rfl (fun ls hl => ?_)
        refine lv_goto (tgt := 8) X.1 X.2.1 d_putParts_72 (by decide) ?_
        exact ih2 (e0) (W1) _ _ _ _ _ (by omega) (by omega) (by omega) (by omega) (fun j h42 => (hI5 j h42)) (fun j h0 => (hB6 j h0)) (show I3 42 = nI (W1) from hk7) Y (lv_sub hl [0, 1, 2, 3, 4, 5] rfl)
  exact lp1 n n V _ _ _ _ _ (by omega) (by omega) (by omega) (by omega) (fun j h42 => rfl) (fun j h0 => rfl) (show I 42 = nI V from hV) Y (lv_sub hl [0, 1, 2, 3, 4, 5] rfl)
set_option maxHeartbeats 4000000 in
set_option maxRecDepth 100000 in
theorem c_nameField (l : Launch) (D : mD) (E : mE) (h : Nat) (q : Nat → Nat) (sz : Nat) (I : Nat → Int32) (J : Nat → Int64) (B : Nat → Nat → Int32) (G : Nat → Nat → Int64) (a1 : Int32) (p0 ns : Nat) (hp0 : p0 < 12) (hns : B 45 p0 = nI ns) (hns2 : ns ≤ 40) (V : Nat) (hV : I 42 = nI V) (hVl : 700 ≤ V) (hV6 : V ≤ 60000) : Met l y_nameField (k_nameField :: lw_tg) (mR 4 97) (va_Pc [.ref h, .int a1, .int (nI p0), .int (nI 2)] (mPre D E h q (I, J, B, G) sz)) (va_Qv (fun (u : mS) => (∀ j, j ≠ 42 → u.1 j = I j) ∧ u.2.1 = J ∧ (∀ j, j ≠ 0 → u.2.2.1 j = B j) ∧ u.2.2.2 = G ∧ (∃ V2, V ≤ V2 + 300 ∧ V2 ≤ V ∧ u.1 42 = nI V2)) (mPost D E h q (mA E h q sz)) (mA E h q sz)) 0 0 (mA E h q sz) := by
  refine m_enter (by decide) rfl (Nat.le_of_ble_eq_true rfl) (fun p e s m below meth c ls AV QQ H locs hQQ X Y hZ hA hr hlk hml hl => ?_)
  have Y : mH D E (mA E h q sz) s.heap h q I J B G H locs := Y
  have hl : lv_has ls 6 [(0, .ref h), (1, .int a1), (2, .int (nI p0)), (3, .int (nI 2))] := hl
  refine lv_aload_n X.1 X.2.1 d_nameField_0 rfl (lv_at hl 0 rfl) ?_
  refine m_get X Y 42 (by decide) lk_w0 (gf_w0 _ _ _) rfl d_nameField_1 ?_
  refine t_eq (show I 42 = nI (V) from hV) ?_
  refine lv_istore (lv' := [(4, .int (nI (V))), (0, .ref h), (1, .int a1), (2, .int (nI p0)), (3, .int (nI 2))]) X.1 X.2.1 d_nameField_4 hl (by decide) rfl (fun ls hl => ?_)
  refine lv_aload_n X.1 X.2.1 d_nameField_6 rfl (lv_at hl 1 rfl) ?_
  refine m_get X Y 42 (by decide) lk_w0 (gf_w0 _ _ _) rfl d_nameField_7 ?_
  refine t_eq (show I 42 = nI (V) from hV) ?_
  refine lv_istore (lv' := [(5, .int (nI (V))), (4, .int (nI (V))), (0, .ref h), (1, .int a1), (2, .int (nI p0)), (3, .int (nI 2))]) X.1 X.2.1 d_nameField_10 hl (by decide) rfl (fun ls hl => ?_)
  refine lv_aload_n X.1 X.2.1 d_nameField_12 rfl (lv_at hl 2 rfl) ?_
  refine lv_aload_n X.1 X.2.1 d_nameField_13 rfl (lv_at hl 2 rfl) ?_
  refine m_get X Y 44 (by decide) lk_names (gf_names _ _ _) rfl d_nameField_14 ?_
  refine lv_bipush (v := (nI 40)) X.1 X.2.1 d_nameField_17 (by decide) ?_
  refine lv_iload_n X.1 X.2.1 d_nameField_19 rfl (lv_at hl 4 rfl) ?_
  refine lv_imul X.1 X.2.1 d_nameField_20 ?_
  refine t_eq (y := nI ((40) * (p0))) (pk_mul _ _) ?_
  refine lv_aload_n X.1 X.2.1 d_nameField_21 rfl (lv_at hl 2 rfl) ?_
  refine m_get X Y 45 (by decide) lk_nameSizes (gf_nameSizes _ _ _) rfl d_nameField_22 ?_
  refine lv_iload_n X.1 X.2.1 d_nameField_25 rfl (lv_at hl 4 rfl) ?_
  refine m_iald X Y (aw_nameSizes _ _ _ _ _ _ _) (vp_in_nI (by omega) (by decide)) d_nameField_26 ?_
  refine t_eq (show B 45 ((nI p0)).toNatClampNeg = nI (ns) from (by rw [nI_clamp (by omega)]; exact hns)) ?_
  refine m_callv (As := [.ref (q 44), .int (nI ((40) * (p0))), .int (nI (ns))]) (rest := []) (n := 3) X Y hZ hA hml hl.1 (c_putParts_names l D E h q H.size I J B G ((40) * (p0)) (ns) (V) (by omega) (by omega) (show I 42 = nI (V) from hV) (by omega) (by omega)) kl_putParts ks_putParts kx_putParts ki_putParts ini_M hd_putParts ⟨by decide, by decide⟩ rfl (Nat.le_of_ble_eq_true rfl) d_nameField_27 ⟨Nat.le_refl _, Nat.le_refl _⟩ (fun u H locs hp Y => ?_)
  obtain ⟨I1, J2, B3, G4⟩ := u
  obtain ⟨hI5, eJ7, hB6, eG8, hx10⟩ := hp
  dsimp only at hI5 eJ7 hB6 eG8 hx10 Y
  rw [eJ7, eG8] at Y
  have hI11 : (∀ j, j ≠ 42 → I1 j = I j) := fun j h42 => (hI5 j h42).trans ((fun j h42 => rfl) j h42)
  have hB12 : (∀ j, j ≠ 0 → B3 j = B j) := fun j h0 => (hB6 j h0).trans ((fun j h0 => rfl) j h0)
  have ga13 : (B3 45) p0 = nI ns := by rw [hB6 45 (by decide)]; exact (show (B 45) p0 = nI ns from hns)
  obtain ⟨V14, hV14a, hV14b, hV14c⟩ := hx10
  refine lv_aload_n X.1 X.2.1 d_nameField_30 rfl (lv_at hl 2 rfl) ?_
  refine lv_bipush (v := (nI 48)) X.1 X.2.1 d_nameField_31 (by decide) ?_
  refine lv_iload X.1 X.2.1 d_nameField_33 (lv_at hl 0 rfl) ?_
  refine m_callv (As := [.int (nI 48), .int (nI (V))]) (rest := []) (n := 2) X Y hZ hA hml hl.1 (c_head l D E h q H.size I1 J B3 G (nI 48) (V) (V14) (show I1 42 = nI (V14) from hV14c) (by omega) (by omega) (by omega)) kl_head ks_head kx_head ki_head ini_M hd_head ⟨by decide, by decide⟩ rfl (Nat.le_of_ble_eq_true rfl) d_nameField_35 ⟨Nat.le_refl _, Nat.le_refl _⟩ (fun u H locs hp Y => ?_)
  obtain ⟨I15, J16, B17, G18⟩ := u
  obtain ⟨hI19, eJ21, hB20, eG22, hx24⟩ := hp
  dsimp only at hI19 eJ21 hB20 eG22 hx24 Y
  rw [eJ21, eG22] at Y
  have hI25 : (∀ j, j ≠ 42 → I15 j = I j) := fun j h42 => (hI19 j h42).trans ((fun j h42 => (hI11 j h42)) j h42)
  have hB26 : (∀ j, j ≠ 0 → B17 j = B j) := fun j h0 => (hB20 j h0).trans ((fun j h0 => (hB12 j h0)) j h0)
  have ga27 : (B17 45) p0 = nI ns := by rw [hB20 45 (by decide)]; exact (show (B3 45) p0 = nI ns from ga13)
  obtain ⟨V28, hV28a, hV28b, hV28c⟩ := hx24
  refine lv_aload_n X.1 X.2.1 d_nameField_38 rfl (lv_at hl 2 rfl) ?_
  refine lv_iconst (v := (nI 1)) X.1 X.2.1 d_nameField_39 (by decide) ?_
  refine lv_iload X.1 X.2.1 d_nameField_40 (lv_at hl 0 rfl) ?_
  refine m_callv (As := [.int (nI 1), .int (nI (V))]) (rest := []) (n := 2) X Y hZ hA hml hl.1 (c_field l D E h q H.size I15 J B17 G (nI 1) (V) (V28) (show I15 42 = nI (V28) from hV28c) (by omega) (by omega) (by omega)) kl_field ks_field kx_field ki_field ini_M hd_field ⟨by decide, by decide⟩ rfl (Nat.le_of_ble_eq_true rfl) d_nameField_42 ⟨Nat.le_refl _, Nat.le_refl _⟩ (fun u H locs hp Y => ?_)
  obtain ⟨I29, J30, B31, G32⟩ := u
  obtain ⟨hI33, eJ35, hB34, eG36, hx38⟩ := hp
  dsimp only at hI33 eJ35 hB34 eG36 hx38 Y
  rw [eJ35, eG36] at Y
  have hI39 : (∀ j, j ≠ 42 → I29 j = I j) := fun j h42 => (hI33 j h42).trans ((fun j h42 => (hI25 j h42)) j h42)
  have hB40 : (∀ j, j ≠ 0 → B31 j = B j) := fun j h0 => (hB34 j h0).trans ((fun j h0 => (hB26 j h0)) j h0)
  have ga41 : (B31 45) p0 = nI ns := by rw [hB34 45 (by decide)]; exact (show (B17 45) p0 = nI ns from ga27)
  obtain ⟨V42, hV42a, hV42b, hV42c⟩ := hx38
  refine lv_aload_n X.1 X.2.1 d_nameField_45 rfl (lv_at hl 2 rfl) ?_
  refine lv_iconst (v := (nI 0)) X.1 X.2.1 d_nameField_46 (by decide) ?_
  refine lv_iload_n X.1 X.2.1 d_nameField_47 rfl (lv_at hl 5 rfl) ?_
  refine lv_i2l (v := lN (2)) X.1 X.2.1 d_nameField_48 (nI_l (by omega)) ?_
  refine m_callv (As := [.int (nI 0), .long (lN (2))]) (rest := []) (n := 2) X Y hZ hA hml hl.1 (c_numberField_s l D E h q H.size I29 J B31 G (nI 0) (2) (by omega) (V42) (show I29 42 = nI (V42) from hV42c) (by omega) (by omega)) kl_numberField ks_numberField kx_numberField ki_numberField ini_M hd_numberField ⟨by decide, by decide⟩ rfl (Nat.le_of_ble_eq_true rfl) d_nameField_49 ⟨Nat.le_refl _, Nat.le_refl _⟩ (fun u H locs hp Y => ?_)
  obtain ⟨I43, J44, B45, G46⟩ := u
  obtain ⟨hI47, eJ49, hB48, eG50, hx52⟩ := hp
  dsimp only at hI47 eJ49 hB48 eG50 hx52 Y
  rw [eJ49, eG50] at Y
  have hI53 : (∀ j, j ≠ 42 → I43 j = I j) := fun j h42 => (hI47 j h42).trans ((fun j h42 => (hI39 j h42)) j h42)
  have hB54 : (∀ j, j ≠ 0 → B45 j = B j) := fun j h0 => (hB48 j h0).trans ((fun j h0 => (hB40 j h0)) j h0)
  have ga55 : (B45 45) p0 = nI ns := by rw [hB48 45 (by decide)]; exact (show (B31 45) p0 = nI ns from ga41)
  obtain ⟨V56, hV56a, hV56b, hV56c⟩ := hx52
  refine lv_aload_n X.1 X.2.1 d_nameField_52 rfl (lv_at hl 2 rfl) ?_
  refine lv_bipush (v := (nI 48)) X.1 X.2.1 d_nameField_53 (by decide) ?_
  refine lv_iload X.1 X.2.1 d_nameField_55 (lv_at hl 1 rfl) ?_
  refine m_callv (As := [.int (nI 48), .int (nI (V))]) (rest := []) (n := 2) X Y hZ hA hml hl.1 (c_head l D E h q H.size I43 J B45 G (nI 48) (V) (V56) (show I43 42 = nI (V56) from hV56c) (by omega) (by omega) (by omega)) kl_head ks_head kx_head ki_head ini_M hd_head ⟨by decide, by decide⟩ rfl (Nat.le_of_ble_eq_true rfl) d_nameField_57 ⟨Nat.le_refl _, Nat.le_refl _⟩ (fun u H locs hp Y => ?_)
  obtain ⟨I57, J58, B59, G60⟩ := u
  obtain ⟨hI61, eJ63, hB62, eG64, hx66⟩ := hp
  dsimp only at hI61 eJ63 hB62 eG64 hx66 Y
  rw [eJ63, eG64] at Y
  have hI67 : (∀ j, j ≠ 42 → I57 j = I j) := fun j h42 => (hI61 j h42).trans ((fun j h42 => (hI53 j h42)) j h42)
  have hB68 : (∀ j, j ≠ 0 → B59 j = B j) := fun j h0 => (hB62 j h0).trans ((fun j h0 => (hB54 j h0)) j h0)
  have ga69 : (B59 45) p0 = nI ns := by rw [hB62 45 (by decide)]; exact (show (B45 45) p0 = nI ns from ga55)
  obtain ⟨V70, hV70a, hV70b, hV70c⟩ := hx66
  refine lv_aload_n X.1 X.2.1 d_nameField_60 rfl (lv_at hl 2 rfl) ?_
  refine lv_iload_n X.1 X.2.1 d_nameField_61 rfl (lv_at hl 3 rfl) ?_
  refine lv_iload X.1 X.2.1 d_nameField_62 (lv_at hl 1 rfl) ?_
  refine m_callv (As := [.int a1, .int (nI (V))]) (rest := []) (n := 2) X Y hZ hA hml hl.1 (c_field l D E h q H.size I57 J B59 G a1 (V) (V70) (show I57 42 = nI (V70) from hV70c) (by omega) (by omega) (by omega)) kl_field ks_field kx_field ki_field ini_M hd_field ⟨by decide, by decide⟩ rfl (Nat.le_of_ble_eq_true rfl) d_nameField_64 ⟨Nat.le_refl _, Nat.le_refl _⟩ (fun u H locs hp Y => ?_)
  obtain ⟨I71, J72, B73, G74⟩ := u
  obtain ⟨hI75, eJ77, hB76, eG78, hx80⟩ := hp
  dsimp only at hI75 eJ77 hB76 eG78 hx80 Y
  rw [eJ77, eG78] at Y
  have hI81 : (∀ j, j ≠ 42 → I71 j = I j) := fun j h42 => (hI75 j h42).trans ((fun j h42 => (hI67 j h42)) j h42)
  have hB82 : (∀ j, j ≠ 0 → B73 j = B j) := fun j h0 => (hB76 j h0).trans ((fun j h0 => (hB68 j h0)) j h0)
  have ga83 : (B73 45) p0 = nI ns := by rw [hB76 45 (by decide)]; exact (show (B59 45) p0 = nI ns from ga69)
  obtain ⟨V84, hV84a, hV84b, hV84c⟩ := hx80
  exact m_retv hQQ X Y hr hlk ⟨(fun j h42 => (hI81 j h42)), rfl, (fun j h0 => (hB82 j h0)), rfl, ⟨V84, by omega, by omega, (show I71 42 = nI (V84) from hV84c)⟩⟩ d_nameField_67
set_option maxHeartbeats 4000000 in
set_option maxRecDepth 100000 in
theorem c_errorHead (l : Launch) (D : mD) (E : mE) (h : Nat) (q : Nat → Nat) (sz : Nat) (I : Nat → Int32) (J : Nat → Int64) (B : Nat → Nat → Int32) (G : Nat → Nat → Int64) (c0 tn : Nat) (hc : c0 < 128) (hw : I 4 = nI tn) (htn : tn ≤ 2000000000) (V : Nat) (hV : I 42 = nI V) (hVl : 1000 ≤ V) (hV6 : V ≤ 60000) : Met l y_errorHead (k_errorHead :: lw_tg) (mR 4 97) (va_Pc [.ref h, .int (nI c0)] (mPre D E h q (I, J, B, G) sz)) (va_Qv (fun (u : mS) => (∀ j, j ≠ 42 → u.1 j = I j) ∧ u.2.1 = J ∧ (∀ j, j ≠ 0 → u.2.2.1 j = B j) ∧ u.2.2.2 = G ∧ (∃ V2, V ≤ V2 + 100 ∧ V2 ≤ V ∧ u.1 42 = nI V2)) (mPost D E h q (mA E h q sz)) (mA E h q sz)) 0 0 (mA E h q sz) := by
  refine m_enter (by decide) rfl (Nat.le_of_ble_eq_true rfl) (fun p e s m below meth c ls AV QQ H locs hQQ X Y hZ hA hr hlk hml hl => ?_)
  have Y : mH D E (mA E h q sz) s.heap h q I J B G H locs := Y
  have hl : lv_has ls 2 [(0, .ref h), (1, .int (nI c0))] := hl
  refine lv_aload_n X.1 X.2.1 d_errorHead_0 rfl (lv_at hl 0 rfl) ?_
  refine lv_bipush (v := (nI 6)) X.1 X.2.1 d_errorHead_1 (by decide) ?_
  refine lv_iload_n X.1 X.2.1 d_errorHead_3 rfl (lv_at hl 1 rfl) ?_
  refine lv_i2l (v := lN (c0)) X.1 X.2.1 d_errorHead_4 (nI_l (by omega)) ?_
  refine m_callv (As := [.int (nI 6), .long (lN (c0))]) (rest := []) (n := 2) X Y hZ hA hml hl.1 (c_numberField_s l D E h q H.size I J B G (nI 6) (c0) (by omega) (V) (show I 42 = nI (V) from hV) (by omega) (by omega)) kl_numberField ks_numberField kx_numberField ki_numberField ini_M hd_numberField ⟨by decide, by decide⟩ rfl (Nat.le_of_ble_eq_true rfl) d_errorHead_5 ⟨Nat.le_refl _, Nat.le_refl _⟩ (fun u H locs hp Y => ?_)
  obtain ⟨I1, J2, B3, G4⟩ := u
  obtain ⟨hI5, eJ7, hB6, eG8, hx10⟩ := hp
  dsimp only at hI5 eJ7 hB6 eG8 hx10 Y
  rw [eJ7, eG8] at Y
  have hI11 : (∀ j, j ≠ 42 → I1 j = I j) := fun j h42 => (hI5 j h42).trans ((fun j h42 => rfl) j h42)
  have hB12 : (∀ j, j ≠ 0 → B3 j = B j) := fun j h0 => (hB6 j h0).trans ((fun j h0 => rfl) j h0)
  obtain ⟨V13, hV13a, hV13b, hV13c⟩ := hx10
  refine lv_aload_n X.1 X.2.1 d_errorHead_8 rfl (lv_at hl 0 rfl) ?_
  refine lv_iconst (v := (nI 5)) X.1 X.2.1 d_errorHead_9 (by decide) ?_
  refine lv_lconst (v := 0) X.1 X.2.1 d_errorHead_10 rfl ?_
  refine t_eql (y := lN 0) (by decide) ?_
  refine m_callv (As := [.int (nI 5), .long (lN 0)]) (rest := []) (n := 2) X Y hZ hA hml hl.1 (c_numberField_s l D E h q H.size I1 J B3 G (nI 5) (0) (by omega) (V13) (show I1 42 = nI (V13) from hV13c) (by omega) (by omega)) kl_numberField ks_numberField kx_numberField ki_numberField ini_M hd_numberField ⟨by decide, by decide⟩ rfl (Nat.le_of_ble_eq_true rfl) d_errorHead_11 ⟨Nat.le_refl _, Nat.le_refl _⟩ (fun u H locs hp Y => ?_)
  obtain ⟨I14, J15, B16, G17⟩ := u
  obtain ⟨hI18, eJ20, hB19, eG21, hx23⟩ := hp
  dsimp only at hI18 eJ20 hB19 eG21 hx23 Y
  rw [eJ20, eG21] at Y
  have hI24 : (∀ j, j ≠ 42 → I14 j = I j) := fun j h42 => (hI18 j h42).trans ((fun j h42 => (hI11 j h42)) j h42)
  have hB25 : (∀ j, j ≠ 0 → B16 j = B j) := fun j h0 => (hB19 j h0).trans ((fun j h0 => (hB12 j h0)) j h0)
  obtain ⟨V26, hV26a, hV26b, hV26c⟩ := hx23
  refine lv_aload_n X.1 X.2.1 d_errorHead_14 rfl (lv_at hl 0 rfl) ?_
  refine lv_iconst (v := (nI 4)) X.1 X.2.1 d_errorHead_15 (by decide) ?_
  refine lv_aload_n X.1 X.2.1 d_errorHead_16 rfl (lv_at hl 0 rfl) ?_
  refine m_get X Y 4 (by decide) lk_now (gf_now _ _ _) rfl d_errorHead_17 ?_
  refine t_eq (show I14 4 = nI (tn) from ((hI18 4 (by decide)).trans ((hI5 4 (by decide)).trans hw))) ?_
  refine lv_i2l (v := lN (tn)) X.1 X.2.1 d_errorHead_20 (nI_l (by omega)) ?_
  refine m_callv (As := [.int (nI 4), .long (lN (tn))]) (rest := []) (n := 2) X Y hZ hA hml hl.1 (c_timeField l D E h q H.size I14 J B16 G (nI 4) (tn) (by omega) (V26) (show I14 42 = nI (V26) from hV26c) (by omega) (by omega)) kl_timeField ks_timeField kx_timeField ki_timeField ini_M hd_timeField ⟨by decide, by decide⟩ rfl (Nat.le_of_ble_eq_true rfl) d_errorHead_21 ⟨Nat.le_refl _, Nat.le_refl _⟩ (fun u H locs hp Y => ?_)
  obtain ⟨I27, J28, B29, G30⟩ := u
  obtain ⟨hI31, eJ33, hB32, eG34, hx36⟩ := hp
  dsimp only at hI31 eJ33 hB32 eG34 hx36 Y
  rw [eJ33, eG34] at Y
  have hI37 : (∀ j, j ≠ 42 → I27 j = I j) := fun j h42 => (hI31 j h42).trans ((fun j h42 => (hI24 j h42)) j h42)
  have hB38 : (∀ j, j ≠ 0 → B29 j = B j) := fun j h0 => (hB32 j h0).trans ((fun j h0 => (hB25 j h0)) j h0)
  obtain ⟨V39, hV39a, hV39b, hV39c⟩ := hx36
  refine lv_aload_n X.1 X.2.1 d_errorHead_24 rfl (lv_at hl 0 rfl) ?_
  refine lv_iconst (v := (nI 1)) X.1 X.2.1 d_errorHead_25 (by decide) ?_
  refine lv_ldc2 (v := (30)) X.1 X.2.1 X.2.2.2.1 (X.2.2.1 _ cl_914) d_errorHead_26 ?_
  refine t_eql (y := lN 30) (by decide) ?_
  refine m_callv (As := [.int (nI 1), .long (lN 30)]) (rest := []) (n := 2) X Y hZ hA hml hl.1 (c_numberField_s l D E h q H.size I27 J B29 G (nI 1) (30) (by omega) (V39) (show I27 42 = nI (V39) from hV39c) (by omega) (by omega)) kl_numberField ks_numberField kx_numberField ki_numberField ini_M hd_numberField ⟨by decide, by decide⟩ rfl (Nat.le_of_ble_eq_true rfl) d_errorHead_29 ⟨Nat.le_refl _, Nat.le_refl _⟩ (fun u H locs hp Y => ?_)
  obtain ⟨I40, J41, B42, G43⟩ := u
  obtain ⟨hI44, eJ46, hB45, eG47, hx49⟩ := hp
  dsimp only at hI44 eJ46 hB45 eG47 hx49 Y
  rw [eJ46, eG47] at Y
  have hI50 : (∀ j, j ≠ 42 → I40 j = I j) := fun j h42 => (hI44 j h42).trans ((fun j h42 => (hI37 j h42)) j h42)
  have hB51 : (∀ j, j ≠ 0 → B42 j = B j) := fun j h0 => (hB45 j h0).trans ((fun j h0 => (hB38 j h0)) j h0)
  obtain ⟨V52, hV52a, hV52b, hV52c⟩ := hx49
  refine lv_aload_n X.1 X.2.1 d_errorHead_32 rfl (lv_at hl 0 rfl) ?_
  refine lv_iconst (v := (nI 0)) X.1 X.2.1 d_errorHead_33 (by decide) ?_
  refine lv_ldc2 (v := (5)) X.1 X.2.1 X.2.2.2.1 (X.2.2.1 _ cl_669) d_errorHead_34 ?_
  refine t_eql (y := lN 5) (by decide) ?_
  refine m_callv (As := [.int (nI 0), .long (lN 5)]) (rest := []) (n := 2) X Y hZ hA hml hl.1 (c_numberField_s l D E h q H.size I40 J B42 G (nI 0) (5) (by omega) (V52) (show I40 42 = nI (V52) from hV52c) (by omega) (by omega)) kl_numberField ks_numberField kx_numberField ki_numberField ini_M hd_numberField ⟨by decide, by decide⟩ rfl (Nat.le_of_ble_eq_true rfl) d_errorHead_37 ⟨Nat.le_refl _, Nat.le_refl _⟩ (fun u H locs hp Y => ?_)
  obtain ⟨I53, J54, B55, G56⟩ := u
  obtain ⟨hI57, eJ59, hB58, eG60, hx62⟩ := hp
  dsimp only at hI57 eJ59 hB58 eG60 hx62 Y
  rw [eJ59, eG60] at Y
  have hI63 : (∀ j, j ≠ 42 → I53 j = I j) := fun j h42 => (hI57 j h42).trans ((fun j h42 => (hI50 j h42)) j h42)
  have hB64 : (∀ j, j ≠ 0 → B55 j = B j) := fun j h0 => (hB58 j h0).trans ((fun j h0 => (hB51 j h0)) j h0)
  obtain ⟨V65, hV65a, hV65b, hV65c⟩ := hx62
  refine lv_aload_n X.1 X.2.1 d_errorHead_40 rfl (lv_at hl 0 rfl) ?_
  refine lv_bipush (v := (nI 48)) X.1 X.2.1 d_errorHead_41 (by decide) ?_
  refine lv_ldc (v := (60000)) X.1 X.2.1 X.2.2.2.1 (X.2.2.1 _ cn_9) d_errorHead_43 ?_
  refine t_eq (y := nI 60000) (by decide) ?_
  refine m_callv (As := [.int (nI 48), .int (nI 60000)]) (rest := []) (n := 2) X Y hZ hA hml hl.1 (c_head l D E h q H.size I53 J B55 G (nI 48) (60000) (V65) (show I53 42 = nI (V65) from hV65c) (by omega) (by omega) (by omega)) kl_head ks_head kx_head ki_head ini_M hd_head ⟨by decide, by decide⟩ rfl (Nat.le_of_ble_eq_true rfl) d_errorHead_45 ⟨Nat.le_refl _, Nat.le_refl _⟩ (fun u H locs hp Y => ?_)
  obtain ⟨I66, J67, B68, G69⟩ := u
  obtain ⟨hI70, eJ72, hB71, eG73, hx75⟩ := hp
  dsimp only at hI70 eJ72 hB71 eG73 hx75 Y
  rw [eJ72, eG73] at Y
  have hI76 : (∀ j, j ≠ 42 → I66 j = I j) := fun j h42 => (hI70 j h42).trans ((fun j h42 => (hI63 j h42)) j h42)
  have hB77 : (∀ j, j ≠ 0 → B68 j = B j) := fun j h0 => (hB71 j h0).trans ((fun j h0 => (hB64 j h0)) j h0)
  obtain ⟨V78, hV78a, hV78b, hV78c⟩ := hx75
  refine lv_aload_n X.1 X.2.1 d_errorHead_48 rfl (lv_at hl 0 rfl) ?_
  refine lv_bipush (v := (nI 126)) X.1 X.2.1 d_errorHead_49 (by decide) ?_
  refine lv_ldc (v := (60000)) X.1 X.2.1 X.2.2.2.1 (X.2.2.1 _ cn_9) d_errorHead_51 ?_
  refine t_eq (y := nI 60000) (by decide) ?_
  refine m_callv (As := [.int (nI 126), .int (nI 60000)]) (rest := []) (n := 2) X Y hZ hA hml hl.1 (c_head l D E h q H.size I66 J B68 G (nI 126) (60000) (V78) (show I66 42 = nI (V78) from hV78c) (by omega) (by omega) (by omega)) kl_head ks_head kx_head ki_head ini_M hd_head ⟨by decide, by decide⟩ rfl (Nat.le_of_ble_eq_true rfl) d_errorHead_53 ⟨Nat.le_refl _, Nat.le_refl _⟩ (fun u H locs hp Y => ?_)
  obtain ⟨I79, J80, B81, G82⟩ := u
  obtain ⟨hI83, eJ85, hB84, eG86, hx88⟩ := hp
  dsimp only at hI83 eJ85 hB84 eG86 hx88 Y
  rw [eJ85, eG86] at Y
  have hI89 : (∀ j, j ≠ 42 → I79 j = I j) := fun j h42 => (hI83 j h42).trans ((fun j h42 => (hI76 j h42)) j h42)
  have hB90 : (∀ j, j ≠ 0 → B81 j = B j) := fun j h0 => (hB84 j h0).trans ((fun j h0 => (hB77 j h0)) j h0)
  obtain ⟨V91, hV91a, hV91b, hV91c⟩ := hx88
  exact m_retv hQQ X Y hr hlk ⟨(fun j h42 => (hI89 j h42)), rfl, (fun j h0 => (hB90 j h0)), rfl, ⟨V91, by omega, by omega, (show I79 42 = nI (V91) from hV91c)⟩⟩ d_errorHead_56
set_option maxHeartbeats 4000000 in
set_option maxRecDepth 100000 in
theorem c_element_empty (l : Launch) (D : mD) (E : mE) (h : Nat) (q : Nat → Nat) (sz : Nat) (I : Nat → Int32) (J : Nat → Int64) (B : Nat → Nat → Int32) (G : Nat → Nat → Int64) (a3 : Int32) : Met l y_element (k_element :: lw_tg) (mR 0 0) (va_Pc [.ref h, .int (nI 0), .int (nI 0), .int a3] (mPre D E h q (I, J, B, G) sz)) (va_Qi (fun (r : Int32) (u : mS) => (∀ j, u.1 j = I j) ∧ u.2.1 = J ∧ (∀ j, u.2.2.1 j = B j) ∧ u.2.2.2 = G ∧ (r = nI 0)) (mPost D E h q (mA E h q sz)) (mA E h q sz)) 0 0 (mA E h q sz) := by
  refine m_enter (by decide) rfl (Nat.le_of_ble_eq_true rfl) (fun p e s m below meth c ls AV QQ H locs hQQ X Y hZ hA hr hlk hml hl => ?_)
  have Y : mH D E (mA E h q sz) s.heap h q I J B G H locs := Y
  have hl : lv_has ls 8 [(0, .ref h), (1, .int (nI 0)), (2, .int (nI 0)), (3, .int a3)] := hl
  refine lv_iload_n X.1 X.2.1 d_element_0 rfl (lv_at hl 1 rfl) ?_
  refine lv_iconst (v := (nI 2)) X.1 X.2.1 d_element_1 (by decide) ?_
  refine lv_iadd X.1 X.2.1 d_element_2 ?_
  refine t_eq (y := nI 2) (by decide) ?_
  refine lv_iload_n X.1 X.2.1 d_element_3 rfl (lv_at hl 2 rfl) ?_
  refine lv_icmp_gt (tgt := 21) X.1 X.2.1 d_element_4 (by decide) (fun c1 => ?_) (fun c1 => absurd ?_ c1)
  rotate_left
  · (rw [nI_ltI (by omega) (by omega)] <;> omega)
  rw [nI_ltI (by omega) (by omega)] at c1
  refine lv_iconst (v := (nI 0)) X.1 X.2.1 d_element_21 (by decide) ?_
  exact m_retz hQQ X Y hr hlk rfl ⟨(fun j  => rfl), rfl, (fun j  => rfl), rfl, rfl⟩ d_element_22
set_option maxHeartbeats 4000000 in
set_option maxRecDepth 100000 in
theorem c_whole_empty (l : Launch) (D : mD) (E : mE) (h : Nat) (q : Nat → Nat) (sz : Nat) (I : Nat → Int32) (J : Nat → Int64) (B : Nat → Nat → Int32) (G : Nat → Nat → Int64) (a3 : Int32) : Met l y_whole (k_whole :: lw_tg) (mR 1 27) (va_Pc [.ref h, .int (nI 0), .int (nI 0), .int a3] (mPre D E h q (I, J, B, G) sz)) (va_Qi (fun (r : Int32) (u : mS) => (∀ j, u.1 j = I j) ∧ u.2.1 = J ∧ (∀ j, u.2.2.1 j = B j) ∧ u.2.2.2 = G ∧ (r = nI 0)) (mPost D E h q (mA E h q sz)) (mA E h q sz)) 0 0 (mA E h q sz) := by
  refine m_enter (by decide) rfl (Nat.le_of_ble_eq_true rfl) (fun p e s m below meth c ls AV QQ H locs hQQ X Y hZ hA hr hlk hml hl => ?_)
  have Y : mH D E (mA E h q sz) s.heap h q I J B G H locs := Y
  have hl : lv_has ls 4 [(0, .ref h), (1, .int (nI 0)), (2, .int (nI 0)), (3, .int a3)] := hl
  refine lv_aload_n X.1 X.2.1 d_whole_0 rfl (lv_at hl 0 rfl) ?_
  refine lv_iload_n X.1 X.2.1 d_whole_1 rfl (lv_at hl 1 rfl) ?_
  refine lv_iload_n X.1 X.2.1 d_whole_2 rfl (lv_at hl 2 rfl) ?_
  refine lv_iload_n X.1 X.2.1 d_whole_3 rfl (lv_at hl 3 rfl) ?_
  refine m_calli (As := [.int (nI 0), .int (nI 0), .int a3]) (rest := []) (n := 3) X Y hZ hA hml hl.1 (c_element_empty l D E h q H.size I J B G a3) kl_element ks_element kx_element ki_element ini_M hd_element ⟨by decide, by decide⟩ rfl (Nat.le_of_ble_eq_true rfl) d_whole_4 ⟨Nat.le_refl _, Nat.le_refl _⟩ (fun r9 u H locs hp Y => ?_)
  obtain ⟨I1, J2, B3, G4⟩ := u
  obtain ⟨hI5, eJ7, hB6, eG8, pr9⟩ := hp
  dsimp only at hI5 eJ7 hB6 eG8 pr9 Y
  rw [eJ7, eG8] at Y
  rw [show I1 = I from funext hI5] at Y
  rw [show B3 = B from funext hB6] at Y
  refine t_eq pr9 ?_
  refine lv_if_eq (tgt := 22) X.1 X.2.1 d_whole_7 (by decide) (fun c12 => ?_) (fun c12 => absurd ?_ c12)
  rotate_left
  · (rw [← nI_0, nI_eq (by omega) (by omega)] <;> omega)
  rw [← nI_0] at c12
  rw [nI_eq (by omega) (by omega)] at c12
  refine lv_iconst (v := (nI 0)) X.1 X.2.1 d_whole_22 (by decide) ?_
  exact m_retz hQQ X Y hr hlk rfl ⟨(fun j  => rfl), rfl, (fun j  => rfl), rfl, rfl⟩ d_whole_23
set_option maxHeartbeats 4000000 in
set_option maxRecDepth 100000 in
theorem c_applied_empty (l : Launch) (D : mD) (E : mE) (h : Nat) (q : Nat → Nat) (sz : Nat) (I : Nat → Int32) (J : Nat → Int64) (B : Nat → Nat → Int32) (G : Nat → Nat → Int64) (a1 a5 : Int32) : Met l y_applied (k_applied :: lw_tg) (mR 2 50) (va_Pc [.ref h, .int a1, .ref (D.2.1 14), .int (nI 0), .int (nI 0), .int a5] (mPre D E h q (I, J, B, G) sz)) (va_Qi (fun (r : Int32) (u : mS) => (∀ j, u.1 j = I j) ∧ u.2.1 = J ∧ (∀ j, u.2.2.1 j = B j) ∧ u.2.2.2 = G ∧ (r = nI 0)) (mPost D E h q (mA E h q sz)) (mA E h q sz)) 0 0 (mA E h q sz) := by
  refine m_enter (by decide) rfl (Nat.le_of_ble_eq_true rfl) (fun p e s m below meth c ls AV QQ H locs hQQ X Y hZ hA hr hlk hml hl => ?_)
  have Y : mH D E (mA E h q sz) s.heap h q I J B G H locs := Y
  have hl : lv_has ls 6 [(0, .ref h), (1, .int a1), (2, .ref (D.2.1 14)), (3, .int (nI 0)), (4, .int (nI 0)), (5, .int a5)] := hl
  refine lv_aload_n X.1 X.2.1 d_applied_0 rfl (lv_at hl 0 rfl) ?_
  refine lv_iload_n X.1 X.2.1 d_applied_1 rfl (lv_at hl 3 rfl) ?_
  refine lv_iload X.1 X.2.1 d_applied_2 (lv_at hl 4 rfl) ?_
  refine lv_bipush (v := (nI 96)) X.1 X.2.1 d_applied_4 (by decide) ?_
  refine lv_iload_n X.1 X.2.1 d_applied_6 rfl (lv_at hl 1 rfl) ?_
  refine lv_iadd X.1 X.2.1 d_applied_7 ?_
  refine t_any (fun v1 => ?_)
  refine m_calli (As := [.int (nI 0), .int (nI 0), .int v1]) (rest := []) (n := 3) X Y hZ hA hml hl.1 (c_whole_empty l D E h q H.size I J B G v1) kl_whole ks_whole kx_whole ki_whole ini_M hd_whole ⟨by decide, by decide⟩ rfl (Nat.le_of_ble_eq_true rfl) d_applied_8 ⟨Nat.le_refl _, Nat.le_refl _⟩ (fun r10 u H locs hp Y => ?_)
  obtain ⟨I2, J3, B4, G5⟩ := u
  obtain ⟨hI6, eJ8, hB7, eG9, pr10⟩ := hp
  dsimp only at hI6 eJ8 hB7 eG9 pr10 Y
  rw [eJ8, eG9] at Y
  rw [show I2 = I from funext hI6] at Y
  rw [show B4 = B from funext hB7] at Y
  refine t_eq pr10 ?_
  refine lv_if_ne (tgt := 16) X.1 X.2.1 d_applied_11 (by decide) (fun c13 => absurd c13 ?_) (fun c13 => ?_)
  · (rw [← nI_0, nI_eq (by omega) (by omega)] <;> omega)
  rw [← nI_0] at c13
  rw [nI_eq (by omega) (by omega)] at c13
  refine lv_iconst (v := (nI 0)) X.1 X.2.1 d_applied_14 (by decide) ?_
  exact m_retz hQQ X Y hr hlk rfl ⟨(fun j  => rfl), rfl, (fun j  => rfl), rfl, rfl⟩ d_applied_15
set_option maxHeartbeats 4000000 in
set_option maxRecDepth 100000 in
theorem c_asked_empty (l : Launch) (D : mD) (E : mE) (h : Nat) (q : Nat → Nat) (sz : Nat) (I : Nat → Int32) (J : Nat → Int64) (B : Nat → Nat → Int32) (G : Nat → Nat → Int64)  : Met l y_asked (k_asked :: lw_tg) (mR 0 0) (va_Pc [.ref h, .int (nI 0)] (mPre D E h q (I, J, B, G) sz)) (va_Qi (fun (r : Int32) (u : mS) => (∀ j, j ≠ 69 → u.1 j = I j) ∧ u.2.1 = J ∧ (∀ j, u.2.2.1 j = B j) ∧ u.2.2.2 = G ∧ (r = nI 60)) (mPost D E h q (mA E h q sz)) (mA E h q sz)) 0 0 (mA E h q sz) := by
  refine m_enter (by decide) rfl (Nat.le_of_ble_eq_true rfl) (fun p e s m below meth c ls AV QQ H locs hQQ X Y hZ hA hr hlk hml hl => ?_)
  have Y : mH D E (mA E h q sz) s.heap h q I J B G H locs := Y
  have hl : lv_has ls 4 [(0, .ref h), (1, .int (nI 0))] := hl
  refine lv_iload_n X.1 X.2.1 d_asked_0 rfl (lv_at hl 1 rfl) ?_
  refine lv_if_ne (tgt := 8) X.1 X.2.1 d_asked_1 (by decide) (fun c1 => absurd c1 ?_) (fun c1 => ?_)
  · (rw [← nI_0, nI_eq (by omega) (by omega)] <;> omega)
  rw [← nI_0] at c1
  rw [nI_eq (by omega) (by omega)] at c1
  refine lv_iconst (v := (nI 0)) X.1 X.2.1 d_asked_4 (by decide) ?_
  refine lv_goto (tgt := 18) X.1 X.2.1 d_asked_5 (by decide) ?_
  refine lv_istore_n (lv' := [(2, .int (nI 0)), (0, .ref h), (1, .int (nI 0))]) X.1 X.2.1 d_asked_18 rfl hl (by decide) rfl (fun ls hl => ?_)
  refine lv_aload_n X.1 X.2.1 d_asked_19 rfl (lv_at hl 1 rfl) ?_
  refine lv_iload_n X.1 X.2.1 d_asked_20 rfl (lv_at hl 0 rfl) ?_
  refine lv_bipush (v := (nI 106)) X.1 X.2.1 d_asked_21 (by decide) ?_
  refine lv_icmp_ne (tgt := 30) X.1 X.2.1 d_asked_23 (by decide) (fun c2 => ?_) (fun c2 => absurd c2 ?_)
  rotate_left
  · (rw [nI_eq (by omega) (by omega)] <;> omega)
  rw [nI_eq (by omega) (by omega)] at c2
  refine lv_iconst (v := (nI 0)) X.1 X.2.1 d_asked_30 (by decide) ?_
  refine m_puti X Y 69 (by decide) lk_isAs rfl rfl (t_M_ok 69 (by decide)) rfl rfl (sf_isAs _ _ _ _) (Nat.le_of_ble_eq_true rfl) d_asked_31 (fun H locs Y => ?_)
  refine lv_aload_n X.1 X.2.1 d_asked_34 rfl (lv_at hl 1 rfl) ?_
  refine m_get X Y 69 (by decide) lk_isAs (gf_isAs _ _ _) rfl d_asked_35 ?_
  refine t_eq (show (upd I 69 (nI 0)) 69 = nI (0) from pk_us) ?_
  refine lv_if_eq (tgt := 56) X.1 X.2.1 d_asked_38 (by decide) (fun c3 => ?_) (fun c3 => absurd ?_ c3)
  rotate_left
  · (rw [← nI_0, nI_eq (by omega) (by omega)] <;> omega)
  rw [← nI_0] at c3
  rw [nI_eq (by omega) (by omega)] at c3
  refine lv_iload_n X.1 X.2.1 d_asked_56 rfl (lv_at hl 0 rfl) ?_
  refine lv_bipush (v := (nI 108)) X.1 X.2.1 d_asked_57 (by decide) ?_
  refine lv_icmp_ne (tgt := 81) X.1 X.2.1 d_asked_59 (by decide) (fun c4 => ?_) (fun c4 => absurd c4 ?_)
  rotate_left
  · (rw [nI_eq (by omega) (by omega)] <;> omega)
  rw [nI_eq (by omega) (by omega)] at c4
  refine lv_iconst (v := (nI 0)) X.1 X.2.1 d_asked_81 (by decide) ?_
  refine lv_istore_n (lv' := [(3, .int (nI 0)), (2, .int (nI 0)), (0, .ref h), (1, .int (nI 0))]) X.1 X.2.1 d_asked_82 rfl hl (by decide) rfl (fun ls hl => ?_)
  refine lv_iload_n X.1 X.2.1 d_asked_83 rfl (lv_at hl 0 rfl) ?_
  refine lv_if_ne (tgt := 90) X.1 X.2.1 d_asked_84 (by decide) (fun c5 => absurd c5 ?_) (fun c5 => ?_)
  · (rw [← nI_0, nI_eq (by omega) (by omega)] <;> omega)
  rw [← nI_0] at c5
  rw [nI_eq (by omega) (by omega)] at c5
  refine lv_bipush (v := (nI 60)) X.1 X.2.1 d_asked_87 (by decide) ?_
  exact m_reti hQQ X Y hr hlk ⟨(fun j h69 => ((if_neg h69).trans rfl)), rfl, (fun j  => rfl), rfl, rfl⟩ d_asked_89
set_option maxHeartbeats 4000000 in
set_option maxRecDepth 100000 in
theorem c_served_empty (l : Launch) (D : mD) (E : mE) (h : Nat) (q : Nat → Nat) (sz : Nat) (I : Nat → Int32) (J : Nat → Int64) (B : Nat → Nat → Int32) (G : Nat → Nat → Int64) (a1 : Int32) : Met l y_served (k_served :: lw_tg) (mR 3 75) (va_Pc [.ref h, .int a1, .int (nI 0)] (mPre D E h q (I, J, B, G) sz)) (va_Qi (fun (r : Int32) (u : mS) => (∀ j, u.1 j = I j) ∧ u.2.1 = J ∧ (∀ j, u.2.2.1 j = B j) ∧ u.2.2.2 = G ∧ (r = (-60))) (mPost D E h q (mA E h q sz)) (mA E h q sz)) 0 0 (mA E h q sz) := by
  refine m_enter (by decide) rfl (Nat.le_of_ble_eq_true rfl) (fun p e s m below meth c ls AV QQ H locs hQQ X Y hZ hA hr hlk hml hl => ?_)
  have Y : mH D E (mA E h q sz) s.heap h q I J B G H locs := Y
  have hl : lv_has ls 8 [(0, .ref h), (1, .int a1), (2, .int (nI 0))] := hl
  refine lv_aload_n X.1 X.2.1 d_served_0 rfl (lv_at hl 0 rfl) ?_
  refine lv_bipush (v := (nI 14)) X.1 X.2.1 d_served_1 (by decide) ?_
  refine m_ldcSW (i := 14) X (by decide) (by decide) d_served_3 ?_
  refine lv_iconst (v := (nI 0)) X.1 X.2.1 d_served_6 (by decide) ?_
  refine lv_iload_n X.1 X.2.1 d_served_7 rfl (lv_at hl 2 rfl) ?_
  refine lv_iconst (v := (nI 2)) X.1 X.2.1 d_served_8 (by decide) ?_
  refine m_calli (As := [.int (nI 14), .ref (D.2.1 14), .int (nI 0), .int (nI 0), .int (nI 2)]) (rest := []) (n := 5) X Y hZ hA hml hl.1 (c_applied_empty l D E h q H.size I J B G (nI 14) (nI 2)) kl_applied ks_applied kx_applied ki_applied ini_M hd_applied ⟨by decide, by decide⟩ rfl (Nat.le_of_ble_eq_true rfl) d_served_9 ⟨Nat.le_refl _, Nat.le_refl _⟩ (fun r9 u H locs hp Y => ?_)
  obtain ⟨I1, J2, B3, G4⟩ := u
  obtain ⟨hI5, eJ7, hB6, eG8, pr9⟩ := hp
  dsimp only at hI5 eJ7 hB6 eG8 pr9 Y
  rw [eJ7, eG8] at Y
  rw [show I1 = I from funext hI5] at Y
  rw [show B3 = B from funext hB6] at Y
  refine t_eq pr9 ?_
  refine lv_if_ne (tgt := 18) X.1 X.2.1 d_served_12 (by decide) (fun c12 => absurd c12 ?_) (fun c12 => ?_)
  · (rw [← nI_0, nI_eq (by omega) (by omega)] <;> omega)
  rw [← nI_0] at c12
  rw [nI_eq (by omega) (by omega)] at c12
  refine lv_bipush (v := (-60)) X.1 X.2.1 d_served_15 (by decide) ?_
  exact m_reti hQQ X Y hr hlk ⟨(fun j  => rfl), rfl, (fun j  => rfl), rfl, rfl⟩ d_served_17
set_option maxHeartbeats 4000000 in
set_option maxRecDepth 100000 in
theorem c_error_60 (l : Launch) (D : mD) (E : mE) (h : Nat) (q : Nat → Nat) (sz : Nat) (I : Nat → Int32) (J : Nat → Int64) (B : Nat → Nat → Int32) (G : Nat → Nat → Int64) (hd : I 68 = nI 0) (hrd : I 67 = nI 0) (hns : B 45 0 = nI 12) (hw : I 4 = nI 1000000000) : Met l y_error (k_error :: lw_tg) (mR 6 131) (va_Pc [.ref h, .int (nI 60)] (mPre D E h q (I, J, B, G) sz)) (va_Qv (fun (u : mS) => (∀ j, j ≠ 3 → j ≠ 42 → u.1 j = I j) ∧ u.2.1 = J ∧ (∀ j, j ≠ 0 → j ≠ 1 → u.2.2.1 j = B j) ∧ u.2.2.2 = G) (mPost D E h q (mA E h q sz)) (mA E h q sz)) 0 0 (mA E h q sz) := by
  refine m_enter (by decide) rfl (Nat.le_of_ble_eq_true rfl) (fun p e s m below meth c ls AV QQ H locs hQQ X Y hZ hA hr hlk hml hl => ?_)
  have Y : mH D E (mA E h q sz) s.heap h q I J B G H locs := Y
  have hl : lv_has ls 5 [(0, .ref h), (1, .int (nI 60))] := hl
  refine lv_aload_n X.1 X.2.1 d_error_0 rfl (lv_at hl 0 rfl) ?_
  refine m_callv (As := []) (rest := []) (n := 0) X Y hZ hA hml hl.1 (c_start l D E h q H.size I J B G ) kl_start ks_start kx_start ki_start ini_M hd_start ⟨by decide, by decide⟩ rfl (Nat.le_of_ble_eq_true rfl) d_error_1 ⟨Nat.le_refl _, Nat.le_refl _⟩ (fun u H locs hp Y => ?_)
  obtain ⟨I1, J2, B3, G4⟩ := u
  obtain ⟨hI5, eJ7, hB6, eG8, hk10⟩ := hp
  dsimp only at hI5 eJ7 hB6 eG8 hk10 Y
  rw [eJ7, eG8] at Y
  rw [show B3 = B from funext hB6] at Y
  have hI11 : (∀ j, j ≠ 3 → j ≠ 42 → I1 j = I j) := fun j h3 h42 => (hI5 j h42).trans ((fun j h3 h42 => rfl) j h3 h42)
  refine lv_aload_n X.1 X.2.1 d_error_4 rfl (lv_at hl 0 rfl) ?_
  refine m_get X Y 68 (by decide) lk_hasData (gf_hasData _ _ _) rfl d_error_5 ?_
  refine t_eq (show I1 68 = nI (0) from ((hI5 68 (by decide)).trans hd)) ?_
  refine lv_if_eq (tgt := 138) X.1 X.2.1 d_error_8 (by decide) (fun c13 => ?_) (fun c13 => absurd ?_ c13)
  rotate_left
  · (rw [← nI_0, nI_eq (by omega) (by omega)] <;> omega)
  rw [← nI_0] at c13
  rw [nI_eq (by omega) (by omega)] at c13
  refine lv_aload_n X.1 X.2.1 d_error_138 rfl (lv_at hl 0 rfl) ?_
  refine m_get X Y 67 (by decide) lk_isRead (gf_isRead _ _ _) rfl d_error_139 ?_
  refine t_eq (show I1 67 = nI (0) from ((hI5 67 (by decide)).trans hrd)) ?_
  refine lv_if_eq (tgt := 175) X.1 X.2.1 d_error_142 (by decide) (fun c14 => ?_) (fun c14 => absurd ?_ c14)
  rotate_left
  · (rw [← nI_0, nI_eq (by omega) (by omega)] <;> omega)
  rw [← nI_0] at c14
  rw [nI_eq (by omega) (by omega)] at c14
  refine lv_aload_n X.1 X.2.1 d_error_175 rfl (lv_at hl 0 rfl) ?_
  refine lv_bipush (v := (nI 10)) X.1 X.2.1 d_error_176 (by decide) ?_
  refine lv_iconst (v := (nI 0)) X.1 X.2.1 d_error_178 (by decide) ?_
  refine lv_iconst (v := (nI 2)) X.1 X.2.1 d_error_179 (by decide) ?_
  refine m_callv (As := [.int (nI 10), .int (nI 0), .int (nI 2)]) (rest := []) (n := 3) X Y hZ hA hml hl.1 (c_nameField l D E h q H.size I1 J B G (nI 10) (0) (12) (by omega) (show B 45 (0) = nI (12) from hns) (by omega) (60000) (show I1 42 = nI (60000) from hk10) (by omega) (by omega)) kl_nameField ks_nameField kx_nameField ki_nameField ini_M hd_nameField ⟨by decide, by decide⟩ rfl (Nat.le_of_ble_eq_true rfl) d_error_180 ⟨Nat.le_refl _, Nat.le_refl _⟩ (fun u H locs hp Y => ?_)
  obtain ⟨I15, J16, B17, G18⟩ := u
  obtain ⟨hI19, eJ21, hB20, eG22, hx24⟩ := hp
  dsimp only at hI19 eJ21 hB20 eG22 hx24 Y
  rw [eJ21, eG22] at Y
  have hI25 : (∀ j, j ≠ 3 → j ≠ 42 → I15 j = I j) := fun j h3 h42 => (hI19 j h42).trans ((fun j h3 h42 => (hI11 j h3 h42)) j h3 h42)
  have hB26 : (∀ j, j ≠ 0 → j ≠ 1 → B17 j = B j) := fun j h0 h1 => (hB20 j h0).trans ((fun j h0 h1 => rfl) j h0 h1)
  have ga27 : (B17 45) 0 = nI 12 := by rw [hB20 45 (by decide)]; exact (show (B 45) 0 = nI 12 from hns)
  obtain ⟨V28, hV28a, hV28b, hV28c⟩ := hx24
  refine lv_aload_n X.1 X.2.1 d_error_183 rfl (lv_at hl 0 rfl) ?_
  refine lv_bipush (v := (nI 9)) X.1 X.2.1 d_error_184 (by decide) ?_
  refine m_ldcSW (i := 2) X (by decide) (by decide) d_error_186 ?_
  refine m_callv (As := [.int (nI 9), .ref (D.2.1 2)]) (rest := []) (n := 2) X Y hZ hA hml hl.1 (c_wordField_HOUSE l D E h q H.size I15 J B17 G (nI 9) (V28) (show I15 42 = nI (V28) from hV28c) (by omega) (by omega)) kl_wordField ks_wordField kx_wordField ki_wordField ini_M hd_wordField ⟨by decide, by decide⟩ rfl (Nat.le_of_ble_eq_true rfl) d_error_189 ⟨Nat.le_refl _, Nat.le_refl _⟩ (fun u H locs hp Y => ?_)
  obtain ⟨I29, J30, B31, G32⟩ := u
  obtain ⟨hI33, eJ35, hB34, eG36, hx38⟩ := hp
  dsimp only at hI33 eJ35 hB34 eG36 hx38 Y
  rw [eJ35, eG36] at Y
  have hI39 : (∀ j, j ≠ 3 → j ≠ 42 → I29 j = I j) := fun j h3 h42 => (hI33 j h42).trans ((fun j h3 h42 => (hI25 j h3 h42)) j h3 h42)
  have hB40 : (∀ j, j ≠ 0 → j ≠ 1 → B31 j = B j) := fun j h0 h1 => (hB34 j h0).trans ((fun j h0 h1 => (hB26 j h0 h1)) j h0 h1)
  have ga41 : (B31 45) 0 = nI 12 := by rw [hB34 45 (by decide)]; exact (show (B17 45) 0 = nI 12 from ga27)
  obtain ⟨V42, hV42a, hV42b, hV42c⟩ := hx38
  refine lv_aload_n X.1 X.2.1 d_error_192 rfl (lv_at hl 0 rfl) ?_
  refine m_get X Y 67 (by decide) lk_isRead (gf_isRead _ _ _) rfl d_error_193 ?_
  refine t_eq (show I29 67 = nI (0) from ((hI33 67 (by decide)).trans ((hI19 67 (by decide)).trans ((hI5 67 (by decide)).trans hrd)))) ?_
  refine lv_if_eq (tgt := 251) X.1 X.2.1 d_error_196 (by decide) (fun c43 => ?_) (fun c43 => absurd ?_ c43)
  rotate_left
  · (rw [← nI_0, nI_eq (by omega) (by omega)] <;> omega)
  rw [← nI_0] at c43
  rw [nI_eq (by omega) (by omega)] at c43
  refine lv_aload_n X.1 X.2.1 d_error_251 rfl (lv_at hl 0 rfl) ?_
  refine lv_iload_n X.1 X.2.1 d_error_252 rfl (lv_at hl 1 rfl) ?_
  refine m_callv (As := [.int (nI 60)]) (rest := []) (n := 1) X Y hZ hA hml hl.1 (c_errorHead l D E h q H.size I29 J B31 G (60) (1000000000) (by omega) (show I29 4 = nI (1000000000) from ((hI33 4 (by decide)).trans ((hI19 4 (by decide)).trans ((hI5 4 (by decide)).trans hw)))) (by omega) (V42) (show I29 42 = nI (V42) from hV42c) (by omega) (by omega)) kl_errorHead ks_errorHead kx_errorHead ki_errorHead ini_M hd_errorHead ⟨by decide, by decide⟩ rfl (Nat.le_of_ble_eq_true rfl) d_error_253 ⟨Nat.le_refl _, Nat.le_refl _⟩ (fun u H locs hp Y => ?_)
  obtain ⟨I44, J45, B46, G47⟩ := u
  obtain ⟨hI48, eJ50, hB49, eG51, hx53⟩ := hp
  dsimp only at hI48 eJ50 hB49 eG51 hx53 Y
  rw [eJ50, eG51] at Y
  have hI54 : (∀ j, j ≠ 3 → j ≠ 42 → I44 j = I j) := fun j h3 h42 => (hI48 j h42).trans ((fun j h3 h42 => (hI39 j h3 h42)) j h3 h42)
  have hB55 : (∀ j, j ≠ 0 → j ≠ 1 → B46 j = B j) := fun j h0 h1 => (hB49 j h0).trans ((fun j h0 h1 => (hB40 j h0 h1)) j h0 h1)
  have ga56 : (B46 45) 0 = nI 12 := by rw [hB49 45 (by decide)]; exact (show (B31 45) 0 = nI 12 from ga41)
  obtain ⟨V57, hV57a, hV57b, hV57c⟩ := hx53
  refine lv_aload_n X.1 X.2.1 d_error_256 rfl (lv_at hl 0 rfl) ?_
  refine m_callv (As := []) (rest := []) (n := 0) X Y hZ hA hml hl.1 (c_written l D E h q H.size I44 J B46 G (V57) (show I44 42 = nI (V57) from hV57c) (by omega) (by omega)) kl_written ks_written kx_written ki_written ini_M hd_written ⟨by decide, by decide⟩ rfl (Nat.le_of_ble_eq_true rfl) d_error_257 ⟨Nat.le_refl _, Nat.le_refl _⟩ (fun u H locs hp Y => ?_)
  obtain ⟨I58, J59, B60, G61⟩ := u
  obtain ⟨hI62, eJ64, hB63, eG65, hk67⟩ := hp
  dsimp only at hI62 eJ64 hB63 eG65 hk67 Y
  rw [eJ64, eG65] at Y
  have hI68 : (∀ j, j ≠ 3 → j ≠ 42 → I58 j = I j) := fun j h3 h42 => (hI62 j h3).trans ((fun j h3 h42 => (hI54 j h3 h42)) j h3 h42)
  have hB69 : (∀ j, j ≠ 0 → j ≠ 1 → B60 j = B j) := fun j h0 h1 => (hB63 j h1).trans ((fun j h0 h1 => (hB55 j h0 h1)) j h0 h1)
  have ga70 : (B60 45) 0 = nI 12 := by rw [hB63 45 (by decide)]; exact (show (B46 45) 0 = nI 12 from ga56)
  exact m_retv hQQ X Y hr hlk ⟨(fun j h3 h42 => (hI68 j h3 h42)), rfl, (fun j h0 h1 => (hB69 j h0 h1)), rfl⟩ d_error_260
set_option maxHeartbeats 4000000 in
set_option maxRecDepth 100000 in
theorem c_kdc_new (l : Launch) (D : mD) (E : mE) (h : Nat) (q : Nat → Nat) (sz : Nat) (I : Nat → Int32) (J : Nat → Int64) (B : Nat → Nat → Int32) (G : Nat → Nat → Int64) (hn : I 2 = nI 0) (hns : B 45 0 = nI 12) (hw : I 4 = nI 1000000000) : Met l y_kdc (k_kdc :: lw_tg) (mR 7 155) (va_Pc [.ref h] (mPre D E h q (I, J, B, G) sz)) (va_Qi (fun (r : Int32) (u : mS) => (∀ j, j ≠ 2 → j ≠ 3 → j ≠ 42 → j ≠ 67 → j ≠ 68 → j ≠ 69 → u.1 j = I j) ∧ u.2.1 = J ∧ (∀ j, j ≠ 0 → j ≠ 1 → u.2.2.1 j = B j) ∧ u.2.2.2 = G ∧ (r = nI 60)) (mPost D E h q (mA E h q sz)) (mA E h q sz)) 0 0 (mA E h q sz) := by
  refine m_enter (by decide) rfl (Nat.le_of_ble_eq_true rfl) (fun p e s m below meth c ls AV QQ H locs hQQ X Y hZ hA hr hlk hml hl => ?_)
  have Y : mH D E (mA E h q sz) s.heap h q I J B G H locs := Y
  have hl : lv_has ls 3 [(0, .ref h)] := hl
  refine lv_aload_n X.1 X.2.1 d_kdc_0 rfl (lv_at hl 0 rfl) ?_
  refine m_get X Y 2 (by decide) lk_length (gf_length _ _ _) rfl d_kdc_1 ?_
  refine t_eq (show I 2 = nI (0) from hn) ?_
  refine lv_istore_n (lv' := [(1, .int (nI (0))), (0, .ref h)]) X.1 X.2.1 d_kdc_4 rfl hl (by decide) rfl (fun ls hl => ?_)
  refine lv_aload_n X.1 X.2.1 d_kdc_5 rfl (lv_at hl 1 rfl) ?_
  refine lv_iconst (v := (nI 0)) X.1 X.2.1 d_kdc_6 (by decide) ?_
  refine m_puti X Y 2 (by decide) lk_length rfl rfl (t_M_ok 2 (by decide)) rfl rfl (sf_length _ _ _ _) (Nat.le_of_ble_eq_true rfl) d_kdc_7 (fun H locs Y => ?_)
  refine lv_aload_n X.1 X.2.1 d_kdc_10 rfl (lv_at hl 1 rfl) ?_
  refine lv_iconst (v := (nI 0)) X.1 X.2.1 d_kdc_11 (by decide) ?_
  refine m_puti X Y 67 (by decide) lk_isRead rfl rfl (t_M_ok 67 (by decide)) rfl rfl (sf_isRead _ _ _ _) (Nat.le_of_ble_eq_true rfl) d_kdc_12 (fun H locs Y => ?_)
  refine lv_aload_n X.1 X.2.1 d_kdc_15 rfl (lv_at hl 1 rfl) ?_
  refine lv_iconst (v := (nI 0)) X.1 X.2.1 d_kdc_16 (by decide) ?_
  refine m_puti X Y 68 (by decide) lk_hasData rfl rfl (t_M_ok 68 (by decide)) rfl rfl (sf_hasData _ _ _ _) (Nat.le_of_ble_eq_true rfl) d_kdc_17 (fun H locs Y => ?_)
  refine lv_aload_n X.1 X.2.1 d_kdc_20 rfl (lv_at hl 1 rfl) ?_
  refine lv_iload_n X.1 X.2.1 d_kdc_21 rfl (lv_at hl 0 rfl) ?_
  refine m_calli (As := [.int (nI (0))]) (rest := []) (n := 1) X Y hZ hA hml hl.1 (c_asked_empty l D E h q H.size (upd (upd (upd I 2 (nI 0)) 67 (nI 0)) 68 (nI 0)) J B G ) kl_asked ks_asked kx_asked ki_asked ini_M hd_asked ⟨by decide, by decide⟩ rfl (Nat.le_of_ble_eq_true rfl) d_kdc_22 ⟨Nat.le_refl _, Nat.le_refl _⟩ (fun r9 u H locs hp Y => ?_)
  obtain ⟨I1, J2, B3, G4⟩ := u
  obtain ⟨hI5, eJ7, hB6, eG8, pr9⟩ := hp
  dsimp only at hI5 eJ7 hB6 eG8 pr9 Y
  rw [eJ7, eG8] at Y
  rw [show B3 = B from funext hB6] at Y
  have hI10 : (∀ j, j ≠ 2 → j ≠ 3 → j ≠ 42 → j ≠ 67 → j ≠ 68 → j ≠ 69 → I1 j = I j) := fun j h2 h3 h42 h67 h68 h69 => (hI5 j h69).trans ((fun j h2 h3 h42 h67 h68 h69 => ((if_neg h68).trans ((if_neg h67).trans ((if_neg h2).trans rfl)))) j h2 h3 h42 h67 h68 h69)
  refine t_eq pr9 ?_
  refine lv_istore_n (lv' := [(2, .int (nI 60)), (1, .int (nI (0))), (0, .ref h)]) X.1 X.2.1 d_kdc_25 rfl hl (by decide) rfl (fun ls hl => ?_)
  refine lv_iload_n X.1 X.2.1 d_kdc_26 rfl (lv_at hl 0 rfl) ?_
  refine lv_if_eq (tgt := 35) X.1 X.2.1 d_kdc_27 (by decide) (fun c12 => absurd c12 ?_) (fun c12 => ?_)
  · (rw [← nI_0, nI_eq (by omega) (by omega)] <;> omega)
  rw [← nI_0] at c12
  rw [nI_eq (by omega) (by omega)] at c12
  refine lv_aload_n X.1 X.2.1 d_kdc_30 rfl (lv_at hl 2 rfl) ?_
  refine lv_iload_n X.1 X.2.1 d_kdc_31 rfl (lv_at hl 0 rfl) ?_
  refine m_callv (As := [.int (nI 60)]) (rest := []) (n := 1) X Y hZ hA hml hl.1 (c_error_60 l D E h q H.size I1 J B G (show I1 68 = nI 0 from ((hI5 68 (by decide)).trans pk_us)) (show I1 67 = nI 0 from ((hI5 67 (by decide)).trans ((pk_un (by decide)).trans pk_us))) (show B 45 0 = nI 12 from hns) (show I1 4 = nI 1000000000 from ((hI5 4 (by decide)).trans ((pk_un (by decide)).trans ((pk_un (by decide)).trans ((pk_un (by decide)).trans hw)))))) kl_error ks_error kx_error ki_error ini_M hd_error ⟨by decide, by decide⟩ rfl (Nat.le_of_ble_eq_true rfl) d_kdc_32 ⟨Nat.le_refl _, Nat.le_refl _⟩ (fun u H locs hp Y => ?_)
  obtain ⟨I13, J14, B15, G16⟩ := u
  obtain ⟨hI17, eJ19, hB18, eG20⟩ := hp
  dsimp only at hI17 eJ19 hB18 eG20 Y
  rw [eJ19, eG20] at Y
  have hI22 : (∀ j, j ≠ 2 → j ≠ 3 → j ≠ 42 → j ≠ 67 → j ≠ 68 → j ≠ 69 → I13 j = I j) := fun j h2 h3 h42 h67 h68 h69 => (hI17 j h3 h42).trans ((fun j h2 h3 h42 h67 h68 h69 => (hI10 j h2 h3 h42 h67 h68 h69)) j h2 h3 h42 h67 h68 h69)
  have hB23 : (∀ j, j ≠ 0 → j ≠ 1 → B15 j = B j) := fun j h0 h1 => (hB18 j h0 h1).trans ((fun j h0 h1 => rfl) j h0 h1)
  have ga24 : (B15 45) 0 = nI 12 := by rw [hB18 45 (by decide) (by decide)]; exact (show (B 45) 0 = nI 12 from hns)
  refine lv_iload_n X.1 X.2.1 d_kdc_35 rfl (lv_at hl 0 rfl) ?_
  exact m_reti hQQ X Y hr hlk ⟨(fun j h2 h3 h42 h67 h68 h69 => (hI22 j h2 h3 h42 h67 h68 h69)), rfl, (fun j h0 h1 => (hB23 j h0 h1)), rfl, rfl⟩ d_kdc_36
set_option maxHeartbeats 4000000 in
set_option maxRecDepth 100000 in
theorem c_serve_new (l : Launch) (D : mD) (E : mE) (h : Nat) (q : Nat → Nat) (sz : Nat) (I : Nat → Int32) (J : Nat → Int64) (B : Nat → Nat → Int32) (G : Nat → Nat → Int64) (a1 : Int32) (hn : I 2 = nI 0) (hp : I 43 = nI 1) (hns : B 45 0 = nI 12) (hw : I 4 = nI 1000000000) : Met l y_serve (k_serve :: lw_tg) (mR 6 131) (va_Pc [.ref h, .int a1] (mPre D E h q (I, J, B, G) sz)) (va_Qi (fun (r : Int32) (u : mS) => (∀ j, j ≠ 2 → j ≠ 3 → j ≠ 42 → u.1 j = I j) ∧ u.2.1 = J ∧ (∀ j, j ≠ 0 → j ≠ 1 → u.2.2.1 j = B j) ∧ u.2.2.2 = G ∧ (r = (if a1 = nI 0 then (-60) else (-1)))) (mPost D E h q (mA E h q sz)) (mA E h q sz)) 0 0 (mA E h q sz) := by
  refine m_enter (by decide) rfl (Nat.le_of_ble_eq_true rfl) (fun p e s m below meth c ls AV QQ H locs hQQ X Y hZ hA hr hlk hml hl => ?_)
  have Y : mH D E (mA E h q sz) s.heap h q I J B G H locs := Y
  have hl : lv_has ls 4 [(0, .ref h), (1, .int a1)] := hl
  refine lv_aload_n X.1 X.2.1 d_serve_0 rfl (lv_at hl 0 rfl) ?_
  refine m_get X Y 2 (by decide) lk_length (gf_length _ _ _) rfl d_serve_1 ?_
  refine t_eq (show I 2 = nI (0) from hn) ?_
  refine lv_istore_n (lv' := [(2, .int (nI (0))), (0, .ref h), (1, .int a1)]) X.1 X.2.1 d_serve_4 rfl hl (by decide) rfl (fun ls hl => ?_)
  refine lv_aload_n X.1 X.2.1 d_serve_5 rfl (lv_at hl 1 rfl) ?_
  refine lv_iconst (v := (nI 0)) X.1 X.2.1 d_serve_6 (by decide) ?_
  refine m_puti X Y 2 (by decide) lk_length rfl rfl (t_M_ok 2 (by decide)) rfl rfl (sf_length _ _ _ _) (Nat.le_of_ble_eq_true rfl) d_serve_7 (fun H locs Y => ?_)
  refine lv_iload_n X.1 X.2.1 d_serve_10 rfl (lv_at hl 2 rfl) ?_
  refine lv_if_lt (tgt := 22) X.1 X.2.1 d_serve_11 (by decide) (fun c1 => ?_) (fun c1 => ?_)
  · skip
    refine lv_iconst (v := (-1)) X.1 X.2.1 d_serve_22 (by decide) ?_
    exact m_reti hQQ X Y hr hlk ⟨(fun j h2 h3 h42 => ((if_neg h2).trans rfl)), rfl, (fun j h0 h1 => rfl), rfl, (by rw [if_neg (by simp only [Int32.lt_iff_toInt_lt, Int32.le_iff_toInt_le, ← Int32.toInt_inj, show (nI 0).toInt = 0 from rfl, show (nI 1).toInt = 1 from rfl, show (nI 2).toInt = 2 from rfl, show (nI 3).toInt = 3 from rfl, show (nI 7).toInt = 7 from rfl, show (nI 8).toInt = 8 from rfl, show (nI 63).toInt = 63 from rfl, show (nI 200).toInt = 200 from rfl, show (nI 1000000).toInt = 1000000 from rfl, show (nI 10000000).toInt = 10000000 from rfl, show (nI 2000000000).toInt = 2000000000 from rfl, show (0 : Int32).toInt = 0 from rfl, show (-1 : Int32).toInt = -1 from rfl] at c1 ⊢ <;> omega)])⟩ d_serve_23
  · skip
    refine lv_iload_n X.1 X.2.1 d_serve_14 rfl (lv_at hl 2 rfl) ?_
    refine lv_aload_n X.1 X.2.1 d_serve_15 rfl (lv_at hl 1 rfl) ?_
    refine m_get X Y 43 (by decide) lk_principals (gf_principals _ _ _) rfl d_serve_16 ?_
    refine t_eq (show (upd I 2 (nI 0)) 43 = nI (1) from ((pk_un (by decide)).trans hp)) ?_
    refine lv_icmp_lt (tgt := 24) X.1 X.2.1 d_serve_19 (by decide) (fun c2 => ?_) (fun c2 => ?_)
    · skip
      obtain ⟨n1, hn1, en1⟩ := ((pk_ix a1 (n := 1) (by decide)).resolve_left c1).resolve_left (fun h9 => absurd h9 (Int32.not_le.mpr c2))
      obtain rfl : n1 = 0 := by omega
      refine lv_aload_n X.1 X.2.1 d_serve_24 rfl (lv_at hl 1 rfl) ?_
      refine lv_iload_n X.1 X.2.1 d_serve_25 rfl (lv_at hl 2 rfl) ?_
      refine lv_iload_n X.1 X.2.1 d_serve_26 rfl (lv_at hl 0 rfl) ?_
      refine m_calli (As := [.int a1, .int (nI (0))]) (rest := []) (n := 2) X Y hZ hA hml hl.1 (c_served_empty l D E h q H.size (upd I 2 (nI 0)) J B G a1) kl_served ks_served kx_served ki_served ini_M hd_served ⟨by decide, by decide⟩ rfl (Nat.le_of_ble_eq_true rfl) d_serve_27 ⟨Nat.le_refl _, Nat.le_refl _⟩ (fun r11 u H locs hp Y => ?_)
      obtain ⟨I3, J4, B5, G6⟩ := u
      obtain ⟨hI7, eJ9, hB8, eG10, pr11⟩ := hp
      dsimp only at hI7 eJ9 hB8 eG10 pr11 Y
      rw [eJ9, eG10] at Y
      rw [show I3 = (upd I 2 (nI 0)) from funext hI7] at Y
      rw [show B5 = B from funext hB8] at Y
      refine t_eq pr11 ?_
      refine lv_istore_n (lv' := [(3, .int (-60)), (2, .int (nI (0))), (0, .ref h), (1, .int a1)]) X.1 X.2.1 d_serve_30 rfl hl (by decide) rfl (fun ls hl => ?_)
      refine lv_iload_n X.1 X.2.1 d_serve_31 rfl (lv_at hl 0 rfl) ?_
      refine lv_if_lt (tgt := 37) X.1 X.2.1 d_serve_32 (by decide) (fun c14 => ?_) (fun c14 => absurd ?_ c14)
      rotate_left
      · decide
      refine lv_aload_n X.1 X.2.1 d_serve_37 rfl (lv_at hl 2 rfl) ?_
      refine m_callv (As := []) (rest := []) (n := 0) X Y hZ hA hml hl.1 (c_start l D E h q H.size (upd I 2 (nI 0)) J B G ) kl_start ks_start kx_start ki_start ini_M hd_start ⟨by decide, by decide⟩ rfl (Nat.le_of_ble_eq_true rfl) d_serve_38 ⟨Nat.le_refl _, Nat.le_refl _⟩ (fun u H locs hp Y => ?_)
      obtain ⟨I15, J16, B17, G18⟩ := u
      obtain ⟨hI19, eJ21, hB20, eG22, hk24⟩ := hp
      dsimp only at hI19 eJ21 hB20 eG22 hk24 Y
      rw [eJ21, eG22] at Y
      rw [show B17 = B from funext hB20] at Y
      have hI25 : (∀ j, j ≠ 2 → j ≠ 3 → j ≠ 42 → I15 j = I j) := fun j h2 h3 h42 => (hI19 j h42).trans ((fun j h2 h3 h42 => ((if_neg h2).trans rfl)) j h2 h3 h42)
      refine lv_aload_n X.1 X.2.1 d_serve_41 rfl (lv_at hl 2 rfl) ?_
      refine lv_bipush (v := (nI 10)) X.1 X.2.1 d_serve_42 (by decide) ?_
      refine lv_iload_n X.1 X.2.1 d_serve_44 rfl (lv_at hl 3 rfl) ?_
      refine t_eq en1 ?_
      refine lv_iconst (v := (nI 2)) X.1 X.2.1 d_serve_45 (by decide) ?_
      refine m_callv (As := [.int (nI 10), .int (nI 0), .int (nI 2)]) (rest := []) (n := 3) X Y hZ hA hml hl.1 (c_nameField l D E h q H.size I15 J B G (nI 10) (0) (12) (by omega) (show B 45 (0) = nI (12) from hns) (by omega) (60000) (show I15 42 = nI (60000) from hk24) (by omega) (by omega)) kl_nameField ks_nameField kx_nameField ki_nameField ini_M hd_nameField ⟨by decide, by decide⟩ rfl (Nat.le_of_ble_eq_true rfl) d_serve_46 ⟨Nat.le_refl _, Nat.le_refl _⟩ (fun u H locs hp Y => ?_)
      obtain ⟨I27, J28, B29, G30⟩ := u
      obtain ⟨hI31, eJ33, hB32, eG34, hx36⟩ := hp
      dsimp only at hI31 eJ33 hB32 eG34 hx36 Y
      rw [eJ33, eG34] at Y
      have hI37 : (∀ j, j ≠ 2 → j ≠ 3 → j ≠ 42 → I27 j = I j) := fun j h2 h3 h42 => (hI31 j h42).trans ((fun j h2 h3 h42 => (hI25 j h2 h3 h42)) j h2 h3 h42)
      have hB38 : (∀ j, j ≠ 0 → j ≠ 1 → B29 j = B j) := fun j h0 h1 => (hB32 j h0).trans ((fun j h0 h1 => rfl) j h0 h1)
      have ga39 : (B29 45) 0 = nI 12 := by rw [hB32 45 (by decide)]; exact (show (B 45) 0 = nI 12 from hns)
      obtain ⟨V40, hV40a, hV40b, hV40c⟩ := hx36
      refine lv_aload_n X.1 X.2.1 d_serve_49 rfl (lv_at hl 2 rfl) ?_
      refine lv_bipush (v := (nI 9)) X.1 X.2.1 d_serve_50 (by decide) ?_
      refine m_ldcSW (i := 2) X (by decide) (by decide) d_serve_52 ?_
      refine m_callv (As := [.int (nI 9), .ref (D.2.1 2)]) (rest := []) (n := 2) X Y hZ hA hml hl.1 (c_wordField_HOUSE l D E h q H.size I27 J B29 G (nI 9) (V40) (show I27 42 = nI (V40) from hV40c) (by omega) (by omega)) kl_wordField ks_wordField kx_wordField ki_wordField ini_M hd_wordField ⟨by decide, by decide⟩ rfl (Nat.le_of_ble_eq_true rfl) d_serve_55 ⟨Nat.le_refl _, Nat.le_refl _⟩ (fun u H locs hp Y => ?_)
      obtain ⟨I41, J42, B43, G44⟩ := u
      obtain ⟨hI45, eJ47, hB46, eG48, hx50⟩ := hp
      dsimp only at hI45 eJ47 hB46 eG48 hx50 Y
      rw [eJ47, eG48] at Y
      have hI51 : (∀ j, j ≠ 2 → j ≠ 3 → j ≠ 42 → I41 j = I j) := fun j h2 h3 h42 => (hI45 j h42).trans ((fun j h2 h3 h42 => (hI37 j h2 h3 h42)) j h2 h3 h42)
      have hB52 : (∀ j, j ≠ 0 → j ≠ 1 → B43 j = B j) := fun j h0 h1 => (hB46 j h0).trans ((fun j h0 h1 => (hB38 j h0 h1)) j h0 h1)
      have ga53 : (B43 45) 0 = nI 12 := by rw [hB46 45 (by decide)]; exact (show (B29 45) 0 = nI 12 from ga39)
      obtain ⟨V54, hV54a, hV54b, hV54c⟩ := hx50
      refine lv_aload_n X.1 X.2.1 d_serve_58 rfl (lv_at hl 2 rfl) ?_
      refine lv_iload_n X.1 X.2.1 d_serve_59 rfl (lv_at hl 0 rfl) ?_
      refine lv_ineg X.1 X.2.1 d_serve_60 ?_
      refine t_eq (y := nI 60) (by decide) ?_
      refine m_callv (As := [.int (nI 60)]) (rest := []) (n := 1) X Y hZ hA hml hl.1 (c_errorHead l D E h q H.size I41 J B43 G (60) (1000000000) (by omega) (show I41 4 = nI (1000000000) from ((hI45 4 (by decide)).trans ((hI31 4 (by decide)).trans ((hI19 4 (by decide)).trans ((pk_un (by decide)).trans hw))))) (by omega) (V54) (show I41 42 = nI (V54) from hV54c) (by omega) (by omega)) kl_errorHead ks_errorHead kx_errorHead ki_errorHead ini_M hd_errorHead ⟨by decide, by decide⟩ rfl (Nat.le_of_ble_eq_true rfl) d_serve_61 ⟨Nat.le_refl _, Nat.le_refl _⟩ (fun u H locs hp Y => ?_)
      obtain ⟨I55, J56, B57, G58⟩ := u
      obtain ⟨hI59, eJ61, hB60, eG62, hx64⟩ := hp
      dsimp only at hI59 eJ61 hB60 eG62 hx64 Y
      rw [eJ61, eG62] at Y
      have hI65 : (∀ j, j ≠ 2 → j ≠ 3 → j ≠ 42 → I55 j = I j) := fun j h2 h3 h42 => (hI59 j h42).trans ((fun j h2 h3 h42 => (hI51 j h2 h3 h42)) j h2 h3 h42)
      have hB66 : (∀ j, j ≠ 0 → j ≠ 1 → B57 j = B j) := fun j h0 h1 => (hB60 j h0).trans ((fun j h0 h1 => (hB52 j h0 h1)) j h0 h1)
      have ga67 : (B57 45) 0 = nI 12 := by rw [hB60 45 (by decide)]; exact (show (B43 45) 0 = nI 12 from ga53)
      obtain ⟨V68, hV68a, hV68b, hV68c⟩ := hx64
      refine lv_aload_n X.1 X.2.1 d_serve_64 rfl (lv_at hl 2 rfl) ?_
      refine m_callv (As := []) (rest := []) (n := 0) X Y hZ hA hml hl.1 (c_written l D E h q H.size I55 J B57 G (V68) (show I55 42 = nI (V68) from hV68c) (by omega) (by omega)) kl_written ks_written kx_written ki_written ini_M hd_written ⟨by decide, by decide⟩ rfl (Nat.le_of_ble_eq_true rfl) d_serve_65 ⟨Nat.le_refl _, Nat.le_refl _⟩ (fun u H locs hp Y => ?_)
      obtain ⟨I69, J70, B71, G72⟩ := u
      obtain ⟨hI73, eJ75, hB74, eG76, hk78⟩ := hp
      dsimp only at hI73 eJ75 hB74 eG76 hk78 Y
      rw [eJ75, eG76] at Y
      have hI79 : (∀ j, j ≠ 2 → j ≠ 3 → j ≠ 42 → I69 j = I j) := fun j h2 h3 h42 => (hI73 j h3).trans ((fun j h2 h3 h42 => (hI65 j h2 h3 h42)) j h2 h3 h42)
      have hB80 : (∀ j, j ≠ 0 → j ≠ 1 → B71 j = B j) := fun j h0 h1 => (hB74 j h1).trans ((fun j h0 h1 => (hB66 j h0 h1)) j h0 h1)
      have ga81 : (B71 45) 0 = nI 12 := by rw [hB74 45 (by decide)]; exact (show (B57 45) 0 = nI 12 from ga67)
      refine lv_iload_n X.1 X.2.1 d_serve_68 rfl (lv_at hl 0 rfl) ?_
      exact m_reti hQQ X Y hr hlk ⟨(fun j h2 h3 h42 => (hI79 j h2 h3 h42)), rfl, (fun j h0 h1 => (hB80 j h0 h1)), rfl, (by rw [if_pos en1])⟩ d_serve_69
    · skip
      refine lv_iconst (v := (-1)) X.1 X.2.1 d_serve_22 (by decide) ?_
      exact m_reti hQQ X Y hr hlk ⟨(fun j h2 h3 h42 => ((if_neg h2).trans rfl)), rfl, (fun j h0 h1 => rfl), rfl, (by rw [if_neg (by simp only [Int32.lt_iff_toInt_lt, Int32.le_iff_toInt_le, ← Int32.toInt_inj, show (nI 0).toInt = 0 from rfl, show (nI 1).toInt = 1 from rfl, show (nI 2).toInt = 2 from rfl, show (nI 3).toInt = 3 from rfl, show (nI 7).toInt = 7 from rfl, show (nI 8).toInt = 8 from rfl, show (nI 63).toInt = 63 from rfl, show (nI 200).toInt = 200 from rfl, show (nI 1000000).toInt = 1000000 from rfl, show (nI 10000000).toInt = 10000000 from rfl, show (nI 2000000000).toInt = 2000000000 from rfl, show (0 : Int32).toInt = 0 from rfl, show (-1 : Int32).toInt = -1 from rfl] at c1 c2 ⊢ <;> omega)])⟩ d_serve_23
