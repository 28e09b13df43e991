/-! The first principal, and a name that is not there. -/
def kb (j : Nat) : Nat := (zL.getD 0 []).getD j 0
theorem kb_i2b : ∀ j, j < 13 → (zb 0 j &&& 255).toInt8.toInt32 = nI (kb j) := by decide +kernel
theorem kb_nar : ∀ j, j < 13 → vp_nar .byte (nI (kb j)) = nI (kb j) := by decide +kernel
theorem kb_1 : ∀ j, j < 12 → zb 1 j &&& 255 = nI (kb j) := by decide +kernel
abbrev b_word : ByteArray := prog_14_method_2_code
def y_word : MethodName := ⟨R_M, "word", "(ILjava/lang/String;)V"⟩
abbrev k_word : Cond := .code y_word b_word 4 none
theorem ki_word : k_word ∈ lw_tg := in_t 1758 (by decide +kernel)
theorem ks_word : Cond.instanceMethod y_word ∈ lw_tg := in_t 1757 (by decide +kernel)
theorem kl_word : Cond.methodLink R_M 328 y_word ∈ lw_tg := in_t 1755 (by decide +kernel)
theorem d_word_0 : decode b_word 0 = .ok (.iconst 0, 1) := by decide +kernel
theorem d_word_1 : decode b_word 1 = .ok (.istore_n 3, 1) := by decide +kernel
theorem d_word_2 : decode b_word 2 = .ok (.iload_n 3, 1) := by decide +kernel
theorem d_word_3 : decode b_word 3 = .ok (.aload_n 2, 1) := by decide +kernel
theorem d_word_4 : decode b_word 4 = .ok (.invokevirtual 339, 3) := by decide +kernel
theorem d_word_7 : decode b_word 7 = .ok (.if_icmp .ge 23, 3) := by decide +kernel
theorem d_word_10 : decode b_word 10 = .ok (.aload_n 0, 1) := by decide +kernel
theorem d_word_11 : decode b_word 11 = .ok (.getfield 10, 3) := by decide +kernel
theorem d_word_14 : decode b_word 14 = .ok (.iload_n 1, 1) := by decide +kernel
theorem d_word_15 : decode b_word 15 = .ok (.iload_n 3, 1) := by decide +kernel
theorem d_word_16 : decode b_word 16 = .ok (.iadd, 1) := by decide +kernel
theorem d_word_17 : decode b_word 17 = .ok (.aload_n 2, 1) := by decide +kernel
theorem d_word_18 : decode b_word 18 = .ok (.iload_n 3, 1) := by decide +kernel
theorem d_word_19 : decode b_word 19 = .ok (.invokevirtual 344, 3) := by decide +kernel
theorem d_word_22 : decode b_word 22 = .ok (.i2b, 1) := by decide +kernel
theorem d_word_23 : decode b_word 23 = .ok (.bastore, 1) := by decide +kernel
theorem d_word_24 : decode b_word 24 = .ok (.iinc 3 1, 3) := by decide +kernel
theorem d_word_27 : decode b_word 27 = .ok (.goto (-25), 3) := by decide +kernel
theorem d_word_30 : decode b_word 30 = .ok (.return_, 1) := by decide +kernel
abbrev b_isHouse : ByteArray := prog_14_method_83_code
def y_isHouse : MethodName := ⟨R_M, "isHouse", "(I)Z"⟩
abbrev k_isHouse : Cond := .code y_isHouse b_isHouse 4 (some .boolean)
theorem ki_isHouse : k_isHouse ∈ lw_tg := in_t 1776 (by decide +kernel)
theorem ks_isHouse : Cond.instanceMethod y_isHouse ∈ lw_tg := in_t 1775 (by decide +kernel)
theorem kl_isHouse : Cond.methodLink R_M 601 y_isHouse ∈ lw_tg := in_t 1773 (by decide +kernel)
theorem d_isHouse_0 : decode b_isHouse 0 = .ok (.ldc_w 611, 3) := by decide +kernel
theorem d_isHouse_3 : decode b_isHouse 3 = .ok (.astore_n 2, 1) := by decide +kernel
theorem d_isHouse_4 : decode b_isHouse 4 = .ok (.aload_n 0, 1) := by decide +kernel
theorem d_isHouse_5 : decode b_isHouse 5 = .ok (.getfield 332, 3) := by decide +kernel
theorem d_isHouse_8 : decode b_isHouse 8 = .ok (.bipush 12, 2) := by decide +kernel
theorem d_isHouse_10 : decode b_isHouse 10 = .ok (.if_icmp .ge 5, 3) := by decide +kernel
theorem d_isHouse_13 : decode b_isHouse 13 = .ok (.iconst 0, 1) := by decide +kernel
theorem d_isHouse_14 : decode b_isHouse 14 = .ok (.ireturn, 1) := by decide +kernel
theorem d_isHouse_15 : decode b_isHouse 15 = .ok (.iconst 0, 1) := by decide +kernel
theorem d_isHouse_16 : decode b_isHouse 16 = .ok (.istore_n 3, 1) := by decide +kernel
theorem d_isHouse_17 : decode b_isHouse 17 = .ok (.iload_n 3, 1) := by decide +kernel
theorem d_isHouse_18 : decode b_isHouse 18 = .ok (.bipush 12, 2) := by decide +kernel
theorem d_isHouse_20 : decode b_isHouse 20 = .ok (.if_icmp .ge 25, 3) := by decide +kernel
theorem d_isHouse_23 : decode b_isHouse 23 = .ok (.aload_n 0, 1) := by decide +kernel
theorem d_isHouse_24 : decode b_isHouse 24 = .ok (.getfield 10, 3) := by decide +kernel
theorem d_isHouse_27 : decode b_isHouse 27 = .ok (.iload_n 3, 1) := by decide +kernel
theorem d_isHouse_28 : decode b_isHouse 28 = .ok (.baload, 1) := by decide +kernel
theorem d_isHouse_29 : decode b_isHouse 29 = .ok (.aload_n 2, 1) := by decide +kernel
theorem d_isHouse_30 : decode b_isHouse 30 = .ok (.iload_n 3, 1) := by decide +kernel
theorem d_isHouse_31 : decode b_isHouse 31 = .ok (.invokevirtual 344, 3) := by decide +kernel
theorem d_isHouse_34 : decode b_isHouse 34 = .ok (.if_icmp .eq 5, 3) := by decide +kernel
theorem d_isHouse_39 : decode b_isHouse 39 = .ok (.iinc 3 1, 3) := by decide +kernel
theorem d_isHouse_42 : decode b_isHouse 42 = .ok (.goto (-25), 3) := by decide +kernel
theorem d_isHouse_45 : decode b_isHouse 45 = .ok (.aload_n 0, 1) := by decide +kernel
theorem d_isHouse_46 : decode b_isHouse 46 = .ok (.getfield 332, 3) := by decide +kernel
theorem d_isHouse_49 : decode b_isHouse 49 = .ok (.bipush 12, 2) := by decide +kernel
theorem d_isHouse_51 : decode b_isHouse 51 = .ok (.if_icmp .eq 15, 3) := by decide +kernel
theorem d_isHouse_54 : decode b_isHouse 54 = .ok (.aload_n 0, 1) := by decide +kernel
theorem d_isHouse_55 : decode b_isHouse 55 = .ok (.getfield 10, 3) := by decide +kernel
theorem d_isHouse_58 : decode b_isHouse 58 = .ok (.bipush 12, 2) := by decide +kernel
theorem d_isHouse_60 : decode b_isHouse 60 = .ok (.baload, 1) := by decide +kernel
theorem d_isHouse_61 : decode b_isHouse 61 = .ok (.bipush 58, 2) := by decide +kernel
theorem d_isHouse_63 : decode b_isHouse 63 = .ok (.if_icmp .ne 7, 3) := by decide +kernel
theorem d_isHouse_66 : decode b_isHouse 66 = .ok (.iconst 1, 1) := by decide +kernel
theorem d_isHouse_67 : decode b_isHouse 67 = .ok (.goto 4, 3) := by decide +kernel
theorem d_isHouse_71 : decode b_isHouse 71 = .ok (.ireturn, 1) := by decide +kernel
abbrev b_nameRead : ByteArray := prog_14_method_82_code
def y_nameRead : MethodName := ⟨R_M, "nameRead", "(Z)Z"⟩
abbrev k_nameRead : Cond := .code y_nameRead b_nameRead 9 (some .boolean)
theorem ki_nameRead : k_nameRead ∈ lw_tg := in_t 1772 (by decide +kernel)
theorem ks_nameRead : Cond.instanceMethod y_nameRead ∈ lw_tg := in_t 1771 (by decide +kernel)
theorem kl_nameRead : Cond.methodLink R_M 613 y_nameRead ∈ lw_tg := in_t 1769 (by decide +kernel)
theorem d_nameRead_0 : decode b_nameRead 0 = .ok (.iconst 0, 1) := by decide +kernel
theorem d_nameRead_1 : decode b_nameRead 1 = .ok (.istore_n 2, 1) := by decide +kernel
theorem d_nameRead_2 : decode b_nameRead 2 = .ok (.iconst 1, 1) := by decide +kernel
theorem d_nameRead_3 : decode b_nameRead 3 = .ok (.istore_n 3, 1) := by decide +kernel
theorem d_nameRead_4 : decode b_nameRead 4 = .ok (.iconst 0, 1) := by decide +kernel
theorem d_nameRead_5 : decode b_nameRead 5 = .ok (.istore 4, 2) := by decide +kernel
theorem d_nameRead_7 : decode b_nameRead 7 = .ok (.iconst 1, 1) := by decide +kernel
theorem d_nameRead_8 : decode b_nameRead 8 = .ok (.istore 5, 2) := by decide +kernel
theorem d_nameRead_10 : decode b_nameRead 10 = .ok (.iload_n 2, 1) := by decide +kernel
theorem d_nameRead_11 : decode b_nameRead 11 = .ok (.aload_n 0, 1) := by decide +kernel
theorem d_nameRead_12 : decode b_nameRead 12 = .ok (.getfield 332, 3) := by decide +kernel
theorem d_nameRead_15 : decode b_nameRead 15 = .ok (.if_icmp .ge 167, 3) := by decide +kernel
theorem d_nameRead_18 : decode b_nameRead 18 = .ok (.aload_n 0, 1) := by decide +kernel
theorem d_nameRead_19 : decode b_nameRead 19 = .ok (.getfield 10, 3) := by decide +kernel
theorem d_nameRead_22 : decode b_nameRead 22 = .ok (.iload_n 2, 1) := by decide +kernel
theorem d_nameRead_23 : decode b_nameRead 23 = .ok (.baload, 1) := by decide +kernel
theorem d_nameRead_24 : decode b_nameRead 24 = .ok (.bipush 58, 2) := by decide +kernel
theorem d_nameRead_26 : decode b_nameRead 26 = .ok (.if_icmp .eq 156, 3) := by decide +kernel
theorem d_nameRead_29 : decode b_nameRead 29 = .ok (.iload 5, 2) := by decide +kernel
theorem d_nameRead_31 : decode b_nameRead 31 = .ok (.ifCond .eq 151, 3) := by decide +kernel
theorem d_nameRead_34 : decode b_nameRead 34 = .ok (.aload_n 0, 1) := by decide +kernel
theorem d_nameRead_35 : decode b_nameRead 35 = .ok (.getfield 10, 3) := by decide +kernel
theorem d_nameRead_38 : decode b_nameRead 38 = .ok (.iload_n 2, 1) := by decide +kernel
theorem d_nameRead_39 : decode b_nameRead 39 = .ok (.baload, 1) := by decide +kernel
theorem d_nameRead_40 : decode b_nameRead 40 = .ok (.istore 6, 2) := by decide +kernel
theorem d_nameRead_42 : decode b_nameRead 42 = .ok (.iload 6, 2) := by decide +kernel
theorem d_nameRead_44 : decode b_nameRead 44 = .ok (.bipush 97, 2) := by decide +kernel
theorem d_nameRead_46 : decode b_nameRead 46 = .ok (.if_icmp .lt 14, 3) := by decide +kernel
theorem d_nameRead_49 : decode b_nameRead 49 = .ok (.iload 6, 2) := by decide +kernel
theorem d_nameRead_51 : decode b_nameRead 51 = .ok (.bipush 122, 2) := by decide +kernel
theorem d_nameRead_53 : decode b_nameRead 53 = .ok (.if_icmp .gt 7, 3) := by decide +kernel
theorem d_nameRead_56 : decode b_nameRead 56 = .ok (.iconst 1, 1) := by decide +kernel
theorem d_nameRead_57 : decode b_nameRead 57 = .ok (.goto 4, 3) := by decide +kernel
theorem d_nameRead_60 : decode b_nameRead 60 = .ok (.iconst 0, 1) := by decide +kernel
theorem d_nameRead_61 : decode b_nameRead 61 = .ok (.istore 7, 2) := by decide +kernel
theorem d_nameRead_63 : decode b_nameRead 63 = .ok (.iload 6, 2) := by decide +kernel
theorem d_nameRead_65 : decode b_nameRead 65 = .ok (.bipush 47, 2) := by decide +kernel
theorem d_nameRead_67 : decode b_nameRead 67 = .ok (.if_icmp .ne 29, 3) := by decide +kernel
theorem d_nameRead_70 : decode b_nameRead 70 = .ok (.iload 4, 2) := by decide +kernel
theorem d_nameRead_72 : decode b_nameRead 72 = .ok (.ifCond .le 12, 3) := by decide +kernel
theorem d_nameRead_75 : decode b_nameRead 75 = .ok (.iload_n 3, 1) := by decide +kernel
theorem d_nameRead_76 : decode b_nameRead 76 = .ok (.iconst 1, 1) := by decide +kernel
theorem d_nameRead_77 : decode b_nameRead 77 = .ok (.if_icmp .ne 7, 3) := by decide +kernel
theorem d_nameRead_80 : decode b_nameRead 80 = .ok (.iconst 1, 1) := by decide +kernel
theorem d_nameRead_81 : decode b_nameRead 81 = .ok (.goto 4, 3) := by decide +kernel
theorem d_nameRead_85 : decode b_nameRead 85 = .ok (.istore 5, 2) := by decide +kernel
theorem d_nameRead_87 : decode b_nameRead 87 = .ok (.iinc 3 1, 3) := by decide +kernel
theorem d_nameRead_90 : decode b_nameRead 90 = .ok (.iconst 0, 1) := by decide +kernel
theorem d_nameRead_91 : decode b_nameRead 91 = .ok (.istore 4, 2) := by decide +kernel
theorem d_nameRead_93 : decode b_nameRead 93 = .ok (.goto 83, 3) := by decide +kernel
theorem d_nameRead_96 : decode b_nameRead 96 = .ok (.iload 7, 2) := by decide +kernel
theorem d_nameRead_98 : decode b_nameRead 98 = .ok (.ifCond .ne 49, 3) := by decide +kernel
theorem d_nameRead_101 : decode b_nameRead 101 = .ok (.iload_n 2, 1) := by decide +kernel
theorem d_nameRead_102 : decode b_nameRead 102 = .ok (.ifCond .le 22, 3) := by decide +kernel
theorem d_nameRead_105 : decode b_nameRead 105 = .ok (.iload 4, 2) := by decide +kernel
theorem d_nameRead_107 : decode b_nameRead 107 = .ok (.ifCond .le 17, 3) := by decide +kernel
theorem d_nameRead_124 : decode b_nameRead 124 = .ok (.iload 4, 2) := by decide +kernel
theorem d_nameRead_126 : decode b_nameRead 126 = .ok (.ifCond .ne 25, 3) := by decide +kernel
theorem d_nameRead_129 : decode b_nameRead 129 = .ok (.iload_n 2, 1) := by decide +kernel
theorem d_nameRead_130 : decode b_nameRead 130 = .ok (.ifCond .le 21, 3) := by decide +kernel
theorem d_nameRead_133 : decode b_nameRead 133 = .ok (.iload 6, 2) := by decide +kernel
theorem d_nameRead_135 : decode b_nameRead 135 = .ok (.bipush 48, 2) := by decide +kernel
theorem d_nameRead_137 : decode b_nameRead 137 = .ok (.if_icmp .lt 14, 3) := by decide +kernel
theorem d_nameRead_140 : decode b_nameRead 140 = .ok (.iload 6, 2) := by decide +kernel
theorem d_nameRead_142 : decode b_nameRead 142 = .ok (.bipush 57, 2) := by decide +kernel
theorem d_nameRead_144 : decode b_nameRead 144 = .ok (.if_icmp .gt 7, 3) := by decide +kernel
theorem d_nameRead_147 : decode b_nameRead 147 = .ok (.iconst 1, 1) := by decide +kernel
theorem d_nameRead_148 : decode b_nameRead 148 = .ok (.goto 4, 3) := by decide +kernel
theorem d_nameRead_151 : decode b_nameRead 151 = .ok (.iconst 0, 1) := by decide +kernel
theorem d_nameRead_152 : decode b_nameRead 152 = .ok (.istore 5, 2) := by decide +kernel
theorem d_nameRead_154 : decode b_nameRead 154 = .ok (.iinc 4 1, 3) := by decide +kernel
theorem d_nameRead_157 : decode b_nameRead 157 = .ok (.iload 5, 2) := by decide +kernel
theorem d_nameRead_159 : decode b_nameRead 159 = .ok (.ifCond .eq 14, 3) := by decide +kernel
theorem d_nameRead_162 : decode b_nameRead 162 = .ok (.iload 4, 2) := by decide +kernel
theorem d_nameRead_164 : decode b_nameRead 164 = .ok (.bipush 16, 2) := by decide +kernel
theorem d_nameRead_166 : decode b_nameRead 166 = .ok (.if_icmp .gt 7, 3) := by decide +kernel
theorem d_nameRead_169 : decode b_nameRead 169 = .ok (.iconst 1, 1) := by decide +kernel
theorem d_nameRead_170 : decode b_nameRead 170 = .ok (.goto 4, 3) := by decide +kernel
theorem d_nameRead_173 : decode b_nameRead 173 = .ok (.iconst 0, 1) := by decide +kernel
theorem d_nameRead_174 : decode b_nameRead 174 = .ok (.istore 5, 2) := by decide +kernel
theorem d_nameRead_176 : decode b_nameRead 176 = .ok (.iinc 2 1, 3) := by decide +kernel
theorem d_nameRead_179 : decode b_nameRead 179 = .ok (.goto (-169), 3) := by decide +kernel
theorem d_nameRead_182 : decode b_nameRead 182 = .ok (.iload_n 1, 1) := by decide +kernel
theorem d_nameRead_183 : decode b_nameRead 183 = .ok (.ifCond .eq 15, 3) := by decide +kernel
theorem d_nameRead_186 : decode b_nameRead 186 = .ok (.aload_n 0, 1) := by decide +kernel
theorem d_nameRead_187 : decode b_nameRead 187 = .ok (.iload_n 2, 1) := by decide +kernel
theorem d_nameRead_188 : decode b_nameRead 188 = .ok (.invokevirtual 601, 3) := by decide +kernel
theorem d_nameRead_191 : decode b_nameRead 191 = .ok (.ifCond .eq 7, 3) := by decide +kernel
theorem d_nameRead_194 : decode b_nameRead 194 = .ok (.iconst 1, 1) := by decide +kernel
theorem d_nameRead_195 : decode b_nameRead 195 = .ok (.goto 4, 3) := by decide +kernel
theorem d_nameRead_198 : decode b_nameRead 198 = .ok (.iconst 0, 1) := by decide +kernel
theorem d_nameRead_199 : decode b_nameRead 199 = .ok (.istore 6, 2) := by decide +kernel
theorem d_nameRead_201 : decode b_nameRead 201 = .ok (.iload 6, 2) := by decide +kernel
theorem d_nameRead_203 : decode b_nameRead 203 = .ok (.ifCond .ne 15, 3) := by decide +kernel
theorem d_nameRead_206 : decode b_nameRead 206 = .ok (.iload 5, 2) := by decide +kernel
theorem d_nameRead_208 : decode b_nameRead 208 = .ok (.ifCond .eq 8, 3) := by decide +kernel
theorem d_nameRead_211 : decode b_nameRead 211 = .ok (.iload 4, 2) := by decide +kernel
theorem d_nameRead_213 : decode b_nameRead 213 = .ok (.ifCond .ne 5, 3) := by decide +kernel
theorem d_nameRead_216 : decode b_nameRead 216 = .ok (.iconst 0, 1) := by decide +kernel
theorem d_nameRead_217 : decode b_nameRead 217 = .ok (.ireturn, 1) := by decide +kernel
theorem d_nameRead_218 : decode b_nameRead 218 = .ok (.iload_n 2, 1) := by decide +kernel
theorem d_nameRead_219 : decode b_nameRead 219 = .ok (.istore 7, 2) := by decide +kernel
theorem d_nameRead_221 : decode b_nameRead 221 = .ok (.iload 6, 2) := by decide +kernel
theorem d_nameRead_223 : decode b_nameRead 223 = .ok (.ifCond .eq 7, 3) := by decide +kernel
theorem d_nameRead_226 : decode b_nameRead 226 = .ok (.bipush 12, 2) := by decide +kernel
theorem d_nameRead_228 : decode b_nameRead 228 = .ok (.istore 7, 2) := by decide +kernel
theorem d_nameRead_230 : decode b_nameRead 230 = .ok (.aload_n 0, 1) := by decide +kernel
theorem d_nameRead_231 : decode b_nameRead 231 = .ok (.iload 7, 2) := by decide +kernel
theorem d_nameRead_233 : decode b_nameRead 233 = .ok (.putfield 605, 3) := by decide +kernel
theorem d_nameRead_236 : decode b_nameRead 236 = .ok (.aload_n 0, 1) := by decide +kernel
theorem d_nameRead_237 : decode b_nameRead 237 = .ok (.iload 7, 2) := by decide +kernel
theorem d_nameRead_239 : decode b_nameRead 239 = .ok (.putfield 608, 3) := by decide +kernel
theorem d_nameRead_242 : decode b_nameRead 242 = .ok (.iconst 0, 1) := by decide +kernel
theorem d_nameRead_243 : decode b_nameRead 243 = .ok (.istore 8, 2) := by decide +kernel
theorem d_nameRead_245 : decode b_nameRead 245 = .ok (.iload 8, 2) := by decide +kernel
theorem d_nameRead_247 : decode b_nameRead 247 = .ok (.iload 7, 2) := by decide +kernel
theorem d_nameRead_249 : decode b_nameRead 249 = .ok (.if_icmp .ge 23, 3) := by decide +kernel
theorem d_nameRead_252 : decode b_nameRead 252 = .ok (.aload_n 0, 1) := by decide +kernel
theorem d_nameRead_253 : decode b_nameRead 253 = .ok (.getfield 128, 3) := by decide +kernel
theorem d_nameRead_256 : decode b_nameRead 256 = .ok (.iload 8, 2) := by decide +kernel
theorem d_nameRead_258 : decode b_nameRead 258 = .ok (.aload_n 0, 1) := by decide +kernel
theorem d_nameRead_259 : decode b_nameRead 259 = .ok (.getfield 10, 3) := by decide +kernel
theorem d_nameRead_262 : decode b_nameRead 262 = .ok (.iload 8, 2) := by decide +kernel
theorem d_nameRead_264 : decode b_nameRead 264 = .ok (.baload, 1) := by decide +kernel
theorem d_nameRead_265 : decode b_nameRead 265 = .ok (.bastore, 1) := by decide +kernel
theorem d_nameRead_266 : decode b_nameRead 266 = .ok (.iinc 8 1, 3) := by decide +kernel
theorem d_nameRead_269 : decode b_nameRead 269 = .ok (.goto (-24), 3) := by decide +kernel
theorem d_nameRead_272 : decode b_nameRead 272 = .ok (.iconst 1, 1) := by decide +kernel
theorem d_nameRead_273 : decode b_nameRead 273 = .ok (.ireturn, 1) := by decide +kernel
abbrev b_bothRead : ByteArray := prog_14_method_84_code
def y_bothRead : MethodName := ⟨R_M, "bothRead", "(Z)Z"⟩
abbrev k_bothRead : Cond := .code y_bothRead b_bothRead 2 (some .boolean)
theorem ki_bothRead : k_bothRead ∈ lw_tg := in_t 1768 (by decide +kernel)
theorem ks_bothRead : Cond.instanceMethod y_bothRead ∈ lw_tg := in_t 1767 (by decide +kernel)
theorem kl_bothRead : Cond.methodLink R_M 633 y_bothRead ∈ lw_tg := in_t 1765 (by decide +kernel)
theorem d_bothRead_0 : decode b_bothRead 0 = .ok (.aload_n 0, 1) := by decide +kernel
theorem d_bothRead_1 : decode b_bothRead 1 = .ok (.iload_n 1, 1) := by decide +kernel
theorem d_bothRead_2 : decode b_bothRead 2 = .ok (.invokevirtual 613, 3) := by decide +kernel
theorem d_bothRead_5 : decode b_bothRead 5 = .ok (.ifCond .eq 28, 3) := by decide +kernel
theorem d_bothRead_8 : decode b_bothRead 8 = .ok (.aload_n 0, 1) := by decide +kernel
theorem d_bothRead_9 : decode b_bothRead 9 = .ok (.getfield 605, 3) := by decide +kernel
theorem d_bothRead_12 : decode b_bothRead 12 = .ok (.aload_n 0, 1) := by decide +kernel
theorem d_bothRead_13 : decode b_bothRead 13 = .ok (.getfield 332, 3) := by decide +kernel
theorem d_bothRead_16 : decode b_bothRead 16 = .ok (.if_icmp .ge 17, 3) := by decide +kernel
theorem d_bothRead_19 : decode b_bothRead 19 = .ok (.aload_n 0, 1) := by decide +kernel
theorem d_bothRead_20 : decode b_bothRead 20 = .ok (.getfield 10, 3) := by decide +kernel
theorem d_bothRead_23 : decode b_bothRead 23 = .ok (.aload_n 0, 1) := by decide +kernel
theorem d_bothRead_24 : decode b_bothRead 24 = .ok (.getfield 605, 3) := by decide +kernel
theorem d_bothRead_27 : decode b_bothRead 27 = .ok (.baload, 1) := by decide +kernel
theorem d_bothRead_28 : decode b_bothRead 28 = .ok (.bipush 58, 2) := by decide +kernel
theorem d_bothRead_30 : decode b_bothRead 30 = .ok (.if_icmp .eq 5, 3) := by decide +kernel
theorem d_bothRead_33 : decode b_bothRead 33 = .ok (.iconst 0, 1) := by decide +kernel
theorem d_bothRead_34 : decode b_bothRead 34 = .ok (.ireturn, 1) := by decide +kernel
theorem d_bothRead_35 : decode b_bothRead 35 = .ok (.aload_n 0, 1) := by decide +kernel
theorem d_bothRead_36 : decode b_bothRead 36 = .ok (.aload_n 0, 1) := by decide +kernel
theorem d_bothRead_37 : decode b_bothRead 37 = .ok (.getfield 332, 3) := by decide +kernel
theorem d_bothRead_40 : decode b_bothRead 40 = .ok (.aload_n 0, 1) := by decide +kernel
theorem d_bothRead_41 : decode b_bothRead 41 = .ok (.getfield 605, 3) := by decide +kernel
theorem d_bothRead_44 : decode b_bothRead 44 = .ok (.isub, 1) := by decide +kernel
theorem d_bothRead_45 : decode b_bothRead 45 = .ok (.iconst 1, 1) := by decide +kernel
theorem d_bothRead_46 : decode b_bothRead 46 = .ok (.isub, 1) := by decide +kernel
theorem d_bothRead_47 : decode b_bothRead 47 = .ok (.putfield 418, 3) := by decide +kernel
theorem d_bothRead_50 : decode b_bothRead 50 = .ok (.aload_n 0, 1) := by decide +kernel
theorem d_bothRead_51 : decode b_bothRead 51 = .ok (.aload_n 0, 1) := by decide +kernel
theorem d_bothRead_52 : decode b_bothRead 52 = .ok (.getfield 605, 3) := by decide +kernel
theorem d_bothRead_55 : decode b_bothRead 55 = .ok (.iconst 1, 1) := by decide +kernel
theorem d_bothRead_56 : decode b_bothRead 56 = .ok (.iadd, 1) := by decide +kernel
theorem d_bothRead_57 : decode b_bothRead 57 = .ok (.aload_n 0, 1) := by decide +kernel
theorem d_bothRead_58 : decode b_bothRead 58 = .ok (.getfield 332, 3) := by decide +kernel
theorem d_bothRead_61 : decode b_bothRead 61 = .ok (.invokevirtual 617, 3) := by decide +kernel
theorem d_bothRead_64 : decode b_bothRead 64 = .ok (.ireturn, 1) := by decide +kernel
abbrev b_add : ByteArray := prog_14_method_89_code
def y_add : MethodName := ⟨R_M, "add", "(IZ)I"⟩
abbrev k_add : Cond := .code y_add b_add 5 (some .int)
theorem ki_add : k_add ∈ lw_tg := in_t 1764 (by decide +kernel)
theorem ks_add : Cond.instanceMethod y_add ∈ lw_tg := in_t 1763 (by decide +kernel)
theorem kl_add : Cond.methodLink R_M 335 y_add ∈ lw_tg := in_t 1761 (by decide +kernel)
theorem d_add_0 : decode b_add 0 = .ok (.aload_n 0, 1) := by decide +kernel
theorem d_add_1 : decode b_add 1 = .ok (.iload_n 2, 1) := by decide +kernel
theorem d_add_2 : decode b_add 2 = .ok (.invokevirtual 633, 3) := by decide +kernel
theorem d_add_5 : decode b_add 5 = .ok (.ifCond .eq 31, 3) := by decide +kernel
theorem d_add_8 : decode b_add 8 = .ok (.iload_n 1, 1) := by decide +kernel
theorem d_add_9 : decode b_add 9 = .ok (.iconst 1, 1) := by decide +kernel
theorem d_add_10 : decode b_add 10 = .ok (.if_icmp .lt 26, 3) := by decide +kernel
theorem d_add_13 : decode b_add 13 = .ok (.iload_n 1, 1) := by decide +kernel
theorem d_add_14 : decode b_add 14 = .ok (.sipush 200, 3) := by decide +kernel
theorem d_add_17 : decode b_add 17 = .ok (.if_icmp .gt 19, 3) := by decide +kernel
theorem d_add_20 : decode b_add 20 = .ok (.aload_n 0, 1) := by decide +kernel
theorem d_add_21 : decode b_add 21 = .ok (.getfield 630, 3) := by decide +kernel
theorem d_add_24 : decode b_add 24 = .ok (.bipush 12, 2) := by decide +kernel
theorem d_add_26 : decode b_add 26 = .ok (.if_icmp .eq 10, 3) := by decide +kernel
theorem d_add_29 : decode b_add 29 = .ok (.aload_n 0, 1) := by decide +kernel
theorem d_add_30 : decode b_add 30 = .ok (.invokevirtual 636, 3) := by decide +kernel
theorem d_add_33 : decode b_add 33 = .ok (.ifCond .lt 5, 3) := by decide +kernel
theorem d_add_36 : decode b_add 36 = .ok (.iconst (-1), 1) := by decide +kernel
theorem d_add_37 : decode b_add 37 = .ok (.ireturn, 1) := by decide +kernel
theorem d_add_38 : decode b_add 38 = .ok (.aload_n 0, 1) := by decide +kernel
theorem d_add_39 : decode b_add 39 = .ok (.getfield 630, 3) := by decide +kernel
theorem d_add_42 : decode b_add 42 = .ok (.istore_n 3, 1) := by decide +kernel
theorem d_add_43 : decode b_add 43 = .ok (.aload_n 0, 1) := by decide +kernel
theorem d_add_44 : decode b_add 44 = .ok (.dup, 1) := by decide +kernel
theorem d_add_45 : decode b_add 45 = .ok (.getfield 630, 3) := by decide +kernel
theorem d_add_48 : decode b_add 48 = .ok (.iconst 1, 1) := by decide +kernel
theorem d_add_49 : decode b_add 49 = .ok (.iadd, 1) := by decide +kernel
theorem d_add_50 : decode b_add 50 = .ok (.putfield 630, 3) := by decide +kernel
theorem d_add_53 : decode b_add 53 = .ok (.aload_n 0, 1) := by decide +kernel
theorem d_add_54 : decode b_add 54 = .ok (.getfield 104, 3) := by decide +kernel
theorem d_add_57 : decode b_add 57 = .ok (.iload_n 3, 1) := by decide +kernel
theorem d_add_58 : decode b_add 58 = .ok (.aload_n 0, 1) := by decide +kernel
theorem d_add_59 : decode b_add 59 = .ok (.getfield 608, 3) := by decide +kernel
theorem d_add_62 : decode b_add 62 = .ok (.iastore, 1) := by decide +kernel
theorem d_add_63 : decode b_add 63 = .ok (.iconst 0, 1) := by decide +kernel
theorem d_add_64 : decode b_add 64 = .ok (.istore 4, 2) := by decide +kernel
theorem d_add_66 : decode b_add 66 = .ok (.iload 4, 2) := by decide +kernel
theorem d_add_68 : decode b_add 68 = .ok (.aload_n 0, 1) := by decide +kernel
theorem d_add_69 : decode b_add 69 = .ok (.getfield 608, 3) := by decide +kernel
theorem d_add_72 : decode b_add 72 = .ok (.if_icmp .ge 28, 3) := by decide +kernel
theorem d_add_75 : decode b_add 75 = .ok (.aload_n 0, 1) := by decide +kernel
theorem d_add_76 : decode b_add 76 = .ok (.getfield 101, 3) := by decide +kernel
theorem d_add_79 : decode b_add 79 = .ok (.bipush 40, 2) := by decide +kernel
theorem d_add_81 : decode b_add 81 = .ok (.iload_n 3, 1) := by decide +kernel
theorem d_add_82 : decode b_add 82 = .ok (.imul, 1) := by decide +kernel
theorem d_add_83 : decode b_add 83 = .ok (.iload 4, 2) := by decide +kernel
theorem d_add_85 : decode b_add 85 = .ok (.iadd, 1) := by decide +kernel
theorem d_add_86 : decode b_add 86 = .ok (.aload_n 0, 1) := by decide +kernel
theorem d_add_87 : decode b_add 87 = .ok (.getfield 128, 3) := by decide +kernel
theorem d_add_90 : decode b_add 90 = .ok (.iload 4, 2) := by decide +kernel
theorem d_add_92 : decode b_add 92 = .ok (.baload, 1) := by decide +kernel
theorem d_add_93 : decode b_add 93 = .ok (.bastore, 1) := by decide +kernel
theorem d_add_94 : decode b_add 94 = .ok (.iinc 4 1, 3) := by decide +kernel
theorem d_add_97 : decode b_add 97 = .ok (.goto (-31), 3) := by decide +kernel
theorem d_add_100 : decode b_add 100 = .ok (.aload_n 0, 1) := by decide +kernel
theorem d_add_101 : decode b_add 101 = .ok (.getfield 107, 3) := by decide +kernel
theorem d_add_104 : decode b_add 104 = .ok (.iload_n 3, 1) := by decide +kernel
theorem d_add_105 : decode b_add 105 = .ok (.iconst 0, 1) := by decide +kernel
theorem d_add_106 : decode b_add 106 = .ok (.iastore, 1) := by decide +kernel
theorem d_add_107 : decode b_add 107 = .ok (.aload_n 0, 1) := by decide +kernel
theorem d_add_108 : decode b_add 108 = .ok (.getfield 113, 3) := by decide +kernel
theorem d_add_111 : decode b_add 111 = .ok (.iload_n 3, 1) := by decide +kernel
theorem d_add_112 : decode b_add 112 = .ok (.ldc_w 639, 3) := by decide +kernel
theorem d_add_115 : decode b_add 115 = .ok (.iastore, 1) := by decide +kernel
theorem d_add_116 : decode b_add 116 = .ok (.aload_n 0, 1) := by decide +kernel
theorem d_add_117 : decode b_add 117 = .ok (.getfield 116, 3) := by decide +kernel
theorem d_add_120 : decode b_add 120 = .ok (.iload_n 3, 1) := by decide +kernel
theorem d_add_121 : decode b_add 121 = .ok (.ldc_w 640, 3) := by decide +kernel
theorem d_add_124 : decode b_add 124 = .ok (.iastore, 1) := by decide +kernel
theorem d_add_125 : decode b_add 125 = .ok (.aload_n 0, 1) := by decide +kernel
theorem d_add_126 : decode b_add 126 = .ok (.getfield 119, 3) := by decide +kernel
theorem d_add_129 : decode b_add 129 = .ok (.iload_n 3, 1) := by decide +kernel
theorem d_add_130 : decode b_add 130 = .ok (.bipush 15, 2) := by decide +kernel
theorem d_add_132 : decode b_add 132 = .ok (.iastore, 1) := by decide +kernel
theorem d_add_133 : decode b_add 133 = .ok (.aload_n 0, 1) := by decide +kernel
theorem d_add_134 : decode b_add 134 = .ok (.getfield 122, 3) := by decide +kernel
theorem d_add_137 : decode b_add 137 = .ok (.iload_n 3, 1) := by decide +kernel
theorem d_add_138 : decode b_add 138 = .ok (.iconst 0, 1) := by decide +kernel
theorem d_add_139 : decode b_add 139 = .ok (.iastore, 1) := by decide +kernel
theorem d_add_140 : decode b_add 140 = .ok (.aload_n 0, 1) := by decide +kernel
theorem d_add_141 : decode b_add 141 = .ok (.iload_n 3, 1) := by decide +kernel
theorem d_add_142 : decode b_add 142 = .ok (.iload_n 1, 1) := by decide +kernel
theorem d_add_143 : decode b_add 143 = .ok (.invokevirtual 641, 3) := by decide +kernel
theorem d_add_146 : decode b_add 146 = .ok (.iload_n 3, 1) := by decide +kernel
theorem d_add_147 : decode b_add 147 = .ok (.ireturn, 1) := by decide +kernel
abbrev b_principal : ByteArray := prog_14_method_90_code
def y_principal : MethodName := ⟨R_M, "principal", "(I)I"⟩
abbrev k_principal : Cond := .code y_principal b_principal 3 (some .int)
theorem ki_principal : k_principal ∈ lw_tg := in_t 2337 (by decide +kernel)
theorem ks_principal : Cond.instanceMethod y_principal ∈ lw_tg := in_t 2335 (by decide +kernel)
theorem d_principal_0 : decode b_principal 0 = .ok (.aload_n 0, 1) := by decide +kernel
theorem d_principal_1 : decode b_principal 1 = .ok (.iload_n 1, 1) := by decide +kernel
theorem d_principal_2 : decode b_principal 2 = .ok (.iconst 0, 1) := by decide +kernel
theorem d_principal_3 : decode b_principal 3 = .ok (.invokevirtual 335, 3) := by decide +kernel
theorem d_principal_6 : decode b_principal 6 = .ok (.istore_n 2, 1) := by decide +kernel
theorem d_principal_7 : decode b_principal 7 = .ok (.aload_n 0, 1) := by decide +kernel
theorem d_principal_8 : decode b_principal 8 = .ok (.iconst 0, 1) := by decide +kernel
theorem d_principal_9 : decode b_principal 9 = .ok (.putfield 332, 3) := by decide +kernel
theorem d_principal_12 : decode b_principal 12 = .ok (.iload_n 2, 1) := by decide +kernel
theorem d_principal_13 : decode b_principal 13 = .ok (.ireturn, 1) := by decide +kernel
theorem cn_639 : Cond.constant R_M 639 (36000) ∈ lw_tg := in_t 1786 (by decide +kernel)
theorem cn_640 : Cond.constant R_M 640 (72000) ∈ lw_tg := in_t 1787 (by decide +kernel)
theorem kx_word : Cond.selects R_M y_word y_word ∈ lw_tg := List.mem_filter.mpr ⟨List.mem_append_left _ (List.mem_of_getElem? (i := 70) (by decide +kernel)), rfl⟩
theorem hd_word : y_word.cls = R_M ∧ y_word.cls ≠ "java/lang/invoke/MethodHandle" ∧ y_word.cls ≠ "java/lang/invoke/VarHandle" ∧ (parseMethodDescriptor y_word.desc).map (fun d => d.parameters.length) = some 2 := by decide +kernel
theorem kx_isHouse : Cond.selects R_M y_isHouse y_isHouse ∈ lw_tg := List.mem_filter.mpr ⟨List.mem_append_left _ (List.mem_of_getElem? (i := 74) (by decide +kernel)), rfl⟩
theorem hd_isHouse : y_isHouse.cls = R_M ∧ y_isHouse.cls ≠ "java/lang/invoke/MethodHandle" ∧ y_isHouse.cls ≠ "java/lang/invoke/VarHandle" ∧ (parseMethodDescriptor y_isHouse.desc).map (fun d => d.parameters.length) = some 1 := by decide +kernel
theorem kx_nameRead : Cond.selects R_M y_nameRead y_nameRead ∈ lw_tg := List.mem_filter.mpr ⟨List.mem_append_left _ (List.mem_of_getElem? (i := 73) (by decide +kernel)), rfl⟩
theorem hd_nameRead : y_nameRead.cls = R_M ∧ y_nameRead.cls ≠ "java/lang/invoke/MethodHandle" ∧ y_nameRead.cls ≠ "java/lang/invoke/VarHandle" ∧ (parseMethodDescriptor y_nameRead.desc).map (fun d => d.parameters.length) = some 1 := by decide +kernel
theorem kx_bothRead : Cond.selects R_M y_bothRead y_bothRead ∈ lw_tg := List.mem_filter.mpr ⟨List.mem_append_left _ (List.mem_of_getElem? (i := 72) (by decide +kernel)), rfl⟩
theorem hd_bothRead : y_bothRead.cls = R_M ∧ y_bothRead.cls ≠ "java/lang/invoke/MethodHandle" ∧ y_bothRead.cls ≠ "java/lang/invoke/VarHandle" ∧ (parseMethodDescriptor y_bothRead.desc).map (fun d => d.parameters.length) = some 1 := by decide +kernel
theorem kx_add : Cond.selects R_M y_add y_add ∈ lw_tg := List.mem_filter.mpr ⟨List.mem_append_left _ (List.mem_of_getElem? (i := 71) (by decide +kernel)), rfl⟩
theorem hd_add : y_add.cls = R_M ∧ y_add.cls ≠ "java/lang/invoke/MethodHandle" ∧ y_add.cls ≠ "java/lang/invoke/VarHandle" ∧ (parseMethodDescriptor y_add.desc).map (fun d => d.parameters.length) = some 2 := by decide +kernel
theorem kx_principal : Cond.selects R_M y_principal y_principal ∈ lw_tg := in_t 2336 (by decide +kernel)
theorem hd_principal : y_principal.cls = R_M ∧ y_principal.cls ≠ "java/lang/invoke/MethodHandle" ∧ y_principal.cls ≠ "java/lang/invoke/VarHandle" ∧ (parseMethodDescriptor y_principal.desc).map (fun d => d.parameters.length) = some 1 := by decide +kernel
set_option maxHeartbeats 4000000 in
set_option maxRecDepth 100000 in
theorem c_word_krb (l : Launch) (D : mD) (E : mE) (h : Nat) (q : Nat → Nat) (sz : Nat) (I : Nat → Int32) (J : Nat → Int64) (B : Nat → Nat → Int32) (G : Nat → Nat → Int64)  : Met l y_word (k_word :: lw_tg) (mR 4 85) (va_Pc [.ref h, .int (nI 0), .ref (D.2.1 0)] (mPre D E h q (I, J, B, G) sz)) (va_Qv (fun (u : mS) => (∀ j, u.1 j = I j) ∧ u.2.1 = J ∧ (∀ j, j ≠ 0 → u.2.2.1 j = B j) ∧ u.2.2.2 = G ∧ (∀ j, j < 13 → u.2.2.1 0 j = nI (kb j))) (mPost D E h q (mA E h q sz)) (mA E h q sz)) 0 0 (mA E h q sz) := by
  refine m_enter (by decide) rfl (Nat.le_of_ble_eq_true rfl) (fun p e s m below meth c ls AV QQ H locs hQQ X Y hZ hA hr hlk hml hl => ?_)
  have Y : mH D E (mA E h q sz) s.heap h q I J B G H locs := Y
  have hl : lv_has ls 4 [(0, .ref h), (1, .int (nI 0)), (2, .ref (D.2.1 0))] := hl
  refine lv_iconst (v := (nI 0)) X.1 X.2.1 d_word_0 (by decide) ?_
  refine lv_istore_n (lv' := [(3, .int (nI 0)), (0, .ref h), (1, .int (nI 0)), (2, .ref (D.2.1 0))]) X.1 X.2.1 d_word_1 rfl hl (by decide) rfl (fun ls hl => ?_)
  have lp4 : ∀ (n1 i2 : Nat) (B5 : Nat → Nat → Int32) (H : Heap) (locs : List Loc) (ls : Array Slot), i2 + n1 = 13 → 0 ≤ i2 → (∀ j, j ≠ 0 → B5 j = B j) → (∀ j, j < i2 → B5 0 j = nI (kb j)) → mH D E (mA E h q sz) s.heap h q I J B5 G H locs → lv_has ls 4 [(3, .int (nI i2)), (0, .ref h), (1, .int (nI 0)), (2, .ref (D.2.1 0))] → W p l e (mR 4 85) s m AV below meth c H locs 0 0 QQ (F0 m 2 ls []) := by
    intro n1
    induction n1 with
    | zero =>
      intro i2 B5 H locs ls hii2 hsi2 hB6 hm Y hl
      refine lv_iload_n X.1 X.2.1 d_word_2 rfl (lv_at hl 0 rfl) ?_
      refine lv_aload_n X.1 X.2.1 d_word_3 rfl (lv_at hl 3 rfl) ?_
      refine m_length (i := 0) X Y hZ (by decide) hml hl.1 ⟨by decide, by decide⟩ (Nat.le_of_ble_eq_true rfl) d_word_4 ⟨Nat.le_refl _, Nat.le_refl _⟩ (fun H locs Y => ?_)
      refine t_eq (y := nI 13) (by decide) ?_
      refine lv_icmp_ge (tgt := 30) X.1 X.2.1 d_word_7 (by decide) (fun c7 => ?_) (fun c7 => absurd ?_ c7)
      rotate_left
      · (rw [nI_leI (by omega) (by omega)] <;> omega)
      rw [nI_leI (by omega) (by omega)] at c7
      exact m_retv hQQ X Y hr hlk ⟨(fun j  => rfl), rfl, (fun j h0 => (hB6 j h0)), rfl, (fun j hj => hm j (by omega))⟩ d_word_30
    | succ n1 ih3 =>
      intro i2 B5 H locs ls hii2 hsi2 hB6 hm Y hl
      refine lv_iload_n X.1 X.2.1 d_word_2 rfl (lv_at hl 0 rfl) ?_
      refine lv_aload_n X.1 X.2.1 d_word_3 rfl (lv_at hl 3 rfl) ?_
      refine m_length (i := 0) X Y hZ (by decide) hml hl.1 ⟨by decide, by decide⟩ (Nat.le_of_ble_eq_true rfl) d_word_4 ⟨Nat.le_refl _, Nat.le_refl _⟩ (fun H locs Y => ?_)
      refine t_eq (y := nI 13) (by decide) ?_
      refine lv_icmp_ge (tgt := 30) X.1 X.2.1 d_word_7 (by decide) (fun c8 => absurd c8 ?_) (fun c8 => ?_)
      · (rw [nI_leI (by omega) (by omega)] <;> omega)
      rw [nI_leI (by omega) (by omega)] at c8
      refine lv_aload_n X.1 X.2.1 d_word_10 rfl (lv_at hl 1 rfl) ?_
      refine m_get X Y 0 (by decide) lk_mem (gf_mem _ _ _) rfl d_word_11 ?_
      refine lv_iload_n X.1 X.2.1 d_word_14 rfl (lv_at hl 2 rfl) ?_
      refine lv_iload_n X.1 X.2.1 d_word_15 rfl (lv_at hl 0 rfl) ?_
      refine lv_iadd X.1 X.2.1 d_word_16 ?_
      refine t_eq (y := nI (0 + i2)) (nI_add _ _) ?_
      refine lv_aload_n X.1 X.2.1 d_word_17 rfl (lv_at hl 3 rfl) ?_
      refine lv_iload_n X.1 X.2.1 d_word_18 rfl (lv_at hl 0 rfl) ?_
      refine m_charAt (i := 0) (k := i2) X Y hZ (by decide) (show i2 < 13 by omega) hml hl.1 ⟨by decide, by decide⟩ (Nat.le_of_ble_eq_true rfl) d_word_19 ⟨Nat.le_refl _, Nat.le_refl _⟩ (fun H locs Y => ?_)
      refine lv_i2b (v := nI (kb i2)) X.1 X.2.1 d_word_22 (kb_i2b i2 (by omega)) ?_
      refine m_bast X Y (aw_mem _ _ _ _ _ _ _) (vp_in_nI (by omega) (by decide)) (sw_mem _ _ _ _ _ _ _ _) d_word_23 (fun H locs Y => ?_)
      have g10 : ∀ j, j < i2 + 1 → (upd (B5 0) ((nI (0 + i2))).toNatClampNeg (vp_nar .byte (nI (kb i2)))) j = nI (kb j) := (fun j hj => by rw [nI_clamp (by omega), kb_nar _ (by omega), Nat.zero_add]; exact (Nat.lt_or_ge j i2).elim (fun h8 => (pk_un (Nat.ne_of_lt h8)).trans (hm j h8)) (fun h8 => by obtain rfl : j = i2 := (by omega); exact pk_us))
      generalize (upd (B5 0) ((nI (0 + i2))).toNatClampNeg (vp_nar .byte (nI (kb i2)))) = f9 at Y g10
      refine lv_iinc (v := (nI (i2 + 1))) (lv' := [(3, .int (nI (i2 + 1))), (0, .ref h), (1, .int (nI 0)), (2, .ref (D.2.1 0))]) X.1 X.2.1 d_word_24 hl (k := 0) rfl (nI_add _ 1) (by decide) rfl (fun ls hl => ?_)
      refine lv_goto (tgt := 2) X.1 X.2.1 d_word_27 (by decide) ?_
      exact ih3 (i2 + 1) (upB B5 0 f9) _ _ _ (by omega) (by omega) (fun j h0 => ((if_neg h0).trans (hB6 j h0))) (show ∀ j, j < i2 + 1 → (upB B5 0 f9) 0 j = nI (kb j) from g10) Y (lv_sub hl [0, 1, 2, 3] rfl)
  exact lp4 (13) 0 B _ _ _ (by omega) (by omega) (fun j h0 => rfl) (fun j hj => absurd hj (Nat.not_lt_zero j)) Y (lv_sub hl [0, 1, 2, 3] rfl)
set_option maxHeartbeats 4000000 in
set_option maxRecDepth 100000 in
theorem c_isHouse_first (l : Launch) (D : mD) (E : mE) (h : Nat) (q : Nat → Nat) (sz : Nat) (I : Nat → Int32) (J : Nat → Int64) (B : Nat → Nat → Int32) (G : Nat → Nat → Int64) (a1 : Int32) (hn : I 2 = nI 13) (hm : ∀ j, j < 13 → B 0 j = nI (kb j)) : Met l y_isHouse (k_isHouse :: lw_tg) (mR 4 85) (va_Pc [.ref h, .int a1] (mPre D E h q (I, J, B, G) sz)) (va_Qi (fun (r : Int32) (u : mS) => (∀ j, u.1 j = I j) ∧ u.2.1 = J ∧ (∀ j, u.2.2.1 j = B j) ∧ u.2.2.2 = G ∧ (r = nI 1)) (mPost D E h q (mA E h q sz)) (mA E h q sz)) 0 0 (mA E h q sz) := by
  refine m_enter (by decide) rfl (Nat.le_of_ble_eq_true rfl) (fun p e s m below meth c ls AV QQ H locs hQQ X Y hZ hA hr hlk hml hl => ?_)
  have Y : mH D E (mA E h q sz) s.heap h q I J B G H locs := Y
  have hl : lv_has ls 4 [(0, .ref h), (1, .int a1)] := hl
  refine m_ldcSW (i := 1) X (by decide) (by decide) d_isHouse_0 ?_
  refine lv_astore_n (lv' := [(2, .ref (D.2.1 1)), (0, .ref h), (1, .int a1)]) X.1 X.2.1 d_isHouse_3 rfl hl (by decide) rfl (fun ls hl => ?_)
  refine lv_aload_n X.1 X.2.1 d_isHouse_4 rfl (lv_at hl 1 rfl) ?_
  refine m_get X Y 2 (by decide) lk_length (gf_length _ _ _) rfl d_isHouse_5 ?_
  refine t_eq (show I 2 = nI (13) from hn) ?_
  refine lv_bipush (v := (nI 12)) X.1 X.2.1 d_isHouse_8 (by decide) ?_
  refine lv_icmp_ge (tgt := 15) X.1 X.2.1 d_isHouse_10 (by decide) (fun c1 => ?_) (fun c1 => absurd ?_ c1)
  rotate_left
  · (rw [nI_leI (by omega) (by omega)] <;> omega)
  rw [nI_leI (by omega) (by omega)] at c1
  refine lv_iconst (v := (nI 0)) X.1 X.2.1 d_isHouse_15 (by decide) ?_
  refine lv_istore_n (lv' := [(3, .int (nI 0)), (2, .ref (D.2.1 1)), (0, .ref h), (1, .int a1)]) X.1 X.2.1 d_isHouse_16 rfl hl (by decide) rfl (fun ls hl => ?_)
  have lp5 : ∀ (n2 i3 : Nat)  (H : Heap) (locs : List Loc) (ls : Array Slot), i3 + n2 = 12 → 0 ≤ i3 → mH D E (mA E h q sz) s.heap h q I J B G H locs → lv_has ls 4 [(3, .int (nI i3)), (2, .ref (D.2.1 1)), (0, .ref h), (1, .int a1)] → W p l e (mR 4 85) s m AV below meth c H locs 0 0 QQ (F0 m 17 ls []) := by
    intro n2
    induction n2 with
    | zero =>
      intro i3  H locs ls hii3 hsi3   Y hl
      refine lv_iload_n X.1 X.2.1 d_isHouse_17 rfl (lv_at hl 0 rfl) ?_
      refine lv_bipush (v := (nI 12)) X.1 X.2.1 d_isHouse_18 (by decide) ?_
      refine lv_icmp_ge (tgt := 45) X.1 X.2.1 d_isHouse_20 (by decide) (fun c6 => ?_) (fun c6 => absurd ?_ c6)
      rotate_left
      · (rw [nI_leI (by omega) (by omega)] <;> omega)
      rw [nI_leI (by omega) (by omega)] at c6
      refine lv_aload_n X.1 X.2.1 d_isHouse_45 rfl (lv_at hl 2 rfl) ?_
      refine m_get X Y 2 (by decide) lk_length (gf_length _ _ _) rfl d_isHouse_46 ?_
      refine t_eq (show I 2 = nI (13) from hn) ?_
      refine lv_bipush (v := (nI 12)) X.1 X.2.1 d_isHouse_49 (by decide) ?_
      refine lv_icmp_eq (tgt := 66) X.1 X.2.1 d_isHouse_51 (by decide) (fun c7 => absurd c7 ?_) (fun c7 => ?_)
      · (rw [nI_eq (by omega) (by omega)] <;> omega)
      rw [nI_eq (by omega) (by omega)] at c7
      refine lv_aload_n X.1 X.2.1 d_isHouse_54 rfl (lv_at hl 2 rfl) ?_
      refine m_get X Y 0 (by decide) lk_mem (gf_mem _ _ _) rfl d_isHouse_55 ?_
      refine lv_bipush (v := (nI 12)) X.1 X.2.1 d_isHouse_58 (by decide) ?_
      refine m_bald X Y (aw_mem _ _ _ _ _ _ _) (vp_in_nI (by omega) (by decide)) d_isHouse_60 ?_
      refine t_eq (show B 0 ((nI 12)).toNatClampNeg = nI (58) from (by rw [nI_clamp (by omega)]; exact ((show ∀ j, j < 13 → B 0 j = nI (kb j) from hm) 12 (by omega)).trans (by decide))) ?_
      refine lv_bipush (v := (nI 58)) X.1 X.2.1 d_isHouse_61 (by decide) ?_
      refine lv_icmp_ne (tgt := 70) X.1 X.2.1 d_isHouse_63 (by decide) (fun c8 => absurd c8 ?_) (fun c8 => ?_)
      · (rw [nI_eq (by omega) (by omega)] <;> omega)
      rw [nI_eq (by omega) (by omega)] at c8
      refine lv_iconst (v := (nI 1)) X.1 X.2.1 d_isHouse_66 (by decide) ?_
      refine lv_goto (tgt := 71) X.1 X.2.1 d_isHouse_67 (by decide) ?_
      exact m_retz hQQ X Y hr hlk rfl ⟨(fun j  => rfl), rfl, (fun j  => rfl), rfl, rfl⟩ d_isHouse_71
    | succ n2 ih4 =>
      intro i3  H locs ls hii3 hsi3   Y hl
      refine lv_iload_n X.1 X.2.1 d_isHouse_17 rfl (lv_at hl 0 rfl) ?_
      refine lv_bipush (v := (nI 12)) X.1 X.2.1 d_isHouse_18 (by decide) ?_
      refine lv_icmp_ge (tgt := 45) X.1 X.2.1 d_isHouse_20 (by decide) (fun c9 => absurd c9 ?_) (fun c9 => ?_)
      · (rw [nI_leI (by omega) (by omega)] <;> omega)
      rw [nI_leI (by omega) (by omega)] at c9
      refine lv_aload_n X.1 X.2.1 d_isHouse_23 rfl (lv_at hl 2 rfl) ?_
      refine m_get X Y 0 (by decide) lk_mem (gf_mem _ _ _) rfl d_isHouse_24 ?_
      refine lv_iload_n X.1 X.2.1 d_isHouse_27 rfl (lv_at hl 0 rfl) ?_
      refine m_bald X Y (aw_mem _ _ _ _ _ _ _) (vp_in_nI (by omega) (by decide)) d_isHouse_28 ?_
      refine t_eq (show B 0 ((nI i3)).toNatClampNeg = nI (kb i3) from (by rw [nI_clamp (by omega)]; exact (show ∀ j, j < 13 → B 0 j = nI (kb j) from hm) i3 (by omega))) ?_
      refine lv_aload_n X.1 X.2.1 d_isHouse_29 rfl (lv_at hl 1 rfl) ?_
      refine lv_iload_n X.1 X.2.1 d_isHouse_30 rfl (lv_at hl 0 rfl) ?_
      refine m_charAt (i := 1) (k := i3) X Y hZ (by decide) (show i3 < 12 by omega) hml hl.1 ⟨by decide, by decide⟩ (Nat.le_of_ble_eq_true rfl) d_isHouse_31 ⟨Nat.le_refl _, Nat.le_refl _⟩ (fun H locs Y => ?_)
      refine t_eq (kb_1 i3 (by omega)) ?_
      refine lv_icmp_eq (tgt := 39) X.1 X.2.1 d_isHouse_34 (by decide) (fun c10 => ?_) (fun c10 => absurd ?_ c10)
      rotate_left
      · rfl
      refine lv_iinc (v := (nI (i3 + 1))) (lv' := [(3, .int (nI (i3 + 1))), (2, .ref (D.2.1 1)), (0, .ref h), (1, .int a1)]) X.1 X.2.1 d_isHouse_39 hl (k := 0) rfl (nI_add _ 1) (by decide) rfl (fun ls hl => ?_)
      refine lv_goto (tgt := 17) X.1 X.2.1 d_isHouse_42 (by decide) ?_
      exact ih4 (i3 + 1)  _ _ _ (by omega) (by omega)   Y (lv_sub hl [0, 1, 2, 3] rfl)
  exact lp5 (12) 0  _ _ _ (by omega) (by omega)   Y (lv_sub hl [0, 1, 2, 3] rfl)
set_option maxHeartbeats 4000000 in
set_option maxRecDepth 100000 in
theorem c_nameRead_first (l : Launch) (D : mD) (E : mE) (h : Nat) (q : Nat → Nat) (sz : Nat) (I : Nat → Int32) (J : Nat → Int64) (B : Nat → Nat → Int32) (G : Nat → Nat → Int64) (hn : I 2 = nI 13) (hm : ∀ j, j < 13 → B 0 j = nI (kb j)) : Met l y_nameRead (k_nameRead :: lw_tg) (mR 5 108) (va_Pc [.ref h, .int (nI 1)] (mPre D E h q (I, J, B, G) sz)) (va_Qi (fun (r : Int32) (u : mS) => (∀ j, j ≠ 54 → j ≠ 55 → u.1 j = I j) ∧ u.2.1 = J ∧ (∀ j, j ≠ 53 → u.2.2.1 j = B j) ∧ u.2.2.2 = G ∧ u.1 55 = nI (12) ∧ u.1 54 = nI (12) ∧ (r = nI 1)) (mPost D E h q (mA E h q sz)) (mA E h q sz)) 0 0 (mA E h q sz) := by
  refine m_enter (by decide) rfl (Nat.le_of_ble_eq_true rfl) (fun p e s m below meth c ls AV QQ H locs hQQ X Y hZ hA hr hlk hml hl => ?_)
  have Y : mH D E (mA E h q sz) s.heap h q I J B G H locs := Y
  have hl : lv_has ls 9 [(0, .ref h), (1, .int (nI 1))] := hl
  refine lv_iconst (v := (nI 0)) X.1 X.2.1 d_nameRead_0 (by decide) ?_
  refine lv_istore_n (lv' := [(2, .int (nI 0)), (0, .ref h), (1, .int (nI 1))]) X.1 X.2.1 d_nameRead_1 rfl hl (by decide) rfl (fun ls hl => ?_)
  refine lv_iconst (v := (nI 1)) X.1 X.2.1 d_nameRead_2 (by decide) ?_
  refine lv_istore_n (lv' := [(3, .int (nI 1)), (2, .int (nI 0)), (0, .ref h), (1, .int (nI 1))]) X.1 X.2.1 d_nameRead_3 rfl hl (by decide) rfl (fun ls hl => ?_)
  refine lv_iconst (v := (nI 0)) X.1 X.2.1 d_nameRead_4 (by decide) ?_
  refine lv_istore (lv' := [(4, .int (nI 0)), (3, .int (nI 1)), (2, .int (nI 0)), (0, .ref h), (1, .int (nI 1))]) X.1 X.2.1 d_nameRead_5 hl (by decide) rfl (fun ls hl => ?_)
  refine lv_iconst (v := (nI 1)) X.1 X.2.1 d_nameRead_7 (by decide) ?_
  refine lv_istore (lv' := [(5, .int (nI 1)), (4, .int (nI 0)), (3, .int (nI 1)), (2, .int (nI 0)), (0, .ref h), (1, .int (nI 1))]) X.1 X.2.1 d_nameRead_8 hl (by decide) rfl (fun ls hl => ?_)
  refine lv_iload_n X.1 X.2.1 d_nameRead_10 rfl (lv_at hl 3 rfl) ?_
  refine lv_aload_n X.1 X.2.1 d_nameRead_11 rfl (lv_at hl 4 rfl) ?_
  refine m_get X Y 2 (by decide) lk_length (gf_length _ _ _) rfl d_nameRead_12 ?_
  refine t_eq (show I 2 = nI (13) from hn) ?_
  refine lv_icmp_ge (tgt := 182) X.1 X.2.1 d_nameRead_15 (by decide) (fun c1 => absurd c1 ?_) (fun c1 => ?_)
  · (rw [nI_leI (by omega) (by omega)] <;> omega)
  rw [nI_leI (by omega) (by omega)] at c1
  refine lv_aload_n X.1 X.2.1 d_nameRead_18 rfl (lv_at hl 4 rfl) ?_
  refine m_get X Y 0 (by decide) lk_mem (gf_mem _ _ _) rfl d_nameRead_19 ?_
  refine lv_iload_n X.1 X.2.1 d_nameRead_22 rfl (lv_at hl 3 rfl) ?_
  refine m_bald X Y (aw_mem _ _ _ _ _ _ _) (vp_in_nI (by omega) (by decide)) d_nameRead_23 ?_
  refine t_eq (show B 0 ((nI 0)).toNatClampNeg = nI (107) from (by rw [nI_clamp (by omega)]; exact ((show ∀ j, j < 13 → B 0 j = nI (kb j) from hm) 0 (by omega)).trans (by decide))) ?_
  refine lv_bipush (v := (nI 58)) X.1 X.2.1 d_nameRead_24 (by decide) ?_
  refine lv_icmp_eq (tgt := 182) X.1 X.2.1 d_nameRead_26 (by decide) (fun c2 => absurd c2 ?_) (fun c2 => ?_)
  · (rw [nI_eq (by omega) (by omega)] <;> omega)
  rw [nI_eq (by omega) (by omega)] at c2
  refine lv_iload X.1 X.2.1 d_nameRead_29 (lv_at hl 0 rfl) ?_
  refine lv_if_eq (tgt := 182) X.1 X.2.1 d_nameRead_31 (by decide) (fun c3 => absurd c3 ?_) (fun c3 => ?_)
  · (rw [← nI_0, nI_eq (by omega) (by omega)] <;> omega)
  rw [← nI_0] at c3
  rw [nI_eq (by omega) (by omega)] at c3
  refine lv_aload_n X.1 X.2.1 d_nameRead_34 rfl (lv_at hl 4 rfl) ?_
  refine m_get X Y 0 (by decide) lk_mem (gf_mem _ _ _) rfl d_nameRead_35 ?_
  refine lv_iload_n X.1 X.2.1 d_nameRead_38 rfl (lv_at hl 3 rfl) ?_
  refine m_bald X Y (aw_mem _ _ _ _ _ _ _) (vp_in_nI (by omega) (by decide)) d_nameRead_39 ?_
  refine t_eq (show B 0 ((nI 0)).toNatClampNeg = nI (107) from (by rw [nI_clamp (by omega)]; exact ((show ∀ j, j < 13 → B 0 j = nI (kb j) from hm) 0 (by omega)).trans (by decide))) ?_
  refine lv_istore (lv' := [(6, .int (nI (107))), (5, .int (nI 1)), (4, .int (nI 0)), (3, .int (nI 1)), (2, .int (nI 0)), (0, .ref h), (1, .int (nI 1))]) X.1 X.2.1 d_nameRead_40 hl (by decide) rfl (fun ls hl => ?_)
  refine lv_iload X.1 X.2.1 d_nameRead_42 (lv_at hl 0 rfl) ?_
  refine lv_bipush (v := (nI 97)) X.1 X.2.1 d_nameRead_44 (by decide) ?_
  refine lv_icmp_lt (tgt := 60) X.1 X.2.1 d_nameRead_46 (by decide) (fun c4 => absurd c4 ?_) (fun c4 => ?_)
  · (rw [nI_ltI (by omega) (by omega)] <;> omega)
  rw [nI_ltI (by omega) (by omega)] at c4
  refine lv_iload X.1 X.2.1 d_nameRead_49 (lv_at hl 0 rfl) ?_
  refine lv_bipush (v := (nI 122)) X.1 X.2.1 d_nameRead_51 (by decide) ?_
  refine lv_icmp_gt (tgt := 60) X.1 X.2.1 d_nameRead_53 (by decide) (fun c5 => absurd c5 ?_) (fun c5 => ?_)
  · (rw [nI_ltI (by omega) (by omega)] <;> omega)
  rw [nI_ltI (by omega) (by omega)] at c5
  refine lv_iconst (v := (nI 1)) X.1 X.2.1 d_nameRead_56 (by decide) ?_
  refine lv_goto (tgt := 61) X.1 X.2.1 d_nameRead_57 (by decide) ?_
  refine lv_istore (lv' := [(7, .int (nI 1)), (6, .int (nI (107))), (5, .int (nI 1)), (4, .int (nI 0)), (3, .int (nI 1)), (2, .int (nI 0)), (0, .ref h), (1, .int (nI 1))]) X.1 X.2.1 d_nameRead_61 hl (by decide) rfl (fun ls hl => ?_)
  refine lv_iload X.1 X.2.1 d_nameRead_63 (lv_at hl 1 rfl) ?_
  refine lv_bipush (v := (nI 47)) X.1 X.2.1 d_nameRead_65 (by decide) ?_
  refine lv_icmp_ne (tgt := 96) X.1 X.2.1 d_nameRead_67 (by decide) (fun c6 => ?_) (fun c6 => absurd c6 ?_)
  rotate_left
  · (rw [nI_eq (by omega) (by omega)] <;> omega)
  rw [nI_eq (by omega) (by omega)] at c6
  refine lv_iload X.1 X.2.1 d_nameRead_96 (lv_at hl 0 rfl) ?_
  refine lv_if_ne (tgt := 147) X.1 X.2.1 d_nameRead_98 (by decide) (fun c7 => ?_) (fun c7 => absurd c7 ?_)
  rotate_left
  · (rw [← nI_0, nI_eq (by omega) (by omega)] <;> omega)
  rw [← nI_0] at c7
  rw [nI_eq (by omega) (by omega)] at c7
  refine lv_iconst (v := (nI 1)) X.1 X.2.1 d_nameRead_147 (by decide) ?_
  refine lv_goto (tgt := 152) X.1 X.2.1 d_nameRead_148 (by decide) ?_
  refine lv_istore (lv' := [(5, .int (nI 1)), (7, .int (nI 1)), (6, .int (nI (107))), (4, .int (nI 0)), (3, .int (nI 1)), (2, .int (nI 0)), (0, .ref h), (1, .int (nI 1))]) X.1 X.2.1 d_nameRead_152 hl (by decide) rfl (fun ls hl => ?_)
  refine lv_iinc (v := (nI 1)) (lv' := [(4, .int (nI 1)), (5, .int (nI 1)), (7, .int (nI 1)), (6, .int (nI (107))), (3, .int (nI 1)), (2, .int (nI 0)), (0, .ref h), (1, .int (nI 1))]) X.1 X.2.1 d_nameRead_154 hl (k := 3) rfl (by decide) (by decide) rfl (fun ls hl => ?_)
  refine lv_iload X.1 X.2.1 d_nameRead_157 (lv_at hl 1 rfl) ?_
  refine lv_if_eq (tgt := 173) X.1 X.2.1 d_nameRead_159 (by decide) (fun c8 => absurd c8 ?_) (fun c8 => ?_)
  · (rw [← nI_0, nI_eq (by omega) (by omega)] <;> omega)
  rw [← nI_0] at c8
  rw [nI_eq (by omega) (by omega)] at c8
  refine lv_iload X.1 X.2.1 d_nameRead_162 (lv_at hl 0 rfl) ?_
  refine lv_bipush (v := (nI 16)) X.1 X.2.1 d_nameRead_164 (by decide) ?_
  refine lv_icmp_gt (tgt := 173) X.1 X.2.1 d_nameRead_166 (by decide) (fun c9 => absurd c9 ?_) (fun c9 => ?_)
  · (rw [nI_ltI (by omega) (by omega)] <;> omega)
  rw [nI_ltI (by omega) (by omega)] at c9
  refine lv_iconst (v := (nI 1)) X.1 X.2.1 d_nameRead_169 (by decide) ?_
  refine lv_goto (tgt := 174) X.1 X.2.1 d_nameRead_170 (by decide) ?_
  refine lv_istore (lv' := [(5, .int (nI 1)), (4, .int (nI 1)), (7, .int (nI 1)), (6, .int (nI (107))), (3, .int (nI 1)), (2, .int (nI 0)), (0, .ref h), (1, .int (nI 1))]) X.1 X.2.1 d_nameRead_174 hl (by decide) rfl (fun ls hl => ?_)
  refine lv_iinc (v := (nI 1)) (lv' := [(2, .int (nI 1)), (5, .int (nI 1)), (4, .int (nI 1)), (7, .int (nI 1)), (6, .int (nI (107))), (3, .int (nI 1)), (0, .ref h), (1, .int (nI 1))]) X.1 X.2.1 d_nameRead_176 hl (k := 5) rfl (by decide) (by decide) rfl (fun ls hl => ?_)
  refine lv_goto (tgt := 10) X.1 X.2.1 d_nameRead_179 (by decide) ?_
  refine lv_iload_n X.1 X.2.1 d_nameRead_10 rfl (lv_at hl 0 rfl) ?_
  refine lv_aload_n X.1 X.2.1 d_nameRead_11 rfl (lv_at hl 6 rfl) ?_
  refine m_get X Y 2 (by decide) lk_length (gf_length _ _ _) rfl d_nameRead_12 ?_
  refine t_eq (show I 2 = nI (13) from hn) ?_
  refine lv_icmp_ge (tgt := 182) X.1 X.2.1 d_nameRead_15 (by decide) (fun c10 => absurd c10 ?_) (fun c10 => ?_)
  · (rw [nI_leI (by omega) (by omega)] <;> omega)
  rw [nI_leI (by omega) (by omega)] at c10
  refine lv_aload_n X.1 X.2.1 d_nameRead_18 rfl (lv_at hl 6 rfl) ?_
  refine m_get X Y 0 (by decide) lk_mem (gf_mem _ _ _) rfl d_nameRead_19 ?_
  refine lv_iload_n X.1 X.2.1 d_nameRead_22 rfl (lv_at hl 0 rfl) ?_
  refine m_bald X Y (aw_mem _ _ _ _ _ _ _) (vp_in_nI (by omega) (by decide)) d_nameRead_23 ?_
  refine t_eq (show B 0 ((nI 1)).toNatClampNeg = nI (114) from (by rw [nI_clamp (by omega)]; exact ((show ∀ j, j < 13 → B 0 j = nI (kb j) from hm) 1 (by omega)).trans (by decide))) ?_
  refine lv_bipush (v := (nI 58)) X.1 X.2.1 d_nameRead_24 (by decide) ?_
  refine lv_icmp_eq (tgt := 182) X.1 X.2.1 d_nameRead_26 (by decide) (fun c11 => absurd c11 ?_) (fun c11 => ?_)
  · (rw [nI_eq (by omega) (by omega)] <;> omega)
  rw [nI_eq (by omega) (by omega)] at c11
  refine lv_iload X.1 X.2.1 d_nameRead_29 (lv_at hl 1 rfl) ?_
  refine lv_if_eq (tgt := 182) X.1 X.2.1 d_nameRead_31 (by decide) (fun c12 => absurd c12 ?_) (fun c12 => ?_)
  · (rw [← nI_0, nI_eq (by omega) (by omega)] <;> omega)
  rw [← nI_0] at c12
  rw [nI_eq (by omega) (by omega)] at c12
  refine lv_aload_n X.1 X.2.1 d_nameRead_34 rfl (lv_at hl 6 rfl) ?_
  refine m_get X Y 0 (by decide) lk_mem (gf_mem _ _ _) rfl d_nameRead_35 ?_
  refine lv_iload_n X.1 X.2.1 d_nameRead_38 rfl (lv_at hl 0 rfl) ?_
  refine m_bald X Y (aw_mem _ _ _ _ _ _ _) (vp_in_nI (by omega) (by decide)) d_nameRead_39 ?_
  refine t_eq (show B 0 ((nI 1)).toNatClampNeg = nI (114) from (by rw [nI_clamp (by omega)]; exact ((show ∀ j, j < 13 → B 0 j = nI (kb j) from hm) 1 (by omega)).trans (by decide))) ?_
  refine lv_istore (lv' := [(6, .int (nI (114))), (2, .int (nI 1)), (5, .int (nI 1)), (4, .int (nI 1)), (7, .int (nI 1)), (3, .int (nI 1)), (0, .ref h), (1, .int (nI 1))]) X.1 X.2.1 d_nameRead_40 hl (by decide) rfl (fun ls hl => ?_)
  refine lv_iload X.1 X.2.1 d_nameRead_42 (lv_at hl 0 rfl) ?_
  refine lv_bipush (v := (nI 97)) X.1 X.2.1 d_nameRead_44 (by decide) ?_
  refine lv_icmp_lt (tgt := 60) X.1 X.2.1 d_nameRead_46 (by decide) (fun c13 => absurd c13 ?_) (fun c13 => ?_)
  · (rw [nI_ltI (by omega) (by omega)] <;> omega)
  rw [nI_ltI (by omega) (by omega)] at c13
  refine lv_iload X.1 X.2.1 d_nameRead_49 (lv_at hl 0 rfl) ?_
  refine lv_bipush (v := (nI 122)) X.1 X.2.1 d_nameRead_51 (by decide) ?_
  refine lv_icmp_gt (tgt := 60) X.1 X.2.1 d_nameRead_53 (by decide) (fun c14 => absurd c14 ?_) (fun c14 => ?_)
  · (rw [nI_ltI (by omega) (by omega)] <;> omega)
  rw [nI_ltI (by omega) (by omega)] at c14
  refine lv_iconst (v := (nI 1)) X.1 X.2.1 d_nameRead_56 (by decide) ?_
  refine lv_goto (tgt := 61) X.1 X.2.1 d_nameRead_57 (by decide) ?_
  refine lv_istore (lv' := [(7, .int (nI 1)), (6, .int (nI (114))), (2, .int (nI 1)), (5, .int (nI 1)), (4, .int (nI 1)), (3, .int (nI 1)), (0, .ref h), (1, .int (nI 1))]) X.1 X.2.1 d_nameRead_61 hl (by decide) rfl (fun ls hl => ?_)
  refine lv_iload X.1 X.2.1 d_nameRead_63 (lv_at hl 1 rfl) ?_
  refine lv_bipush (v := (nI 47)) X.1 X.2.1 d_nameRead_65 (by decide) ?_
  refine lv_icmp_ne (tgt := 96) X.1 X.2.1 d_nameRead_67 (by decide) (fun c15 => ?_) (fun c15 => absurd c15 ?_)
  rotate_left
  · (rw [nI_eq (by omega) (by omega)] <;> omega)
  rw [nI_eq (by omega) (by omega)] at c15
  refine lv_iload X.1 X.2.1 d_nameRead_96 (lv_at hl 0 rfl) ?_
  refine lv_if_ne (tgt := 147) X.1 X.2.1 d_nameRead_98 (by decide) (fun c16 => ?_) (fun c16 => absurd c16 ?_)
  rotate_left
  · (rw [← nI_0, nI_eq (by omega) (by omega)] <;> omega)
  rw [← nI_0] at c16
  rw [nI_eq (by omega) (by omega)] at c16
  refine lv_iconst (v := (nI 1)) X.1 X.2.1 d_nameRead_147 (by decide) ?_
  refine lv_goto (tgt := 152) X.1 X.2.1 d_nameRead_148 (by decide) ?_
  refine lv_istore (lv' := [(5, .int (nI 1)), (7, .int (nI 1)), (6, .int (nI (114))), (2, .int (nI 1)), (4, .int (nI 1)), (3, .int (nI 1)), (0, .ref h), (1, .int (nI 1))]) X.1 X.2.1 d_nameRead_152 hl (by decide) rfl (fun ls hl => ?_)
  refine lv_iinc (v := (nI 2)) (lv' := [(4, .int (nI 2)), (5, .int (nI 1)), (7, .int (nI 1)), (6, .int (nI (114))), (2, .int (nI 1)), (3, .int (nI 1)), (0, .ref h), (1, .int (nI 1))]) X.1 X.2.1 d_nameRead_154 hl (k := 4) rfl (by decide) (by decide) rfl (fun ls hl => ?_)
  refine lv_iload X.1 X.2.1 d_nameRead_157 (lv_at hl 1 rfl) ?_
  refine lv_if_eq (tgt := 173) X.1 X.2.1 d_nameRead_159 (by decide) (fun c17 => absurd c17 ?_) (fun c17 => ?_)
  · (rw [← nI_0, nI_eq (by omega) (by omega)] <;> omega)
  rw [← nI_0] at c17
  rw [nI_eq (by omega) (by omega)] at c17
  refine lv_iload X.1 X.2.1 d_nameRead_162 (lv_at hl 0 rfl) ?_
  refine lv_bipush (v := (nI 16)) X.1 X.2.1 d_nameRead_164 (by decide) ?_
  refine lv_icmp_gt (tgt := 173) X.1 X.2.1 d_nameRead_166 (by decide) (fun c18 => absurd c18 ?_) (fun c18 => ?_)
  · (rw [nI_ltI (by omega) (by omega)] <;> omega)
  rw [nI_ltI (by omega) (by omega)] at c18
  refine lv_iconst (v := (nI 1)) X.1 X.2.1 d_nameRead_169 (by decide) ?_
  refine lv_goto (tgt := 174) X.1 X.2.1 d_nameRead_170 (by decide) ?_
  refine lv_istore (lv' := [(5, .int (nI 1)), (4, .int (nI 2)), (7, .int (nI 1)), (6, .int (nI (114))), (2, .int (nI 1)), (3, .int (nI 1)), (0, .ref h), (1, .int (nI 1))]) X.1 X.2.1 d_nameRead_174 hl (by decide) rfl (fun ls hl => ?_)
  refine lv_iinc (v := (nI 2)) (lv' := [(2, .int (nI 2)), (5, .int (nI 1)), (4, .int (nI 2)), (7, .int (nI 1)), (6, .int (nI (114))), (3, .int (nI 1)), (0, .ref h), (1, .int (nI 1))]) X.1 X.2.1 d_nameRead_176 hl (k := 4) rfl (by decide) (by decide) rfl (fun ls hl => ?_)
  refine lv_goto (tgt := 10) X.1 X.2.1 d_nameRead_179 (by decide) ?_
  refine lv_iload_n X.1 X.2.1 d_nameRead_10 rfl (lv_at hl 0 rfl) ?_
  refine lv_aload_n X.1 X.2.1 d_nameRead_11 rfl (lv_at hl 6 rfl) ?_
  refine m_get X Y 2 (by decide) lk_length (gf_length _ _ _) rfl d_nameRead_12 ?_
  refine t_eq (show I 2 = nI (13) from hn) ?_
  refine lv_icmp_ge (tgt := 182) X.1 X.2.1 d_nameRead_15 (by decide) (fun c19 => absurd c19 ?_) (fun c19 => ?_)
  · (rw [nI_leI (by omega) (by omega)] <;> omega)
  rw [nI_leI (by omega) (by omega)] at c19
  refine lv_aload_n X.1 X.2.1 d_nameRead_18 rfl (lv_at hl 6 rfl) ?_
  refine m_get X Y 0 (by decide) lk_mem (gf_mem _ _ _) rfl d_nameRead_19 ?_
  refine lv_iload_n X.1 X.2.1 d_nameRead_22 rfl (lv_at hl 0 rfl) ?_
  refine m_bald X Y (aw_mem _ _ _ _ _ _ _) (vp_in_nI (by omega) (by decide)) d_nameRead_23 ?_
  refine t_eq (show B 0 ((nI 2)).toNatClampNeg = nI (98) from (by rw [nI_clamp (by omega)]; exact ((show ∀ j, j < 13 → B 0 j = nI (kb j) from hm) 2 (by omega)).trans (by decide))) ?_
  refine lv_bipush (v := (nI 58)) X.1 X.2.1 d_nameRead_24 (by decide) ?_
  refine lv_icmp_eq (tgt := 182) X.1 X.2.1 d_nameRead_26 (by decide) (fun c20 => absurd c20 ?_) (fun c20 => ?_)
  · (rw [nI_eq (by omega) (by omega)] <;> omega)
  rw [nI_eq (by omega) (by omega)] at c20
  refine lv_iload X.1 X.2.1 d_nameRead_29 (lv_at hl 1 rfl) ?_
  refine lv_if_eq (tgt := 182) X.1 X.2.1 d_nameRead_31 (by decide) (fun c21 => absurd c21 ?_) (fun c21 => ?_)
  · (rw [← nI_0, nI_eq (by omega) (by omega)] <;> omega)
  rw [← nI_0] at c21
  rw [nI_eq (by omega) (by omega)] at c21
  refine lv_aload_n X.1 X.2.1 d_nameRead_34 rfl (lv_at hl 6 rfl) ?_
  refine m_get X Y 0 (by decide) lk_mem (gf_mem _ _ _) rfl d_nameRead_35 ?_
  refine lv_iload_n X.1 X.2.1 d_nameRead_38 rfl (lv_at hl 0 rfl) ?_
  refine m_bald X Y (aw_mem _ _ _ _ _ _ _) (vp_in_nI (by omega) (by decide)) d_nameRead_39 ?_
  refine t_eq (show B 0 ((nI 2)).toNatClampNeg = nI (98) from (by rw [nI_clamp (by omega)]; exact ((show ∀ j, j < 13 → B 0 j = nI (kb j) from hm) 2 (by omega)).trans (by decide))) ?_
  refine lv_istore (lv' := [(6, .int (nI (98))), (2, .int (nI 2)), (5, .int (nI 1)), (4, .int (nI 2)), (7, .int (nI 1)), (3, .int (nI 1)), (0, .ref h), (1, .int (nI 1))]) X.1 X.2.1 d_nameRead_40 hl (by decide) rfl (fun ls hl => ?_)
  refine lv_iload X.1 X.2.1 d_nameRead_42 (lv_at hl 0 rfl) ?_
  refine lv_bipush (v := (nI 97)) X.1 X.2.1 d_nameRead_44 (by decide) ?_
  refine lv_icmp_lt (tgt := 60) X.1 X.2.1 d_nameRead_46 (by decide) (fun c22 => absurd c22 ?_) (fun c22 => ?_)
  · (rw [nI_ltI (by omega) (by omega)] <;> omega)
  rw [nI_ltI (by omega) (by omega)] at c22
  refine lv_iload X.1 X.2.1 d_nameRead_49 (lv_at hl 0 rfl) ?_
  refine lv_bipush (v := (nI 122)) X.1 X.2.1 d_nameRead_51 (by decide) ?_
  refine lv_icmp_gt (tgt := 60) X.1 X.2.1 d_nameRead_53 (by decide) (fun c23 => absurd c23 ?_) (fun c23 => ?_)
  · (rw [nI_ltI (by omega) (by omega)] <;> omega)
  rw [nI_ltI (by omega) (by omega)] at c23
  refine lv_iconst (v := (nI 1)) X.1 X.2.1 d_nameRead_56 (by decide) ?_
  refine lv_goto (tgt := 61) X.1 X.2.1 d_nameRead_57 (by decide) ?_
  refine lv_istore (lv' := [(7, .int (nI 1)), (6, .int (nI (98))), (2, .int (nI 2)), (5, .int (nI 1)), (4, .int (nI 2)), (3, .int (nI 1)), (0, .ref h), (1, .int (nI 1))]) X.1 X.2.1 d_nameRead_61 hl (by decide) rfl (fun ls hl => ?_)
  refine lv_iload X.1 X.2.1 d_nameRead_63 (lv_at hl 1 rfl) ?_
  refine lv_bipush (v := (nI 47)) X.1 X.2.1 d_nameRead_65 (by decide) ?_
  refine lv_icmp_ne (tgt := 96) X.1 X.2.1 d_nameRead_67 (by decide) (fun c24 => ?_) (fun c24 => absurd c24 ?_)
  rotate_left
  · (rw [nI_eq (by omega) (by omega)] <;> omega)
  rw [nI_eq (by omega) (by omega)] at c24
  refine lv_iload X.1 X.2.1 d_nameRead_96 (lv_at hl 0 rfl) ?_
  refine lv_if_ne (tgt := 147) X.1 X.2.1 d_nameRead_98 (by decide) (fun c25 => ?_) (fun c25 => absurd c25 ?_)
  rotate_left
  · (rw [← nI_0, nI_eq (by omega) (by omega)] <;> omega)
  rw [← nI_0] at c25
  rw [nI_eq (by omega) (by omega)] at c25
  refine lv_iconst (v := (nI 1)) X.1 X.2.1 d_nameRead_147 (by decide) ?_
  refine lv_goto (tgt := 152) X.1 X.2.1 d_nameRead_148 (by decide) ?_
  refine lv_istore (lv' := [(5, .int (nI 1)), (7, .int (nI 1)), (6, .int (nI (98))), (2, .int (nI 2)), (4, .int (nI 2)), (3, .int (nI 1)), (0, .ref h), (1, .int (nI 1))]) X.1 X.2.1 d_nameRead_152 hl (by decide) rfl (fun ls hl => ?_)
  refine lv_iinc (v := (nI 3)) (lv' := [(4, .int (nI 3)), (5, .int (nI 1)), (7, .int (nI 1)), (6, .int (nI (98))), (2, .int (nI 2)), (3, .int (nI 1)), (0, .ref h), (1, .int (nI 1))]) X.1 X.2.1 d_nameRead_154 hl (k := 4) rfl (by decide) (by decide) rfl (fun ls hl => ?_)
  refine lv_iload X.1 X.2.1 d_nameRead_157 (lv_at hl 1 rfl) ?_
  refine lv_if_eq (tgt := 173) X.1 X.2.1 d_nameRead_159 (by decide) (fun c26 => absurd c26 ?_) (fun c26 => ?_)
  · (rw [← nI_0, nI_eq (by omega) (by omega)] <;> omega)
  rw [← nI_0] at c26
  rw [nI_eq (by omega) (by omega)] at c26
  refine lv_iload X.1 X.2.1 d_nameRead_162 (lv_at hl 0 rfl) ?_
  refine lv_bipush (v := (nI 16)) X.1 X.2.1 d_nameRead_164 (by decide) ?_
  refine lv_icmp_gt (tgt := 173) X.1 X.2.1 d_nameRead_166 (by decide) (fun c27 => absurd c27 ?_) (fun c27 => ?_)
  · (rw [nI_ltI (by omega) (by omega)] <;> omega)
  rw [nI_ltI (by omega) (by omega)] at c27
  refine lv_iconst (v := (nI 1)) X.1 X.2.1 d_nameRead_169 (by decide) ?_
  refine lv_goto (tgt := 174) X.1 X.2.1 d_nameRead_170 (by decide) ?_
  refine lv_istore (lv' := [(5, .int (nI 1)), (4, .int (nI 3)), (7, .int (nI 1)), (6, .int (nI (98))), (2, .int (nI 2)), (3, .int (nI 1)), (0, .ref h), (1, .int (nI 1))]) X.1 X.2.1 d_nameRead_174 hl (by decide) rfl (fun ls hl => ?_)
  refine lv_iinc (v := (nI 3)) (lv' := [(2, .int (nI 3)), (5, .int (nI 1)), (4, .int (nI 3)), (7, .int (nI 1)), (6, .int (nI (98))), (3, .int (nI 1)), (0, .ref h), (1, .int (nI 1))]) X.1 X.2.1 d_nameRead_176 hl (k := 4) rfl (by decide) (by decide) rfl (fun ls hl => ?_)
  refine lv_goto (tgt := 10) X.1 X.2.1 d_nameRead_179 (by decide) ?_
  refine lv_iload_n X.1 X.2.1 d_nameRead_10 rfl (lv_at hl 0 rfl) ?_
  refine lv_aload_n X.1 X.2.1 d_nameRead_11 rfl (lv_at hl 6 rfl) ?_
  refine m_get X Y 2 (by decide) lk_length (gf_length _ _ _) rfl d_nameRead_12 ?_
  refine t_eq (show I 2 = nI (13) from hn) ?_
  refine lv_icmp_ge (tgt := 182) X.1 X.2.1 d_nameRead_15 (by decide) (fun c28 => absurd c28 ?_) (fun c28 => ?_)
  · (rw [nI_leI (by omega) (by omega)] <;> omega)
  rw [nI_leI (by omega) (by omega)] at c28
  refine lv_aload_n X.1 X.2.1 d_nameRead_18 rfl (lv_at hl 6 rfl) ?_
  refine m_get X Y 0 (by decide) lk_mem (gf_mem _ _ _) rfl d_nameRead_19 ?_
  refine lv_iload_n X.1 X.2.1 d_nameRead_22 rfl (lv_at hl 0 rfl) ?_
  refine m_bald X Y (aw_mem _ _ _ _ _ _ _) (vp_in_nI (by omega) (by decide)) d_nameRead_23 ?_
  refine t_eq (show B 0 ((nI 3)).toNatClampNeg = nI (116) from (by rw [nI_clamp (by omega)]; exact ((show ∀ j, j < 13 → B 0 j = nI (kb j) from hm) 3 (by omega)).trans (by decide))) ?_
  refine lv_bipush (v := (nI 58)) X.1 X.2.1 d_nameRead_24 (by decide) ?_
  refine lv_icmp_eq (tgt := 182) X.1 X.2.1 d_nameRead_26 (by decide) (fun c29 => absurd c29 ?_) (fun c29 => ?_)
  · (rw [nI_eq (by omega) (by omega)] <;> omega)
  rw [nI_eq (by omega) (by omega)] at c29
  refine lv_iload X.1 X.2.1 d_nameRead_29 (lv_at hl 1 rfl) ?_
  refine lv_if_eq (tgt := 182) X.1 X.2.1 d_nameRead_31 (by decide) (fun c30 => absurd c30 ?_) (fun c30 => ?_)
  · (rw [← nI_0, nI_eq (by omega) (by omega)] <;> omega)
  rw [← nI_0] at c30
  rw [nI_eq (by omega) (by omega)] at c30
  refine lv_aload_n X.1 X.2.1 d_nameRead_34 rfl (lv_at hl 6 rfl) ?_
  refine m_get X Y 0 (by decide) lk_mem (gf_mem _ _ _) rfl d_nameRead_35 ?_
  refine lv_iload_n X.1 X.2.1 d_nameRead_38 rfl (lv_at hl 0 rfl) ?_
  refine m_bald X Y (aw_mem _ _ _ _ _ _ _) (vp_in_nI (by omega) (by decide)) d_nameRead_39 ?_
  refine t_eq (show B 0 ((nI 3)).toNatClampNeg = nI (116) from (by rw [nI_clamp (by omega)]; exact ((show ∀ j, j < 13 → B 0 j = nI (kb j) from hm) 3 (by omega)).trans (by decide))) ?_
  refine lv_istore (lv' := [(6, .int (nI (116))), (2, .int (nI 3)), (5, .int (nI 1)), (4, .int (nI 3)), (7, .int (nI 1)), (3, .int (nI 1)), (0, .ref h), (1, .int (nI 1))]) X.1 X.2.1 d_nameRead_40 hl (by decide) rfl (fun ls hl => ?_)
  refine lv_iload X.1 X.2.1 d_nameRead_42 (lv_at hl 0 rfl) ?_
  refine lv_bipush (v := (nI 97)) X.1 X.2.1 d_nameRead_44 (by decide) ?_
  refine lv_icmp_lt (tgt := 60) X.1 X.2.1 d_nameRead_46 (by decide) (fun c31 => absurd c31 ?_) (fun c31 => ?_)
  · (rw [nI_ltI (by omega) (by omega)] <;> omega)
  rw [nI_ltI (by omega) (by omega)] at c31
  refine lv_iload X.1 X.2.1 d_nameRead_49 (lv_at hl 0 rfl) ?_
  refine lv_bipush (v := (nI 122)) X.1 X.2.1 d_nameRead_51 (by decide) ?_
  refine lv_icmp_gt (tgt := 60) X.1 X.2.1 d_nameRead_53 (by decide) (fun c32 => absurd c32 ?_) (fun c32 => ?_)
  · (rw [nI_ltI (by omega) (by omega)] <;> omega)
  rw [nI_ltI (by omega) (by omega)] at c32
  refine lv_iconst (v := (nI 1)) X.1 X.2.1 d_nameRead_56 (by decide) ?_
  refine lv_goto (tgt := 61) X.1 X.2.1 d_nameRead_57 (by decide) ?_
  refine lv_istore (lv' := [(7, .int (nI 1)), (6, .int (nI (116))), (2, .int (nI 3)), (5, .int (nI 1)), (4, .int (nI 3)), (3, .int (nI 1)), (0, .ref h), (1, .int (nI 1))]) X.1 X.2.1 d_nameRead_61 hl (by decide) rfl (fun ls hl => ?_)
  refine lv_iload X.1 X.2.1 d_nameRead_63 (lv_at hl 1 rfl) ?_
  refine lv_bipush (v := (nI 47)) X.1 X.2.1 d_nameRead_65 (by decide) ?_
  refine lv_icmp_ne (tgt := 96) X.1 X.2.1 d_nameRead_67 (by decide) (fun c33 => ?_) (fun c33 => absurd c33 ?_)
  rotate_left
  · (rw [nI_eq (by omega) (by omega)] <;> omega)
  rw [nI_eq (by omega) (by omega)] at c33
  refine lv_iload X.1 X.2.1 d_nameRead_96 (lv_at hl 0 rfl) ?_
  refine lv_if_ne (tgt := 147) X.1 X.2.1 d_nameRead_98 (by decide) (fun c34 => ?_) (fun c34 => absurd c34 ?_)
  rotate_left
  · (rw [← nI_0, nI_eq (by omega) (by omega)] <;> omega)
  rw [← nI_0] at c34
  rw [nI_eq (by omega) (by omega)] at c34
  refine lv_iconst (v := (nI 1)) X.1 X.2.1 d_nameRead_147 (by decide) ?_
  refine lv_goto (tgt := 152) X.1 X.2.1 d_nameRead_148 (by decide) ?_
  refine lv_istore (lv' := [(5, .int (nI 1)), (7, .int (nI 1)), (6, .int (nI (116))), (2, .int (nI 3)), (4, .int (nI 3)), (3, .int (nI 1)), (0, .ref h), (1, .int (nI 1))]) X.1 X.2.1 d_nameRead_152 hl (by decide) rfl (fun ls hl => ?_)
  refine lv_iinc (v := (nI 4)) (lv' := [(4, .int (nI 4)), (5, .int (nI 1)), (7, .int (nI 1)), (6, .int (nI (116))), (2, .int (nI 3)), (3, .int (nI 1)), (0, .ref h), (1, .int (nI 1))]) X.1 X.2.1 d_nameRead_154 hl (k := 4) rfl (by decide) (by decide) rfl (fun ls hl => ?_)
  refine lv_iload X.1 X.2.1 d_nameRead_157 (lv_at hl 1 rfl) ?_
  refine lv_if_eq (tgt := 173) X.1 X.2.1 d_nameRead_159 (by decide) (fun c35 => absurd c35 ?_) (fun c35 => ?_)
  · (rw [← nI_0, nI_eq (by omega) (by omega)] <;> omega)
  rw [← nI_0] at c35
  rw [nI_eq (by omega) (by omega)] at c35
  refine lv_iload X.1 X.2.1 d_nameRead_162 (lv_at hl 0 rfl) ?_
  refine lv_bipush (v := (nI 16)) X.1 X.2.1 d_nameRead_164 (by decide) ?_
  refine lv_icmp_gt (tgt := 173) X.1 X.2.1 d_nameRead_166 (by decide) (fun c36 => absurd c36 ?_) (fun c36 => ?_)
  · (rw [nI_ltI (by omega) (by omega)] <;> omega)
  rw [nI_ltI (by omega) (by omega)] at c36
  refine lv_iconst (v := (nI 1)) X.1 X.2.1 d_nameRead_169 (by decide) ?_
  refine lv_goto (tgt := 174) X.1 X.2.1 d_nameRead_170 (by decide) ?_
  refine lv_istore (lv' := [(5, .int (nI 1)), (4, .int (nI 4)), (7, .int (nI 1)), (6, .int (nI (116))), (2, .int (nI 3)), (3, .int (nI 1)), (0, .ref h), (1, .int (nI 1))]) X.1 X.2.1 d_nameRead_174 hl (by decide) rfl (fun ls hl => ?_)
  refine lv_iinc (v := (nI 4)) (lv' := [(2, .int (nI 4)), (5, .int (nI 1)), (4, .int (nI 4)), (7, .int (nI 1)), (6, .int (nI (116))), (3, .int (nI 1)), (0, .ref h), (1, .int (nI 1))]) X.1 X.2.1 d_nameRead_176 hl (k := 4) rfl (by decide) (by decide) rfl (fun ls hl => ?_)
  refine lv_goto (tgt := 10) X.1 X.2.1 d_nameRead_179 (by decide) ?_
  refine lv_iload_n X.1 X.2.1 d_nameRead_10 rfl (lv_at hl 0 rfl) ?_
  refine lv_aload_n X.1 X.2.1 d_nameRead_11 rfl (lv_at hl 6 rfl) ?_
  refine m_get X Y 2 (by decide) lk_length (gf_length _ _ _) rfl d_nameRead_12 ?_
  refine t_eq (show I 2 = nI (13) from hn) ?_
  refine lv_icmp_ge (tgt := 182) X.1 X.2.1 d_nameRead_15 (by decide) (fun c37 => absurd c37 ?_) (fun c37 => ?_)
  · (rw [nI_leI (by omega) (by omega)] <;> omega)
  rw [nI_leI (by omega) (by omega)] at c37
  refine lv_aload_n X.1 X.2.1 d_nameRead_18 rfl (lv_at hl 6 rfl) ?_
  refine m_get X Y 0 (by decide) lk_mem (gf_mem _ _ _) rfl d_nameRead_19 ?_
  refine lv_iload_n X.1 X.2.1 d_nameRead_22 rfl (lv_at hl 0 rfl) ?_
  refine m_bald X Y (aw_mem _ _ _ _ _ _ _) (vp_in_nI (by omega) (by decide)) d_nameRead_23 ?_
  refine t_eq (show B 0 ((nI 4)).toNatClampNeg = nI (103) from (by rw [nI_clamp (by omega)]; exact ((show ∀ j, j < 13 → B 0 j = nI (kb j) from hm) 4 (by omega)).trans (by decide))) ?_
  refine lv_bipush (v := (nI 58)) X.1 X.2.1 d_nameRead_24 (by decide) ?_
  refine lv_icmp_eq (tgt := 182) X.1 X.2.1 d_nameRead_26 (by decide) (fun c38 => absurd c38 ?_) (fun c38 => ?_)
  · (rw [nI_eq (by omega) (by omega)] <;> omega)
  rw [nI_eq (by omega) (by omega)] at c38
  refine lv_iload X.1 X.2.1 d_nameRead_29 (lv_at hl 1 rfl) ?_
  refine lv_if_eq (tgt := 182) X.1 X.2.1 d_nameRead_31 (by decide) (fun c39 => absurd c39 ?_) (fun c39 => ?_)
  · (rw [← nI_0, nI_eq (by omega) (by omega)] <;> omega)
  rw [← nI_0] at c39
  rw [nI_eq (by omega) (by omega)] at c39
  refine lv_aload_n X.1 X.2.1 d_nameRead_34 rfl (lv_at hl 6 rfl) ?_
  refine m_get X Y 0 (by decide) lk_mem (gf_mem _ _ _) rfl d_nameRead_35 ?_
  refine lv_iload_n X.1 X.2.1 d_nameRead_38 rfl (lv_at hl 0 rfl) ?_
  refine m_bald X Y (aw_mem _ _ _ _ _ _ _) (vp_in_nI (by omega) (by decide)) d_nameRead_39 ?_
  refine t_eq (show B 0 ((nI 4)).toNatClampNeg = nI (103) from (by rw [nI_clamp (by omega)]; exact ((show ∀ j, j < 13 → B 0 j = nI (kb j) from hm) 4 (by omega)).trans (by decide))) ?_
  refine lv_istore (lv' := [(6, .int (nI (103))), (2, .int (nI 4)), (5, .int (nI 1)), (4, .int (nI 4)), (7, .int (nI 1)), (3, .int (nI 1)), (0, .ref h), (1, .int (nI 1))]) X.1 X.2.1 d_nameRead_40 hl (by decide) rfl (fun ls hl => ?_)
  refine lv_iload X.1 X.2.1 d_nameRead_42 (lv_at hl 0 rfl) ?_
  refine lv_bipush (v := (nI 97)) X.1 X.2.1 d_nameRead_44 (by decide) ?_
  refine lv_icmp_lt (tgt := 60) X.1 X.2.1 d_nameRead_46 (by decide) (fun c40 => absurd c40 ?_) (fun c40 => ?_)
  · (rw [nI_ltI (by omega) (by omega)] <;> omega)
  rw [nI_ltI (by omega) (by omega)] at c40
  refine lv_iload X.1 X.2.1 d_nameRead_49 (lv_at hl 0 rfl) ?_
  refine lv_bipush (v := (nI 122)) X.1 X.2.1 d_nameRead_51 (by decide) ?_
  refine lv_icmp_gt (tgt := 60) X.1 X.2.1 d_nameRead_53 (by decide) (fun c41 => absurd c41 ?_) (fun c41 => ?_)
  · (rw [nI_ltI (by omega) (by omega)] <;> omega)
  rw [nI_ltI (by omega) (by omega)] at c41
  refine lv_iconst (v := (nI 1)) X.1 X.2.1 d_nameRead_56 (by decide) ?_
  refine lv_goto (tgt := 61) X.1 X.2.1 d_nameRead_57 (by decide) ?_
  refine lv_istore (lv' := [(7, .int (nI 1)), (6, .int (nI (103))), (2, .int (nI 4)), (5, .int (nI 1)), (4, .int (nI 4)), (3, .int (nI 1)), (0, .ref h), (1, .int (nI 1))]) X.1 X.2.1 d_nameRead_61 hl (by decide) rfl (fun ls hl => ?_)
  refine lv_iload X.1 X.2.1 d_nameRead_63 (lv_at hl 1 rfl) ?_
  refine lv_bipush (v := (nI 47)) X.1 X.2.1 d_nameRead_65 (by decide) ?_
  refine lv_icmp_ne (tgt := 96) X.1 X.2.1 d_nameRead_67 (by decide) (fun c42 => ?_) (fun c42 => absurd c42 ?_)
  rotate_left
  · (rw [nI_eq (by omega) (by omega)] <;> omega)
  rw [nI_eq (by omega) (by omega)] at c42
  refine lv_iload X.1 X.2.1 d_nameRead_96 (lv_at hl 0 rfl) ?_
  refine lv_if_ne (tgt := 147) X.1 X.2.1 d_nameRead_98 (by decide) (fun c43 => ?_) (fun c43 => absurd c43 ?_)
  rotate_left
  · (rw [← nI_0, nI_eq (by omega) (by omega)] <;> omega)
  rw [← nI_0] at c43
  rw [nI_eq (by omega) (by omega)] at c43
  refine lv_iconst (v := (nI 1)) X.1 X.2.1 d_nameRead_147 (by decide) ?_
  refine lv_goto (tgt := 152) X.1 X.2.1 d_nameRead_148 (by decide) ?_
  refine lv_istore (lv' := [(5, .int (nI 1)), (7, .int (nI 1)), (6, .int (nI (103))), (2, .int (nI 4)), (4, .int (nI 4)), (3, .int (nI 1)), (0, .ref h), (1, .int (nI 1))]) X.1 X.2.1 d_nameRead_152 hl (by decide) rfl (fun ls hl => ?_)
  refine lv_iinc (v := (nI 5)) (lv' := [(4, .int (nI 5)), (5, .int (nI 1)), (7, .int (nI 1)), (6, .int (nI (103))), (2, .int (nI 4)), (3, .int (nI 1)), (0, .ref h), (1, .int (nI 1))]) X.1 X.2.1 d_nameRead_154 hl (k := 4) rfl (by decide) (by decide) rfl (fun ls hl => ?_)
  refine lv_iload X.1 X.2.1 d_nameRead_157 (lv_at hl 1 rfl) ?_
  refine lv_if_eq (tgt := 173) X.1 X.2.1 d_nameRead_159 (by decide) (fun c44 => absurd c44 ?_) (fun c44 => ?_)
  · (rw [← nI_0, nI_eq (by omega) (by omega)] <;> omega)
  rw [← nI_0] at c44
  rw [nI_eq (by omega) (by omega)] at c44
  refine lv_iload X.1 X.2.1 d_nameRead_162 (lv_at hl 0 rfl) ?_
  refine lv_bipush (v := (nI 16)) X.1 X.2.1 d_nameRead_164 (by decide) ?_
  refine lv_icmp_gt (tgt := 173) X.1 X.2.1 d_nameRead_166 (by decide) (fun c45 => absurd c45 ?_) (fun c45 => ?_)
  · (rw [nI_ltI (by omega) (by omega)] <;> omega)
  rw [nI_ltI (by omega) (by omega)] at c45
  refine lv_iconst (v := (nI 1)) X.1 X.2.1 d_nameRead_169 (by decide) ?_
  refine lv_goto (tgt := 174) X.1 X.2.1 d_nameRead_170 (by decide) ?_
  refine lv_istore (lv' := [(5, .int (nI 1)), (4, .int (nI 5)), (7, .int (nI 1)), (6, .int (nI (103))), (2, .int (nI 4)), (3, .int (nI 1)), (0, .ref h), (1, .int (nI 1))]) X.1 X.2.1 d_nameRead_174 hl (by decide) rfl (fun ls hl => ?_)
  refine lv_iinc (v := (nI 5)) (lv' := [(2, .int (nI 5)), (5, .int (nI 1)), (4, .int (nI 5)), (7, .int (nI 1)), (6, .int (nI (103))), (3, .int (nI 1)), (0, .ref h), (1, .int (nI 1))]) X.1 X.2.1 d_nameRead_176 hl (k := 4) rfl (by decide) (by decide) rfl (fun ls hl => ?_)
  refine lv_goto (tgt := 10) X.1 X.2.1 d_nameRead_179 (by decide) ?_
  refine lv_iload_n X.1 X.2.1 d_nameRead_10 rfl (lv_at hl 0 rfl) ?_
  refine lv_aload_n X.1 X.2.1 d_nameRead_11 rfl (lv_at hl 6 rfl) ?_
  refine m_get X Y 2 (by decide) lk_length (gf_length _ _ _) rfl d_nameRead_12 ?_
  refine t_eq (show I 2 = nI (13) from hn) ?_
  refine lv_icmp_ge (tgt := 182) X.1 X.2.1 d_nameRead_15 (by decide) (fun c46 => absurd c46 ?_) (fun c46 => ?_)
  · (rw [nI_leI (by omega) (by omega)] <;> omega)
  rw [nI_leI (by omega) (by omega)] at c46
  refine lv_aload_n X.1 X.2.1 d_nameRead_18 rfl (lv_at hl 6 rfl) ?_
  refine m_get X Y 0 (by decide) lk_mem (gf_mem _ _ _) rfl d_nameRead_19 ?_
  refine lv_iload_n X.1 X.2.1 d_nameRead_22 rfl (lv_at hl 0 rfl) ?_
  refine m_bald X Y (aw_mem _ _ _ _ _ _ _) (vp_in_nI (by omega) (by decide)) d_nameRead_23 ?_
  refine t_eq (show B 0 ((nI 5)).toNatClampNeg = nI (116) from (by rw [nI_clamp (by omega)]; exact ((show ∀ j, j < 13 → B 0 j = nI (kb j) from hm) 5 (by omega)).trans (by decide))) ?_
  refine lv_bipush (v := (nI 58)) X.1 X.2.1 d_nameRead_24 (by decide) ?_
  refine lv_icmp_eq (tgt := 182) X.1 X.2.1 d_nameRead_26 (by decide) (fun c47 => absurd c47 ?_) (fun c47 => ?_)
  · (rw [nI_eq (by omega) (by omega)] <;> omega)
  rw [nI_eq (by omega) (by omega)] at c47
  refine lv_iload X.1 X.2.1 d_nameRead_29 (lv_at hl 1 rfl) ?_
  refine lv_if_eq (tgt := 182) X.1 X.2.1 d_nameRead_31 (by decide) (fun c48 => absurd c48 ?_) (fun c48 => ?_)
  · (rw [← nI_0, nI_eq (by omega) (by omega)] <;> omega)
  rw [← nI_0] at c48
  rw [nI_eq (by omega) (by omega)] at c48
  refine lv_aload_n X.1 X.2.1 d_nameRead_34 rfl (lv_at hl 6 rfl) ?_
  refine m_get X Y 0 (by decide) lk_mem (gf_mem _ _ _) rfl d_nameRead_35 ?_
  refine lv_iload_n X.1 X.2.1 d_nameRead_38 rfl (lv_at hl 0 rfl) ?_
  refine m_bald X Y (aw_mem _ _ _ _ _ _ _) (vp_in_nI (by omega) (by decide)) d_nameRead_39 ?_
  refine t_eq (show B 0 ((nI 5)).toNatClampNeg = nI (116) from (by rw [nI_clamp (by omega)]; exact ((show ∀ j, j < 13 → B 0 j = nI (kb j) from hm) 5 (by omega)).trans (by decide))) ?_
  refine lv_istore (lv' := [(6, .int (nI (116))), (2, .int (nI 5)), (5, .int (nI 1)), (4, .int (nI 5)), (7, .int (nI 1)), (3, .int (nI 1)), (0, .ref h), (1, .int (nI 1))]) X.1 X.2.1 d_nameRead_40 hl (by decide) rfl (fun ls hl => ?_)
  refine lv_iload X.1 X.2.1 d_nameRead_42 (lv_at hl 0 rfl) ?_
  refine lv_bipush (v := (nI 97)) X.1 X.2.1 d_nameRead_44 (by decide) ?_
  refine lv_icmp_lt (tgt := 60) X.1 X.2.1 d_nameRead_46 (by decide) (fun c49 => absurd c49 ?_) (fun c49 => ?_)
  · (rw [nI_ltI (by omega) (by omega)] <;> omega)
  rw [nI_ltI (by omega) (by omega)] at c49
  refine lv_iload X.1 X.2.1 d_nameRead_49 (lv_at hl 0 rfl) ?_
  refine lv_bipush (v := (nI 122)) X.1 X.2.1 d_nameRead_51 (by decide) ?_
  refine lv_icmp_gt (tgt := 60) X.1 X.2.1 d_nameRead_53 (by decide) (fun c50 => absurd c50 ?_) (fun c50 => ?_)
  · (rw [nI_ltI (by omega) (by omega)] <;> omega)
  rw [nI_ltI (by omega) (by omega)] at c50
  refine lv_iconst (v := (nI 1)) X.1 X.2.1 d_nameRead_56 (by decide) ?_
  refine lv_goto (tgt := 61) X.1 X.2.1 d_nameRead_57 (by decide) ?_
  refine lv_istore (lv' := [(7, .int (nI 1)), (6, .int (nI (116))), (2, .int (nI 5)), (5, .int (nI 1)), (4, .int (nI 5)), (3, .int (nI 1)), (0, .ref h), (1, .int (nI 1))]) X.1 X.2.1 d_nameRead_61 hl (by decide) rfl (fun ls hl => ?_)
  refine lv_iload X.1 X.2.1 d_nameRead_63 (lv_at hl 1 rfl) ?_
  refine lv_bipush (v := (nI 47)) X.1 X.2.1 d_nameRead_65 (by decide) ?_
  refine lv_icmp_ne (tgt := 96) X.1 X.2.1 d_nameRead_67 (by decide) (fun c51 => ?_) (fun c51 => absurd c51 ?_)
  rotate_left
  · (rw [nI_eq (by omega) (by omega)] <;> omega)
  rw [nI_eq (by omega) (by omega)] at c51
  refine lv_iload X.1 X.2.1 d_nameRead_96 (lv_at hl 0 rfl) ?_
  refine lv_if_ne (tgt := 147) X.1 X.2.1 d_nameRead_98 (by decide) (fun c52 => ?_) (fun c52 => absurd c52 ?_)
  rotate_left
  · (rw [← nI_0, nI_eq (by omega) (by omega)] <;> omega)
  rw [← nI_0] at c52
  rw [nI_eq (by omega) (by omega)] at c52
  refine lv_iconst (v := (nI 1)) X.1 X.2.1 d_nameRead_147 (by decide) ?_
  refine lv_goto (tgt := 152) X.1 X.2.1 d_nameRead_148 (by decide) ?_
  refine lv_istore (lv' := [(5, .int (nI 1)), (7, .int (nI 1)), (6, .int (nI (116))), (2, .int (nI 5)), (4, .int (nI 5)), (3, .int (nI 1)), (0, .ref h), (1, .int (nI 1))]) X.1 X.2.1 d_nameRead_152 hl (by decide) rfl (fun ls hl => ?_)
  refine lv_iinc (v := (nI 6)) (lv' := [(4, .int (nI 6)), (5, .int (nI 1)), (7, .int (nI 1)), (6, .int (nI (116))), (2, .int (nI 5)), (3, .int (nI 1)), (0, .ref h), (1, .int (nI 1))]) X.1 X.2.1 d_nameRead_154 hl (k := 4) rfl (by decide) (by decide) rfl (fun ls hl => ?_)
  refine lv_iload X.1 X.2.1 d_nameRead_157 (lv_at hl 1 rfl) ?_
  refine lv_if_eq (tgt := 173) X.1 X.2.1 d_nameRead_159 (by decide) (fun c53 => absurd c53 ?_) (fun c53 => ?_)
  · (rw [← nI_0, nI_eq (by omega) (by omega)] <;> omega)
  rw [← nI_0] at c53
  rw [nI_eq (by omega) (by omega)] at c53
  refine lv_iload X.1 X.2.1 d_nameRead_162 (lv_at hl 0 rfl) ?_
  refine lv_bipush (v := (nI 16)) X.1 X.2.1 d_nameRead_164 (by decide) ?_
  refine lv_icmp_gt (tgt := 173) X.1 X.2.1 d_nameRead_166 (by decide) (fun c54 => absurd c54 ?_) (fun c54 => ?_)
  · (rw [nI_ltI (by omega) (by omega)] <;> omega)
  rw [nI_ltI (by omega) (by omega)] at c54
  refine lv_iconst (v := (nI 1)) X.1 X.2.1 d_nameRead_169 (by decide) ?_
  refine lv_goto (tgt := 174) X.1 X.2.1 d_nameRead_170 (by decide) ?_
  refine lv_istore (lv' := [(5, .int (nI 1)), (4, .int (nI 6)), (7, .int (nI 1)), (6, .int (nI (116))), (2, .int (nI 5)), (3, .int (nI 1)), (0, .ref h), (1, .int (nI 1))]) X.1 X.2.1 d_nameRead_174 hl (by decide) rfl (fun ls hl => ?_)
  refine lv_iinc (v := (nI 6)) (lv' := [(2, .int (nI 6)), (5, .int (nI 1)), (4, .int (nI 6)), (7, .int (nI 1)), (6, .int (nI (116))), (3, .int (nI 1)), (0, .ref h), (1, .int (nI 1))]) X.1 X.2.1 d_nameRead_176 hl (k := 4) rfl (by decide) (by decide) rfl (fun ls hl => ?_)
  refine lv_goto (tgt := 10) X.1 X.2.1 d_nameRead_179 (by decide) ?_
  refine lv_iload_n X.1 X.2.1 d_nameRead_10 rfl (lv_at hl 0 rfl) ?_
  refine lv_aload_n X.1 X.2.1 d_nameRead_11 rfl (lv_at hl 6 rfl) ?_
  refine m_get X Y 2 (by decide) lk_length (gf_length _ _ _) rfl d_nameRead_12 ?_
  refine t_eq (show I 2 = nI (13) from hn) ?_
  refine lv_icmp_ge (tgt := 182) X.1 X.2.1 d_nameRead_15 (by decide) (fun c55 => absurd c55 ?_) (fun c55 => ?_)
  · (rw [nI_leI (by omega) (by omega)] <;> omega)
  rw [nI_leI (by omega) (by omega)] at c55
  refine lv_aload_n X.1 X.2.1 d_nameRead_18 rfl (lv_at hl 6 rfl) ?_
  refine m_get X Y 0 (by decide) lk_mem (gf_mem _ _ _) rfl d_nameRead_19 ?_
  refine lv_iload_n X.1 X.2.1 d_nameRead_22 rfl (lv_at hl 0 rfl) ?_
  refine m_bald X Y (aw_mem _ _ _ _ _ _ _) (vp_in_nI (by omega) (by decide)) d_nameRead_23 ?_
  refine t_eq (show B 0 ((nI 6)).toNatClampNeg = nI (47) from (by rw [nI_clamp (by omega)]; exact ((show ∀ j, j < 13 → B 0 j = nI (kb j) from hm) 6 (by omega)).trans (by decide))) ?_
  refine lv_bipush (v := (nI 58)) X.1 X.2.1 d_nameRead_24 (by decide) ?_
  refine lv_icmp_eq (tgt := 182) X.1 X.2.1 d_nameRead_26 (by decide) (fun c56 => absurd c56 ?_) (fun c56 => ?_)
  · (rw [nI_eq (by omega) (by omega)] <;> omega)
  rw [nI_eq (by omega) (by omega)] at c56
  refine lv_iload X.1 X.2.1 d_nameRead_29 (lv_at hl 1 rfl) ?_
  refine lv_if_eq (tgt := 182) X.1 X.2.1 d_nameRead_31 (by decide) (fun c57 => absurd c57 ?_) (fun c57 => ?_)
  · (rw [← nI_0, nI_eq (by omega) (by omega)] <;> omega)
  rw [← nI_0] at c57
  rw [nI_eq (by omega) (by omega)] at c57
  refine lv_aload_n X.1 X.2.1 d_nameRead_34 rfl (lv_at hl 6 rfl) ?_
  refine m_get X Y 0 (by decide) lk_mem (gf_mem _ _ _) rfl d_nameRead_35 ?_
  refine lv_iload_n X.1 X.2.1 d_nameRead_38 rfl (lv_at hl 0 rfl) ?_
  refine m_bald X Y (aw_mem _ _ _ _ _ _ _) (vp_in_nI (by omega) (by decide)) d_nameRead_39 ?_
  refine t_eq (show B 0 ((nI 6)).toNatClampNeg = nI (47) from (by rw [nI_clamp (by omega)]; exact ((show ∀ j, j < 13 → B 0 j = nI (kb j) from hm) 6 (by omega)).trans (by decide))) ?_
  refine lv_istore (lv' := [(6, .int (nI (47))), (2, .int (nI 6)), (5, .int (nI 1)), (4, .int (nI 6)), (7, .int (nI 1)), (3, .int (nI 1)), (0, .ref h), (1, .int (nI 1))]) X.1 X.2.1 d_nameRead_40 hl (by decide) rfl (fun ls hl => ?_)
  refine lv_iload X.1 X.2.1 d_nameRead_42 (lv_at hl 0 rfl) ?_
  refine lv_bipush (v := (nI 97)) X.1 X.2.1 d_nameRead_44 (by decide) ?_
  refine lv_icmp_lt (tgt := 60) X.1 X.2.1 d_nameRead_46 (by decide) (fun c58 => ?_) (fun c58 => absurd ?_ c58)
  rotate_left
  · (rw [nI_ltI (by omega) (by omega)] <;> omega)
  rw [nI_ltI (by omega) (by omega)] at c58
  refine lv_iconst (v := (nI 0)) X.1 X.2.1 d_nameRead_60 (by decide) ?_
  refine lv_istore (lv' := [(7, .int (nI 0)), (6, .int (nI (47))), (2, .int (nI 6)), (5, .int (nI 1)), (4, .int (nI 6)), (3, .int (nI 1)), (0, .ref h), (1, .int (nI 1))]) X.1 X.2.1 d_nameRead_61 hl (by decide) rfl (fun ls hl => ?_)
  refine lv_iload X.1 X.2.1 d_nameRead_63 (lv_at hl 1 rfl) ?_
  refine lv_bipush (v := (nI 47)) X.1 X.2.1 d_nameRead_65 (by decide) ?_
  refine lv_icmp_ne (tgt := 96) X.1 X.2.1 d_nameRead_67 (by decide) (fun c59 => absurd c59 ?_) (fun c59 => ?_)
  · (rw [nI_eq (by omega) (by omega)] <;> omega)
  rw [nI_eq (by omega) (by omega)] at c59
  refine lv_iload X.1 X.2.1 d_nameRead_70 (lv_at hl 4 rfl) ?_
  refine lv_if_le (tgt := 84) X.1 X.2.1 d_nameRead_72 (by decide) (fun c60 => absurd c60 ?_) (fun c60 => ?_)
  · (rw [← nI_0, nI_leI (by omega) (by omega)] <;> omega)
  rw [← nI_0] at c60
  rw [nI_leI (by omega) (by omega)] at c60
  refine lv_iload_n X.1 X.2.1 d_nameRead_75 rfl (lv_at hl 5 rfl) ?_
  refine lv_iconst (v := (nI 1)) X.1 X.2.1 d_nameRead_76 (by decide) ?_
  refine lv_icmp_ne (tgt := 84) X.1 X.2.1 d_nameRead_77 (by decide) (fun c61 => absurd c61 ?_) (fun c61 => ?_)
  · (rw [nI_eq (by omega) (by omega)] <;> omega)
  rw [nI_eq (by omega) (by omega)] at c61
  refine lv_iconst (v := (nI 1)) X.1 X.2.1 d_nameRead_80 (by decide) ?_
  refine lv_goto (tgt := 85) X.1 X.2.1 d_nameRead_81 (by decide) ?_
  refine lv_istore (lv' := [(5, .int (nI 1)), (7, .int (nI 0)), (6, .int (nI (47))), (2, .int (nI 6)), (4, .int (nI 6)), (3, .int (nI 1)), (0, .ref h), (1, .int (nI 1))]) X.1 X.2.1 d_nameRead_85 hl (by decide) rfl (fun ls hl => ?_)
  refine lv_iinc (v := (nI 2)) (lv' := [(3, .int (nI 2)), (5, .int (nI 1)), (7, .int (nI 0)), (6, .int (nI (47))), (2, .int (nI 6)), (4, .int (nI 6)), (0, .ref h), (1, .int (nI 1))]) X.1 X.2.1 d_nameRead_87 hl (k := 5) rfl (by decide) (by decide) rfl (fun ls hl => ?_)
  refine lv_iconst (v := (nI 0)) X.1 X.2.1 d_nameRead_90 (by decide) ?_
  refine lv_istore (lv' := [(4, .int (nI 0)), (3, .int (nI 2)), (5, .int (nI 1)), (7, .int (nI 0)), (6, .int (nI (47))), (2, .int (nI 6)), (0, .ref h), (1, .int (nI 1))]) X.1 X.2.1 d_nameRead_91 hl (by decide) rfl (fun ls hl => ?_)
  refine lv_goto (tgt := 176) X.1 X.2.1 d_nameRead_93 (by decide) ?_
  refine lv_iinc (v := (nI 7)) (lv' := [(2, .int (nI 7)), (4, .int (nI 0)), (3, .int (nI 2)), (5, .int (nI 1)), (7, .int (nI 0)), (6, .int (nI (47))), (0, .ref h), (1, .int (nI 1))]) X.1 X.2.1 d_nameRead_176 hl (k := 5) rfl (by decide) (by decide) rfl (fun ls hl => ?_)
  refine lv_goto (tgt := 10) X.1 X.2.1 d_nameRead_179 (by decide) ?_
  refine lv_iload_n X.1 X.2.1 d_nameRead_10 rfl (lv_at hl 0 rfl) ?_
  refine lv_aload_n X.1 X.2.1 d_nameRead_11 rfl (lv_at hl 6 rfl) ?_
  refine m_get X Y 2 (by decide) lk_length (gf_length _ _ _) rfl d_nameRead_12 ?_
  refine t_eq (show I 2 = nI (13) from hn) ?_
  refine lv_icmp_ge (tgt := 182) X.1 X.2.1 d_nameRead_15 (by decide) (fun c62 => absurd c62 ?_) (fun c62 => ?_)
  · (rw [nI_leI (by omega) (by omega)] <;> omega)
  rw [nI_leI (by omega) (by omega)] at c62
  refine lv_aload_n X.1 X.2.1 d_nameRead_18 rfl (lv_at hl 6 rfl) ?_
  refine m_get X Y 0 (by decide) lk_mem (gf_mem _ _ _) rfl d_nameRead_19 ?_
  refine lv_iload_n X.1 X.2.1 d_nameRead_22 rfl (lv_at hl 0 rfl) ?_
  refine m_bald X Y (aw_mem _ _ _ _ _ _ _) (vp_in_nI (by omega) (by decide)) d_nameRead_23 ?_
  refine t_eq (show B 0 ((nI 7)).toNatClampNeg = nI (72) from (by rw [nI_clamp (by omega)]; exact ((show ∀ j, j < 13 → B 0 j = nI (kb j) from hm) 7 (by omega)).trans (by decide))) ?_
  refine lv_bipush (v := (nI 58)) X.1 X.2.1 d_nameRead_24 (by decide) ?_
  refine lv_icmp_eq (tgt := 182) X.1 X.2.1 d_nameRead_26 (by decide) (fun c63 => absurd c63 ?_) (fun c63 => ?_)
  · (rw [nI_eq (by omega) (by omega)] <;> omega)
  rw [nI_eq (by omega) (by omega)] at c63
  refine lv_iload X.1 X.2.1 d_nameRead_29 (lv_at hl 3 rfl) ?_
  refine lv_if_eq (tgt := 182) X.1 X.2.1 d_nameRead_31 (by decide) (fun c64 => absurd c64 ?_) (fun c64 => ?_)
  · (rw [← nI_0, nI_eq (by omega) (by omega)] <;> omega)
  rw [← nI_0] at c64
  rw [nI_eq (by omega) (by omega)] at c64
  refine lv_aload_n X.1 X.2.1 d_nameRead_34 rfl (lv_at hl 6 rfl) ?_
  refine m_get X Y 0 (by decide) lk_mem (gf_mem _ _ _) rfl d_nameRead_35 ?_
  refine lv_iload_n X.1 X.2.1 d_nameRead_38 rfl (lv_at hl 0 rfl) ?_
  refine m_bald X Y (aw_mem _ _ _ _ _ _ _) (vp_in_nI (by omega) (by decide)) d_nameRead_39 ?_
  refine t_eq (show B 0 ((nI 7)).toNatClampNeg = nI (72) from (by rw [nI_clamp (by omega)]; exact ((show ∀ j, j < 13 → B 0 j = nI (kb j) from hm) 7 (by omega)).trans (by decide))) ?_
  refine lv_istore (lv' := [(6, .int (nI (72))), (2, .int (nI 7)), (4, .int (nI 0)), (3, .int (nI 2)), (5, .int (nI 1)), (7, .int (nI 0)), (0, .ref h), (1, .int (nI 1))]) X.1 X.2.1 d_nameRead_40 hl (by decide) rfl (fun ls hl => ?_)
  refine lv_iload X.1 X.2.1 d_nameRead_42 (lv_at hl 0 rfl) ?_
  refine lv_bipush (v := (nI 97)) X.1 X.2.1 d_nameRead_44 (by decide) ?_
  refine lv_icmp_lt (tgt := 60) X.1 X.2.1 d_nameRead_46 (by decide) (fun c65 => ?_) (fun c65 => absurd ?_ c65)
  rotate_left
  · (rw [nI_ltI (by omega) (by omega)] <;> omega)
  rw [nI_ltI (by omega) (by omega)] at c65
  refine lv_iconst (v := (nI 0)) X.1 X.2.1 d_nameRead_60 (by decide) ?_
  refine lv_istore (lv' := [(7, .int (nI 0)), (6, .int (nI (72))), (2, .int (nI 7)), (4, .int (nI 0)), (3, .int (nI 2)), (5, .int (nI 1)), (0, .ref h), (1, .int (nI 1))]) X.1 X.2.1 d_nameRead_61 hl (by decide) rfl (fun ls hl => ?_)
  refine lv_iload X.1 X.2.1 d_nameRead_63 (lv_at hl 1 rfl) ?_
  refine lv_bipush (v := (nI 47)) X.1 X.2.1 d_nameRead_65 (by decide) ?_
  refine lv_icmp_ne (tgt := 96) X.1 X.2.1 d_nameRead_67 (by decide) (fun c66 => ?_) (fun c66 => absurd c66 ?_)
  rotate_left
  · (rw [nI_eq (by omega) (by omega)] <;> omega)
  rw [nI_eq (by omega) (by omega)] at c66
  refine lv_iload X.1 X.2.1 d_nameRead_96 (lv_at hl 0 rfl) ?_
  refine lv_if_ne (tgt := 147) X.1 X.2.1 d_nameRead_98 (by decide) (fun c67 => absurd c67 ?_) (fun c67 => ?_)
  · (rw [← nI_0, nI_eq (by omega) (by omega)] <;> omega)
  rw [← nI_0] at c67
  rw [nI_eq (by omega) (by omega)] at c67
  refine lv_iload_n X.1 X.2.1 d_nameRead_101 rfl (lv_at hl 2 rfl) ?_
  refine lv_if_le (tgt := 124) X.1 X.2.1 d_nameRead_102 (by decide) (fun c68 => absurd c68 ?_) (fun c68 => ?_)
  · (rw [← nI_0, nI_leI (by omega) (by omega)] <;> omega)
  rw [← nI_0] at c68
  rw [nI_leI (by omega) (by omega)] at c68
  refine lv_iload X.1 X.2.1 d_nameRead_105 (lv_at hl 3 rfl) ?_
  refine lv_if_le (tgt := 124) X.1 X.2.1 d_nameRead_107 (by decide) (fun c69 => ?_) (fun c69 => absurd ?_ c69)
  rotate_left
  · (rw [← nI_0, nI_leI (by omega) (by omega)] <;> omega)
  rw [← nI_0] at c69
  rw [nI_leI (by omega) (by omega)] at c69
  refine lv_iload X.1 X.2.1 d_nameRead_124 (lv_at hl 3 rfl) ?_
  refine lv_if_ne (tgt := 151) X.1 X.2.1 d_nameRead_126 (by decide) (fun c70 => absurd c70 ?_) (fun c70 => ?_)
  · (rw [← nI_0, nI_eq (by omega) (by omega)] <;> omega)
  rw [← nI_0] at c70
  rw [nI_eq (by omega) (by omega)] at c70
  refine lv_iload_n X.1 X.2.1 d_nameRead_129 rfl (lv_at hl 2 rfl) ?_
  refine lv_if_le (tgt := 151) X.1 X.2.1 d_nameRead_130 (by decide) (fun c71 => absurd c71 ?_) (fun c71 => ?_)
  · (rw [← nI_0, nI_leI (by omega) (by omega)] <;> omega)
  rw [← nI_0] at c71
  rw [nI_leI (by omega) (by omega)] at c71
  refine lv_iload X.1 X.2.1 d_nameRead_133 (lv_at hl 1 rfl) ?_
  refine lv_bipush (v := (nI 48)) X.1 X.2.1 d_nameRead_135 (by decide) ?_
  refine lv_icmp_lt (tgt := 151) X.1 X.2.1 d_nameRead_137 (by decide) (fun c72 => absurd c72 ?_) (fun c72 => ?_)
  · (rw [nI_ltI (by omega) (by omega)] <;> omega)
  rw [nI_ltI (by omega) (by omega)] at c72
  refine lv_iload X.1 X.2.1 d_nameRead_140 (lv_at hl 1 rfl) ?_
  refine lv_bipush (v := (nI 57)) X.1 X.2.1 d_nameRead_142 (by decide) ?_
  refine lv_icmp_gt (tgt := 151) X.1 X.2.1 d_nameRead_144 (by decide) (fun c73 => ?_) (fun c73 => absurd ?_ c73)
  rotate_left
  · (rw [nI_ltI (by omega) (by omega)] <;> omega)
  rw [nI_ltI (by omega) (by omega)] at c73
  refine lv_iconst (v := (nI 0)) X.1 X.2.1 d_nameRead_151 (by decide) ?_
  refine lv_istore (lv' := [(5, .int (nI 0)), (7, .int (nI 0)), (6, .int (nI (72))), (2, .int (nI 7)), (4, .int (nI 0)), (3, .int (nI 2)), (0, .ref h), (1, .int (nI 1))]) X.1 X.2.1 d_nameRead_152 hl (by decide) rfl (fun ls hl => ?_)
  refine lv_iinc (v := (nI 1)) (lv' := [(4, .int (nI 1)), (5, .int (nI 0)), (7, .int (nI 0)), (6, .int (nI (72))), (2, .int (nI 7)), (3, .int (nI 2)), (0, .ref h), (1, .int (nI 1))]) X.1 X.2.1 d_nameRead_154 hl (k := 4) rfl (by decide) (by decide) rfl (fun ls hl => ?_)
  refine lv_iload X.1 X.2.1 d_nameRead_157 (lv_at hl 1 rfl) ?_
  refine lv_if_eq (tgt := 173) X.1 X.2.1 d_nameRead_159 (by decide) (fun c74 => ?_) (fun c74 => absurd ?_ c74)
  rotate_left
  · (rw [← nI_0, nI_eq (by omega) (by omega)] <;> omega)
  rw [← nI_0] at c74
  rw [nI_eq (by omega) (by omega)] at c74
  refine lv_iconst (v := (nI 0)) X.1 X.2.1 d_nameRead_173 (by decide) ?_
  refine lv_istore (lv' := [(5, .int (nI 0)), (4, .int (nI 1)), (7, .int (nI 0)), (6, .int (nI (72))), (2, .int (nI 7)), (3, .int (nI 2)), (0, .ref h), (1, .int (nI 1))]) X.1 X.2.1 d_nameRead_174 hl (by decide) rfl (fun ls hl => ?_)
  refine lv_iinc (v := (nI 8)) (lv' := [(2, .int (nI 8)), (5, .int (nI 0)), (4, .int (nI 1)), (7, .int (nI 0)), (6, .int (nI (72))), (3, .int (nI 2)), (0, .ref h), (1, .int (nI 1))]) X.1 X.2.1 d_nameRead_176 hl (k := 4) rfl (by decide) (by decide) rfl (fun ls hl => ?_)
  refine lv_goto (tgt := 10) X.1 X.2.1 d_nameRead_179 (by decide) ?_
  refine lv_iload_n X.1 X.2.1 d_nameRead_10 rfl (lv_at hl 0 rfl) ?_
  refine lv_aload_n X.1 X.2.1 d_nameRead_11 rfl (lv_at hl 6 rfl) ?_
  refine m_get X Y 2 (by decide) lk_length (gf_length _ _ _) rfl d_nameRead_12 ?_
  refine t_eq (show I 2 = nI (13) from hn) ?_
  refine lv_icmp_ge (tgt := 182) X.1 X.2.1 d_nameRead_15 (by decide) (fun c75 => absurd c75 ?_) (fun c75 => ?_)
  · (rw [nI_leI (by omega) (by omega)] <;> omega)
  rw [nI_leI (by omega) (by omega)] at c75
  refine lv_aload_n X.1 X.2.1 d_nameRead_18 rfl (lv_at hl 6 rfl) ?_
  refine m_get X Y 0 (by decide) lk_mem (gf_mem _ _ _) rfl d_nameRead_19 ?_
  refine lv_iload_n X.1 X.2.1 d_nameRead_22 rfl (lv_at hl 0 rfl) ?_
  refine m_bald X Y (aw_mem _ _ _ _ _ _ _) (vp_in_nI (by omega) (by decide)) d_nameRead_23 ?_
  refine t_eq (show B 0 ((nI 8)).toNatClampNeg = nI (79) from (by rw [nI_clamp (by omega)]; exact ((show ∀ j, j < 13 → B 0 j = nI (kb j) from hm) 8 (by omega)).trans (by decide))) ?_
  refine lv_bipush (v := (nI 58)) X.1 X.2.1 d_nameRead_24 (by decide) ?_
  refine lv_icmp_eq (tgt := 182) X.1 X.2.1 d_nameRead_26 (by decide) (fun c76 => absurd c76 ?_) (fun c76 => ?_)
  · (rw [nI_eq (by omega) (by omega)] <;> omega)
  rw [nI_eq (by omega) (by omega)] at c76
  refine lv_iload X.1 X.2.1 d_nameRead_29 (lv_at hl 1 rfl) ?_
  refine lv_if_eq (tgt := 182) X.1 X.2.1 d_nameRead_31 (by decide) (fun c77 => ?_) (fun c77 => absurd ?_ c77)
  rotate_left
  · (rw [← nI_0, nI_eq (by omega) (by omega)] <;> omega)
  rw [← nI_0] at c77
  rw [nI_eq (by omega) (by omega)] at c77
  refine lv_iload_n X.1 X.2.1 d_nameRead_182 rfl (lv_at hl 7 rfl) ?_
  refine lv_if_eq (tgt := 198) X.1 X.2.1 d_nameRead_183 (by decide) (fun c78 => absurd c78 ?_) (fun c78 => ?_)
  · (rw [← nI_0, nI_eq (by omega) (by omega)] <;> omega)
  rw [← nI_0] at c78
  rw [nI_eq (by omega) (by omega)] at c78
  refine lv_aload_n X.1 X.2.1 d_nameRead_186 rfl (lv_at hl 6 rfl) ?_
  refine lv_iload_n X.1 X.2.1 d_nameRead_187 rfl (lv_at hl 0 rfl) ?_
  refine m_calli (As := [.int (nI 8)]) (rest := []) (n := 1) X Y hZ hA hml hl.1 (c_isHouse_first l D E h q H.size I J B G (nI 8) (show I 2 = nI 13 from hn) (show ∀ j, j < 13 → B 0 j = nI (kb j) from hm)) kl_isHouse ks_isHouse kx_isHouse ki_isHouse ini_M hd_isHouse ⟨by decide, by decide⟩ rfl (Nat.le_of_ble_eq_true rfl) d_nameRead_188 ⟨Nat.le_refl _, Nat.le_refl _⟩ (fun r87 u H locs hp Y => ?_)
  obtain ⟨I79, J80, B81, G82⟩ := u
  obtain ⟨hI83, eJ85, hB84, eG86, pr87⟩ := hp
  dsimp only at hI83 eJ85 hB84 eG86 pr87 Y
  rw [eJ85, eG86] at Y
  rw [show I79 = I from funext hI83] at Y
  rw [show B81 = B from funext hB84] at Y
  refine t_eq pr87 ?_
  refine lv_if_eq (tgt := 198) X.1 X.2.1 d_nameRead_191 (by decide) (fun c90 => absurd c90 ?_) (fun c90 => ?_)
  · (rw [← nI_0, nI_eq (by omega) (by omega)] <;> omega)
  rw [← nI_0] at c90
  rw [nI_eq (by omega) (by omega)] at c90
  refine lv_iconst (v := (nI 1)) X.1 X.2.1 d_nameRead_194 (by decide) ?_
  refine lv_goto (tgt := 199) X.1 X.2.1 d_nameRead_195 (by decide) ?_
  refine lv_istore (lv' := [(6, .int (nI 1)), (2, .int (nI 8)), (5, .int (nI 0)), (4, .int (nI 1)), (7, .int (nI 0)), (3, .int (nI 2)), (0, .ref h), (1, .int (nI 1))]) X.1 X.2.1 d_nameRead_199 hl (by decide) rfl (fun ls hl => ?_)
  refine lv_iload X.1 X.2.1 d_nameRead_201 (lv_at hl 0 rfl) ?_
  refine lv_if_ne (tgt := 218) X.1 X.2.1 d_nameRead_203 (by decide) (fun c91 => ?_) (fun c91 => absurd c91 ?_)
  rotate_left
  · (rw [← nI_0, nI_eq (by omega) (by omega)] <;> omega)
  rw [← nI_0] at c91
  rw [nI_eq (by omega) (by omega)] at c91
  refine lv_iload_n X.1 X.2.1 d_nameRead_218 rfl (lv_at hl 1 rfl) ?_
  refine lv_istore (lv' := [(7, .int (nI 8)), (6, .int (nI 1)), (2, .int (nI 8)), (5, .int (nI 0)), (4, .int (nI 1)), (3, .int (nI 2)), (0, .ref h), (1, .int (nI 1))]) X.1 X.2.1 d_nameRead_219 hl (by decide) rfl (fun ls hl => ?_)
  refine lv_iload X.1 X.2.1 d_nameRead_221 (lv_at hl 1 rfl) ?_
  refine lv_if_eq (tgt := 230) X.1 X.2.1 d_nameRead_223 (by decide) (fun c92 => absurd c92 ?_) (fun c92 => ?_)
  · (rw [← nI_0, nI_eq (by omega) (by omega)] <;> omega)
  rw [← nI_0] at c92
  rw [nI_eq (by omega) (by omega)] at c92
  refine lv_bipush (v := (nI 12)) X.1 X.2.1 d_nameRead_226 (by decide) ?_
  refine lv_istore (lv' := [(7, .int (nI 12)), (6, .int (nI 1)), (2, .int (nI 8)), (5, .int (nI 0)), (4, .int (nI 1)), (3, .int (nI 2)), (0, .ref h), (1, .int (nI 1))]) X.1 X.2.1 d_nameRead_228 hl (by decide) rfl (fun ls hl => ?_)
  refine lv_aload_n X.1 X.2.1 d_nameRead_230 rfl (lv_at hl 6 rfl) ?_
  refine lv_iload X.1 X.2.1 d_nameRead_231 (lv_at hl 0 rfl) ?_
  refine m_puti X Y 55 (by decide) lk_colon rfl rfl (t_M_ok 55 (by decide)) rfl rfl (sf_colon _ _ _ _) (Nat.le_of_ble_eq_true rfl) d_nameRead_233 (fun H locs Y => ?_)
  refine lv_aload_n X.1 X.2.1 d_nameRead_236 rfl (lv_at hl 6 rfl) ?_
  refine lv_iload X.1 X.2.1 d_nameRead_237 (lv_at hl 0 rfl) ?_
  refine m_puti X Y 54 (by decide) lk_nameSize rfl rfl (t_M_ok 54 (by decide)) rfl rfl (sf_nameSize _ _ _ _) (Nat.le_of_ble_eq_true rfl) d_nameRead_239 (fun H locs Y => ?_)
  refine lv_iconst (v := (nI 0)) X.1 X.2.1 d_nameRead_242 (by decide) ?_
  refine lv_istore (lv' := [(8, .int (nI 0)), (7, .int (nI 12)), (6, .int (nI 1)), (2, .int (nI 8)), (5, .int (nI 0)), (4, .int (nI 1)), (3, .int (nI 2)), (0, .ref h), (1, .int (nI 1))]) X.1 X.2.1 d_nameRead_243 hl (by decide) rfl (fun ls hl => ?_)
  have lp96 : ∀ (n93 i94 : Nat) (B97 : Nat → Nat → Int32) (H : Heap) (locs : List Loc) (ls : Array Slot), i94 + n93 = 12 → 0 ≤ i94 → (∀ j, j ≠ 53 → B97 j = B j) → (∀ j, j < 13 → (B97 0) j = nI (kb j)) → mH D E (mA E h q sz) s.heap h q (upd (upd I 55 (nI 12)) 54 (nI 12)) J B97 G H locs → lv_has ls 9 [(8, .int (nI i94)), (7, .int (nI 12)), (6, .int (nI 1)), (2, .int (nI 8)), (5, .int (nI 0)), (4, .int (nI 1)), (3, .int (nI 2)), (0, .ref h), (1, .int (nI 1))] → W p l e (mR 5 108) s m AV below meth c H locs 0 0 QQ (F0 m 245 ls []) := by
    intro n93
    induction n93 with
    | zero =>
      intro i94 B97 H locs ls hii94 hsi94 hB98 g99  Y hl
      refine lv_iload X.1 X.2.1 d_nameRead_245 (lv_at hl 0 rfl) ?_
      refine lv_iload X.1 X.2.1 d_nameRead_247 (lv_at hl 1 rfl) ?_
      refine lv_icmp_ge (tgt := 272) X.1 X.2.1 d_nameRead_249 (by decide) (fun c100 => ?_) (fun c100 => absurd ?_ c100)
      rotate_left
      · (rw [nI_leI (by omega) (by omega)] <;> omega)
      rw [nI_leI (by omega) (by omega)] at c100
      refine lv_iconst (v := (nI 1)) X.1 X.2.1 d_nameRead_272 (by decide) ?_
      exact m_retz hQQ X Y hr hlk rfl ⟨(fun j h54 h55 => ((if_neg h54).trans ((if_neg h55).trans rfl))), rfl, (fun j h53 => (hB98 j h53)), rfl, (show (upd (upd I 55 (nI 12)) 54 (nI 12)) 55 = nI (12) from (show (upd (upd I 55 (nI 12)) 54 (nI 12)) 55 = nI (12) from ((pk_un (by decide)).trans pk_us)).trans (congrArg nI (show (12 : Nat) = 12 by omega))), (show (upd (upd I 55 (nI 12)) 54 (nI 12)) 54 = nI (12) from (show (upd (upd I 55 (nI 12)) 54 (nI 12)) 54 = nI (12) from pk_us).trans (congrArg nI (show (12 : Nat) = 12 by omega))), rfl⟩ d_nameRead_273
    | succ n93 ih95 =>
      intro i94 B97 H locs ls hii94 hsi94 hB98 g99  Y hl
      refine lv_iload X.1 X.2.1 d_nameRead_245 (lv_at hl 0 rfl) ?_
      refine lv_iload X.1 X.2.1 d_nameRead_247 (lv_at hl 1 rfl) ?_
      refine lv_icmp_ge (tgt := 272) X.1 X.2.1 d_nameRead_249 (by decide) (fun c101 => absurd c101 ?_) (fun c101 => ?_)
      · (rw [nI_leI (by omega) (by omega)] <;> omega)
      rw [nI_leI (by omega) (by omega)] at c101
      refine lv_aload_n X.1 X.2.1 d_nameRead_252 rfl (lv_at hl 7 rfl) ?_
      refine m_get X Y 53 (by decide) lk_name (gf_name _ _ _) rfl d_nameRead_253 ?_
      refine lv_iload X.1 X.2.1 d_nameRead_256 (lv_at hl 0 rfl) ?_
      refine lv_aload_n X.1 X.2.1 d_nameRead_258 rfl (lv_at hl 7 rfl) ?_
      refine m_get X Y 0 (by decide) lk_mem (gf_mem _ _ _) rfl d_nameRead_259 ?_
      refine lv_iload X.1 X.2.1 d_nameRead_262 (lv_at hl 0 rfl) ?_
      refine m_bald X Y (aw_mem _ _ _ _ _ _ _) (vp_in_nI (by omega) (by decide)) d_nameRead_264 ?_
      refine t_any (fun v102 => ?_)
      refine m_bast X Y (aw_name _ _ _ _ _ _ _) (vp_in_nI (by omega) (by decide)) (sw_name _ _ _ _ _ _ _ _) d_nameRead_265 (fun H locs Y => ?_)
      generalize (upd (B97 53) ((nI i94)).toNatClampNeg (vp_nar .byte v102)) = f103 at Y
      refine lv_iinc (v := (nI (i94 + 1))) (lv' := [(8, .int (nI (i94 + 1))), (7, .int (nI 12)), (6, .int (nI 1)), (2, .int (nI 8)), (5, .int (nI 0)), (4, .int (nI 1)), (3, .int (nI 2)), (0, .ref h), (1, .int (nI 1))]) X.1 X.2.1 d_nameRead_266 hl (k := 0) rfl (nI_add _ 1) (by decide) rfl (fun ls hl => ?_)
      refine lv_goto (tgt := 245) X.1 X.2.1 d_nameRead_269 (by decide) ?_
      exact ih95 (i94 + 1) (upB B97 53 f103) _ _ _ (by omega) (by omega) (fun j h53 => ((if_neg h53).trans (hB98 j h53))) (show ∀ j, j < 13 → ((upB B97 53 f103) 0) j = nI (kb j) from g99)  Y (lv_sub hl [0, 1, 2, 3, 4, 5, 6, 7, 8] rfl)
  exact lp96 (12) 0 B _ _ _ (by omega) (by omega) (fun j h53 => rfl) (show ∀ j, j < 13 → (B 0) j = nI (kb j) from hm)  Y (lv_sub hl [0, 1, 2, 3, 4, 5, 6, 7, 8] rfl)
set_option maxHeartbeats 4000000 in
set_option maxRecDepth 100000 in
theorem c_bothRead_first (l : Launch) (D : mD) (E : mE) (h : Nat) (q : Nat → Nat) (sz : Nat) (I : Nat → Int32) (J : Nat → Int64) (B : Nat → Nat → Int32) (G : Nat → Nat → Int64) (hn : I 2 = nI 13) (hm : ∀ j, j < 13 → B 0 j = nI (kb j)) : Met l y_bothRead (k_bothRead :: lw_tg) (mR 6 136) (va_Pc [.ref h, .int (nI 1)] (mPre D E h q (I, J, B, G) sz)) (va_Qi (fun (r : Int32) (u : mS) => (∀ j, j ≠ 30 → j ≠ 54 → j ≠ 55 → u.1 j = I j) ∧ u.2.1 = J ∧ (∀ j, j ≠ 25 → j ≠ 53 → u.2.2.1 j = B j) ∧ u.2.2.2 = G ∧ u.1 54 = nI (12) ∧ u.1 30 = nI (0) ∧ (r = nI 1)) (mPost D E h q (mA E h q sz)) (mA E h q sz)) 0 0 (mA E h q sz) := by
  refine m_enter (by decide) rfl (Nat.le_of_ble_eq_true rfl) (fun p e s m below meth c ls AV QQ H locs hQQ X Y hZ hA hr hlk hml hl => ?_)
  have Y : mH D E (mA E h q sz) s.heap h q I J B G H locs := Y
  have hl : lv_has ls 2 [(0, .ref h), (1, .int (nI 1))] := hl
  refine lv_aload_n X.1 X.2.1 d_bothRead_0 rfl (lv_at hl 0 rfl) ?_
  refine lv_iload_n X.1 X.2.1 d_bothRead_1 rfl (lv_at hl 1 rfl) ?_
  refine m_calli (As := [.int (nI 1)]) (rest := []) (n := 1) X Y hZ hA hml hl.1 (c_nameRead_first l D E h q H.size I J B G (show I 2 = nI 13 from hn) (show ∀ j, j < 13 → B 0 j = nI (kb j) from hm)) kl_nameRead ks_nameRead kx_nameRead ki_nameRead ini_M hd_nameRead ⟨by decide, by decide⟩ rfl (Nat.le_of_ble_eq_true rfl) d_bothRead_2 ⟨Nat.le_refl _, Nat.le_refl _⟩ (fun r9 u H locs hp Y => ?_)
  obtain ⟨I1, J2, B3, G4⟩ := u
  obtain ⟨hI5, eJ7, hB6, eG8, hk10, hk11, pr9⟩ := hp
  dsimp only at hI5 eJ7 hB6 eG8 hk10 hk11 pr9 Y
  rw [eJ7, eG8] at Y
  have hI12 : (∀ j, j ≠ 30 → j ≠ 54 → j ≠ 55 → I1 j = I j) := fun j h30 h54 h55 => (hI5 j h54 h55).trans ((fun j h30 h54 h55 => rfl) j h30 h54 h55)
  have hB13 : (∀ j, j ≠ 25 → j ≠ 53 → B3 j = B j) := fun j h25 h53 => (hB6 j h53).trans ((fun j h25 h53 => rfl) j h25 h53)
  have ga14 : ∀ j, j < 13 → (B3 0) j = nI (kb j) := by rw [hB6 0 (by decide)]; exact (show ∀ j, j < 13 → (B 0) j = nI (kb j) from hm)
  refine t_eq pr9 ?_
  refine lv_if_eq (tgt := 33) X.1 X.2.1 d_bothRead_5 (by decide) (fun c15 => absurd c15 ?_) (fun c15 => ?_)
  · (rw [← nI_0, nI_eq (by omega) (by omega)] <;> omega)
  rw [← nI_0] at c15
  rw [nI_eq (by omega) (by omega)] at c15
  refine lv_aload_n X.1 X.2.1 d_bothRead_8 rfl (lv_at hl 0 rfl) ?_
  refine m_get X Y 55 (by decide) lk_colon (gf_colon _ _ _) rfl d_bothRead_9 ?_
  refine t_eq (show I1 55 = nI (12) from hk10) ?_
  refine lv_aload_n X.1 X.2.1 d_bothRead_12 rfl (lv_at hl 0 rfl) ?_
  refine m_get X Y 2 (by decide) lk_length (gf_length _ _ _) rfl d_bothRead_13 ?_
  refine t_eq (show I1 2 = nI (13) from ((hI5 2 (by decide) (by decide)).trans hn)) ?_
  refine lv_icmp_ge (tgt := 33) X.1 X.2.1 d_bothRead_16 (by decide) (fun c16 => absurd c16 ?_) (fun c16 => ?_)
  · (rw [nI_leI (by omega) (by omega)] <;> omega)
  rw [nI_leI (by omega) (by omega)] at c16
  refine lv_aload_n X.1 X.2.1 d_bothRead_19 rfl (lv_at hl 0 rfl) ?_
  refine m_get X Y 0 (by decide) lk_mem (gf_mem _ _ _) rfl d_bothRead_20 ?_
  refine lv_aload_n X.1 X.2.1 d_bothRead_23 rfl (lv_at hl 0 rfl) ?_
  refine m_get X Y 55 (by decide) lk_colon (gf_colon _ _ _) rfl d_bothRead_24 ?_
  refine t_eq (show I1 55 = nI (12) from hk10) ?_
  refine m_bald X Y (aw_mem _ _ _ _ _ _ _) (vp_in_nI (by omega) (by decide)) d_bothRead_27 ?_
  refine t_eq (show B3 0 ((nI (12))).toNatClampNeg = nI (58) from (by rw [nI_clamp (by omega)]; exact ((show ∀ j, j < 13 → B3 0 j = nI (kb j) from ga14) 12 (by omega)).trans (by decide))) ?_
  refine lv_bipush (v := (nI 58)) X.1 X.2.1 d_bothRead_28 (by decide) ?_
  refine lv_icmp_eq (tgt := 35) X.1 X.2.1 d_bothRead_30 (by decide) (fun c17 => ?_) (fun c17 => absurd ?_ c17)
  rotate_left
  · (rw [nI_eq (by omega) (by omega)] <;> omega)
  rw [nI_eq (by omega) (by omega)] at c17
  refine lv_aload_n X.1 X.2.1 d_bothRead_35 rfl (lv_at hl 0 rfl) ?_
  refine lv_aload_n X.1 X.2.1 d_bothRead_36 rfl (lv_at hl 0 rfl) ?_
  refine m_get X Y 2 (by decide) lk_length (gf_length _ _ _) rfl d_bothRead_37 ?_
  refine t_eq (show I1 2 = nI (13) from ((hI5 2 (by decide) (by decide)).trans hn)) ?_
  refine lv_aload_n X.1 X.2.1 d_bothRead_40 rfl (lv_at hl 0 rfl) ?_
  refine m_get X Y 55 (by decide) lk_colon (gf_colon _ _ _) rfl d_bothRead_41 ?_
  refine t_eq (show I1 55 = nI (12) from hk10) ?_
  refine lv_isub X.1 X.2.1 d_bothRead_44 ?_
  refine t_eq (y := nI 1) (by decide) ?_
  refine lv_iconst (v := (nI 1)) X.1 X.2.1 d_bothRead_45 (by decide) ?_
  refine lv_isub X.1 X.2.1 d_bothRead_46 ?_
  refine t_eq (y := nI 0) (by decide) ?_
  refine m_puti X Y 30 (by decide) lk_passwordMany rfl rfl (t_M_ok 30 (by decide)) rfl rfl (sf_passwordMany _ _ _ _) (Nat.le_of_ble_eq_true rfl) d_bothRead_47 (fun H locs Y => ?_)
  refine lv_aload_n X.1 X.2.1 d_bothRead_50 rfl (lv_at hl 0 rfl) ?_
  refine lv_aload_n X.1 X.2.1 d_bothRead_51 rfl (lv_at hl 0 rfl) ?_
  refine m_get X Y 55 (by decide) lk_colon (gf_colon _ _ _) rfl d_bothRead_52 ?_
  refine t_eq (show (upd I1 30 (nI 0)) 55 = nI (12) from ((pk_un (by decide)).trans hk10)) ?_
  refine lv_iconst (v := (nI 1)) X.1 X.2.1 d_bothRead_55 (by decide) ?_
  refine lv_iadd X.1 X.2.1 d_bothRead_56 ?_
  refine t_eq (y := nI 13) (by decide) ?_
  refine lv_aload_n X.1 X.2.1 d_bothRead_57 rfl (lv_at hl 0 rfl) ?_
  refine m_get X Y 2 (by decide) lk_length (gf_length _ _ _) rfl d_bothRead_58 ?_
  refine t_eq (show (upd I1 30 (nI 0)) 2 = nI (13) from ((pk_un (by decide)).trans ((hI5 2 (by decide) (by decide)).trans hn))) ?_
  refine m_calli (As := [.int (nI 13), .int (nI (13))]) (rest := []) (n := 2) X Y hZ hA hml hl.1 (c_passwordRead l D E h q H.size (upd I1 30 (nI 0)) J B3 G (13) (13) (by omega) (by omega)) kl_passwordRead ks_passwordRead kx_passwordRead ki_passwordRead ini_M hd_passwordRead ⟨by decide, by decide⟩ rfl (Nat.le_of_ble_eq_true rfl) d_bothRead_61 ⟨Nat.le_refl _, Nat.le_refl _⟩ (fun r26 u H locs hp Y => ?_)
  obtain ⟨I18, J19, B20, G21⟩ := u
  obtain ⟨hI22, eJ24, hB23, eG25, hk27, pr26⟩ := hp
  dsimp only at hI22 eJ24 hB23 eG25 hk27 pr26 Y
  rw [eJ24, eG25] at Y
  have hI28 : (∀ j, j ≠ 30 → j ≠ 54 → j ≠ 55 → I18 j = I j) := fun j h30 h54 h55 => (hI22 j h30).trans ((fun j h30 h54 h55 => ((if_neg h30).trans (hI12 j h30 h54 h55))) j h30 h54 h55)
  have hB29 : (∀ j, j ≠ 25 → j ≠ 53 → B20 j = B j) := fun j h25 h53 => (hB23 j h25).trans ((fun j h25 h53 => (hB13 j h25 h53)) j h25 h53)
  have ga30 : ∀ j, j < 13 → (B20 0) j = nI (kb j) := by rw [hB23 0 (by decide)]; exact (show ∀ j, j < 13 → (B3 0) j = nI (kb j) from ga14)
  refine t_eq (pr26.2.2 rfl) ?_
  exact m_retz hQQ X Y hr hlk rfl ⟨(fun j h30 h54 h55 => (hI28 j h30 h54 h55)), rfl, (fun j h25 h53 => (hB29 j h25 h53)), rfl, (show I18 54 = nI (12) from (show I18 54 = nI (12) from ((hI22 54 (by decide)).trans ((pk_un (by decide)).trans hk11))).trans (congrArg nI (show (12 : Nat) = 12 by omega))), (show I18 30 = nI (0) from (show I18 30 = nI ((13 - (13))) from hk27).trans (congrArg nI (show ((13 - (13)) : Nat) = 0 by omega))), rfl⟩ d_bothRead_64
set_option maxHeartbeats 4000000 in
set_option maxRecDepth 100000 in
theorem c_add_first (l : Launch) (D : mD) (E : mE) (h : Nat) (q : Nat → Nat) (sz : Nat) (I : Nat → Int32) (J : Nat → Int64) (B : Nat → Nat → Int32) (G : Nat → Nat → Int64) (hn : I 2 = nI 13) (hm : ∀ j, j < 13 → B 0 j = nI (kb j)) (hp : I 43 = nI 0) (y12 : by8 (B 12)) (y13 : by8 (B 13)) (y16 : by8 (B 16)) (y17 : by8 (B 17)) : Met l y_add (k_add :: lw_tg) (mR 7 172) (va_Pc [.ref h, .int (nI 1), .int (nI 1)] (mPre D E h q (I, J, B, G) sz)) (va_Qi (fun (r : Int32) (u : mS) => (∀ j, j ≠ 8 → j ≠ 14 → j ≠ 18 → j ≠ 29 → j ≠ 30 → j ≠ 43 → j ≠ 54 → j ≠ 55 → u.1 j = I j) ∧ u.2.1 = J ∧ (∀ j, j ≠ 5 → j ≠ 6 → j ≠ 7 → j ≠ 9 → j ≠ 10 → j ≠ 11 → j ≠ 12 → j ≠ 13 → j ≠ 15 → j ≠ 16 → j ≠ 17 → j ≠ 19 → j ≠ 20 → j ≠ 21 → j ≠ 24 → j ≠ 25 → j ≠ 26 → j ≠ 27 → j ≠ 44 → j ≠ 45 → j ≠ 46 → j ≠ 47 → j ≠ 48 → j ≠ 49 → j ≠ 50 → j ≠ 51 → j ≠ 52 → j ≠ 53 → j ≠ 56 → u.2.2.1 j = B j) ∧ u.2.2.2 = G ∧ u.1 43 = nI (1) ∧ by8 (u.2.2.1 12) ∧ by8 (u.2.2.1 13) ∧ by8 (u.2.2.1 16) ∧ by8 (u.2.2.1 17) ∧ (u.2.2.1 46 0 = nI 1 ∧ u.2.2.1 45 0 = nI 12) ∧ (r = nI 0)) (mPost D E h q (mA E h q sz)) (mA E h q sz)) 0 0 (mA E h q sz) := by
  refine m_enter (by decide) rfl (Nat.le_of_ble_eq_true rfl) (fun p e s m below meth c ls AV QQ H locs hQQ X Y hZ hA hr hlk hml hl => ?_)
  have Y : mH D E (mA E h q sz) s.heap h q I J B G H locs := Y
  have hl : lv_has ls 5 [(0, .ref h), (1, .int (nI 1)), (2, .int (nI 1))] := hl
  refine lv_aload_n X.1 X.2.1 d_add_0 rfl (lv_at hl 0 rfl) ?_
  refine lv_iload_n X.1 X.2.1 d_add_1 rfl (lv_at hl 2 rfl) ?_
  refine m_calli (As := [.int (nI 1)]) (rest := []) (n := 1) X Y hZ hA hml hl.1 (c_bothRead_first l D E h q H.size I J B G (show I 2 = nI 13 from hn) (show ∀ j, j < 13 → B 0 j = nI (kb j) from hm)) kl_bothRead ks_bothRead kx_bothRead ki_bothRead ini_M hd_bothRead ⟨by decide, by decide⟩ rfl (Nat.le_of_ble_eq_true rfl) d_add_2 ⟨Nat.le_refl _, Nat.le_refl _⟩ (fun r9 u H locs hp Y => ?_)
  obtain ⟨I1, J2, B3, G4⟩ := u
  obtain ⟨hI5, eJ7, hB6, eG8, hk10, hk11, pr9⟩ := hp
  dsimp only at hI5 eJ7 hB6 eG8 hk10 hk11 pr9 Y
  rw [eJ7, eG8] at Y
  have hI12 : (∀ j, j ≠ 8 → j ≠ 14 → j ≠ 18 → j ≠ 29 → j ≠ 30 → j ≠ 43 → j ≠ 54 → j ≠ 55 → I1 j = I j) := fun j h8 h14 h18 h29 h30 h43 h54 h55 => (hI5 j h30 h54 h55).trans ((fun j h8 h14 h18 h29 h30 h43 h54 h55 => rfl) j h8 h14 h18 h29 h30 h43 h54 h55)
  have hB13 : (∀ j, j ≠ 5 → j ≠ 6 → j ≠ 7 → j ≠ 9 → j ≠ 10 → j ≠ 11 → j ≠ 12 → j ≠ 13 → j ≠ 15 → j ≠ 16 → j ≠ 17 → j ≠ 19 → j ≠ 20 → j ≠ 21 → j ≠ 24 → j ≠ 25 → j ≠ 26 → j ≠ 27 → j ≠ 44 → j ≠ 45 → j ≠ 46 → j ≠ 47 → j ≠ 48 → j ≠ 49 → j ≠ 50 → j ≠ 51 → j ≠ 52 → j ≠ 53 → j ≠ 56 → B3 j = B j) := fun j h5 h6 h7 h9 h10 h11 h12 h13 h15 h16 h17 h19 h20 h21 h24 h25 h26 h27 h44 h45 h46 h47 h48 h49 h50 h51 h52 h53 h56 => (hB6 j h25 h53).trans ((fun j h5 h6 h7 h9 h10 h11 h12 h13 h15 h16 h17 h19 h20 h21 h24 h25 h26 h27 h44 h45 h46 h47 h48 h49 h50 h51 h52 h53 h56 => rfl) j h5 h6 h7 h9 h10 h11 h12 h13 h15 h16 h17 h19 h20 h21 h24 h25 h26 h27 h44 h45 h46 h47 h48 h49 h50 h51 h52 h53 h56)
  have ga14 : ∀ j, j < 13 → (B3 0) j = nI (kb j) := by rw [hB6 0 (by decide) (by decide)]; exact (show ∀ j, j < 13 → (B 0) j = nI (kb j) from hm)
  refine t_eq pr9 ?_
  refine lv_if_eq (tgt := 36) X.1 X.2.1 d_add_5 (by decide) (fun c15 => absurd c15 ?_) (fun c15 => ?_)
  · (rw [← nI_0, nI_eq (by omega) (by omega)] <;> omega)
  rw [← nI_0] at c15
  rw [nI_eq (by omega) (by omega)] at c15
  refine lv_iload_n X.1 X.2.1 d_add_8 rfl (lv_at hl 1 rfl) ?_
  refine lv_iconst (v := (nI 1)) X.1 X.2.1 d_add_9 (by decide) ?_
  refine lv_icmp_lt (tgt := 36) X.1 X.2.1 d_add_10 (by decide) (fun c16 => absurd c16 ?_) (fun c16 => ?_)
  · (rw [nI_ltI (by omega) (by omega)] <;> omega)
  rw [nI_ltI (by omega) (by omega)] at c16
  refine lv_iload_n X.1 X.2.1 d_add_13 rfl (lv_at hl 1 rfl) ?_
  refine lv_sipush (v := (nI 200)) X.1 X.2.1 d_add_14 (by decide) ?_
  refine lv_icmp_gt (tgt := 36) X.1 X.2.1 d_add_17 (by decide) (fun c17 => absurd c17 ?_) (fun c17 => ?_)
  · (rw [nI_ltI (by omega) (by omega)] <;> omega)
  rw [nI_ltI (by omega) (by omega)] at c17
  refine lv_aload_n X.1 X.2.1 d_add_20 rfl (lv_at hl 0 rfl) ?_
  refine m_get X Y 43 (by decide) lk_principals (gf_principals _ _ _) rfl d_add_21 ?_
  refine t_eq (show I1 43 = nI (0) from ((hI5 43 (by decide) (by decide) (by decide)).trans hp)) ?_
  refine lv_bipush (v := (nI 12)) X.1 X.2.1 d_add_24 (by decide) ?_
  refine lv_icmp_eq (tgt := 36) X.1 X.2.1 d_add_26 (by decide) (fun c18 => absurd c18 ?_) (fun c18 => ?_)
  · (rw [nI_eq (by omega) (by omega)] <;> omega)
  rw [nI_eq (by omega) (by omega)] at c18
  refine lv_aload_n X.1 X.2.1 d_add_29 rfl (lv_at hl 0 rfl) ?_
  refine m_calli (As := []) (rest := []) (n := 0) X Y hZ hA hml hl.1 (c_findName l D E h q H.size I1 J B3 G (0) (12) (show I1 43 = nI (0) from ((hI5 43 (by decide) (by decide) (by decide)).trans hp)) (by omega) (show I1 54 = nI (12) from hk10) (by omega)) kl_findName ks_findName kx_findName ki_findName ini_M hd_findName ⟨by decide, by decide⟩ rfl (Nat.le_of_ble_eq_true rfl) d_add_30 ⟨Nat.le_refl _, Nat.le_refl _⟩ (fun r27 u H locs hp Y => ?_)
  obtain ⟨I19, J20, B21, G22⟩ := u
  obtain ⟨hI23, eJ25, hB24, eG26, pr27⟩ := hp
  dsimp only at hI23 eJ25 hB24 eG26 pr27 Y
  rw [eJ25, eG26] at Y
  rw [show I19 = I1 from funext hI23] at Y
  rw [show B21 = B3 from funext hB24] at Y
  refine t_eq (pr27.resolve_right (fun ⟨j, hj, _⟩ => absurd hj (Nat.not_lt_zero j))) ?_
  refine lv_if_lt (tgt := 38) X.1 X.2.1 d_add_33 (by decide) (fun c30 => ?_) (fun c30 => absurd ?_ c30)
  rotate_left
  · decide
  refine lv_aload_n X.1 X.2.1 d_add_38 rfl (lv_at hl 0 rfl) ?_
  refine m_get X Y 43 (by decide) lk_principals (gf_principals _ _ _) rfl d_add_39 ?_
  refine t_eq (show I1 43 = nI (0) from ((hI5 43 (by decide) (by decide) (by decide)).trans hp)) ?_
  refine lv_istore_n (lv' := [(3, .int (nI (0))), (0, .ref h), (1, .int (nI 1)), (2, .int (nI 1))]) X.1 X.2.1 d_add_42 rfl hl (by decide) rfl (fun ls hl => ?_)
  refine lv_aload_n X.1 X.2.1 d_add_43 rfl (lv_at hl 1 rfl) ?_
  refine lv_dup X.1 X.2.1 d_add_44 rfl ?_
  refine m_get X Y 43 (by decide) lk_principals (gf_principals _ _ _) rfl d_add_45 ?_
  refine t_eq (show I1 43 = nI (0) from ((hI5 43 (by decide) (by decide) (by decide)).trans hp)) ?_
  refine lv_iconst (v := (nI 1)) X.1 X.2.1 d_add_48 (by decide) ?_
  refine lv_iadd X.1 X.2.1 d_add_49 ?_
  refine t_eq (y := nI 1) (by decide) ?_
  refine m_puti X Y 43 (by decide) lk_principals rfl rfl (t_M_ok 43 (by decide)) rfl rfl (sf_principals _ _ _ _) (Nat.le_of_ble_eq_true rfl) d_add_50 (fun H locs Y => ?_)
  refine lv_aload_n X.1 X.2.1 d_add_53 rfl (lv_at hl 1 rfl) ?_
  refine m_get X Y 45 (by decide) lk_nameSizes (gf_nameSizes _ _ _) rfl d_add_54 ?_
  refine lv_iload_n X.1 X.2.1 d_add_57 rfl (lv_at hl 0 rfl) ?_
  refine lv_aload_n X.1 X.2.1 d_add_58 rfl (lv_at hl 1 rfl) ?_
  refine m_get X Y 54 (by decide) lk_nameSize (gf_nameSize _ _ _) rfl d_add_59 ?_
  refine t_eq (show (upd I1 43 (nI 1)) 54 = nI (12) from ((pk_un (by decide)).trans hk10)) ?_
  refine m_iast X Y (aw_nameSizes _ _ _ _ _ _ _) (vp_in_nI (by omega) (by decide)) (sw_nameSizes _ _ _ _ _ _ _ _) d_add_62 (fun H locs Y => ?_)
  have g32 : (upd (B3 45) ((nI (0))).toNatClampNeg (nI (12))) 0 = nI 12 := (by rw [nI_clamp (by omega)]; exact pk_us)
  generalize (upd (B3 45) ((nI (0))).toNatClampNeg (nI (12))) = f31 at Y g32
  refine lv_iconst (v := (nI 0)) X.1 X.2.1 d_add_63 (by decide) ?_
  refine lv_istore (lv' := [(4, .int (nI 0)), (3, .int (nI (0))), (0, .ref h), (1, .int (nI 1)), (2, .int (nI 1))]) X.1 X.2.1 d_add_64 hl (by decide) rfl (fun ls hl => ?_)
  have lp36 : ∀ (n33 i34 : Nat) (B37 : Nat → Nat → Int32) (H : Heap) (locs : List Loc) (ls : Array Slot), i34 + n33 = 12 → 0 ≤ i34 → (∀ j, j ≠ 5 → j ≠ 6 → j ≠ 7 → j ≠ 9 → j ≠ 10 → j ≠ 11 → j ≠ 12 → j ≠ 13 → j ≠ 15 → j ≠ 16 → j ≠ 17 → j ≠ 19 → j ≠ 20 → j ≠ 21 → j ≠ 24 → j ≠ 25 → j ≠ 26 → j ≠ 27 → j ≠ 44 → j ≠ 45 → j ≠ 46 → j ≠ 47 → j ≠ 48 → j ≠ 49 → j ≠ 50 → j ≠ 51 → j ≠ 52 → j ≠ 53 → j ≠ 56 → B37 j = B j) → by8 (B37 12) → by8 (B37 13) → by8 (B37 16) → by8 (B37 17) → (∀ j, j < 13 → (B37 0) j = nI (kb j)) → (B37 45) 0 = nI 12 → mH D E (mA E h q sz) s.heap h q (upd I1 43 (nI 1)) J B37 G H locs → lv_has ls 5 [(4, .int (nI i34)), (3, .int (nI (0))), (0, .ref h), (1, .int (nI 1)), (2, .int (nI 1))] → W p l e (mR 7 172) s m AV below meth c H locs 0 0 QQ (F0 m 66 ls []) := by
    intro n33
    induction n33 with
    | zero =>
      intro i34 B37 H locs ls hii34 hsi34 hB38 y39 y40 y41 y42 g43 g44  Y hl
      refine lv_iload X.1 X.2.1 d_add_66 (lv_at hl 0 rfl) ?_
      refine lv_aload_n X.1 X.2.1 d_add_68 rfl (lv_at hl 2 rfl) ?_
      refine m_get X Y 54 (by decide) lk_nameSize (gf_nameSize _ _ _) rfl d_add_69 ?_
      refine t_eq (show (upd I1 43 (nI 1)) 54 = nI (12) from ((pk_un (by decide)).trans hk10)) ?_
      refine lv_icmp_ge (tgt := 100) X.1 X.2.1 d_add_72 (by decide) (fun c45 => ?_) (fun c45 => absurd ?_ c45)
      rotate_left
      · (rw [nI_leI (by omega) (by omega)] <;> omega)
      rw [nI_leI (by omega) (by omega)] at c45
      refine lv_aload_n X.1 X.2.1 d_add_100 rfl (lv_at hl 2 rfl) ?_
      refine m_get X Y 46 (by decide) lk_versions (gf_versions _ _ _) rfl d_add_101 ?_
      refine lv_iload_n X.1 X.2.1 d_add_104 rfl (lv_at hl 1 rfl) ?_
      refine lv_iconst (v := (nI 0)) X.1 X.2.1 d_add_105 (by decide) ?_
      refine m_iast X Y (aw_versions _ _ _ _ _ _ _) (vp_in_nI (by omega) (by decide)) (sw_versions _ _ _ _ _ _ _ _) d_add_106 (fun H locs Y => ?_)
      have g47 : (upd (B37 46) ((nI (0))).toNatClampNeg (nI 0)) 0 = nI 0 := (by rw [nI_clamp (by omega)]; exact pk_us)
      generalize (upd (B37 46) ((nI (0))).toNatClampNeg (nI 0)) = f46 at Y g47
      refine lv_aload_n X.1 X.2.1 d_add_107 rfl (lv_at hl 2 rfl) ?_
      refine m_get X Y 48 (by decide) lk_lifes (gf_lifes _ _ _) rfl d_add_108 ?_
      refine lv_iload_n X.1 X.2.1 d_add_111 rfl (lv_at hl 1 rfl) ?_
      refine lv_ldcw (v := (36000)) X.1 X.2.1 X.2.2.2.1 (X.2.2.1 _ cn_639) d_add_112 ?_
      refine t_eq (y := nI 36000) (by decide) ?_
      refine m_iast X Y (aw_lifes _ _ _ _ _ _ _) (vp_in_nI (by omega) (by decide)) (sw_lifes _ _ _ _ _ _ _ _) d_add_115 (fun H locs Y => ?_)
      generalize (upd ((upB B37 46 f46) 48) ((nI (0))).toNatClampNeg (nI 36000)) = f48 at Y
      refine lv_aload_n X.1 X.2.1 d_add_116 rfl (lv_at hl 2 rfl) ?_
      refine m_get X Y 49 (by decide) lk_renews (gf_renews _ _ _) rfl d_add_117 ?_
      refine lv_iload_n X.1 X.2.1 d_add_120 rfl (lv_at hl 1 rfl) ?_
      refine lv_ldcw (v := (72000)) X.1 X.2.1 X.2.2.2.1 (X.2.2.1 _ cn_640) d_add_121 ?_
      refine t_eq (y := nI 72000) (by decide) ?_
      refine m_iast X Y (aw_renews _ _ _ _ _ _ _) (vp_in_nI (by omega) (by decide)) (sw_renews _ _ _ _ _ _ _ _) d_add_124 (fun H locs Y => ?_)
      generalize (upd ((upB (upB B37 46 f46) 48 f48) 49) ((nI (0))).toNatClampNeg (nI 72000)) = f49 at Y
      refine lv_aload_n X.1 X.2.1 d_add_125 rfl (lv_at hl 2 rfl) ?_
      refine m_get X Y 50 (by decide) lk_flags (gf_flags _ _ _) rfl d_add_126 ?_
      refine lv_iload_n X.1 X.2.1 d_add_129 rfl (lv_at hl 1 rfl) ?_
      refine lv_bipush (v := (nI 15)) X.1 X.2.1 d_add_130 (by decide) ?_
      refine m_iast X Y (aw_flags _ _ _ _ _ _ _) (vp_in_nI (by omega) (by decide)) (sw_flags _ _ _ _ _ _ _ _) d_add_132 (fun H locs Y => ?_)
      generalize (upd ((upB (upB (upB B37 46 f46) 48 f48) 49 f49) 50) ((nI (0))).toNatClampNeg (nI 15)) = f50 at Y
      refine lv_aload_n X.1 X.2.1 d_add_133 rfl (lv_at hl 2 rfl) ?_
      refine m_get X Y 51 (by decide) lk_ends (gf_ends _ _ _) rfl d_add_134 ?_
      refine lv_iload_n X.1 X.2.1 d_add_137 rfl (lv_at hl 1 rfl) ?_
      refine lv_iconst (v := (nI 0)) X.1 X.2.1 d_add_138 (by decide) ?_
      refine m_iast X Y (aw_ends _ _ _ _ _ _ _) (vp_in_nI (by omega) (by decide)) (sw_ends _ _ _ _ _ _ _ _) d_add_139 (fun H locs Y => ?_)
      generalize (upd ((upB (upB (upB (upB B37 46 f46) 48 f48) 49 f49) 50 f50) 51) ((nI (0))).toNatClampNeg (nI 0)) = f51 at Y
      refine lv_aload_n X.1 X.2.1 d_add_140 rfl (lv_at hl 2 rfl) ?_
      refine lv_iload_n X.1 X.2.1 d_add_141 rfl (lv_at hl 1 rfl) ?_
      refine lv_iload_n X.1 X.2.1 d_add_142 rfl (lv_at hl 3 rfl) ?_
      refine m_callv (As := [.int (nI (0)), .int (nI 1)]) (rest := []) (n := 2) X Y hZ hA hml hl.1 (c_setKeys l D E h q H.size (upd I1 43 (nI 1)) J (upB (upB (upB (upB (upB B37 46 f46) 48 f48) 49 f49) 50 f50) 51 f51) G (0) (1) (0) (12) (0) (by omega) (by omega) (by omega) (show (upB (upB (upB (upB (upB B37 46 f46) 48 f48) 49 f49) 50 f50) 51 f51) 46 0 = nI (0) from g47) (by omega) (show (upB (upB (upB (upB (upB B37 46 f46) 48 f48) 49 f49) 50 f50) 51 f51) 45 0 = nI (12) from g44) (by omega) (show (upd I1 43 (nI 1)) 30 = nI (0) from ((pk_un (by decide)).trans hk11)) (by omega) (show by8 ((upB (upB (upB (upB (upB B37 46 f46) 48 f48) 49 f49) 50 f50) 51 f51) 12) from y39) (show by8 ((upB (upB (upB (upB (upB B37 46 f46) 48 f48) 49 f49) 50 f50) 51 f51) 13) from y40) (show by8 ((upB (upB (upB (upB (upB B37 46 f46) 48 f48) 49 f49) 50 f50) 51 f51) 16) from y41) (show by8 ((upB (upB (upB (upB (upB B37 46 f46) 48 f48) 49 f49) 50 f50) 51 f51) 17) from y42)) kl_setKeys ks_setKeys kx_setKeys ki_setKeys ini_M hd_setKeys ⟨by decide, by decide⟩ rfl (Nat.le_of_ble_eq_true rfl) d_add_143 ⟨Nat.le_refl _, Nat.le_refl _⟩ (fun u H locs hp Y => ?_)
      obtain ⟨I52, J53, B54, G55⟩ := u
      obtain ⟨hI56, eJ58, hB57, eG59, y61, y62, y63, y64, hx65⟩ := hp
      dsimp only at hI56 eJ58 hB57 eG59 y61 y62 y63 y64 hx65 Y
      rw [eJ58, eG59] at Y
      have hI66 : (∀ j, j ≠ 8 → j ≠ 14 → j ≠ 18 → j ≠ 29 → j ≠ 30 → j ≠ 43 → j ≠ 54 → j ≠ 55 → I52 j = I j) := fun j h8 h14 h18 h29 h30 h43 h54 h55 => (hI56 j h8 h14 h18 h29).trans ((fun j h8 h14 h18 h29 h30 h43 h54 h55 => ((if_neg h43).trans (hI12 j h8 h14 h18 h29 h30 h43 h54 h55))) j h8 h14 h18 h29 h30 h43 h54 h55)
      have hB67 : (∀ j, j ≠ 5 → j ≠ 6 → j ≠ 7 → j ≠ 9 → j ≠ 10 → j ≠ 11 → j ≠ 12 → j ≠ 13 → j ≠ 15 → j ≠ 16 → j ≠ 17 → j ≠ 19 → j ≠ 20 → j ≠ 21 → j ≠ 24 → j ≠ 25 → j ≠ 26 → j ≠ 27 → j ≠ 44 → j ≠ 45 → j ≠ 46 → j ≠ 47 → j ≠ 48 → j ≠ 49 → j ≠ 50 → j ≠ 51 → j ≠ 52 → j ≠ 53 → j ≠ 56 → B54 j = B j) := fun j h5 h6 h7 h9 h10 h11 h12 h13 h15 h16 h17 h19 h20 h21 h24 h25 h26 h27 h44 h45 h46 h47 h48 h49 h50 h51 h52 h53 h56 => (hB57 j h5 h6 h7 h9 h10 h11 h12 h13 h15 h16 h17 h19 h20 h21 h24 h26 h27 h46 h47 h52 h56).trans ((fun j h5 h6 h7 h9 h10 h11 h12 h13 h15 h16 h17 h19 h20 h21 h24 h25 h26 h27 h44 h45 h46 h47 h48 h49 h50 h51 h52 h53 h56 => ((if_neg h51).trans ((if_neg h50).trans ((if_neg h49).trans ((if_neg h48).trans ((if_neg h46).trans (hB38 j h5 h6 h7 h9 h10 h11 h12 h13 h15 h16 h17 h19 h20 h21 h24 h25 h26 h27 h44 h45 h46 h47 h48 h49 h50 h51 h52 h53 h56))))))) j h5 h6 h7 h9 h10 h11 h12 h13 h15 h16 h17 h19 h20 h21 h24 h25 h26 h27 h44 h45 h46 h47 h48 h49 h50 h51 h52 h53 h56)
      have ga68 : ∀ j, j < 13 → (B54 0) j = nI (kb j) := by rw [hB57 0 (by decide) (by decide) (by decide) (by decide) (by decide) (by decide) (by decide) (by decide) (by decide) (by decide) (by decide) (by decide) (by decide) (by decide) (by decide) (by decide) (by decide) (by decide) (by decide) (by decide) (by decide)]; exact (show ∀ j, j < 13 → ((upB (upB (upB (upB (upB B37 46 f46) 48 f48) 49 f49) 50 f50) 51 f51) 0) j = nI (kb j) from g43)
      have ga69 : (B54 45) 0 = nI 12 := by rw [hB57 45 (by decide) (by decide) (by decide) (by decide) (by decide) (by decide) (by decide) (by decide) (by decide) (by decide) (by decide) (by decide) (by decide) (by decide) (by decide) (by decide) (by decide) (by decide) (by decide) (by decide) (by decide)]; exact (show ((upB (upB (upB (upB (upB B37 46 f46) 48 f48) 49 f49) 50 f50) 51 f51) 45) 0 = nI 12 from g44)
      refine lv_iload_n X.1 X.2.1 d_add_146 rfl (lv_at hl 1 rfl) ?_
      exact m_reti hQQ X Y hr hlk ⟨(fun j h8 h14 h18 h29 h30 h43 h54 h55 => (hI66 j h8 h14 h18 h29 h30 h43 h54 h55)), rfl, (fun j h5 h6 h7 h9 h10 h11 h12 h13 h15 h16 h17 h19 h20 h21 h24 h25 h26 h27 h44 h45 h46 h47 h48 h49 h50 h51 h52 h53 h56 => (hB67 j h5 h6 h7 h9 h10 h11 h12 h13 h15 h16 h17 h19 h20 h21 h24 h25 h26 h27 h44 h45 h46 h47 h48 h49 h50 h51 h52 h53 h56)), rfl, (show I52 43 = nI (1) from (show I52 43 = nI (1) from ((hI56 43 (by decide) (by decide) (by decide) (by decide)).trans pk_us)).trans (congrArg nI (show (1 : Nat) = 1 by omega))), (show by8 (B54 12) from y61), (show by8 (B54 13) from y62), (show by8 (B54 16) from y63), (show by8 (B54 17) from y64), ⟨(show B54 46 0 = nI 1 from hx65), (show B54 45 0 = nI 12 from ga69)⟩, rfl⟩ d_add_147
    | succ n33 ih35 =>
      intro i34 B37 H locs ls hii34 hsi34 hB38 y39 y40 y41 y42 g43 g44  Y hl
      refine lv_iload X.1 X.2.1 d_add_66 (lv_at hl 0 rfl) ?_
      refine lv_aload_n X.1 X.2.1 d_add_68 rfl (lv_at hl 2 rfl) ?_
      refine m_get X Y 54 (by decide) lk_nameSize (gf_nameSize _ _ _) rfl d_add_69 ?_
      refine t_eq (show (upd I1 43 (nI 1)) 54 = nI (12) from ((pk_un (by decide)).trans hk10)) ?_
      refine lv_icmp_ge (tgt := 100) X.1 X.2.1 d_add_72 (by decide) (fun c70 => absurd c70 ?_) (fun c70 => ?_)
      · (rw [nI_leI (by omega) (by omega)] <;> omega)
      rw [nI_leI (by omega) (by omega)] at c70
      refine lv_aload_n X.1 X.2.1 d_add_75 rfl (lv_at hl 2 rfl) ?_
      refine m_get X Y 44 (by decide) lk_names (gf_names _ _ _) rfl d_add_76 ?_
      refine lv_bipush (v := (nI 40)) X.1 X.2.1 d_add_79 (by decide) ?_
      refine lv_iload_n X.1 X.2.1 d_add_81 rfl (lv_at hl 1 rfl) ?_
      refine lv_imul X.1 X.2.1 d_add_82 ?_
      refine t_eq (y := nI 0) (by decide) ?_
      refine lv_iload X.1 X.2.1 d_add_83 (lv_at hl 0 rfl) ?_
      refine lv_iadd X.1 X.2.1 d_add_85 ?_
      refine t_eq (y := nI (0 + i34)) (nI_add _ _) ?_
      refine lv_aload_n X.1 X.2.1 d_add_86 rfl (lv_at hl 2 rfl) ?_
      refine m_get X Y 53 (by decide) lk_name (gf_name _ _ _) rfl d_add_87 ?_
      refine lv_iload X.1 X.2.1 d_add_90 (lv_at hl 0 rfl) ?_
      refine m_bald X Y (aw_name _ _ _ _ _ _ _) (vp_in_nI (by omega) (by decide)) d_add_92 ?_
      refine t_any (fun v71 => ?_)
      refine m_bast X Y (aw_names _ _ _ _ _ _ _) (vp_in_nI (by omega) (by decide)) (sw_names _ _ _ _ _ _ _ _) d_add_93 (fun H locs Y => ?_)
      generalize (upd (B37 44) ((nI (0 + i34))).toNatClampNeg (vp_nar .byte v71)) = f72 at Y
      refine lv_iinc (v := (nI (i34 + 1))) (lv' := [(4, .int (nI (i34 + 1))), (3, .int (nI (0))), (0, .ref h), (1, .int (nI 1)), (2, .int (nI 1))]) X.1 X.2.1 d_add_94 hl (k := 0) rfl (nI_add _ 1) (by decide) rfl (fun ls hl => ?_)
      refine lv_goto (tgt := 66) X.1 X.2.1 d_add_97 (by decide) ?_
      exact ih35 (i34 + 1) (upB B37 44 f72) _ _ _ (by omega) (by omega) (fun j h5 h6 h7 h9 h10 h11 h12 h13 h15 h16 h17 h19 h20 h21 h24 h25 h26 h27 h44 h45 h46 h47 h48 h49 h50 h51 h52 h53 h56 => ((if_neg h44).trans (hB38 j h5 h6 h7 h9 h10 h11 h12 h13 h15 h16 h17 h19 h20 h21 h24 h25 h26 h27 h44 h45 h46 h47 h48 h49 h50 h51 h52 h53 h56))) (show by8 ((upB B37 44 f72) 12) from y39) (show by8 ((upB B37 44 f72) 13) from y40) (show by8 ((upB B37 44 f72) 16) from y41) (show by8 ((upB B37 44 f72) 17) from y42) (show ∀ j, j < 13 → ((upB B37 44 f72) 0) j = nI (kb j) from g43) (show ((upB B37 44 f72) 45) 0 = nI 12 from g44)  Y (lv_sub hl [0, 1, 2, 3, 4] rfl)
  exact lp36 (12) 0 (upB B3 45 f31) _ _ _ (by omega) (by omega) (fun j h5 h6 h7 h9 h10 h11 h12 h13 h15 h16 h17 h19 h20 h21 h24 h25 h26 h27 h44 h45 h46 h47 h48 h49 h50 h51 h52 h53 h56 => ((if_neg h45).trans (hB13 j h5 h6 h7 h9 h10 h11 h12 h13 h15 h16 h17 h19 h20 h21 h24 h25 h26 h27 h44 h45 h46 h47 h48 h49 h50 h51 h52 h53 h56))) (show by8 ((upB B3 45 f31) 12) from (by8_eq (hB6 12 (by decide) (by decide)) y12)) (show by8 ((upB B3 45 f31) 13) from (by8_eq (hB6 13 (by decide) (by decide)) y13)) (show by8 ((upB B3 45 f31) 16) from (by8_eq (hB6 16 (by decide) (by decide)) y16)) (show by8 ((upB B3 45 f31) 17) from (by8_eq (hB6 17 (by decide) (by decide)) y17)) (show ∀ j, j < 13 → ((upB B3 45 f31) 0) j = nI (kb j) from ga14) (show ((upB B3 45 f31) 45) 0 = nI 12 from g32)  Y (lv_sub hl [0, 1, 2, 3, 4] rfl)
set_option maxHeartbeats 4000000 in
set_option maxRecDepth 100000 in
theorem c_isHouse_empty (l : Launch) (D : mD) (E : mE) (h : Nat) (q : Nat → Nat) (sz : Nat) (I : Nat → Int32) (J : Nat → Int64) (B : Nat → Nat → Int32) (G : Nat → Nat → Int64) (a1 : Int32) (hn : I 2 = nI 0) : Met l y_isHouse (k_isHouse :: lw_tg) (mR 4 85) (va_Pc [.ref h, .int a1] (mPre D E h q (I, J, B, G) sz)) (va_Qi (fun (r : Int32) (u : mS) => (∀ j, u.1 j = I j) ∧ u.2.1 = J ∧ (∀ j, u.2.2.1 j = B j) ∧ u.2.2.2 = G ∧ (r = nI 0)) (mPost D E h q (mA E h q sz)) (mA E h q sz)) 0 0 (mA E h q sz) := by
  refine m_enter (by decide) rfl (Nat.le_of_ble_eq_true rfl) (fun p e s m below meth c ls AV QQ H locs hQQ X Y hZ hA hr hlk hml hl => ?_)
  have Y : mH D E (mA E h q sz) s.heap h q I J B G H locs := Y
  have hl : lv_has ls 4 [(0, .ref h), (1, .int a1)] := hl
  refine m_ldcSW (i := 1) X (by decide) (by decide) d_isHouse_0 ?_
  refine lv_astore_n (lv' := [(2, .ref (D.2.1 1)), (0, .ref h), (1, .int a1)]) X.1 X.2.1 d_isHouse_3 rfl hl (by decide) rfl (fun ls hl => ?_)
  refine lv_aload_n X.1 X.2.1 d_isHouse_4 rfl (lv_at hl 1 rfl) ?_
  refine m_get X Y 2 (by decide) lk_length (gf_length _ _ _) rfl d_isHouse_5 ?_
  refine t_eq (show I 2 = nI (0) from hn) ?_
  refine lv_bipush (v := (nI 12)) X.1 X.2.1 d_isHouse_8 (by decide) ?_
  refine lv_icmp_ge (tgt := 15) X.1 X.2.1 d_isHouse_10 (by decide) (fun c1 => absurd c1 ?_) (fun c1 => ?_)
  · (rw [nI_leI (by omega) (by omega)] <;> omega)
  rw [nI_leI (by omega) (by omega)] at c1
  refine lv_iconst (v := (nI 0)) X.1 X.2.1 d_isHouse_13 (by decide) ?_
  exact m_retz hQQ X Y hr hlk rfl ⟨(fun j  => rfl), rfl, (fun j  => rfl), rfl, rfl⟩ d_isHouse_14
set_option maxHeartbeats 4000000 in
set_option maxRecDepth 100000 in
theorem c_nameRead_empty (l : Launch) (D : mD) (E : mE) (h : Nat) (q : Nat → Nat) (sz : Nat) (I : Nat → Int32) (J : Nat → Int64) (B : Nat → Nat → Int32) (G : Nat → Nat → Int64) (a1 : Int32) (hn : I 2 = nI 0) : Met l y_nameRead (k_nameRead :: lw_tg) (mR 5 108) (va_Pc [.ref h, .int a1] (mPre D E h q (I, J, B, G) sz)) (va_Qi (fun (r : Int32) (u : mS) => (∀ j, u.1 j = I j) ∧ u.2.1 = J ∧ (∀ j, u.2.2.1 j = B j) ∧ u.2.2.2 = G ∧ (r = nI 0)) (mPost D E h q (mA E h q sz)) (mA E h q sz)) 0 0 (mA E h q sz) := by
  refine m_enter (by decide) rfl (Nat.le_of_ble_eq_true rfl) (fun p e s m below meth c ls AV QQ H locs hQQ X Y hZ hA hr hlk hml hl => ?_)
  have Y : mH D E (mA E h q sz) s.heap h q I J B G H locs := Y
  have hl : lv_has ls 9 [(0, .ref h), (1, .int a1)] := hl
  refine lv_iconst (v := (nI 0)) X.1 X.2.1 d_nameRead_0 (by decide) ?_
  refine lv_istore_n (lv' := [(2, .int (nI 0)), (0, .ref h), (1, .int a1)]) X.1 X.2.1 d_nameRead_1 rfl hl (by decide) rfl (fun ls hl => ?_)
  refine lv_iconst (v := (nI 1)) X.1 X.2.1 d_nameRead_2 (by decide) ?_
  refine lv_istore_n (lv' := [(3, .int (nI 1)), (2, .int (nI 0)), (0, .ref h), (1, .int a1)]) X.1 X.2.1 d_nameRead_3 rfl hl (by decide) rfl (fun ls hl => ?_)
  refine lv_iconst (v := (nI 0)) X.1 X.2.1 d_nameRead_4 (by decide) ?_
  refine lv_istore (lv' := [(4, .int (nI 0)), (3, .int (nI 1)), (2, .int (nI 0)), (0, .ref h), (1, .int a1)]) X.1 X.2.1 d_nameRead_5 hl (by decide) rfl (fun ls hl => ?_)
  refine lv_iconst (v := (nI 1)) X.1 X.2.1 d_nameRead_7 (by decide) ?_
  refine lv_istore (lv' := [(5, .int (nI 1)), (4, .int (nI 0)), (3, .int (nI 1)), (2, .int (nI 0)), (0, .ref h), (1, .int a1)]) X.1 X.2.1 d_nameRead_8 hl (by decide) rfl (fun ls hl => ?_)
  refine lv_iload_n X.1 X.2.1 d_nameRead_10 rfl (lv_at hl 3 rfl) ?_
  refine lv_aload_n X.1 X.2.1 d_nameRead_11 rfl (lv_at hl 4 rfl) ?_
  refine m_get X Y 2 (by decide) lk_length (gf_length _ _ _) rfl d_nameRead_12 ?_
  refine t_eq (show I 2 = nI (0) from hn) ?_
  refine lv_icmp_ge (tgt := 182) X.1 X.2.1 d_nameRead_15 (by decide) (fun c1 => ?_) (fun c1 => absurd ?_ c1)
  rotate_left
  · (rw [nI_leI (by omega) (by omega)] <;> omega)
  rw [nI_leI (by omega) (by omega)] at c1
  refine lv_iload_n X.1 X.2.1 d_nameRead_182 rfl (lv_at hl 5 rfl) ?_
  refine lv_if_eq (tgt := 198) X.1 X.2.1 d_nameRead_183 (by decide) (fun c2 => ?_) (fun c2 => ?_)
  · skip
    refine lv_iconst (v := (nI 0)) X.1 X.2.1 d_nameRead_198 (by decide) ?_
    refine lv_istore (lv' := [(6, .int (nI 0)), (5, .int (nI 1)), (4, .int (nI 0)), (3, .int (nI 1)), (2, .int (nI 0)), (0, .ref h), (1, .int a1)]) X.1 X.2.1 d_nameRead_199 hl (by decide) rfl (fun ls hl => ?_)
    refine lv_iload X.1 X.2.1 d_nameRead_201 (lv_at hl 0 rfl) ?_
    refine lv_if_ne (tgt := 218) X.1 X.2.1 d_nameRead_203 (by decide) (fun c3 => absurd c3 ?_) (fun c3 => ?_)
    · (rw [← nI_0, nI_eq (by omega) (by omega)] <;> omega)
    rw [← nI_0] at c3
    rw [nI_eq (by omega) (by omega)] at c3
    refine lv_iload X.1 X.2.1 d_nameRead_206 (lv_at hl 1 rfl) ?_
    refine lv_if_eq (tgt := 216) X.1 X.2.1 d_nameRead_208 (by decide) (fun c4 => absurd c4 ?_) (fun c4 => ?_)
    · (rw [← nI_0, nI_eq (by omega) (by omega)] <;> omega)
    rw [← nI_0] at c4
    rw [nI_eq (by omega) (by omega)] at c4
    refine lv_iload X.1 X.2.1 d_nameRead_211 (lv_at hl 2 rfl) ?_
    refine lv_if_ne (tgt := 218) X.1 X.2.1 d_nameRead_213 (by decide) (fun c5 => absurd c5 ?_) (fun c5 => ?_)
    · (rw [← nI_0, nI_eq (by omega) (by omega)] <;> omega)
    rw [← nI_0] at c5
    rw [nI_eq (by omega) (by omega)] at c5
    refine lv_iconst (v := (nI 0)) X.1 X.2.1 d_nameRead_216 (by decide) ?_
    exact m_retz hQQ X Y hr hlk rfl ⟨(fun j  => rfl), rfl, (fun j  => rfl), rfl, rfl⟩ d_nameRead_217
  · skip
    refine lv_aload_n X.1 X.2.1 d_nameRead_186 rfl (lv_at hl 4 rfl) ?_
    refine lv_iload_n X.1 X.2.1 d_nameRead_187 rfl (lv_at hl 3 rfl) ?_
    refine m_calli (As := [.int (nI 0)]) (rest := []) (n := 1) X Y hZ hA hml hl.1 (c_isHouse_empty l D E h q H.size I J B G (nI 0) (show I 2 = nI 0 from hn)) kl_isHouse ks_isHouse kx_isHouse ki_isHouse ini_M hd_isHouse ⟨by decide, by decide⟩ rfl (Nat.le_of_ble_eq_true rfl) d_nameRead_188 ⟨Nat.le_refl _, Nat.le_refl _⟩ (fun r14 u H locs hp Y => ?_)
    obtain ⟨I6, J7, B8, G9⟩ := u
    obtain ⟨hI10, eJ12, hB11, eG13, pr14⟩ := hp
    dsimp only at hI10 eJ12 hB11 eG13 pr14 Y
    rw [eJ12, eG13] at Y
    rw [show I6 = I from funext hI10] at Y
    rw [show B8 = B from funext hB11] at Y
    refine t_eq pr14 ?_
    refine lv_if_eq (tgt := 198) X.1 X.2.1 d_nameRead_191 (by decide) (fun c17 => ?_) (fun c17 => absurd ?_ c17)
    rotate_left
    · (rw [← nI_0, nI_eq (by omega) (by omega)] <;> omega)
    rw [← nI_0] at c17
    rw [nI_eq (by omega) (by omega)] at c17
    refine lv_iconst (v := (nI 0)) X.1 X.2.1 d_nameRead_198 (by decide) ?_
    refine lv_istore (lv' := [(6, .int (nI 0)), (5, .int (nI 1)), (4, .int (nI 0)), (3, .int (nI 1)), (2, .int (nI 0)), (0, .ref h), (1, .int a1)]) X.1 X.2.1 d_nameRead_199 hl (by decide) rfl (fun ls hl => ?_)
    refine lv_iload X.1 X.2.1 d_nameRead_201 (lv_at hl 0 rfl) ?_
    refine lv_if_ne (tgt := 218) X.1 X.2.1 d_nameRead_203 (by decide) (fun c18 => absurd c18 ?_) (fun c18 => ?_)
    · (rw [← nI_0, nI_eq (by omega) (by omega)] <;> omega)
    rw [← nI_0] at c18
    rw [nI_eq (by omega) (by omega)] at c18
    refine lv_iload X.1 X.2.1 d_nameRead_206 (lv_at hl 1 rfl) ?_
    refine lv_if_eq (tgt := 216) X.1 X.2.1 d_nameRead_208 (by decide) (fun c19 => absurd c19 ?_) (fun c19 => ?_)
    · (rw [← nI_0, nI_eq (by omega) (by omega)] <;> omega)
    rw [← nI_0] at c19
    rw [nI_eq (by omega) (by omega)] at c19
    refine lv_iload X.1 X.2.1 d_nameRead_211 (lv_at hl 2 rfl) ?_
    refine lv_if_ne (tgt := 218) X.1 X.2.1 d_nameRead_213 (by decide) (fun c20 => absurd c20 ?_) (fun c20 => ?_)
    · (rw [← nI_0, nI_eq (by omega) (by omega)] <;> omega)
    rw [← nI_0] at c20
    rw [nI_eq (by omega) (by omega)] at c20
    refine lv_iconst (v := (nI 0)) X.1 X.2.1 d_nameRead_216 (by decide) ?_
    exact m_retz hQQ X Y hr hlk rfl ⟨(fun j  => rfl), rfl, (fun j  => rfl), rfl, rfl⟩ d_nameRead_217
set_option maxHeartbeats 4000000 in
set_option maxRecDepth 100000 in
theorem c_bothRead_empty (l : Launch) (D : mD) (E : mE) (h : Nat) (q : Nat → Nat) (sz : Nat) (I : Nat → Int32) (J : Nat → Int64) (B : Nat → Nat → Int32) (G : Nat → Nat → Int64) (a1 : Int32) (hn : I 2 = nI 0) : Met l y_bothRead (k_bothRead :: lw_tg) (mR 6 136) (va_Pc [.ref h, .int a1] (mPre D E h q (I, J, B, G) sz)) (va_Qi (fun (r : Int32) (u : mS) => (∀ j, u.1 j = I j) ∧ u.2.1 = J ∧ (∀ j, u.2.2.1 j = B j) ∧ u.2.2.2 = G ∧ (r = nI 0)) (mPost D E h q (mA E h q sz)) (mA E h q sz)) 0 0 (mA E h q sz) := by
  refine m_enter (by decide) rfl (Nat.le_of_ble_eq_true rfl) (fun p e s m below meth c ls AV QQ H locs hQQ X Y hZ hA hr hlk hml hl => ?_)
  have Y : mH D E (mA E h q sz) s.heap h q I J B G H locs := Y
  have hl : lv_has ls 2 [(0, .ref h), (1, .int a1)] := hl
  refine lv_aload_n X.1 X.2.1 d_bothRead_0 rfl (lv_at hl 0 rfl) ?_
  refine lv_iload_n X.1 X.2.1 d_bothRead_1 rfl (lv_at hl 1 rfl) ?_
  refine m_calli (As := [.int a1]) (rest := []) (n := 1) X Y hZ hA hml hl.1 (c_nameRead_empty l D E h q H.size I J B G a1 (show I 2 = nI 0 from hn)) kl_nameRead ks_nameRead kx_nameRead ki_nameRead ini_M hd_nameRead ⟨by decide, by decide⟩ rfl (Nat.le_of_ble_eq_true rfl) d_bothRead_2 ⟨Nat.le_refl _, Nat.le_refl _⟩ (fun r9 u H locs hp Y => ?_)
  obtain ⟨I1, J2, B3, G4⟩ := u
  obtain ⟨hI5, eJ7, hB6, eG8, pr9⟩ := hp
  dsimp only at hI5 eJ7 hB6 eG8 pr9 Y
  rw [eJ7, eG8] at Y
  rw [show I1 = I from funext hI5] at Y
  rw [show B3 = B from funext hB6] at Y
  refine t_eq pr9 ?_
  refine lv_if_eq (tgt := 33) X.1 X.2.1 d_bothRead_5 (by decide) (fun c12 => ?_) (fun c12 => absurd ?_ c12)
  rotate_left
  · (rw [← nI_0, nI_eq (by omega) (by omega)] <;> omega)
  rw [← nI_0] at c12
  rw [nI_eq (by omega) (by omega)] at c12
  refine lv_iconst (v := (nI 0)) X.1 X.2.1 d_bothRead_33 (by decide) ?_
  exact m_retz hQQ X Y hr hlk rfl ⟨(fun j  => rfl), rfl, (fun j  => rfl), rfl, rfl⟩ d_bothRead_34
set_option maxHeartbeats 4000000 in
set_option maxRecDepth 100000 in
theorem c_add_empty (l : Launch) (D : mD) (E : mE) (h : Nat) (q : Nat → Nat) (sz : Nat) (I : Nat → Int32) (J : Nat → Int64) (B : Nat → Nat → Int32) (G : Nat → Nat → Int64) (a1 a2 : Int32) (hn : I 2 = nI 0) : Met l y_add (k_add :: lw_tg) (mR 7 157) (va_Pc [.ref h, .int a1, .int a2] (mPre D E h q (I, J, B, G) sz)) (va_Qi (fun (r : Int32) (u : mS) => (∀ j, u.1 j = I j) ∧ u.2.1 = J ∧ (∀ j, u.2.2.1 j = B j) ∧ u.2.2.2 = G ∧ (r = (-1))) (mPost D E h q (mA E h q sz)) (mA E h q sz)) 0 0 (mA E h q sz) := by
  refine m_enter (by decide) rfl (Nat.le_of_ble_eq_true rfl) (fun p e s m below meth c ls AV QQ H locs hQQ X Y hZ hA hr hlk hml hl => ?_)
  have Y : mH D E (mA E h q sz) s.heap h q I J B G H locs := Y
  have hl : lv_has ls 5 [(0, .ref h), (1, .int a1), (2, .int a2)] := hl
  refine lv_aload_n X.1 X.2.1 d_add_0 rfl (lv_at hl 0 rfl) ?_
  refine lv_iload_n X.1 X.2.1 d_add_1 rfl (lv_at hl 2 rfl) ?_
  refine m_calli (As := [.int a2]) (rest := []) (n := 1) X Y hZ hA hml hl.1 (c_bothRead_empty l D E h q H.size I J B G a2 (show I 2 = nI 0 from hn)) kl_bothRead ks_bothRead kx_bothRead ki_bothRead ini_M hd_bothRead ⟨by decide, by decide⟩ rfl (Nat.le_of_ble_eq_true rfl) d_add_2 ⟨Nat.le_refl _, Nat.le_refl _⟩ (fun r9 u H locs hp Y => ?_)
  obtain ⟨I1, J2, B3, G4⟩ := u
  obtain ⟨hI5, eJ7, hB6, eG8, pr9⟩ := hp
  dsimp only at hI5 eJ7 hB6 eG8 pr9 Y
  rw [eJ7, eG8] at Y
  rw [show I1 = I from funext hI5] at Y
  rw [show B3 = B from funext hB6] at Y
  refine t_eq pr9 ?_
  refine lv_if_eq (tgt := 36) X.1 X.2.1 d_add_5 (by decide) (fun c12 => ?_) (fun c12 => absurd ?_ c12)
  rotate_left
  · (rw [← nI_0, nI_eq (by omega) (by omega)] <;> omega)
  rw [← nI_0] at c12
  rw [nI_eq (by omega) (by omega)] at c12
  refine lv_iconst (v := (-1)) X.1 X.2.1 d_add_36 (by decide) ?_
  exact m_reti hQQ X Y hr hlk ⟨(fun j  => rfl), rfl, (fun j  => rfl), rfl, rfl⟩ d_add_37
set_option maxHeartbeats 4000000 in
set_option maxRecDepth 100000 in
theorem c_principal_empty (l : Launch) (D : mD) (E : mE) (h : Nat) (q : Nat → Nat) (sz : Nat) (I : Nat → Int32) (J : Nat → Int64) (B : Nat → Nat → Int32) (G : Nat → Nat → Int64) (a1 : Int32) (hn : I 2 = nI 0) : Met l y_principal (k_principal :: lw_tg) (mR 8 181) (va_Pc [.ref h, .int a1] (mPre D E h q (I, J, B, G) sz)) (va_Qi (fun (r : Int32) (u : mS) => (∀ j, j ≠ 2 → u.1 j = I j) ∧ u.2.1 = J ∧ (∀ j, u.2.2.1 j = B j) ∧ u.2.2.2 = G ∧ u.1 2 = nI (0) ∧ (r = (-1))) (mPost D E h q (mA E h q sz)) (mA E h q sz)) 0 0 (mA E h q sz) := by
  refine m_enter (by decide) rfl (Nat.le_of_ble_eq_true rfl) (fun p e s m below meth c ls AV QQ H locs hQQ X Y hZ hA hr hlk hml hl => ?_)
  have Y : mH D E (mA E h q sz) s.heap h q I J B G H locs := Y
  have hl : lv_has ls 3 [(0, .ref h), (1, .int a1)] := hl
  refine lv_aload_n X.1 X.2.1 d_principal_0 rfl (lv_at hl 0 rfl) ?_
  refine lv_iload_n X.1 X.2.1 d_principal_1 rfl (lv_at hl 1 rfl) ?_
  refine lv_iconst (v := (nI 0)) X.1 X.2.1 d_principal_2 (by decide) ?_
  refine m_calli (As := [.int a1, .int (nI 0)]) (rest := []) (n := 2) X Y hZ hA hml hl.1 (c_add_empty l D E h q H.size I J B G a1 (nI 0) (show I 2 = nI 0 from hn)) kl_add ks_add kx_add ki_add ini_M hd_add ⟨by decide, by decide⟩ rfl (Nat.le_of_ble_eq_true rfl) d_principal_3 ⟨Nat.le_refl _, Nat.le_refl _⟩ (fun r9 u H locs hp Y => ?_)
  obtain ⟨I1, J2, B3, G4⟩ := u
  obtain ⟨hI5, eJ7, hB6, eG8, pr9⟩ := hp
  dsimp only at hI5 eJ7 hB6 eG8 pr9 Y
  rw [eJ7, eG8] at Y
  rw [show I1 = I from funext hI5] at Y
  rw [show B3 = B from funext hB6] at Y
  refine t_eq pr9 ?_
  refine lv_istore_n (lv' := [(2, .int (-1)), (0, .ref h), (1, .int a1)]) X.1 X.2.1 d_principal_6 rfl hl (by decide) rfl (fun ls hl => ?_)
  refine lv_aload_n X.1 X.2.1 d_principal_7 rfl (lv_at hl 1 rfl) ?_
  refine lv_iconst (v := (nI 0)) X.1 X.2.1 d_principal_8 (by decide) ?_
  refine m_puti X Y 2 (by decide) lk_length rfl rfl (t_M_ok 2 (by decide)) rfl rfl (sf_length _ _ _ _) (Nat.le_of_ble_eq_true rfl) d_principal_9 (fun H locs Y => ?_)
  refine lv_iload_n X.1 X.2.1 d_principal_12 rfl (lv_at hl 0 rfl) ?_
  exact m_reti hQQ X Y hr hlk ⟨(fun j h2 => ((if_neg h2).trans rfl)), rfl, (fun j  => rfl), rfl, (show (upd I 2 (nI 0)) 2 = nI (0) from (show (upd I 2 (nI 0)) 2 = nI (0) from pk_us).trans (congrArg nI (show (0 : Nat) = 0 by omega))), rfl⟩ d_principal_13
