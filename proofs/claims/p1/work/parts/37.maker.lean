/-! The house's constructor. -/
abbrev b_H_init : ByteArray := prog_1_method_1_code
def y_H_init : MethodName := ⟨R_H, "<init>", "()V"⟩
abbrev k_H_init : Cond := .code y_H_init b_H_init 2 none
theorem ki_H_init : k_H_init ∈ lw_tg := in_t 24 (by decide +kernel)
theorem ks_H_init : Cond.instanceMethod y_H_init ∈ lw_tg := in_t 23 (by decide +kernel)
theorem hd_H_init : y_H_init.cls = R_H ∧ y_H_init.cls ≠ "java/lang/invoke/MethodHandle" ∧ y_H_init.cls ≠ "java/lang/invoke/VarHandle" ∧ (parseMethodDescriptor y_H_init.desc).map (fun d => d.parameters.length) = some 0 := by decide +kernel
theorem d_H_init_0 : decode b_H_init 0 = .ok (.aload_n 0, 1) := by decide +kernel
theorem d_H_init_1 : decode b_H_init 1 = .ok (.invokespecial 3, 3) := by decide +kernel
theorem d_H_init_4 : decode b_H_init 4 = .ok (.aload_n 0, 1) := by decide +kernel
theorem d_H_init_5 : decode b_H_init 5 = .ok (.new 9, 3) := by decide +kernel
theorem d_H_init_8 : decode b_H_init 8 = .ok (.dup, 1) := by decide +kernel
theorem d_H_init_9 : decode b_H_init 9 = .ok (.invokespecial 11, 3) := by decide +kernel
theorem d_H_init_12 : decode b_H_init 12 = .ok (.putfield 12, 3) := by decide +kernel
theorem d_H_init_15 : decode b_H_init 15 = .ok (.aload_n 0, 1) := by decide +kernel
theorem d_H_init_16 : decode b_H_init 16 = .ok (.new 16, 3) := by decide +kernel
theorem d_H_init_19 : decode b_H_init 19 = .ok (.dup, 1) := by decide +kernel
theorem d_H_init_20 : decode b_H_init 20 = .ok (.sipush 4000, 3) := by decide +kernel
theorem d_H_init_23 : decode b_H_init 23 = .ok (.invokespecial 18, 3) := by decide +kernel
theorem d_H_init_26 : decode b_H_init 26 = .ok (.putfield 21, 3) := by decide +kernel
theorem d_H_init_29 : decode b_H_init 29 = .ok (.aload_n 0, 1) := by decide +kernel
theorem d_H_init_30 : decode b_H_init 30 = .ok (.new 16, 3) := by decide +kernel
theorem d_H_init_33 : decode b_H_init 33 = .ok (.dup, 1) := by decide +kernel
theorem d_H_init_34 : decode b_H_init 34 = .ok (.sipush 12288, 3) := by decide +kernel
theorem d_H_init_37 : decode b_H_init 37 = .ok (.invokespecial 18, 3) := by decide +kernel
theorem d_H_init_40 : decode b_H_init 40 = .ok (.putfield 25, 3) := by decide +kernel
theorem d_H_init_43 : decode b_H_init 43 = .ok (.aload_n 0, 1) := by decide +kernel
theorem d_H_init_44 : decode b_H_init 44 = .ok (.new 16, 3) := by decide +kernel
theorem d_H_init_47 : decode b_H_init 47 = .ok (.dup, 1) := by decide +kernel
theorem d_H_init_48 : decode b_H_init 48 = .ok (.bipush 40, 2) := by decide +kernel
theorem d_H_init_50 : decode b_H_init 50 = .ok (.invokespecial 18, 3) := by decide +kernel
theorem d_H_init_53 : decode b_H_init 53 = .ok (.putfield 28, 3) := by decide +kernel
theorem d_H_init_56 : decode b_H_init 56 = .ok (.aload_n 0, 1) := by decide +kernel
theorem d_H_init_57 : decode b_H_init 57 = .ok (.new 31, 3) := by decide +kernel
theorem d_H_init_60 : decode b_H_init 60 = .ok (.dup, 1) := by decide +kernel
theorem d_H_init_61 : decode b_H_init 61 = .ok (.aload_n 0, 1) := by decide +kernel
theorem d_H_init_62 : decode b_H_init 62 = .ok (.getfield 12, 3) := by decide +kernel
theorem d_H_init_65 : decode b_H_init 65 = .ok (.invokespecial 33, 3) := by decide +kernel
theorem d_H_init_68 : decode b_H_init 68 = .ok (.putfield 36, 3) := by decide +kernel
theorem d_H_init_71 : decode b_H_init 71 = .ok (.aload_n 0, 1) := by decide +kernel
theorem d_H_init_72 : decode b_H_init 72 = .ok (.bipush 12, 2) := by decide +kernel
theorem d_H_init_74 : decode b_H_init 74 = .ok (.anewarray 40, 3) := by decide +kernel
theorem d_H_init_77 : decode b_H_init 77 = .ok (.putfield 42, 3) := by decide +kernel
theorem d_H_init_80 : decode b_H_init 80 = .ok (.iconst 0, 1) := by decide +kernel
theorem d_H_init_81 : decode b_H_init 81 = .ok (.istore_n 1, 1) := by decide +kernel
theorem d_H_init_82 : decode b_H_init 82 = .ok (.iload_n 1, 1) := by decide +kernel
theorem d_H_init_83 : decode b_H_init 83 = .ok (.bipush 12, 2) := by decide +kernel
theorem d_H_init_85 : decode b_H_init 85 = .ok (.if_icmp .ge 22, 3) := by decide +kernel
theorem d_H_init_88 : decode b_H_init 88 = .ok (.aload_n 0, 1) := by decide +kernel
theorem d_H_init_89 : decode b_H_init 89 = .ok (.getfield 42, 3) := by decide +kernel
theorem d_H_init_92 : decode b_H_init 92 = .ok (.iload_n 1, 1) := by decide +kernel
theorem d_H_init_93 : decode b_H_init 93 = .ok (.new 40, 3) := by decide +kernel
theorem d_H_init_96 : decode b_H_init 96 = .ok (.dup, 1) := by decide +kernel
theorem d_H_init_97 : decode b_H_init 97 = .ok (.invokespecial 46, 3) := by decide +kernel
theorem d_H_init_100 : decode b_H_init 100 = .ok (.aastore, 1) := by decide +kernel
theorem d_H_init_101 : decode b_H_init 101 = .ok (.iinc 1 1, 3) := by decide +kernel
theorem d_H_init_104 : decode b_H_init 104 = .ok (.goto (-22), 3) := by decide +kernel
theorem d_H_init_107 : decode b_H_init 107 = .ok (.aload_n 0, 1) := by decide +kernel
theorem d_H_init_108 : decode b_H_init 108 = .ok (.iconst 4, 1) := by decide +kernel
theorem d_H_init_109 : decode b_H_init 109 = .ok (.anewarray 47, 3) := by decide +kernel
theorem d_H_init_112 : decode b_H_init 112 = .ok (.putfield 49, 3) := by decide +kernel
theorem d_H_init_115 : decode b_H_init 115 = .ok (.iconst 0, 1) := by decide +kernel
theorem d_H_init_116 : decode b_H_init 116 = .ok (.istore_n 1, 1) := by decide +kernel
theorem d_H_init_117 : decode b_H_init 117 = .ok (.iload_n 1, 1) := by decide +kernel
theorem d_H_init_118 : decode b_H_init 118 = .ok (.iconst 4, 1) := by decide +kernel
theorem d_H_init_119 : decode b_H_init 119 = .ok (.if_icmp .ge 26, 3) := by decide +kernel
theorem d_H_init_122 : decode b_H_init 122 = .ok (.aload_n 0, 1) := by decide +kernel
theorem d_H_init_123 : decode b_H_init 123 = .ok (.getfield 49, 3) := by decide +kernel
theorem d_H_init_126 : decode b_H_init 126 = .ok (.iload_n 1, 1) := by decide +kernel
theorem d_H_init_127 : decode b_H_init 127 = .ok (.new 47, 3) := by decide +kernel
theorem d_H_init_130 : decode b_H_init 130 = .ok (.dup, 1) := by decide +kernel
theorem d_H_init_131 : decode b_H_init 131 = .ok (.aload_n 0, 1) := by decide +kernel
theorem d_H_init_132 : decode b_H_init 132 = .ok (.getfield 12, 3) := by decide +kernel
theorem d_H_init_135 : decode b_H_init 135 = .ok (.invokespecial 53, 3) := by decide +kernel
theorem d_H_init_138 : decode b_H_init 138 = .ok (.aastore, 1) := by decide +kernel
theorem d_H_init_139 : decode b_H_init 139 = .ok (.iinc 1 1, 3) := by decide +kernel
theorem d_H_init_142 : decode b_H_init 142 = .ok (.goto (-25), 3) := by decide +kernel
theorem d_H_init_145 : decode b_H_init 145 = .ok (.aload_n 0, 1) := by decide +kernel
theorem d_H_init_146 : decode b_H_init 146 = .ok (.bipush 8, 2) := by decide +kernel
theorem d_H_init_148 : decode b_H_init 148 = .ok (.anewarray 54, 3) := by decide +kernel
theorem d_H_init_151 : decode b_H_init 151 = .ok (.putfield 56, 3) := by decide +kernel
theorem d_H_init_154 : decode b_H_init 154 = .ok (.iconst 0, 1) := by decide +kernel
theorem d_H_init_155 : decode b_H_init 155 = .ok (.istore_n 1, 1) := by decide +kernel
theorem d_H_init_156 : decode b_H_init 156 = .ok (.iload_n 1, 1) := by decide +kernel
theorem d_H_init_157 : decode b_H_init 157 = .ok (.bipush 8, 2) := by decide +kernel
theorem d_H_init_159 : decode b_H_init 159 = .ok (.if_icmp .ge 26, 3) := by decide +kernel
theorem d_H_init_162 : decode b_H_init 162 = .ok (.aload_n 0, 1) := by decide +kernel
theorem d_H_init_163 : decode b_H_init 163 = .ok (.getfield 56, 3) := by decide +kernel
theorem d_H_init_166 : decode b_H_init 166 = .ok (.iload_n 1, 1) := by decide +kernel
theorem d_H_init_167 : decode b_H_init 167 = .ok (.new 54, 3) := by decide +kernel
theorem d_H_init_170 : decode b_H_init 170 = .ok (.dup, 1) := by decide +kernel
theorem d_H_init_171 : decode b_H_init 171 = .ok (.aload_n 0, 1) := by decide +kernel
theorem d_H_init_172 : decode b_H_init 172 = .ok (.getfield 12, 3) := by decide +kernel
theorem d_H_init_175 : decode b_H_init 175 = .ok (.invokespecial 60, 3) := by decide +kernel
theorem d_H_init_178 : decode b_H_init 178 = .ok (.aastore, 1) := by decide +kernel
theorem d_H_init_179 : decode b_H_init 179 = .ok (.iinc 1 1, 3) := by decide +kernel
theorem d_H_init_182 : decode b_H_init 182 = .ok (.goto (-26), 3) := by decide +kernel
theorem d_H_init_185 : decode b_H_init 185 = .ok (.aload_n 0, 1) := by decide +kernel
theorem d_H_init_186 : decode b_H_init 186 = .ok (.getfield 28, 3) := by decide +kernel
theorem d_H_init_189 : decode b_H_init 189 = .ok (.invokestatic 61, 3) := by decide +kernel
theorem d_H_init_192 : decode b_H_init 192 = .ok (.aload_n 0, 1) := by decide +kernel
theorem d_H_init_193 : decode b_H_init 193 = .ok (.getfield 42, 3) := by decide +kernel
theorem d_H_init_196 : decode b_H_init 196 = .ok (.iconst 0, 1) := by decide +kernel
theorem d_H_init_197 : decode b_H_init 197 = .ok (.aaload, 1) := by decide +kernel
theorem d_H_init_198 : decode b_H_init 198 = .ok (.aload_n 0, 1) := by decide +kernel
theorem d_H_init_199 : decode b_H_init 199 = .ok (.getfield 28, 3) := by decide +kernel
theorem d_H_init_202 : decode b_H_init 202 = .ok (.invokevirtual 65, 3) := by decide +kernel
theorem d_H_init_205 : decode b_H_init 205 = .ok (.aload_n 0, 1) := by decide +kernel
theorem d_H_init_206 : decode b_H_init 206 = .ok (.getfield 42, 3) := by decide +kernel
theorem d_H_init_209 : decode b_H_init 209 = .ok (.iconst 0, 1) := by decide +kernel
theorem d_H_init_210 : decode b_H_init 210 = .ok (.aaload, 1) := by decide +kernel
theorem d_H_init_211 : decode b_H_init 211 = .ok (.aload_n 0, 1) := by decide +kernel
theorem d_H_init_212 : decode b_H_init 212 = .ok (.getfield 12, 3) := by decide +kernel
theorem d_H_init_215 : decode b_H_init 215 = .ok (.aload_n 0, 1) := by decide +kernel
theorem d_H_init_216 : decode b_H_init 216 = .ok (.getfield 21, 3) := by decide +kernel
theorem d_H_init_219 : decode b_H_init 219 = .ok (.iconst 0, 1) := by decide +kernel
theorem d_H_init_220 : decode b_H_init 220 = .ok (.iconst 1, 1) := by decide +kernel
theorem d_H_init_221 : decode b_H_init 221 = .ok (.invokevirtual 68, 3) := by decide +kernel
theorem d_H_init_224 : decode b_H_init 224 = .ok (.aload_n 0, 1) := by decide +kernel
theorem d_H_init_225 : decode b_H_init 225 = .ok (.new 72, 3) := by decide +kernel
theorem d_H_init_228 : decode b_H_init 228 = .ok (.dup, 1) := by decide +kernel
theorem d_H_init_229 : decode b_H_init 229 = .ok (.aload_n 0, 1) := by decide +kernel
theorem d_H_init_230 : decode b_H_init 230 = .ok (.getfield 12, 3) := by decide +kernel
theorem d_H_init_233 : decode b_H_init 233 = .ok (.aload_n 0, 1) := by decide +kernel
theorem d_H_init_234 : decode b_H_init 234 = .ok (.getfield 36, 3) := by decide +kernel
theorem d_H_init_237 : decode b_H_init 237 = .ok (.aload_n 0, 1) := by decide +kernel
theorem d_H_init_238 : decode b_H_init 238 = .ok (.getfield 42, 3) := by decide +kernel
theorem d_H_init_241 : decode b_H_init 241 = .ok (.aload_n 0, 1) := by decide +kernel
theorem d_H_init_242 : decode b_H_init 242 = .ok (.getfield 21, 3) := by decide +kernel
theorem d_H_init_245 : decode b_H_init 245 = .ok (.aload_n 0, 1) := by decide +kernel
theorem d_H_init_246 : decode b_H_init 246 = .ok (.getfield 25, 3) := by decide +kernel
theorem d_H_init_249 : decode b_H_init 249 = .ok (.invokespecial 74, 3) := by decide +kernel
theorem d_H_init_252 : decode b_H_init 252 = .ok (.putfield 77, 3) := by decide +kernel
theorem d_H_init_255 : decode b_H_init 255 = .ok (.return_, 1) := by decide +kernel
theorem ol_H : Cond.methodLink R_H 3 Lib.objectInit ∈ lw_tg := in_t 25 (by decide +kernel)
theorem ck_H_9 : Cond.classLink R_H 9 R_Va ∈ lw_tg := in_t 28 (by decide +kernel)
theorem ck_H_16 : Cond.classLink R_H 16 R_By ∈ lw_tg := in_t 176 (by decide +kernel)
theorem ck_H_31 : Cond.classLink R_H 31 R_Ga ∈ lw_tg := in_t 178 (by decide +kernel)
theorem ck_H_40 : Cond.classLink R_H 40 R_Pr ∈ lw_tg := in_t 210 (by decide +kernel)
theorem ck_H_47 : Cond.classLink R_H 47 R_Ag ∈ lw_tg := in_t 295 (by decide +kernel)
theorem ck_H_54 : Cond.classLink R_H 54 R_So ∈ lw_tg := in_t 425 (by decide +kernel)
theorem ck_H_72 : Cond.classLink R_H 72 R_Ce ∈ lw_tg := in_t 652 (by decide +kernel)
set_option maxHeartbeats 4000000 in
set_option maxRecDepth 100000 in
theorem c_H_init (l : Launch) (D : va_G) (E : cE) (T : cT) (L : List Nat) (f : pF) (sz : Nat) (xo : Nat) (m_xo : xo ∈ L) (e_xo : f xo = .inr (0, [.null, .null, .null, .null, .null, .null, .null, .null, .null])) : Met l y_H_init (k_H_init :: lw_tg) (kRm 8 189 367 (53413)) (va_Pc [.ref xo] (kPre D E T L f sz)) (va_Qv (fun (u : cU) => (∀ x, x ∈ L → x ∈ u.1) ∧ (∀ x, x ∈ L → x ≠ xo → u.2 x = f x) ∧ ∃ (v ho wd bl hst inn out mac o tw ke sta mo se tu b r tb tr sb sr ga pa pr nb nr aa sa ce qb txo dro coo deo un kp gpo gqo gko sno l18 l17 d18 d17 cso cl1 cl2 fl rd bn nn : Nat) (now ssz cat crw tot mst prd lif ren flg xpy ce_initial ce_read ce_body ce_options ce_etype ce_flags ce_endTime ce_renewTill : Int32) (k_wd k_bl k_hst k_inn k_out k_mac k_tw k_ke k_sta k_mo k_se k_tu k_r k_tr k_sr k_nr : Nat → Int32) (k_pa k_aa k_sa : Nat → Option Nat), v ∈ u.1 ∧ v ∉ L ∧ ho ∈ u.1 ∧ ho ∉ L ∧ wd ∈ u.1 ∧ wd ∉ L ∧ bl ∈ u.1 ∧ bl ∉ L ∧ hst ∈ u.1 ∧ hst ∉ L ∧ inn ∈ u.1 ∧ inn ∉ L ∧ out ∈ u.1 ∧ out ∉ L ∧ mac ∈ u.1 ∧ mac ∉ L ∧ o ∈ u.1 ∧ o ∉ L ∧ tw ∈ u.1 ∧ tw ∉ L ∧ ke ∈ u.1 ∧ ke ∉ L ∧ sta ∈ u.1 ∧ sta ∉ L ∧ mo ∈ u.1 ∧ mo ∉ L ∧ se ∈ u.1 ∧ se ∉ L ∧ tu ∈ u.1 ∧ tu ∉ L ∧ b ∈ u.1 ∧ b ∉ L ∧ r ∈ u.1 ∧ r ∉ L ∧ tb ∈ u.1 ∧ tb ∉ L ∧ tr ∈ u.1 ∧ tr ∉ L ∧ sb ∈ u.1 ∧ sb ∉ L ∧ sr ∈ u.1 ∧ sr ∉ L ∧ ga ∈ u.1 ∧ ga ∉ L ∧ pa ∈ u.1 ∧ pa ∉ L ∧ pr ∈ u.1 ∧ pr ∉ L ∧ nb ∈ u.1 ∧ nb ∉ L ∧ nr ∈ u.1 ∧ nr ∉ L ∧ aa ∈ u.1 ∧ aa ∉ L ∧ sa ∈ u.1 ∧ sa ∉ L ∧ ce ∈ u.1 ∧ ce ∉ L ∧ wd ≠ bl ∧ wd ≠ hst ∧ wd ≠ inn ∧ wd ≠ out ∧ wd ≠ mac ∧ wd ≠ tw ∧ wd ≠ ke ∧ wd ≠ sta ∧ wd ≠ mo ∧ wd ≠ se ∧ wd ≠ tu ∧ wd ≠ r ∧ wd ≠ tr ∧ wd ≠ sr ∧ wd ≠ pa ∧ wd ≠ nr ∧ wd ≠ aa ∧ wd ≠ sa ∧ bl ≠ hst ∧ bl ≠ inn ∧ bl ≠ out ∧ bl ≠ mac ∧ bl ≠ tw ∧ bl ≠ ke ∧ bl ≠ sta ∧ bl ≠ mo ∧ bl ≠ se ∧ bl ≠ tu ∧ bl ≠ r ∧ bl ≠ tr ∧ bl ≠ sr ∧ bl ≠ pa ∧ bl ≠ nr ∧ bl ≠ aa ∧ bl ≠ sa ∧ hst ≠ inn ∧ hst ≠ out ∧ hst ≠ mac ∧ hst ≠ tw ∧ hst ≠ ke ∧ hst ≠ sta ∧ hst ≠ mo ∧ hst ≠ se ∧ hst ≠ tu ∧ hst ≠ r ∧ hst ≠ tr ∧ hst ≠ sr ∧ hst ≠ pa ∧ hst ≠ nr ∧ hst ≠ aa ∧ hst ≠ sa ∧ inn ≠ out ∧ inn ≠ mac ∧ inn ≠ tw ∧ inn ≠ ke ∧ inn ≠ sta ∧ inn ≠ mo ∧ inn ≠ se ∧ inn ≠ tu ∧ inn ≠ r ∧ inn ≠ tr ∧ inn ≠ sr ∧ inn ≠ pa ∧ inn ≠ nr ∧ inn ≠ aa ∧ inn ≠ sa ∧ out ≠ mac ∧ out ≠ tw ∧ out ≠ ke ∧ out ≠ sta ∧ out ≠ mo ∧ out ≠ se ∧ out ≠ tu ∧ out ≠ r ∧ out ≠ tr ∧ out ≠ sr ∧ out ≠ pa ∧ out ≠ nr ∧ out ≠ aa ∧ out ≠ sa ∧ mac ≠ tw ∧ mac ≠ ke ∧ mac ≠ sta ∧ mac ≠ mo ∧ mac ≠ se ∧ mac ≠ tu ∧ mac ≠ r ∧ mac ≠ tr ∧ mac ≠ sr ∧ mac ≠ pa ∧ mac ≠ nr ∧ mac ≠ aa ∧ mac ≠ sa ∧ tw ≠ ke ∧ tw ≠ sta ∧ tw ≠ mo ∧ tw ≠ se ∧ tw ≠ tu ∧ tw ≠ r ∧ tw ≠ tr ∧ tw ≠ sr ∧ tw ≠ pa ∧ tw ≠ nr ∧ tw ≠ aa ∧ tw ≠ sa ∧ ke ≠ sta ∧ ke ≠ mo ∧ ke ≠ se ∧ ke ≠ tu ∧ ke ≠ r ∧ ke ≠ tr ∧ ke ≠ sr ∧ ke ≠ pa ∧ ke ≠ nr ∧ ke ≠ aa ∧ ke ≠ sa ∧ sta ≠ mo ∧ sta ≠ se ∧ sta ≠ tu ∧ sta ≠ r ∧ sta ≠ tr ∧ sta ≠ sr ∧ sta ≠ pa ∧ sta ≠ nr ∧ sta ≠ aa ∧ sta ≠ sa ∧ mo ≠ se ∧ mo ≠ tu ∧ mo ≠ r ∧ mo ≠ tr ∧ mo ≠ sr ∧ mo ≠ pa ∧ mo ≠ nr ∧ mo ≠ aa ∧ mo ≠ sa ∧ se ≠ tu ∧ se ≠ r ∧ se ≠ tr ∧ se ≠ sr ∧ se ≠ pa ∧ se ≠ nr ∧ se ≠ aa ∧ se ≠ sa ∧ tu ≠ r ∧ tu ≠ tr ∧ tu ≠ sr ∧ tu ≠ pa ∧ tu ≠ nr ∧ tu ≠ aa ∧ tu ≠ sa ∧ b ≠ tb ∧ b ≠ sb ∧ b ≠ nb ∧ r ≠ tr ∧ r ≠ sr ∧ r ≠ pa ∧ r ≠ nr ∧ r ≠ aa ∧ r ≠ sa ∧ tb ≠ sb ∧ tb ≠ nb ∧ tr ≠ sr ∧ tr ≠ pa ∧ tr ≠ nr ∧ tr ≠ aa ∧ tr ≠ sa ∧ sb ≠ nb ∧ sr ≠ pa ∧ sr ≠ nr ∧ sr ≠ aa ∧ sr ≠ sa ∧ pa ≠ nr ∧ pa ≠ aa ∧ pa ≠ sa ∧ nr ≠ aa ∧ nr ≠ sa ∧ aa ≠ sa ∧ fB k_bl ∧ fB k_mac ∧ by8 k_tw ∧ by8 k_ke ∧ by8 k_sta ∧ by8 k_mo ∧ fB k_se ∧ fB k_tu ∧ fB k_r ∧ fB k_tr ∧ fB k_sr ∧ fB k_nr ∧ wP 7 2 1 12 pr u.2 u.1 k_pa ∧ wP 2 2 0 4 aa u.2 u.1 k_aa ∧ wP 9 1 0 8 sa u.2 u.1 k_sa ∧ (k_pa 0 = some pr) ∧ (nn ≤ 40) ∧ (bn ≤ 64) ∧ (fl < 64) ∧ (rd ≤ 14) ∧ u.2 xo = .inr (0, [.ref v, .ref tb, .ref sb, .ref qb, .ref pa, .ref ga, .ref ce, .ref aa, .ref sa]) ∧ u.2 v = .inr (11, [.int now, .ref txo, .ref dro, .ref ho, .ref o, .ref se, .int ssz, .ref coo, .int cat, .int crw, .ref deo, .ref tu, .ref b]) ∧ u.2 ho = .inr (6, [.ref wd, .ref bl, .ref hst, .ref inn, .ref out, .int (nI fl), .int tot, .ref mac]) ∧ u.2 wd = .inl (E.2.1, 80, .inl k_wd) ∧ u.2 bl = .inl (E.1, 64, .inl k_bl) ∧ u.2 hst = .inl (E.2.1, 5, .inl k_hst) ∧ u.2 inn = .inl (E.2.1, 5, .inl k_inn) ∧ u.2 out = .inl (E.2.1, 5, .inl k_out) ∧ u.2 mac = .inl (E.1, 20, .inl k_mac) ∧ u.2 o = .inr (1, [.ref un, .ref tw, .ref ke, .int (nI rd), .ref sta, .ref mo, .ref kp]) ∧ u.2 tw = .inl (E.2.1, 256, .inl k_tw) ∧ u.2 ke = .inl (E.2.1, 240, .inl k_ke) ∧ u.2 sta = .inl (E.2.1, 16, .inl k_sta) ∧ u.2 mo = .inl (E.2.1, 16, .inl k_mo) ∧ u.2 se = .inl (E.1, 64, .inl k_se) ∧ u.2 tu = .inl (E.1, 20, .inl k_tu) ∧ u.2 b = .inr (3, [.ref r, .int (nI bn)]) ∧ u.2 r = .inl (E.1, 64, .inl k_r) ∧ u.2 tb = .inr (3, [.ref tr, .int (nI 0)]) ∧ u.2 tr = .inl (E.1, 4000, .inl k_tr) ∧ u.2 sb = .inr (3, [.ref sr, .int (nI 0)]) ∧ u.2 sr = .inl (E.1, 12288, .inl k_sr) ∧ u.2 ga = .inr (5, [.ref v, .ref gpo, .ref gqo, .ref gko, .int mst]) ∧ u.2 pa = .inl (E.2.2.1, 12, .inr (.inr (.inr (.inr k_pa)))) ∧ u.2 pr = .inr (7, [.ref nb, .ref sno, .int (nI 1), .int (nI 1), .int prd, .ref l18, .ref l17, .ref d18, .ref d17, .int lif, .int ren, .int flg, .int xpy]) ∧ u.2 nb = .inr (3, [.ref nr, .int (nI nn)]) ∧ u.2 nr = .inl (E.1, 40, .inl k_nr) ∧ u.2 aa = .inl (E.2.2.2.1, 4, .inr (.inr (.inr (.inr k_aa)))) ∧ u.2 sa = .inl (E.2.2.2.2.1, 8, .inr (.inr (.inr (.inr k_sa)))) ∧ u.2 ce = .inr (4, [.ref v, .ref ga, .ref pa, .ref tb, .ref sb, .ref cso, .int ce_initial, .int ce_read, .int ce_body, .int ce_options, .ref cl1, .ref cl2, .int ce_etype, .int ce_flags, .int ce_endTime, .int ce_renewTill])) (cPost D E (pA L sz)) (pA L sz)) 367 (53413) (pA L sz) := by
  refine k_enter (own := R_H) (by decide) rfl (Nat.le_of_ble_eq_true rfl) (fun p e s m below meth c ls AV QQ H locs hQQ X Y hA hin hr hlk hml hl KS KR => ?_)
  have hl : lv_has ls 2 [(0, .ref xo)] := hl
  refine lv_aload_n X.1 X.2.1 d_H_init_0 rfl (lv_at hl 0 rfl) ?_
  refine W.objInit X.1 X.2.1 X.2.2.2.1 (X.2.2.1 _ ol_H) (X.2.2.1 _ o_inst) (X.2.2.1 _ o_code) rfl (by rw [hml]; exact hl.1) rfl d_H_init_1 (Nat.le_of_ble_eq_true rfl) (Nat.le_of_ble_eq_true rfl) ?_
  refine W.eq (g2 := F0 m 4 ls []) rfl ?_
  refine lv_aload_n X.1 X.2.1 d_H_init_4 rfl (lv_at hl 0 rfl) ?_
  refine q_new X.1 X.2.1 X.2.2.1 i_Va t_Va t_Va_ok X.2.2.2.1 (X.2.2.1 _ ck_H_9) (X.2.2.1 _ mk_Va) (X.2.2.1 _ ini_Va) X.2.2.2.2 Y hA (ci := 11) rfl (fs := [.int (nI 0), .null, .null, .null, .null, .null, .int (nI 0), .null, .int (nI 0), .int (nI 0), .null, .null, .null]) (fun j hj => match j, hj with | 0, _ => rfl | 1, _ => rfl | 2, _ => rfl | 3, _ => rfl | 4, _ => rfl | 5, _ => rfl | 6, _ => rfl | 7, _ => rfl | 8, _ => rfl | 9, _ => rfl | 10, _ => rfl | 11, _ => rfl | 12, _ => rfl | n9 + 13, h9 => absurd (show n9 + 13 < 13 from h9) (by omega)) (show 0 + 1 ≤ 367 by omega) (show 0 + 13 ≤ (53413) by omega) d_H_init_5 (fun q1 H hqq1 Y => ?_)
  have Y : pH D cCl (pA L sz) s.heap (L ++ [q1]) (va_up f q1 (.inr (11, [.int (nI 0), .null, .null, .null, .null, .null, .int (nI 0), .null, .int (nI 0), .int (nI 0), .null, .null, .null]))) H locs := Y
  have e8 : (va_up f q1 (.inr (11, [.int (nI 0), .null, .null, .null, .null, .null, .int (nI 0), .null, .int (nI 0), .int (nI 0), .null, .null, .null]))) q1 = .inr (11, [.int (nI 0), .null, .null, .null, .null, .null, .int (nI 0), .null, .int (nI 0), .int (nI 0), .null, .null, .null]) := q_up
  have e9 : (va_up f q1 (.inr (11, [.int (nI 0), .null, .null, .null, .null, .null, .int (nI 0), .null, .int (nI 0), .int (nI 0), .null, .null, .null]))) xo = .inr (0, [.null, .null, .null, .null, .null, .null, .null, .null, .null]) := (q_ne (ne_mem hqq1 m_xo)).trans e_xo
  have nl6 : q1 ∉ L := fun h9 => hqq1 h9
  have hF10 : ∀ x, x ∈ L → x ≠ xo → (va_up f q1 (.inr (11, [.int (nI 0), .null, .null, .null, .null, .null, .int (nI 0), .null, .int (nI 0), .int (nI 0), .null, .null, .null]))) x = f x := fun x hx h0 => (q_ne (ne_mem nl6 hx)).trans rfl
  generalize (va_up f q1 (.inr (11, [.int (nI 0), .null, .null, .null, .null, .null, .int (nI 0), .null, .int (nI 0), .int (nI 0), .null, .null, .null]))) = f7 at Y e8 e9 hF10
  have s4 : ∀ x, x ∈ L → x ∈ L ++ [q1] := fun x hx => List.mem_append_left _ hx
  have m11 : xo ∈ L ++ [q1] := List.mem_append_left _ m_xo
  have m5 : q1 ∈ L ++ [q1] := List.mem_append_right _ (List.mem_singleton.mpr rfl)
  generalize L ++ [q1] = L2 at Y s4 m11 m5
  refine lv_dup X.1 X.2.1 d_H_init_8 rfl ?_
  refine x_v (x_runIN (As := []) (rest := [.ref q1, .ref xo]) (n := 0) X KR hml hl.1 (c_Va_init l D E T L2 f7 H.size q1 m5 e8) (ok_k X Y hA KS KR) (by decide) ks_Va_init ki_Va_init ini_Va rfl ⟨rfl, rfl⟩ hd_Va_init.2 ⟨by decide, by decide⟩ rfl (Nat.le_of_ble_eq_true rfl) d_H_init_9 ⟨(show 1 + 24 ≤ 367 by omega), (show 13 + (7856) ≤ (53413) by omega)⟩) X Y hA (fun u H locs hp Y => ?_)
  obtain ⟨L14, f13⟩ := u
  obtain ⟨eL16, hF15, q18, q19, q20, q21, q22, q23, q24, q25, q26, q27, q28, q29, q30, q31, q32, q33, o183, o184, o185, o186, o187, o188, g34, g35, g36, g37, g38, g39, g40, g41, g42, g43, g44, g45, g46, m47, nl63, m48, nl64, m49, nl65, m50, nl66, m51, nl67, m52, nl68, m53, nl69, m54, nl70, m55, nl71, m56, nl72, m57, nl73, m58, nl74, m59, nl75, m60, nl76, m61, nl77, m62, nl78, ap79, ap80, ap81, ap82, ap83, ap84, ap85, ap86, ap87, ap88, ap89, ap90, ap91, ap92, ap93, ap94, ap95, ap96, ap97, ap98, ap99, ap100, ap101, ap102, ap103, ap104, ap105, ap106, ap107, ap108, ap109, ap110, ap111, ap112, ap113, ap114, ap115, ap116, ap117, ap118, ap119, ap120, ap121, ap122, ap123, ap124, ap125, ap126, ap127, ap128, ap129, ap130, ap131, ap132, ap133, ap134, ap135, ap136, ap137, ap138, ap139, ap140, ap141, ap142, ap143, ap144, ap145, ap146, ap147, ap148, ap149, ap150, ap151, ap152, ap153, ap154, ap155, ap156, hg157, hg158, hg159, hg160, hg161, hg162, hg163, hg164, hg165, e166, e167, e168, e169, e170, e171, e172, e173, e174, e175, e176, e177, e178, e179, e180, e181, e182⟩ := hp
  dsimp only at eL16 hF15 m47 m48 m49 m50 m51 m52 m53 m54 m55 m56 m57 m58 m59 m60 m61 m62 e166 e167 e168 e169 e170 e171 e172 e173 e174 e175 e176 e177 e178 e179 e180 e181 e182 Y
  have e189 : f13 xo = .inr (0, [.null, .null, .null, .null, .null, .null, .null, .null, .null]) := (hF15 xo m11 (q_tag e9 e8 (show (0 : Nat) ≠ 11 by decide))).trans e9
  have hF190 : ∀ x, x ∈ L → x ≠ xo → f13 x = f x := fun x hx h0 => (hF15 x (s4 x hx) (ne_mem nl6 hx)).trans (hF10 x hx h0)
  have s191 : ∀ x, x ∈ L → x ∈ L14 := fun x hx => eL16 x (s4 x hx)
  have nl192 : q18 ∉ L := fun h9 => nl63 (s4 _ h9)
  have nl193 : q19 ∉ L := fun h9 => nl64 (s4 _ h9)
  have nl194 : q20 ∉ L := fun h9 => nl65 (s4 _ h9)
  have nl195 : q21 ∉ L := fun h9 => nl66 (s4 _ h9)
  have nl196 : q22 ∉ L := fun h9 => nl67 (s4 _ h9)
  have nl197 : q23 ∉ L := fun h9 => nl68 (s4 _ h9)
  have nl198 : q24 ∉ L := fun h9 => nl69 (s4 _ h9)
  have nl199 : q25 ∉ L := fun h9 => nl70 (s4 _ h9)
  have nl200 : q26 ∉ L := fun h9 => nl71 (s4 _ h9)
  have nl201 : q27 ∉ L := fun h9 => nl72 (s4 _ h9)
  have nl202 : q28 ∉ L := fun h9 => nl73 (s4 _ h9)
  have nl203 : q29 ∉ L := fun h9 => nl74 (s4 _ h9)
  have nl204 : q30 ∉ L := fun h9 => nl75 (s4 _ h9)
  have nl205 : q31 ∉ L := fun h9 => nl76 (s4 _ h9)
  have nl206 : q32 ∉ L := fun h9 => nl77 (s4 _ h9)
  have nl207 : q33 ∉ L := fun h9 => nl78 (s4 _ h9)
  have m208 : xo ∈ L14 := eL16 _ m11
  have m209 : q1 ∈ L14 := eL16 _ m5
  refine q_putF X.1 X.2.1 X.2.2.1 i_H t_H t_H_ok n_H X.2.2.2.1 X.2.2.2.2 Y m208 e189 rfl 0 (by decide) (X.2.2.1 _ lk_H_12) (fun _ h9 => h9) rfl hin rfl (t_H_ok 0 (by decide)) rfl rfl (Nat.le_of_ble_eq_true rfl) d_H_init_12 (fun H locs Y => ?_)
  have e211 : (va_up f13 xo (.inr (0, [.ref q1, .null, .null, .null, .null, .null, .null, .null, .null]))) xo = .inr (0, [.ref q1, .null, .null, .null, .null, .null, .null, .null, .null]) := q_up
  have e212 : (va_up f13 xo (.inr (0, [.ref q1, .null, .null, .null, .null, .null, .null, .null, .null]))) q1 = .inr (11, [.int (nI 1000000000), .ref o183, .ref o184, .ref q18, .ref q25, .ref q30, .int (nI 0), .ref o185, .int (nI 20), .int (nI 0), .ref o186, .ref q31, .ref q32]) := (q_ne (q_tag e166 e189 (show (11 : Nat) ≠ 0 by decide))).trans e166
  have e213 : (va_up f13 xo (.inr (0, [.ref q1, .null, .null, .null, .null, .null, .null, .null, .null]))) q18 = .inr (6, [.ref q19, .ref q20, .ref q21, .ref q22, .ref q23, .int (nI 0), .int (nI 0), .ref q24]) := (q_ne (q_tag e167 e189 (show (6 : Nat) ≠ 0 by decide))).trans e167
  have e214 : (va_up f13 xo (.inr (0, [.ref q1, .null, .null, .null, .null, .null, .null, .null, .null]))) q19 = .inl (E.2.1, 80, .inl g34) := (q_ne (q_tag e168 e189 (show (1000 : Nat) ≠ 0 by decide))).trans e168
  have e215 : (va_up f13 xo (.inr (0, [.ref q1, .null, .null, .null, .null, .null, .null, .null, .null]))) q20 = .inl (E.1, 64, .inl g35) := (q_ne (q_tag e169 e189 (show (1000 : Nat) ≠ 0 by decide))).trans e169
  have e216 : (va_up f13 xo (.inr (0, [.ref q1, .null, .null, .null, .null, .null, .null, .null, .null]))) q21 = .inl (E.2.1, 5, .inl g36) := (q_ne (q_tag e170 e189 (show (1000 : Nat) ≠ 0 by decide))).trans e170
  have e217 : (va_up f13 xo (.inr (0, [.ref q1, .null, .null, .null, .null, .null, .null, .null, .null]))) q22 = .inl (E.2.1, 5, .inl g37) := (q_ne (q_tag e171 e189 (show (1000 : Nat) ≠ 0 by decide))).trans e171
  have e218 : (va_up f13 xo (.inr (0, [.ref q1, .null, .null, .null, .null, .null, .null, .null, .null]))) q23 = .inl (E.2.1, 5, .inl g38) := (q_ne (q_tag e172 e189 (show (1000 : Nat) ≠ 0 by decide))).trans e172
  have e219 : (va_up f13 xo (.inr (0, [.ref q1, .null, .null, .null, .null, .null, .null, .null, .null]))) q24 = .inl (E.1, 20, .inl g39) := (q_ne (q_tag e173 e189 (show (1000 : Nat) ≠ 0 by decide))).trans e173
  have e220 : (va_up f13 xo (.inr (0, [.ref q1, .null, .null, .null, .null, .null, .null, .null, .null]))) q25 = .inr (1, [.ref o187, .ref q26, .ref q27, .int (nI 0), .ref q28, .ref q29, .ref o188]) := (q_ne (q_tag e174 e189 (show (1 : Nat) ≠ 0 by decide))).trans e174
  have e221 : (va_up f13 xo (.inr (0, [.ref q1, .null, .null, .null, .null, .null, .null, .null, .null]))) q26 = .inl (E.2.1, 256, .inl g40) := (q_ne (q_tag e175 e189 (show (1000 : Nat) ≠ 0 by decide))).trans e175
  have e222 : (va_up f13 xo (.inr (0, [.ref q1, .null, .null, .null, .null, .null, .null, .null, .null]))) q27 = .inl (E.2.1, 240, .inl g41) := (q_ne (q_tag e176 e189 (show (1000 : Nat) ≠ 0 by decide))).trans e176
  have e223 : (va_up f13 xo (.inr (0, [.ref q1, .null, .null, .null, .null, .null, .null, .null, .null]))) q28 = .inl (E.2.1, 16, .inl g42) := (q_ne (q_tag e177 e189 (show (1000 : Nat) ≠ 0 by decide))).trans e177
  have e224 : (va_up f13 xo (.inr (0, [.ref q1, .null, .null, .null, .null, .null, .null, .null, .null]))) q29 = .inl (E.2.1, 16, .inl g43) := (q_ne (q_tag e178 e189 (show (1000 : Nat) ≠ 0 by decide))).trans e178
  have e225 : (va_up f13 xo (.inr (0, [.ref q1, .null, .null, .null, .null, .null, .null, .null, .null]))) q30 = .inl (E.1, 64, .inl g44) := (q_ne (q_tag e179 e189 (show (1000 : Nat) ≠ 0 by decide))).trans e179
  have e226 : (va_up f13 xo (.inr (0, [.ref q1, .null, .null, .null, .null, .null, .null, .null, .null]))) q31 = .inl (E.1, 20, .inl g45) := (q_ne (q_tag e180 e189 (show (1000 : Nat) ≠ 0 by decide))).trans e180
  have e227 : (va_up f13 xo (.inr (0, [.ref q1, .null, .null, .null, .null, .null, .null, .null, .null]))) q32 = .inr (3, [.ref q33, .int (nI 0)]) := (q_ne (q_tag e181 e189 (show (3 : Nat) ≠ 0 by decide))).trans e181
  have e228 : (va_up f13 xo (.inr (0, [.ref q1, .null, .null, .null, .null, .null, .null, .null, .null]))) q33 = .inl (E.1, 64, .inl g46) := (q_ne (q_tag e182 e189 (show (1000 : Nat) ≠ 0 by decide))).trans e182
  have hF229 : ∀ x, x ∈ L → x ≠ xo → (va_up f13 xo (.inr (0, [.ref q1, .null, .null, .null, .null, .null, .null, .null, .null]))) x = f x := fun x hx h0 => (q_ne h0).trans (hF190 x hx h0)
  have Y : pH D cCl (pA L sz) s.heap L14 (va_up f13 xo (.inr (0, [.ref q1, .null, .null, .null, .null, .null, .null, .null, .null]))) H locs := Y
  generalize (va_up f13 xo (.inr (0, [.ref q1, .null, .null, .null, .null, .null, .null, .null, .null]))) = f210 at Y e211 e212 e213 e214 e215 e216 e217 e218 e219 e220 e221 e222 e223 e224 e225 e226 e227 e228 hF229
  refine lv_aload_n X.1 X.2.1 d_H_init_15 rfl (lv_at hl 0 rfl) ?_
  refine q_new X.1 X.2.1 X.2.2.1 i_By t_By t_By_ok X.2.2.2.1 (X.2.2.1 _ ck_H_16) (X.2.2.1 _ mk_By) (X.2.2.1 _ ini_By) X.2.2.2.2 Y hA (ci := 3) rfl (fs := [.null, .int (nI 0)]) (fun j hj => match j, hj with | 0, _ => rfl | 1, _ => rfl | n9 + 2, h9 => absurd (show n9 + 2 < 2 from h9) (by omega)) (show 25 + 1 ≤ 367 by omega) (show 7869 + 2 ≤ (53413) by omega) d_H_init_16 (fun q230 H hqq230 Y => ?_)
  have Y : pH D cCl (pA L sz) s.heap (L14 ++ [q230]) (va_up f210 q230 (.inr (3, [.null, .int (nI 0)]))) H locs := Y
  have e237 : (va_up f210 q230 (.inr (3, [.null, .int (nI 0)]))) q230 = .inr (3, [.null, .int (nI 0)]) := q_up
  have e238 : (va_up f210 q230 (.inr (3, [.null, .int (nI 0)]))) xo = .inr (0, [.ref q1, .null, .null, .null, .null, .null, .null, .null, .null]) := (q_ne (ne_mem hqq230 m208)).trans e211
  have e239 : (va_up f210 q230 (.inr (3, [.null, .int (nI 0)]))) q1 = .inr (11, [.int (nI 1000000000), .ref o183, .ref o184, .ref q18, .ref q25, .ref q30, .int (nI 0), .ref o185, .int (nI 20), .int (nI 0), .ref o186, .ref q31, .ref q32]) := (q_ne (ne_mem hqq230 m209)).trans e212
  have e240 : (va_up f210 q230 (.inr (3, [.null, .int (nI 0)]))) q18 = .inr (6, [.ref q19, .ref q20, .ref q21, .ref q22, .ref q23, .int (nI 0), .int (nI 0), .ref q24]) := (q_ne (ne_mem hqq230 m47)).trans e213
  have e241 : (va_up f210 q230 (.inr (3, [.null, .int (nI 0)]))) q19 = .inl (E.2.1, 80, .inl g34) := (q_ne (ne_mem hqq230 m48)).trans e214
  have e242 : (va_up f210 q230 (.inr (3, [.null, .int (nI 0)]))) q20 = .inl (E.1, 64, .inl g35) := (q_ne (ne_mem hqq230 m49)).trans e215
  have e243 : (va_up f210 q230 (.inr (3, [.null, .int (nI 0)]))) q21 = .inl (E.2.1, 5, .inl g36) := (q_ne (ne_mem hqq230 m50)).trans e216
  have e244 : (va_up f210 q230 (.inr (3, [.null, .int (nI 0)]))) q22 = .inl (E.2.1, 5, .inl g37) := (q_ne (ne_mem hqq230 m51)).trans e217
  have e245 : (va_up f210 q230 (.inr (3, [.null, .int (nI 0)]))) q23 = .inl (E.2.1, 5, .inl g38) := (q_ne (ne_mem hqq230 m52)).trans e218
  have e246 : (va_up f210 q230 (.inr (3, [.null, .int (nI 0)]))) q24 = .inl (E.1, 20, .inl g39) := (q_ne (ne_mem hqq230 m53)).trans e219
  have e247 : (va_up f210 q230 (.inr (3, [.null, .int (nI 0)]))) q25 = .inr (1, [.ref o187, .ref q26, .ref q27, .int (nI 0), .ref q28, .ref q29, .ref o188]) := (q_ne (ne_mem hqq230 m54)).trans e220
  have e248 : (va_up f210 q230 (.inr (3, [.null, .int (nI 0)]))) q26 = .inl (E.2.1, 256, .inl g40) := (q_ne (ne_mem hqq230 m55)).trans e221
  have e249 : (va_up f210 q230 (.inr (3, [.null, .int (nI 0)]))) q27 = .inl (E.2.1, 240, .inl g41) := (q_ne (ne_mem hqq230 m56)).trans e222
  have e250 : (va_up f210 q230 (.inr (3, [.null, .int (nI 0)]))) q28 = .inl (E.2.1, 16, .inl g42) := (q_ne (ne_mem hqq230 m57)).trans e223
  have e251 : (va_up f210 q230 (.inr (3, [.null, .int (nI 0)]))) q29 = .inl (E.2.1, 16, .inl g43) := (q_ne (ne_mem hqq230 m58)).trans e224
  have e252 : (va_up f210 q230 (.inr (3, [.null, .int (nI 0)]))) q30 = .inl (E.1, 64, .inl g44) := (q_ne (ne_mem hqq230 m59)).trans e225
  have e253 : (va_up f210 q230 (.inr (3, [.null, .int (nI 0)]))) q31 = .inl (E.1, 20, .inl g45) := (q_ne (ne_mem hqq230 m60)).trans e226
  have e254 : (va_up f210 q230 (.inr (3, [.null, .int (nI 0)]))) q32 = .inr (3, [.ref q33, .int (nI 0)]) := (q_ne (ne_mem hqq230 m61)).trans e227
  have e255 : (va_up f210 q230 (.inr (3, [.null, .int (nI 0)]))) q33 = .inl (E.1, 64, .inl g46) := (q_ne (ne_mem hqq230 m62)).trans e228
  have nl235 : q230 ∉ L := fun h9 => hqq230 (s191 _ h9)
  have hF256 : ∀ x, x ∈ L → x ≠ xo → (va_up f210 q230 (.inr (3, [.null, .int (nI 0)]))) x = f x := fun x hx h0 => (q_ne (ne_mem nl235 hx)).trans (hF229 x hx h0)
  generalize (va_up f210 q230 (.inr (3, [.null, .int (nI 0)]))) = f236 at Y e237 e238 e239 e240 e241 e242 e243 e244 e245 e246 e247 e248 e249 e250 e251 e252 e253 e254 e255 hF256
  have s233 : ∀ x, x ∈ L → x ∈ L14 ++ [q230] := fun x hx => List.mem_append_left _ (s191 x hx)
  have m257 : xo ∈ L14 ++ [q230] := List.mem_append_left _ m208
  have m258 : q1 ∈ L14 ++ [q230] := List.mem_append_left _ m209
  have m259 : q18 ∈ L14 ++ [q230] := List.mem_append_left _ m47
  have m260 : q19 ∈ L14 ++ [q230] := List.mem_append_left _ m48
  have m261 : q20 ∈ L14 ++ [q230] := List.mem_append_left _ m49
  have m262 : q21 ∈ L14 ++ [q230] := List.mem_append_left _ m50
  have m263 : q22 ∈ L14 ++ [q230] := List.mem_append_left _ m51
  have m264 : q23 ∈ L14 ++ [q230] := List.mem_append_left _ m52
  have m265 : q24 ∈ L14 ++ [q230] := List.mem_append_left _ m53
  have m266 : q25 ∈ L14 ++ [q230] := List.mem_append_left _ m54
  have m267 : q26 ∈ L14 ++ [q230] := List.mem_append_left _ m55
  have m268 : q27 ∈ L14 ++ [q230] := List.mem_append_left _ m56
  have m269 : q28 ∈ L14 ++ [q230] := List.mem_append_left _ m57
  have m270 : q29 ∈ L14 ++ [q230] := List.mem_append_left _ m58
  have m271 : q30 ∈ L14 ++ [q230] := List.mem_append_left _ m59
  have m272 : q31 ∈ L14 ++ [q230] := List.mem_append_left _ m60
  have m273 : q32 ∈ L14 ++ [q230] := List.mem_append_left _ m61
  have m274 : q33 ∈ L14 ++ [q230] := List.mem_append_left _ m62
  have m234 : q230 ∈ L14 ++ [q230] := List.mem_append_right _ (List.mem_singleton.mpr rfl)
  generalize L14 ++ [q230] = L231 at Y s233 m257 m258 m259 m260 m261 m262 m263 m264 m265 m266 m267 m268 m269 m270 m271 m272 m273 m274 m234
  refine lv_dup X.1 X.2.1 d_H_init_19 rfl ?_
  refine lv_sipush (v := (nI 4000)) X.1 X.2.1 d_H_init_20 (by decide) ?_
  refine x_v (x_runI (As := [.int (nI 4000)]) (rest := [.ref q230, .ref xo]) (n := 1) X hml hl.1 (c_By_init l D E T L231 f236 H.size (4000) q230 m234 e237 (by omega)) (ok_k X Y hA KS KR) kl_H_By_init ks_By_init ki_By_init ini_By rfl ⟨rfl, rfl⟩ hd_By_init.2 ⟨by decide, by decide⟩ rfl (Nat.le_of_ble_eq_true rfl) d_H_init_23 ⟨(show 26 + 1 ≤ 367 by omega), (show 7871 + (4000) ≤ (53413) by omega)⟩) X Y hA (fun u H locs hp Y => ?_)
  obtain ⟨L277, f276⟩ := u
  obtain ⟨eL279, hF278, q281, g282, m283, nl284, hg285, e286, e287⟩ := hp
  dsimp only at eL279 hF278 m283 e286 e287 Y
  have e288 : f276 xo = .inr (0, [.ref q1, .null, .null, .null, .null, .null, .null, .null, .null]) := (hF278 xo m257 (q_tag e238 e237 (show (0 : Nat) ≠ 3 by decide))).trans e238
  have e289 : f276 q1 = .inr (11, [.int (nI 1000000000), .ref o183, .ref o184, .ref q18, .ref q25, .ref q30, .int (nI 0), .ref o185, .int (nI 20), .int (nI 0), .ref o186, .ref q31, .ref q32]) := (hF278 q1 m258 (q_tag e239 e237 (show (11 : Nat) ≠ 3 by decide))).trans e239
  have e290 : f276 q18 = .inr (6, [.ref q19, .ref q20, .ref q21, .ref q22, .ref q23, .int (nI 0), .int (nI 0), .ref q24]) := (hF278 q18 m259 (q_tag e240 e237 (show (6 : Nat) ≠ 3 by decide))).trans e240
  have e291 : f276 q19 = .inl (E.2.1, 80, .inl g34) := (hF278 q19 m260 (q_tag e241 e237 (show (1000 : Nat) ≠ 3 by decide))).trans e241
  have e292 : f276 q20 = .inl (E.1, 64, .inl g35) := (hF278 q20 m261 (q_tag e242 e237 (show (1000 : Nat) ≠ 3 by decide))).trans e242
  have e293 : f276 q21 = .inl (E.2.1, 5, .inl g36) := (hF278 q21 m262 (q_tag e243 e237 (show (1000 : Nat) ≠ 3 by decide))).trans e243
  have e294 : f276 q22 = .inl (E.2.1, 5, .inl g37) := (hF278 q22 m263 (q_tag e244 e237 (show (1000 : Nat) ≠ 3 by decide))).trans e244
  have e295 : f276 q23 = .inl (E.2.1, 5, .inl g38) := (hF278 q23 m264 (q_tag e245 e237 (show (1000 : Nat) ≠ 3 by decide))).trans e245
  have e296 : f276 q24 = .inl (E.1, 20, .inl g39) := (hF278 q24 m265 (q_tag e246 e237 (show (1000 : Nat) ≠ 3 by decide))).trans e246
  have e297 : f276 q25 = .inr (1, [.ref o187, .ref q26, .ref q27, .int (nI 0), .ref q28, .ref q29, .ref o188]) := (hF278 q25 m266 (q_tag e247 e237 (show (1 : Nat) ≠ 3 by decide))).trans e247
  have e298 : f276 q26 = .inl (E.2.1, 256, .inl g40) := (hF278 q26 m267 (q_tag e248 e237 (show (1000 : Nat) ≠ 3 by decide))).trans e248
  have e299 : f276 q27 = .inl (E.2.1, 240, .inl g41) := (hF278 q27 m268 (q_tag e249 e237 (show (1000 : Nat) ≠ 3 by decide))).trans e249
  have e300 : f276 q28 = .inl (E.2.1, 16, .inl g42) := (hF278 q28 m269 (q_tag e250 e237 (show (1000 : Nat) ≠ 3 by decide))).trans e250
  have e301 : f276 q29 = .inl (E.2.1, 16, .inl g43) := (hF278 q29 m270 (q_tag e251 e237 (show (1000 : Nat) ≠ 3 by decide))).trans e251
  have e302 : f276 q30 = .inl (E.1, 64, .inl g44) := (hF278 q30 m271 (q_tag e252 e237 (show (1000 : Nat) ≠ 3 by decide))).trans e252
  have e303 : f276 q31 = .inl (E.1, 20, .inl g45) := (hF278 q31 m272 (q_tag e253 e237 (show (1000 : Nat) ≠ 3 by decide))).trans e253
  have e304 : f276 q32 = .inr (3, [.ref q33, .int (nI 0)]) := (hF278 q32 m273 (ne_mem hqq230 m61)).trans e254
  have e305 : f276 q33 = .inl (E.1, 64, .inl g46) := (hF278 q33 m274 (q_tag e255 e237 (show (1000 : Nat) ≠ 3 by decide))).trans e255
  have hF306 : ∀ x, x ∈ L → x ≠ xo → f276 x = f x := fun x hx h0 => (hF278 x (s233 x hx) (ne_mem nl235 hx)).trans (hF256 x hx h0)
  have s307 : ∀ x, x ∈ L → x ∈ L277 := fun x hx => eL279 x (s233 x hx)
  have nl308 : q281 ∉ L := fun h9 => nl284 (s233 _ h9)
  have m309 : xo ∈ L277 := eL279 _ m257
  have m310 : q1 ∈ L277 := eL279 _ m258
  have m311 : q18 ∈ L277 := eL279 _ m259
  have m312 : q19 ∈ L277 := eL279 _ m260
  have m313 : q20 ∈ L277 := eL279 _ m261
  have m314 : q21 ∈ L277 := eL279 _ m262
  have m315 : q22 ∈ L277 := eL279 _ m263
  have m316 : q23 ∈ L277 := eL279 _ m264
  have m317 : q24 ∈ L277 := eL279 _ m265
  have m318 : q25 ∈ L277 := eL279 _ m266
  have m319 : q26 ∈ L277 := eL279 _ m267
  have m320 : q27 ∈ L277 := eL279 _ m268
  have m321 : q28 ∈ L277 := eL279 _ m269
  have m322 : q29 ∈ L277 := eL279 _ m270
  have m323 : q30 ∈ L277 := eL279 _ m271
  have m324 : q31 ∈ L277 := eL279 _ m272
  have m325 : q32 ∈ L277 := eL279 _ m273
  have m326 : q33 ∈ L277 := eL279 _ m274
  have m327 : q230 ∈ L277 := eL279 _ m234
  refine q_putF X.1 X.2.1 X.2.2.1 i_H t_H t_H_ok n_H X.2.2.2.1 X.2.2.2.2 Y m309 e288 rfl 1 (by decide) (X.2.2.1 _ lk_H_21) (fun _ h9 => h9) rfl hin rfl (t_H_ok 1 (by decide)) rfl rfl (Nat.le_of_ble_eq_true rfl) d_H_init_26 (fun H locs Y => ?_)
  have e329 : (va_up f276 xo (.inr (0, [.ref q1, .ref q230, .null, .null, .null, .null, .null, .null, .null]))) xo = .inr (0, [.ref q1, .ref q230, .null, .null, .null, .null, .null, .null, .null]) := q_up
  have e330 : (va_up f276 xo (.inr (0, [.ref q1, .ref q230, .null, .null, .null, .null, .null, .null, .null]))) q1 = .inr (11, [.int (nI 1000000000), .ref o183, .ref o184, .ref q18, .ref q25, .ref q30, .int (nI 0), .ref o185, .int (nI 20), .int (nI 0), .ref o186, .ref q31, .ref q32]) := (q_ne (q_tag e289 e288 (show (11 : Nat) ≠ 0 by decide))).trans e289
  have e331 : (va_up f276 xo (.inr (0, [.ref q1, .ref q230, .null, .null, .null, .null, .null, .null, .null]))) q18 = .inr (6, [.ref q19, .ref q20, .ref q21, .ref q22, .ref q23, .int (nI 0), .int (nI 0), .ref q24]) := (q_ne (q_tag e290 e288 (show (6 : Nat) ≠ 0 by decide))).trans e290
  have e332 : (va_up f276 xo (.inr (0, [.ref q1, .ref q230, .null, .null, .null, .null, .null, .null, .null]))) q19 = .inl (E.2.1, 80, .inl g34) := (q_ne (q_tag e291 e288 (show (1000 : Nat) ≠ 0 by decide))).trans e291
  have e333 : (va_up f276 xo (.inr (0, [.ref q1, .ref q230, .null, .null, .null, .null, .null, .null, .null]))) q20 = .inl (E.1, 64, .inl g35) := (q_ne (q_tag e292 e288 (show (1000 : Nat) ≠ 0 by decide))).trans e292
  have e334 : (va_up f276 xo (.inr (0, [.ref q1, .ref q230, .null, .null, .null, .null, .null, .null, .null]))) q21 = .inl (E.2.1, 5, .inl g36) := (q_ne (q_tag e293 e288 (show (1000 : Nat) ≠ 0 by decide))).trans e293
  have e335 : (va_up f276 xo (.inr (0, [.ref q1, .ref q230, .null, .null, .null, .null, .null, .null, .null]))) q22 = .inl (E.2.1, 5, .inl g37) := (q_ne (q_tag e294 e288 (show (1000 : Nat) ≠ 0 by decide))).trans e294
  have e336 : (va_up f276 xo (.inr (0, [.ref q1, .ref q230, .null, .null, .null, .null, .null, .null, .null]))) q23 = .inl (E.2.1, 5, .inl g38) := (q_ne (q_tag e295 e288 (show (1000 : Nat) ≠ 0 by decide))).trans e295
  have e337 : (va_up f276 xo (.inr (0, [.ref q1, .ref q230, .null, .null, .null, .null, .null, .null, .null]))) q24 = .inl (E.1, 20, .inl g39) := (q_ne (q_tag e296 e288 (show (1000 : Nat) ≠ 0 by decide))).trans e296
  have e338 : (va_up f276 xo (.inr (0, [.ref q1, .ref q230, .null, .null, .null, .null, .null, .null, .null]))) q25 = .inr (1, [.ref o187, .ref q26, .ref q27, .int (nI 0), .ref q28, .ref q29, .ref o188]) := (q_ne (q_tag e297 e288 (show (1 : Nat) ≠ 0 by decide))).trans e297
  have e339 : (va_up f276 xo (.inr (0, [.ref q1, .ref q230, .null, .null, .null, .null, .null, .null, .null]))) q26 = .inl (E.2.1, 256, .inl g40) := (q_ne (q_tag e298 e288 (show (1000 : Nat) ≠ 0 by decide))).trans e298
  have e340 : (va_up f276 xo (.inr (0, [.ref q1, .ref q230, .null, .null, .null, .null, .null, .null, .null]))) q27 = .inl (E.2.1, 240, .inl g41) := (q_ne (q_tag e299 e288 (show (1000 : Nat) ≠ 0 by decide))).trans e299
  have e341 : (va_up f276 xo (.inr (0, [.ref q1, .ref q230, .null, .null, .null, .null, .null, .null, .null]))) q28 = .inl (E.2.1, 16, .inl g42) := (q_ne (q_tag e300 e288 (show (1000 : Nat) ≠ 0 by decide))).trans e300
  have e342 : (va_up f276 xo (.inr (0, [.ref q1, .ref q230, .null, .null, .null, .null, .null, .null, .null]))) q29 = .inl (E.2.1, 16, .inl g43) := (q_ne (q_tag e301 e288 (show (1000 : Nat) ≠ 0 by decide))).trans e301
  have e343 : (va_up f276 xo (.inr (0, [.ref q1, .ref q230, .null, .null, .null, .null, .null, .null, .null]))) q30 = .inl (E.1, 64, .inl g44) := (q_ne (q_tag e302 e288 (show (1000 : Nat) ≠ 0 by decide))).trans e302
  have e344 : (va_up f276 xo (.inr (0, [.ref q1, .ref q230, .null, .null, .null, .null, .null, .null, .null]))) q31 = .inl (E.1, 20, .inl g45) := (q_ne (q_tag e303 e288 (show (1000 : Nat) ≠ 0 by decide))).trans e303
  have e345 : (va_up f276 xo (.inr (0, [.ref q1, .ref q230, .null, .null, .null, .null, .null, .null, .null]))) q32 = .inr (3, [.ref q33, .int (nI 0)]) := (q_ne (q_tag e304 e288 (show (3 : Nat) ≠ 0 by decide))).trans e304
  have e346 : (va_up f276 xo (.inr (0, [.ref q1, .ref q230, .null, .null, .null, .null, .null, .null, .null]))) q33 = .inl (E.1, 64, .inl g46) := (q_ne (q_tag e305 e288 (show (1000 : Nat) ≠ 0 by decide))).trans e305
  have e347 : (va_up f276 xo (.inr (0, [.ref q1, .ref q230, .null, .null, .null, .null, .null, .null, .null]))) q230 = .inr (3, [.ref q281, .int (nI 0)]) := (q_ne (q_tag e286 e288 (show (3 : Nat) ≠ 0 by decide))).trans e286
  have e348 : (va_up f276 xo (.inr (0, [.ref q1, .ref q230, .null, .null, .null, .null, .null, .null, .null]))) q281 = .inl (E.1, 4000, .inl g282) := (q_ne (q_tag e287 e288 (show (1000 : Nat) ≠ 0 by decide))).trans e287
  have hF349 : ∀ x, x ∈ L → x ≠ xo → (va_up f276 xo (.inr (0, [.ref q1, .ref q230, .null, .null, .null, .null, .null, .null, .null]))) x = f x := fun x hx h0 => (q_ne h0).trans (hF306 x hx h0)
  have Y : pH D cCl (pA L sz) s.heap L277 (va_up f276 xo (.inr (0, [.ref q1, .ref q230, .null, .null, .null, .null, .null, .null, .null]))) H locs := Y
  generalize (va_up f276 xo (.inr (0, [.ref q1, .ref q230, .null, .null, .null, .null, .null, .null, .null]))) = f328 at Y e329 e330 e331 e332 e333 e334 e335 e336 e337 e338 e339 e340 e341 e342 e343 e344 e345 e346 e347 e348 hF349
  refine lv_aload_n X.1 X.2.1 d_H_init_29 rfl (lv_at hl 0 rfl) ?_
  refine q_new X.1 X.2.1 X.2.2.1 i_By t_By t_By_ok X.2.2.2.1 (X.2.2.1 _ ck_H_16) (X.2.2.1 _ mk_By) (X.2.2.1 _ ini_By) X.2.2.2.2 Y hA (ci := 3) rfl (fs := [.null, .int (nI 0)]) (fun j hj => match j, hj with | 0, _ => rfl | 1, _ => rfl | n9 + 2, h9 => absurd (show n9 + 2 < 2 from h9) (by omega)) (show 27 + 1 ≤ 367 by omega) (show 11871 + 2 ≤ (53413) by omega) d_H_init_30 (fun q350 H hqq350 Y => ?_)
  have Y : pH D cCl (pA L sz) s.heap (L277 ++ [q350]) (va_up f328 q350 (.inr (3, [.null, .int (nI 0)]))) H locs := Y
  have e357 : (va_up f328 q350 (.inr (3, [.null, .int (nI 0)]))) q350 = .inr (3, [.null, .int (nI 0)]) := q_up
  have e358 : (va_up f328 q350 (.inr (3, [.null, .int (nI 0)]))) xo = .inr (0, [.ref q1, .ref q230, .null, .null, .null, .null, .null, .null, .null]) := (q_ne (ne_mem hqq350 m309)).trans e329
  have e359 : (va_up f328 q350 (.inr (3, [.null, .int (nI 0)]))) q1 = .inr (11, [.int (nI 1000000000), .ref o183, .ref o184, .ref q18, .ref q25, .ref q30, .int (nI 0), .ref o185, .int (nI 20), .int (nI 0), .ref o186, .ref q31, .ref q32]) := (q_ne (ne_mem hqq350 m310)).trans e330
  have e360 : (va_up f328 q350 (.inr (3, [.null, .int (nI 0)]))) q18 = .inr (6, [.ref q19, .ref q20, .ref q21, .ref q22, .ref q23, .int (nI 0), .int (nI 0), .ref q24]) := (q_ne (ne_mem hqq350 m311)).trans e331
  have e361 : (va_up f328 q350 (.inr (3, [.null, .int (nI 0)]))) q19 = .inl (E.2.1, 80, .inl g34) := (q_ne (ne_mem hqq350 m312)).trans e332
  have e362 : (va_up f328 q350 (.inr (3, [.null, .int (nI 0)]))) q20 = .inl (E.1, 64, .inl g35) := (q_ne (ne_mem hqq350 m313)).trans e333
  have e363 : (va_up f328 q350 (.inr (3, [.null, .int (nI 0)]))) q21 = .inl (E.2.1, 5, .inl g36) := (q_ne (ne_mem hqq350 m314)).trans e334
  have e364 : (va_up f328 q350 (.inr (3, [.null, .int (nI 0)]))) q22 = .inl (E.2.1, 5, .inl g37) := (q_ne (ne_mem hqq350 m315)).trans e335
  have e365 : (va_up f328 q350 (.inr (3, [.null, .int (nI 0)]))) q23 = .inl (E.2.1, 5, .inl g38) := (q_ne (ne_mem hqq350 m316)).trans e336
  have e366 : (va_up f328 q350 (.inr (3, [.null, .int (nI 0)]))) q24 = .inl (E.1, 20, .inl g39) := (q_ne (ne_mem hqq350 m317)).trans e337
  have e367 : (va_up f328 q350 (.inr (3, [.null, .int (nI 0)]))) q25 = .inr (1, [.ref o187, .ref q26, .ref q27, .int (nI 0), .ref q28, .ref q29, .ref o188]) := (q_ne (ne_mem hqq350 m318)).trans e338
  have e368 : (va_up f328 q350 (.inr (3, [.null, .int (nI 0)]))) q26 = .inl (E.2.1, 256, .inl g40) := (q_ne (ne_mem hqq350 m319)).trans e339
  have e369 : (va_up f328 q350 (.inr (3, [.null, .int (nI 0)]))) q27 = .inl (E.2.1, 240, .inl g41) := (q_ne (ne_mem hqq350 m320)).trans e340
  have e370 : (va_up f328 q350 (.inr (3, [.null, .int (nI 0)]))) q28 = .inl (E.2.1, 16, .inl g42) := (q_ne (ne_mem hqq350 m321)).trans e341
  have e371 : (va_up f328 q350 (.inr (3, [.null, .int (nI 0)]))) q29 = .inl (E.2.1, 16, .inl g43) := (q_ne (ne_mem hqq350 m322)).trans e342
  have e372 : (va_up f328 q350 (.inr (3, [.null, .int (nI 0)]))) q30 = .inl (E.1, 64, .inl g44) := (q_ne (ne_mem hqq350 m323)).trans e343
  have e373 : (va_up f328 q350 (.inr (3, [.null, .int (nI 0)]))) q31 = .inl (E.1, 20, .inl g45) := (q_ne (ne_mem hqq350 m324)).trans e344
  have e374 : (va_up f328 q350 (.inr (3, [.null, .int (nI 0)]))) q32 = .inr (3, [.ref q33, .int (nI 0)]) := (q_ne (ne_mem hqq350 m325)).trans e345
  have e375 : (va_up f328 q350 (.inr (3, [.null, .int (nI 0)]))) q33 = .inl (E.1, 64, .inl g46) := (q_ne (ne_mem hqq350 m326)).trans e346
  have e376 : (va_up f328 q350 (.inr (3, [.null, .int (nI 0)]))) q230 = .inr (3, [.ref q281, .int (nI 0)]) := (q_ne (ne_mem hqq350 m327)).trans e347
  have e377 : (va_up f328 q350 (.inr (3, [.null, .int (nI 0)]))) q281 = .inl (E.1, 4000, .inl g282) := (q_ne (ne_mem hqq350 m283)).trans e348
  have nl355 : q350 ∉ L := fun h9 => hqq350 (s307 _ h9)
  have hF378 : ∀ x, x ∈ L → x ≠ xo → (va_up f328 q350 (.inr (3, [.null, .int (nI 0)]))) x = f x := fun x hx h0 => (q_ne (ne_mem nl355 hx)).trans (hF349 x hx h0)
  generalize (va_up f328 q350 (.inr (3, [.null, .int (nI 0)]))) = f356 at Y e357 e358 e359 e360 e361 e362 e363 e364 e365 e366 e367 e368 e369 e370 e371 e372 e373 e374 e375 e376 e377 hF378
  have s353 : ∀ x, x ∈ L → x ∈ L277 ++ [q350] := fun x hx => List.mem_append_left _ (s307 x hx)
  have m379 : xo ∈ L277 ++ [q350] := List.mem_append_left _ m309
  have m380 : q1 ∈ L277 ++ [q350] := List.mem_append_left _ m310
  have m381 : q18 ∈ L277 ++ [q350] := List.mem_append_left _ m311
  have m382 : q19 ∈ L277 ++ [q350] := List.mem_append_left _ m312
  have m383 : q20 ∈ L277 ++ [q350] := List.mem_append_left _ m313
  have m384 : q21 ∈ L277 ++ [q350] := List.mem_append_left _ m314
  have m385 : q22 ∈ L277 ++ [q350] := List.mem_append_left _ m315
  have m386 : q23 ∈ L277 ++ [q350] := List.mem_append_left _ m316
  have m387 : q24 ∈ L277 ++ [q350] := List.mem_append_left _ m317
  have m388 : q25 ∈ L277 ++ [q350] := List.mem_append_left _ m318
  have m389 : q26 ∈ L277 ++ [q350] := List.mem_append_left _ m319
  have m390 : q27 ∈ L277 ++ [q350] := List.mem_append_left _ m320
  have m391 : q28 ∈ L277 ++ [q350] := List.mem_append_left _ m321
  have m392 : q29 ∈ L277 ++ [q350] := List.mem_append_left _ m322
  have m393 : q30 ∈ L277 ++ [q350] := List.mem_append_left _ m323
  have m394 : q31 ∈ L277 ++ [q350] := List.mem_append_left _ m324
  have m395 : q32 ∈ L277 ++ [q350] := List.mem_append_left _ m325
  have m396 : q33 ∈ L277 ++ [q350] := List.mem_append_left _ m326
  have m397 : q230 ∈ L277 ++ [q350] := List.mem_append_left _ m327
  have m398 : q281 ∈ L277 ++ [q350] := List.mem_append_left _ m283
  have m354 : q350 ∈ L277 ++ [q350] := List.mem_append_right _ (List.mem_singleton.mpr rfl)
  generalize L277 ++ [q350] = L351 at Y s353 m379 m380 m381 m382 m383 m384 m385 m386 m387 m388 m389 m390 m391 m392 m393 m394 m395 m396 m397 m398 m354
  refine lv_dup X.1 X.2.1 d_H_init_33 rfl ?_
  refine lv_sipush (v := (nI 12288)) X.1 X.2.1 d_H_init_34 (by decide) ?_
  refine x_v (x_runI (As := [.int (nI 12288)]) (rest := [.ref q350, .ref xo]) (n := 1) X hml hl.1 (c_By_init l D E T L351 f356 H.size (12288) q350 m354 e357 (by omega)) (ok_k X Y hA KS KR) kl_H_By_init ks_By_init ki_By_init ini_By rfl ⟨rfl, rfl⟩ hd_By_init.2 ⟨by decide, by decide⟩ rfl (Nat.le_of_ble_eq_true rfl) d_H_init_37 ⟨(show 28 + 1 ≤ 367 by omega), (show 11873 + (12288) ≤ (53413) by omega)⟩) X Y hA (fun u H locs hp Y => ?_)
  obtain ⟨L401, f400⟩ := u
  obtain ⟨eL403, hF402, q405, g406, m407, nl408, hg409, e410, e411⟩ := hp
  dsimp only at eL403 hF402 m407 e410 e411 Y
  have e412 : f400 xo = .inr (0, [.ref q1, .ref q230, .null, .null, .null, .null, .null, .null, .null]) := (hF402 xo m379 (q_tag e358 e357 (show (0 : Nat) ≠ 3 by decide))).trans e358
  have e413 : f400 q1 = .inr (11, [.int (nI 1000000000), .ref o183, .ref o184, .ref q18, .ref q25, .ref q30, .int (nI 0), .ref o185, .int (nI 20), .int (nI 0), .ref o186, .ref q31, .ref q32]) := (hF402 q1 m380 (q_tag e359 e357 (show (11 : Nat) ≠ 3 by decide))).trans e359
  have e414 : f400 q18 = .inr (6, [.ref q19, .ref q20, .ref q21, .ref q22, .ref q23, .int (nI 0), .int (nI 0), .ref q24]) := (hF402 q18 m381 (q_tag e360 e357 (show (6 : Nat) ≠ 3 by decide))).trans e360
  have e415 : f400 q19 = .inl (E.2.1, 80, .inl g34) := (hF402 q19 m382 (q_tag e361 e357 (show (1000 : Nat) ≠ 3 by decide))).trans e361
  have e416 : f400 q20 = .inl (E.1, 64, .inl g35) := (hF402 q20 m383 (q_tag e362 e357 (show (1000 : Nat) ≠ 3 by decide))).trans e362
  have e417 : f400 q21 = .inl (E.2.1, 5, .inl g36) := (hF402 q21 m384 (q_tag e363 e357 (show (1000 : Nat) ≠ 3 by decide))).trans e363
  have e418 : f400 q22 = .inl (E.2.1, 5, .inl g37) := (hF402 q22 m385 (q_tag e364 e357 (show (1000 : Nat) ≠ 3 by decide))).trans e364
  have e419 : f400 q23 = .inl (E.2.1, 5, .inl g38) := (hF402 q23 m386 (q_tag e365 e357 (show (1000 : Nat) ≠ 3 by decide))).trans e365
  have e420 : f400 q24 = .inl (E.1, 20, .inl g39) := (hF402 q24 m387 (q_tag e366 e357 (show (1000 : Nat) ≠ 3 by decide))).trans e366
  have e421 : f400 q25 = .inr (1, [.ref o187, .ref q26, .ref q27, .int (nI 0), .ref q28, .ref q29, .ref o188]) := (hF402 q25 m388 (q_tag e367 e357 (show (1 : Nat) ≠ 3 by decide))).trans e367
  have e422 : f400 q26 = .inl (E.2.1, 256, .inl g40) := (hF402 q26 m389 (q_tag e368 e357 (show (1000 : Nat) ≠ 3 by decide))).trans e368
  have e423 : f400 q27 = .inl (E.2.1, 240, .inl g41) := (hF402 q27 m390 (q_tag e369 e357 (show (1000 : Nat) ≠ 3 by decide))).trans e369
  have e424 : f400 q28 = .inl (E.2.1, 16, .inl g42) := (hF402 q28 m391 (q_tag e370 e357 (show (1000 : Nat) ≠ 3 by decide))).trans e370
  have e425 : f400 q29 = .inl (E.2.1, 16, .inl g43) := (hF402 q29 m392 (q_tag e371 e357 (show (1000 : Nat) ≠ 3 by decide))).trans e371
  have e426 : f400 q30 = .inl (E.1, 64, .inl g44) := (hF402 q30 m393 (q_tag e372 e357 (show (1000 : Nat) ≠ 3 by decide))).trans e372
  have e427 : f400 q31 = .inl (E.1, 20, .inl g45) := (hF402 q31 m394 (q_tag e373 e357 (show (1000 : Nat) ≠ 3 by decide))).trans e373
  have e428 : f400 q32 = .inr (3, [.ref q33, .int (nI 0)]) := (hF402 q32 m395 (ne_mem hqq350 m325)).trans e374
  have e429 : f400 q33 = .inl (E.1, 64, .inl g46) := (hF402 q33 m396 (q_tag e375 e357 (show (1000 : Nat) ≠ 3 by decide))).trans e375
  have e430 : f400 q230 = .inr (3, [.ref q281, .int (nI 0)]) := (hF402 q230 m397 (ne_mem hqq350 m327)).trans e376
  have e431 : f400 q281 = .inl (E.1, 4000, .inl g282) := (hF402 q281 m398 (q_tag e377 e357 (show (1000 : Nat) ≠ 3 by decide))).trans e377
  have hF432 : ∀ x, x ∈ L → x ≠ xo → f400 x = f x := fun x hx h0 => (hF402 x (s353 x hx) (ne_mem nl355 hx)).trans (hF378 x hx h0)
  have s433 : ∀ x, x ∈ L → x ∈ L401 := fun x hx => eL403 x (s353 x hx)
  have nl434 : q405 ∉ L := fun h9 => nl408 (s353 _ h9)
  have m435 : xo ∈ L401 := eL403 _ m379
  have m436 : q1 ∈ L401 := eL403 _ m380
  have m437 : q18 ∈ L401 := eL403 _ m381
  have m438 : q19 ∈ L401 := eL403 _ m382
  have m439 : q20 ∈ L401 := eL403 _ m383
  have m440 : q21 ∈ L401 := eL403 _ m384
  have m441 : q22 ∈ L401 := eL403 _ m385
  have m442 : q23 ∈ L401 := eL403 _ m386
  have m443 : q24 ∈ L401 := eL403 _ m387
  have m444 : q25 ∈ L401 := eL403 _ m388
  have m445 : q26 ∈ L401 := eL403 _ m389
  have m446 : q27 ∈ L401 := eL403 _ m390
  have m447 : q28 ∈ L401 := eL403 _ m391
  have m448 : q29 ∈ L401 := eL403 _ m392
  have m449 : q30 ∈ L401 := eL403 _ m393
  have m450 : q31 ∈ L401 := eL403 _ m394
  have m451 : q32 ∈ L401 := eL403 _ m395
  have m452 : q33 ∈ L401 := eL403 _ m396
  have m453 : q230 ∈ L401 := eL403 _ m397
  have m454 : q281 ∈ L401 := eL403 _ m398
  have m455 : q350 ∈ L401 := eL403 _ m354
  refine q_putF X.1 X.2.1 X.2.2.1 i_H t_H t_H_ok n_H X.2.2.2.1 X.2.2.2.2 Y m435 e412 rfl 2 (by decide) (X.2.2.1 _ lk_H_25) (fun _ h9 => h9) rfl hin rfl (t_H_ok 2 (by decide)) rfl rfl (Nat.le_of_ble_eq_true rfl) d_H_init_40 (fun H locs Y => ?_)
  have e457 : (va_up f400 xo (.inr (0, [.ref q1, .ref q230, .ref q350, .null, .null, .null, .null, .null, .null]))) xo = .inr (0, [.ref q1, .ref q230, .ref q350, .null, .null, .null, .null, .null, .null]) := q_up
  have e458 : (va_up f400 xo (.inr (0, [.ref q1, .ref q230, .ref q350, .null, .null, .null, .null, .null, .null]))) q1 = .inr (11, [.int (nI 1000000000), .ref o183, .ref o184, .ref q18, .ref q25, .ref q30, .int (nI 0), .ref o185, .int (nI 20), .int (nI 0), .ref o186, .ref q31, .ref q32]) := (q_ne (q_tag e413 e412 (show (11 : Nat) ≠ 0 by decide))).trans e413
  have e459 : (va_up f400 xo (.inr (0, [.ref q1, .ref q230, .ref q350, .null, .null, .null, .null, .null, .null]))) q18 = .inr (6, [.ref q19, .ref q20, .ref q21, .ref q22, .ref q23, .int (nI 0), .int (nI 0), .ref q24]) := (q_ne (q_tag e414 e412 (show (6 : Nat) ≠ 0 by decide))).trans e414
  have e460 : (va_up f400 xo (.inr (0, [.ref q1, .ref q230, .ref q350, .null, .null, .null, .null, .null, .null]))) q19 = .inl (E.2.1, 80, .inl g34) := (q_ne (q_tag e415 e412 (show (1000 : Nat) ≠ 0 by decide))).trans e415
  have e461 : (va_up f400 xo (.inr (0, [.ref q1, .ref q230, .ref q350, .null, .null, .null, .null, .null, .null]))) q20 = .inl (E.1, 64, .inl g35) := (q_ne (q_tag e416 e412 (show (1000 : Nat) ≠ 0 by decide))).trans e416
  have e462 : (va_up f400 xo (.inr (0, [.ref q1, .ref q230, .ref q350, .null, .null, .null, .null, .null, .null]))) q21 = .inl (E.2.1, 5, .inl g36) := (q_ne (q_tag e417 e412 (show (1000 : Nat) ≠ 0 by decide))).trans e417
  have e463 : (va_up f400 xo (.inr (0, [.ref q1, .ref q230, .ref q350, .null, .null, .null, .null, .null, .null]))) q22 = .inl (E.2.1, 5, .inl g37) := (q_ne (q_tag e418 e412 (show (1000 : Nat) ≠ 0 by decide))).trans e418
  have e464 : (va_up f400 xo (.inr (0, [.ref q1, .ref q230, .ref q350, .null, .null, .null, .null, .null, .null]))) q23 = .inl (E.2.1, 5, .inl g38) := (q_ne (q_tag e419 e412 (show (1000 : Nat) ≠ 0 by decide))).trans e419
  have e465 : (va_up f400 xo (.inr (0, [.ref q1, .ref q230, .ref q350, .null, .null, .null, .null, .null, .null]))) q24 = .inl (E.1, 20, .inl g39) := (q_ne (q_tag e420 e412 (show (1000 : Nat) ≠ 0 by decide))).trans e420
  have e466 : (va_up f400 xo (.inr (0, [.ref q1, .ref q230, .ref q350, .null, .null, .null, .null, .null, .null]))) q25 = .inr (1, [.ref o187, .ref q26, .ref q27, .int (nI 0), .ref q28, .ref q29, .ref o188]) := (q_ne (q_tag e421 e412 (show (1 : Nat) ≠ 0 by decide))).trans e421
  have e467 : (va_up f400 xo (.inr (0, [.ref q1, .ref q230, .ref q350, .null, .null, .null, .null, .null, .null]))) q26 = .inl (E.2.1, 256, .inl g40) := (q_ne (q_tag e422 e412 (show (1000 : Nat) ≠ 0 by decide))).trans e422
  have e468 : (va_up f400 xo (.inr (0, [.ref q1, .ref q230, .ref q350, .null, .null, .null, .null, .null, .null]))) q27 = .inl (E.2.1, 240, .inl g41) := (q_ne (q_tag e423 e412 (show (1000 : Nat) ≠ 0 by decide))).trans e423
  have e469 : (va_up f400 xo (.inr (0, [.ref q1, .ref q230, .ref q350, .null, .null, .null, .null, .null, .null]))) q28 = .inl (E.2.1, 16, .inl g42) := (q_ne (q_tag e424 e412 (show (1000 : Nat) ≠ 0 by decide))).trans e424
  have e470 : (va_up f400 xo (.inr (0, [.ref q1, .ref q230, .ref q350, .null, .null, .null, .null, .null, .null]))) q29 = .inl (E.2.1, 16, .inl g43) := (q_ne (q_tag e425 e412 (show (1000 : Nat) ≠ 0 by decide))).trans e425
  have e471 : (va_up f400 xo (.inr (0, [.ref q1, .ref q230, .ref q350, .null, .null, .null, .null, .null, .null]))) q30 = .inl (E.1, 64, .inl g44) := (q_ne (q_tag e426 e412 (show (1000 : Nat) ≠ 0 by decide))).trans e426
  have e472 : (va_up f400 xo (.inr (0, [.ref q1, .ref q230, .ref q350, .null, .null, .null, .null, .null, .null]))) q31 = .inl (E.1, 20, .inl g45) := (q_ne (q_tag e427 e412 (show (1000 : Nat) ≠ 0 by decide))).trans e427
  have e473 : (va_up f400 xo (.inr (0, [.ref q1, .ref q230, .ref q350, .null, .null, .null, .null, .null, .null]))) q32 = .inr (3, [.ref q33, .int (nI 0)]) := (q_ne (q_tag e428 e412 (show (3 : Nat) ≠ 0 by decide))).trans e428
  have e474 : (va_up f400 xo (.inr (0, [.ref q1, .ref q230, .ref q350, .null, .null, .null, .null, .null, .null]))) q33 = .inl (E.1, 64, .inl g46) := (q_ne (q_tag e429 e412 (show (1000 : Nat) ≠ 0 by decide))).trans e429
  have e475 : (va_up f400 xo (.inr (0, [.ref q1, .ref q230, .ref q350, .null, .null, .null, .null, .null, .null]))) q230 = .inr (3, [.ref q281, .int (nI 0)]) := (q_ne (q_tag e430 e412 (show (3 : Nat) ≠ 0 by decide))).trans e430
  have e476 : (va_up f400 xo (.inr (0, [.ref q1, .ref q230, .ref q350, .null, .null, .null, .null, .null, .null]))) q281 = .inl (E.1, 4000, .inl g282) := (q_ne (q_tag e431 e412 (show (1000 : Nat) ≠ 0 by decide))).trans e431
  have e477 : (va_up f400 xo (.inr (0, [.ref q1, .ref q230, .ref q350, .null, .null, .null, .null, .null, .null]))) q350 = .inr (3, [.ref q405, .int (nI 0)]) := (q_ne (q_tag e410 e412 (show (3 : Nat) ≠ 0 by decide))).trans e410
  have e478 : (va_up f400 xo (.inr (0, [.ref q1, .ref q230, .ref q350, .null, .null, .null, .null, .null, .null]))) q405 = .inl (E.1, 12288, .inl g406) := (q_ne (q_tag e411 e412 (show (1000 : Nat) ≠ 0 by decide))).trans e411
  have hF479 : ∀ x, x ∈ L → x ≠ xo → (va_up f400 xo (.inr (0, [.ref q1, .ref q230, .ref q350, .null, .null, .null, .null, .null, .null]))) x = f x := fun x hx h0 => (q_ne h0).trans (hF432 x hx h0)
  have Y : pH D cCl (pA L sz) s.heap L401 (va_up f400 xo (.inr (0, [.ref q1, .ref q230, .ref q350, .null, .null, .null, .null, .null, .null]))) H locs := Y
  generalize (va_up f400 xo (.inr (0, [.ref q1, .ref q230, .ref q350, .null, .null, .null, .null, .null, .null]))) = f456 at Y e457 e458 e459 e460 e461 e462 e463 e464 e465 e466 e467 e468 e469 e470 e471 e472 e473 e474 e475 e476 e477 e478 hF479
  refine lv_aload_n X.1 X.2.1 d_H_init_43 rfl (lv_at hl 0 rfl) ?_
  refine q_new X.1 X.2.1 X.2.2.1 i_By t_By t_By_ok X.2.2.2.1 (X.2.2.1 _ ck_H_16) (X.2.2.1 _ mk_By) (X.2.2.1 _ ini_By) X.2.2.2.2 Y hA (ci := 3) rfl (fs := [.null, .int (nI 0)]) (fun j hj => match j, hj with | 0, _ => rfl | 1, _ => rfl | n9 + 2, h9 => absurd (show n9 + 2 < 2 from h9) (by omega)) (show 29 + 1 ≤ 367 by omega) (show 24161 + 2 ≤ (53413) by omega) d_H_init_44 (fun q480 H hqq480 Y => ?_)
  have Y : pH D cCl (pA L sz) s.heap (L401 ++ [q480]) (va_up f456 q480 (.inr (3, [.null, .int (nI 0)]))) H locs := Y
  have e487 : (va_up f456 q480 (.inr (3, [.null, .int (nI 0)]))) q480 = .inr (3, [.null, .int (nI 0)]) := q_up
  have e488 : (va_up f456 q480 (.inr (3, [.null, .int (nI 0)]))) xo = .inr (0, [.ref q1, .ref q230, .ref q350, .null, .null, .null, .null, .null, .null]) := (q_ne (ne_mem hqq480 m435)).trans e457
  have e489 : (va_up f456 q480 (.inr (3, [.null, .int (nI 0)]))) q1 = .inr (11, [.int (nI 1000000000), .ref o183, .ref o184, .ref q18, .ref q25, .ref q30, .int (nI 0), .ref o185, .int (nI 20), .int (nI 0), .ref o186, .ref q31, .ref q32]) := (q_ne (ne_mem hqq480 m436)).trans e458
  have e490 : (va_up f456 q480 (.inr (3, [.null, .int (nI 0)]))) q18 = .inr (6, [.ref q19, .ref q20, .ref q21, .ref q22, .ref q23, .int (nI 0), .int (nI 0), .ref q24]) := (q_ne (ne_mem hqq480 m437)).trans e459
  have e491 : (va_up f456 q480 (.inr (3, [.null, .int (nI 0)]))) q19 = .inl (E.2.1, 80, .inl g34) := (q_ne (ne_mem hqq480 m438)).trans e460
  have e492 : (va_up f456 q480 (.inr (3, [.null, .int (nI 0)]))) q20 = .inl (E.1, 64, .inl g35) := (q_ne (ne_mem hqq480 m439)).trans e461
  have e493 : (va_up f456 q480 (.inr (3, [.null, .int (nI 0)]))) q21 = .inl (E.2.1, 5, .inl g36) := (q_ne (ne_mem hqq480 m440)).trans e462
  have e494 : (va_up f456 q480 (.inr (3, [.null, .int (nI 0)]))) q22 = .inl (E.2.1, 5, .inl g37) := (q_ne (ne_mem hqq480 m441)).trans e463
  have e495 : (va_up f456 q480 (.inr (3, [.null, .int (nI 0)]))) q23 = .inl (E.2.1, 5, .inl g38) := (q_ne (ne_mem hqq480 m442)).trans e464
  have e496 : (va_up f456 q480 (.inr (3, [.null, .int (nI 0)]))) q24 = .inl (E.1, 20, .inl g39) := (q_ne (ne_mem hqq480 m443)).trans e465
  have e497 : (va_up f456 q480 (.inr (3, [.null, .int (nI 0)]))) q25 = .inr (1, [.ref o187, .ref q26, .ref q27, .int (nI 0), .ref q28, .ref q29, .ref o188]) := (q_ne (ne_mem hqq480 m444)).trans e466
  have e498 : (va_up f456 q480 (.inr (3, [.null, .int (nI 0)]))) q26 = .inl (E.2.1, 256, .inl g40) := (q_ne (ne_mem hqq480 m445)).trans e467
  have e499 : (va_up f456 q480 (.inr (3, [.null, .int (nI 0)]))) q27 = .inl (E.2.1, 240, .inl g41) := (q_ne (ne_mem hqq480 m446)).trans e468
  have e500 : (va_up f456 q480 (.inr (3, [.null, .int (nI 0)]))) q28 = .inl (E.2.1, 16, .inl g42) := (q_ne (ne_mem hqq480 m447)).trans e469
  have e501 : (va_up f456 q480 (.inr (3, [.null, .int (nI 0)]))) q29 = .inl (E.2.1, 16, .inl g43) := (q_ne (ne_mem hqq480 m448)).trans e470
  have e502 : (va_up f456 q480 (.inr (3, [.null, .int (nI 0)]))) q30 = .inl (E.1, 64, .inl g44) := (q_ne (ne_mem hqq480 m449)).trans e471
  have e503 : (va_up f456 q480 (.inr (3, [.null, .int (nI 0)]))) q31 = .inl (E.1, 20, .inl g45) := (q_ne (ne_mem hqq480 m450)).trans e472
  have e504 : (va_up f456 q480 (.inr (3, [.null, .int (nI 0)]))) q32 = .inr (3, [.ref q33, .int (nI 0)]) := (q_ne (ne_mem hqq480 m451)).trans e473
  have e505 : (va_up f456 q480 (.inr (3, [.null, .int (nI 0)]))) q33 = .inl (E.1, 64, .inl g46) := (q_ne (ne_mem hqq480 m452)).trans e474
  have e506 : (va_up f456 q480 (.inr (3, [.null, .int (nI 0)]))) q230 = .inr (3, [.ref q281, .int (nI 0)]) := (q_ne (ne_mem hqq480 m453)).trans e475
  have e507 : (va_up f456 q480 (.inr (3, [.null, .int (nI 0)]))) q281 = .inl (E.1, 4000, .inl g282) := (q_ne (ne_mem hqq480 m454)).trans e476
  have e508 : (va_up f456 q480 (.inr (3, [.null, .int (nI 0)]))) q350 = .inr (3, [.ref q405, .int (nI 0)]) := (q_ne (ne_mem hqq480 m455)).trans e477
  have e509 : (va_up f456 q480 (.inr (3, [.null, .int (nI 0)]))) q405 = .inl (E.1, 12288, .inl g406) := (q_ne (ne_mem hqq480 m407)).trans e478
  have nl485 : q480 ∉ L := fun h9 => hqq480 (s433 _ h9)
  have hF510 : ∀ x, x ∈ L → x ≠ xo → (va_up f456 q480 (.inr (3, [.null, .int (nI 0)]))) x = f x := fun x hx h0 => (q_ne (ne_mem nl485 hx)).trans (hF479 x hx h0)
  generalize (va_up f456 q480 (.inr (3, [.null, .int (nI 0)]))) = f486 at Y e487 e488 e489 e490 e491 e492 e493 e494 e495 e496 e497 e498 e499 e500 e501 e502 e503 e504 e505 e506 e507 e508 e509 hF510
  have s483 : ∀ x, x ∈ L → x ∈ L401 ++ [q480] := fun x hx => List.mem_append_left _ (s433 x hx)
  have m511 : xo ∈ L401 ++ [q480] := List.mem_append_left _ m435
  have m512 : q1 ∈ L401 ++ [q480] := List.mem_append_left _ m436
  have m513 : q18 ∈ L401 ++ [q480] := List.mem_append_left _ m437
  have m514 : q19 ∈ L401 ++ [q480] := List.mem_append_left _ m438
  have m515 : q20 ∈ L401 ++ [q480] := List.mem_append_left _ m439
  have m516 : q21 ∈ L401 ++ [q480] := List.mem_append_left _ m440
  have m517 : q22 ∈ L401 ++ [q480] := List.mem_append_left _ m441
  have m518 : q23 ∈ L401 ++ [q480] := List.mem_append_left _ m442
  have m519 : q24 ∈ L401 ++ [q480] := List.mem_append_left _ m443
  have m520 : q25 ∈ L401 ++ [q480] := List.mem_append_left _ m444
  have m521 : q26 ∈ L401 ++ [q480] := List.mem_append_left _ m445
  have m522 : q27 ∈ L401 ++ [q480] := List.mem_append_left _ m446
  have m523 : q28 ∈ L401 ++ [q480] := List.mem_append_left _ m447
  have m524 : q29 ∈ L401 ++ [q480] := List.mem_append_left _ m448
  have m525 : q30 ∈ L401 ++ [q480] := List.mem_append_left _ m449
  have m526 : q31 ∈ L401 ++ [q480] := List.mem_append_left _ m450
  have m527 : q32 ∈ L401 ++ [q480] := List.mem_append_left _ m451
  have m528 : q33 ∈ L401 ++ [q480] := List.mem_append_left _ m452
  have m529 : q230 ∈ L401 ++ [q480] := List.mem_append_left _ m453
  have m530 : q281 ∈ L401 ++ [q480] := List.mem_append_left _ m454
  have m531 : q350 ∈ L401 ++ [q480] := List.mem_append_left _ m455
  have m532 : q405 ∈ L401 ++ [q480] := List.mem_append_left _ m407
  have m484 : q480 ∈ L401 ++ [q480] := List.mem_append_right _ (List.mem_singleton.mpr rfl)
  generalize L401 ++ [q480] = L481 at Y s483 m511 m512 m513 m514 m515 m516 m517 m518 m519 m520 m521 m522 m523 m524 m525 m526 m527 m528 m529 m530 m531 m532 m484
  refine lv_dup X.1 X.2.1 d_H_init_47 rfl ?_
  refine lv_bipush (v := (nI 40)) X.1 X.2.1 d_H_init_48 (by decide) ?_
  refine x_v (x_runI (As := [.int (nI 40)]) (rest := [.ref q480, .ref xo]) (n := 1) X hml hl.1 (c_By_init l D E T L481 f486 H.size (40) q480 m484 e487 (by omega)) (ok_k X Y hA KS KR) kl_H_By_init ks_By_init ki_By_init ini_By rfl ⟨rfl, rfl⟩ hd_By_init.2 ⟨by decide, by decide⟩ rfl (Nat.le_of_ble_eq_true rfl) d_H_init_50 ⟨(show 30 + 1 ≤ 367 by omega), (show 24163 + (40) ≤ (53413) by omega)⟩) X Y hA (fun u H locs hp Y => ?_)
  obtain ⟨L535, f534⟩ := u
  obtain ⟨eL537, hF536, q539, g540, m541, nl542, hg543, e544, e545⟩ := hp
  dsimp only at eL537 hF536 m541 e544 e545 Y
  have e546 : f534 xo = .inr (0, [.ref q1, .ref q230, .ref q350, .null, .null, .null, .null, .null, .null]) := (hF536 xo m511 (q_tag e488 e487 (show (0 : Nat) ≠ 3 by decide))).trans e488
  have e547 : f534 q1 = .inr (11, [.int (nI 1000000000), .ref o183, .ref o184, .ref q18, .ref q25, .ref q30, .int (nI 0), .ref o185, .int (nI 20), .int (nI 0), .ref o186, .ref q31, .ref q32]) := (hF536 q1 m512 (q_tag e489 e487 (show (11 : Nat) ≠ 3 by decide))).trans e489
  have e548 : f534 q18 = .inr (6, [.ref q19, .ref q20, .ref q21, .ref q22, .ref q23, .int (nI 0), .int (nI 0), .ref q24]) := (hF536 q18 m513 (q_tag e490 e487 (show (6 : Nat) ≠ 3 by decide))).trans e490
  have e549 : f534 q19 = .inl (E.2.1, 80, .inl g34) := (hF536 q19 m514 (q_tag e491 e487 (show (1000 : Nat) ≠ 3 by decide))).trans e491
  have e550 : f534 q20 = .inl (E.1, 64, .inl g35) := (hF536 q20 m515 (q_tag e492 e487 (show (1000 : Nat) ≠ 3 by decide))).trans e492
  have e551 : f534 q21 = .inl (E.2.1, 5, .inl g36) := (hF536 q21 m516 (q_tag e493 e487 (show (1000 : Nat) ≠ 3 by decide))).trans e493
  have e552 : f534 q22 = .inl (E.2.1, 5, .inl g37) := (hF536 q22 m517 (q_tag e494 e487 (show (1000 : Nat) ≠ 3 by decide))).trans e494
  have e553 : f534 q23 = .inl (E.2.1, 5, .inl g38) := (hF536 q23 m518 (q_tag e495 e487 (show (1000 : Nat) ≠ 3 by decide))).trans e495
  have e554 : f534 q24 = .inl (E.1, 20, .inl g39) := (hF536 q24 m519 (q_tag e496 e487 (show (1000 : Nat) ≠ 3 by decide))).trans e496
  have e555 : f534 q25 = .inr (1, [.ref o187, .ref q26, .ref q27, .int (nI 0), .ref q28, .ref q29, .ref o188]) := (hF536 q25 m520 (q_tag e497 e487 (show (1 : Nat) ≠ 3 by decide))).trans e497
  have e556 : f534 q26 = .inl (E.2.1, 256, .inl g40) := (hF536 q26 m521 (q_tag e498 e487 (show (1000 : Nat) ≠ 3 by decide))).trans e498
  have e557 : f534 q27 = .inl (E.2.1, 240, .inl g41) := (hF536 q27 m522 (q_tag e499 e487 (show (1000 : Nat) ≠ 3 by decide))).trans e499
  have e558 : f534 q28 = .inl (E.2.1, 16, .inl g42) := (hF536 q28 m523 (q_tag e500 e487 (show (1000 : Nat) ≠ 3 by decide))).trans e500
  have e559 : f534 q29 = .inl (E.2.1, 16, .inl g43) := (hF536 q29 m524 (q_tag e501 e487 (show (1000 : Nat) ≠ 3 by decide))).trans e501
  have e560 : f534 q30 = .inl (E.1, 64, .inl g44) := (hF536 q30 m525 (q_tag e502 e487 (show (1000 : Nat) ≠ 3 by decide))).trans e502
  have e561 : f534 q31 = .inl (E.1, 20, .inl g45) := (hF536 q31 m526 (q_tag e503 e487 (show (1000 : Nat) ≠ 3 by decide))).trans e503
  have e562 : f534 q32 = .inr (3, [.ref q33, .int (nI 0)]) := (hF536 q32 m527 (ne_mem hqq480 m451)).trans e504
  have e563 : f534 q33 = .inl (E.1, 64, .inl g46) := (hF536 q33 m528 (q_tag e505 e487 (show (1000 : Nat) ≠ 3 by decide))).trans e505
  have e564 : f534 q230 = .inr (3, [.ref q281, .int (nI 0)]) := (hF536 q230 m529 (ne_mem hqq480 m453)).trans e506
  have e565 : f534 q281 = .inl (E.1, 4000, .inl g282) := (hF536 q281 m530 (q_tag e507 e487 (show (1000 : Nat) ≠ 3 by decide))).trans e507
  have e566 : f534 q350 = .inr (3, [.ref q405, .int (nI 0)]) := (hF536 q350 m531 (ne_mem hqq480 m455)).trans e508
  have e567 : f534 q405 = .inl (E.1, 12288, .inl g406) := (hF536 q405 m532 (q_tag e509 e487 (show (1000 : Nat) ≠ 3 by decide))).trans e509
  have hF568 : ∀ x, x ∈ L → x ≠ xo → f534 x = f x := fun x hx h0 => (hF536 x (s483 x hx) (ne_mem nl485 hx)).trans (hF510 x hx h0)
  have s569 : ∀ x, x ∈ L → x ∈ L535 := fun x hx => eL537 x (s483 x hx)
  have nl570 : q539 ∉ L := fun h9 => nl542 (s483 _ h9)
  have m571 : xo ∈ L535 := eL537 _ m511
  have m572 : q1 ∈ L535 := eL537 _ m512
  have m573 : q18 ∈ L535 := eL537 _ m513
  have m574 : q19 ∈ L535 := eL537 _ m514
  have m575 : q20 ∈ L535 := eL537 _ m515
  have m576 : q21 ∈ L535 := eL537 _ m516
  have m577 : q22 ∈ L535 := eL537 _ m517
  have m578 : q23 ∈ L535 := eL537 _ m518
  have m579 : q24 ∈ L535 := eL537 _ m519
  have m580 : q25 ∈ L535 := eL537 _ m520
  have m581 : q26 ∈ L535 := eL537 _ m521
  have m582 : q27 ∈ L535 := eL537 _ m522
  have m583 : q28 ∈ L535 := eL537 _ m523
  have m584 : q29 ∈ L535 := eL537 _ m524
  have m585 : q30 ∈ L535 := eL537 _ m525
  have m586 : q31 ∈ L535 := eL537 _ m526
  have m587 : q32 ∈ L535 := eL537 _ m527
  have m588 : q33 ∈ L535 := eL537 _ m528
  have m589 : q230 ∈ L535 := eL537 _ m529
  have m590 : q281 ∈ L535 := eL537 _ m530
  have m591 : q350 ∈ L535 := eL537 _ m531
  have m592 : q405 ∈ L535 := eL537 _ m532
  have m593 : q480 ∈ L535 := eL537 _ m484
  refine q_putF X.1 X.2.1 X.2.2.1 i_H t_H t_H_ok n_H X.2.2.2.1 X.2.2.2.2 Y m571 e546 rfl 3 (by decide) (X.2.2.1 _ lk_H_28) (fun _ h9 => h9) rfl hin rfl (t_H_ok 3 (by decide)) rfl rfl (Nat.le_of_ble_eq_true rfl) d_H_init_53 (fun H locs Y => ?_)
  have e595 : (va_up f534 xo (.inr (0, [.ref q1, .ref q230, .ref q350, .ref q480, .null, .null, .null, .null, .null]))) xo = .inr (0, [.ref q1, .ref q230, .ref q350, .ref q480, .null, .null, .null, .null, .null]) := q_up
  have e596 : (va_up f534 xo (.inr (0, [.ref q1, .ref q230, .ref q350, .ref q480, .null, .null, .null, .null, .null]))) q1 = .inr (11, [.int (nI 1000000000), .ref o183, .ref o184, .ref q18, .ref q25, .ref q30, .int (nI 0), .ref o185, .int (nI 20), .int (nI 0), .ref o186, .ref q31, .ref q32]) := (q_ne (q_tag e547 e546 (show (11 : Nat) ≠ 0 by decide))).trans e547
  have e597 : (va_up f534 xo (.inr (0, [.ref q1, .ref q230, .ref q350, .ref q480, .null, .null, .null, .null, .null]))) q18 = .inr (6, [.ref q19, .ref q20, .ref q21, .ref q22, .ref q23, .int (nI 0), .int (nI 0), .ref q24]) := (q_ne (q_tag e548 e546 (show (6 : Nat) ≠ 0 by decide))).trans e548
  have e598 : (va_up f534 xo (.inr (0, [.ref q1, .ref q230, .ref q350, .ref q480, .null, .null, .null, .null, .null]))) q19 = .inl (E.2.1, 80, .inl g34) := (q_ne (q_tag e549 e546 (show (1000 : Nat) ≠ 0 by decide))).trans e549
  have e599 : (va_up f534 xo (.inr (0, [.ref q1, .ref q230, .ref q350, .ref q480, .null, .null, .null, .null, .null]))) q20 = .inl (E.1, 64, .inl g35) := (q_ne (q_tag e550 e546 (show (1000 : Nat) ≠ 0 by decide))).trans e550
  have e600 : (va_up f534 xo (.inr (0, [.ref q1, .ref q230, .ref q350, .ref q480, .null, .null, .null, .null, .null]))) q21 = .inl (E.2.1, 5, .inl g36) := (q_ne (q_tag e551 e546 (show (1000 : Nat) ≠ 0 by decide))).trans e551
  have e601 : (va_up f534 xo (.inr (0, [.ref q1, .ref q230, .ref q350, .ref q480, .null, .null, .null, .null, .null]))) q22 = .inl (E.2.1, 5, .inl g37) := (q_ne (q_tag e552 e546 (show (1000 : Nat) ≠ 0 by decide))).trans e552
  have e602 : (va_up f534 xo (.inr (0, [.ref q1, .ref q230, .ref q350, .ref q480, .null, .null, .null, .null, .null]))) q23 = .inl (E.2.1, 5, .inl g38) := (q_ne (q_tag e553 e546 (show (1000 : Nat) ≠ 0 by decide))).trans e553
  have e603 : (va_up f534 xo (.inr (0, [.ref q1, .ref q230, .ref q350, .ref q480, .null, .null, .null, .null, .null]))) q24 = .inl (E.1, 20, .inl g39) := (q_ne (q_tag e554 e546 (show (1000 : Nat) ≠ 0 by decide))).trans e554
  have e604 : (va_up f534 xo (.inr (0, [.ref q1, .ref q230, .ref q350, .ref q480, .null, .null, .null, .null, .null]))) q25 = .inr (1, [.ref o187, .ref q26, .ref q27, .int (nI 0), .ref q28, .ref q29, .ref o188]) := (q_ne (q_tag e555 e546 (show (1 : Nat) ≠ 0 by decide))).trans e555
  have e605 : (va_up f534 xo (.inr (0, [.ref q1, .ref q230, .ref q350, .ref q480, .null, .null, .null, .null, .null]))) q26 = .inl (E.2.1, 256, .inl g40) := (q_ne (q_tag e556 e546 (show (1000 : Nat) ≠ 0 by decide))).trans e556
  have e606 : (va_up f534 xo (.inr (0, [.ref q1, .ref q230, .ref q350, .ref q480, .null, .null, .null, .null, .null]))) q27 = .inl (E.2.1, 240, .inl g41) := (q_ne (q_tag e557 e546 (show (1000 : Nat) ≠ 0 by decide))).trans e557
  have e607 : (va_up f534 xo (.inr (0, [.ref q1, .ref q230, .ref q350, .ref q480, .null, .null, .null, .null, .null]))) q28 = .inl (E.2.1, 16, .inl g42) := (q_ne (q_tag e558 e546 (show (1000 : Nat) ≠ 0 by decide))).trans e558
  have e608 : (va_up f534 xo (.inr (0, [.ref q1, .ref q230, .ref q350, .ref q480, .null, .null, .null, .null, .null]))) q29 = .inl (E.2.1, 16, .inl g43) := (q_ne (q_tag e559 e546 (show (1000 : Nat) ≠ 0 by decide))).trans e559
  have e609 : (va_up f534 xo (.inr (0, [.ref q1, .ref q230, .ref q350, .ref q480, .null, .null, .null, .null, .null]))) q30 = .inl (E.1, 64, .inl g44) := (q_ne (q_tag e560 e546 (show (1000 : Nat) ≠ 0 by decide))).trans e560
  have e610 : (va_up f534 xo (.inr (0, [.ref q1, .ref q230, .ref q350, .ref q480, .null, .null, .null, .null, .null]))) q31 = .inl (E.1, 20, .inl g45) := (q_ne (q_tag e561 e546 (show (1000 : Nat) ≠ 0 by decide))).trans e561
  have e611 : (va_up f534 xo (.inr (0, [.ref q1, .ref q230, .ref q350, .ref q480, .null, .null, .null, .null, .null]))) q32 = .inr (3, [.ref q33, .int (nI 0)]) := (q_ne (q_tag e562 e546 (show (3 : Nat) ≠ 0 by decide))).trans e562
  have e612 : (va_up f534 xo (.inr (0, [.ref q1, .ref q230, .ref q350, .ref q480, .null, .null, .null, .null, .null]))) q33 = .inl (E.1, 64, .inl g46) := (q_ne (q_tag e563 e546 (show (1000 : Nat) ≠ 0 by decide))).trans e563
  have e613 : (va_up f534 xo (.inr (0, [.ref q1, .ref q230, .ref q350, .ref q480, .null, .null, .null, .null, .null]))) q230 = .inr (3, [.ref q281, .int (nI 0)]) := (q_ne (q_tag e564 e546 (show (3 : Nat) ≠ 0 by decide))).trans e564
  have e614 : (va_up f534 xo (.inr (0, [.ref q1, .ref q230, .ref q350, .ref q480, .null, .null, .null, .null, .null]))) q281 = .inl (E.1, 4000, .inl g282) := (q_ne (q_tag e565 e546 (show (1000 : Nat) ≠ 0 by decide))).trans e565
  have e615 : (va_up f534 xo (.inr (0, [.ref q1, .ref q230, .ref q350, .ref q480, .null, .null, .null, .null, .null]))) q350 = .inr (3, [.ref q405, .int (nI 0)]) := (q_ne (q_tag e566 e546 (show (3 : Nat) ≠ 0 by decide))).trans e566
  have e616 : (va_up f534 xo (.inr (0, [.ref q1, .ref q230, .ref q350, .ref q480, .null, .null, .null, .null, .null]))) q405 = .inl (E.1, 12288, .inl g406) := (q_ne (q_tag e567 e546 (show (1000 : Nat) ≠ 0 by decide))).trans e567
  have e617 : (va_up f534 xo (.inr (0, [.ref q1, .ref q230, .ref q350, .ref q480, .null, .null, .null, .null, .null]))) q480 = .inr (3, [.ref q539, .int (nI 0)]) := (q_ne (q_tag e544 e546 (show (3 : Nat) ≠ 0 by decide))).trans e544
  have e618 : (va_up f534 xo (.inr (0, [.ref q1, .ref q230, .ref q350, .ref q480, .null, .null, .null, .null, .null]))) q539 = .inl (E.1, 40, .inl g540) := (q_ne (q_tag e545 e546 (show (1000 : Nat) ≠ 0 by decide))).trans e545
  have hF619 : ∀ x, x ∈ L → x ≠ xo → (va_up f534 xo (.inr (0, [.ref q1, .ref q230, .ref q350, .ref q480, .null, .null, .null, .null, .null]))) x = f x := fun x hx h0 => (q_ne h0).trans (hF568 x hx h0)
  have Y : pH D cCl (pA L sz) s.heap L535 (va_up f534 xo (.inr (0, [.ref q1, .ref q230, .ref q350, .ref q480, .null, .null, .null, .null, .null]))) H locs := Y
  generalize (va_up f534 xo (.inr (0, [.ref q1, .ref q230, .ref q350, .ref q480, .null, .null, .null, .null, .null]))) = f594 at Y e595 e596 e597 e598 e599 e600 e601 e602 e603 e604 e605 e606 e607 e608 e609 e610 e611 e612 e613 e614 e615 e616 e617 e618 hF619
  refine lv_aload_n X.1 X.2.1 d_H_init_56 rfl (lv_at hl 0 rfl) ?_
  refine q_new X.1 X.2.1 X.2.2.1 i_Ga t_Ga t_Ga_ok X.2.2.2.1 (X.2.2.1 _ ck_H_31) (X.2.2.1 _ mk_Ga) (X.2.2.1 _ ini_Ga) X.2.2.2.2 Y hA (ci := 5) rfl (fs := [.null, .null, .null, .null, .int (nI 0)]) (fun j hj => match j, hj with | 0, _ => rfl | 1, _ => rfl | 2, _ => rfl | 3, _ => rfl | 4, _ => rfl | n9 + 5, h9 => absurd (show n9 + 5 < 5 from h9) (by omega)) (show 31 + 1 ≤ 367 by omega) (show 24203 + 5 ≤ (53413) by omega) d_H_init_57 (fun q620 H hqq620 Y => ?_)
  have Y : pH D cCl (pA L sz) s.heap (L535 ++ [q620]) (va_up f594 q620 (.inr (5, [.null, .null, .null, .null, .int (nI 0)]))) H locs := Y
  have e627 : (va_up f594 q620 (.inr (5, [.null, .null, .null, .null, .int (nI 0)]))) q620 = .inr (5, [.null, .null, .null, .null, .int (nI 0)]) := q_up
  have e628 : (va_up f594 q620 (.inr (5, [.null, .null, .null, .null, .int (nI 0)]))) xo = .inr (0, [.ref q1, .ref q230, .ref q350, .ref q480, .null, .null, .null, .null, .null]) := (q_ne (ne_mem hqq620 m571)).trans e595
  have e629 : (va_up f594 q620 (.inr (5, [.null, .null, .null, .null, .int (nI 0)]))) q1 = .inr (11, [.int (nI 1000000000), .ref o183, .ref o184, .ref q18, .ref q25, .ref q30, .int (nI 0), .ref o185, .int (nI 20), .int (nI 0), .ref o186, .ref q31, .ref q32]) := (q_ne (ne_mem hqq620 m572)).trans e596
  have e630 : (va_up f594 q620 (.inr (5, [.null, .null, .null, .null, .int (nI 0)]))) q18 = .inr (6, [.ref q19, .ref q20, .ref q21, .ref q22, .ref q23, .int (nI 0), .int (nI 0), .ref q24]) := (q_ne (ne_mem hqq620 m573)).trans e597
  have e631 : (va_up f594 q620 (.inr (5, [.null, .null, .null, .null, .int (nI 0)]))) q19 = .inl (E.2.1, 80, .inl g34) := (q_ne (ne_mem hqq620 m574)).trans e598
  have e632 : (va_up f594 q620 (.inr (5, [.null, .null, .null, .null, .int (nI 0)]))) q20 = .inl (E.1, 64, .inl g35) := (q_ne (ne_mem hqq620 m575)).trans e599
  have e633 : (va_up f594 q620 (.inr (5, [.null, .null, .null, .null, .int (nI 0)]))) q21 = .inl (E.2.1, 5, .inl g36) := (q_ne (ne_mem hqq620 m576)).trans e600
  have e634 : (va_up f594 q620 (.inr (5, [.null, .null, .null, .null, .int (nI 0)]))) q22 = .inl (E.2.1, 5, .inl g37) := (q_ne (ne_mem hqq620 m577)).trans e601
  have e635 : (va_up f594 q620 (.inr (5, [.null, .null, .null, .null, .int (nI 0)]))) q23 = .inl (E.2.1, 5, .inl g38) := (q_ne (ne_mem hqq620 m578)).trans e602
  have e636 : (va_up f594 q620 (.inr (5, [.null, .null, .null, .null, .int (nI 0)]))) q24 = .inl (E.1, 20, .inl g39) := (q_ne (ne_mem hqq620 m579)).trans e603
  have e637 : (va_up f594 q620 (.inr (5, [.null, .null, .null, .null, .int (nI 0)]))) q25 = .inr (1, [.ref o187, .ref q26, .ref q27, .int (nI 0), .ref q28, .ref q29, .ref o188]) := (q_ne (ne_mem hqq620 m580)).trans e604
  have e638 : (va_up f594 q620 (.inr (5, [.null, .null, .null, .null, .int (nI 0)]))) q26 = .inl (E.2.1, 256, .inl g40) := (q_ne (ne_mem hqq620 m581)).trans e605
  have e639 : (va_up f594 q620 (.inr (5, [.null, .null, .null, .null, .int (nI 0)]))) q27 = .inl (E.2.1, 240, .inl g41) := (q_ne (ne_mem hqq620 m582)).trans e606
  have e640 : (va_up f594 q620 (.inr (5, [.null, .null, .null, .null, .int (nI 0)]))) q28 = .inl (E.2.1, 16, .inl g42) := (q_ne (ne_mem hqq620 m583)).trans e607
  have e641 : (va_up f594 q620 (.inr (5, [.null, .null, .null, .null, .int (nI 0)]))) q29 = .inl (E.2.1, 16, .inl g43) := (q_ne (ne_mem hqq620 m584)).trans e608
  have e642 : (va_up f594 q620 (.inr (5, [.null, .null, .null, .null, .int (nI 0)]))) q30 = .inl (E.1, 64, .inl g44) := (q_ne (ne_mem hqq620 m585)).trans e609
  have e643 : (va_up f594 q620 (.inr (5, [.null, .null, .null, .null, .int (nI 0)]))) q31 = .inl (E.1, 20, .inl g45) := (q_ne (ne_mem hqq620 m586)).trans e610
  have e644 : (va_up f594 q620 (.inr (5, [.null, .null, .null, .null, .int (nI 0)]))) q32 = .inr (3, [.ref q33, .int (nI 0)]) := (q_ne (ne_mem hqq620 m587)).trans e611
  have e645 : (va_up f594 q620 (.inr (5, [.null, .null, .null, .null, .int (nI 0)]))) q33 = .inl (E.1, 64, .inl g46) := (q_ne (ne_mem hqq620 m588)).trans e612
  have e646 : (va_up f594 q620 (.inr (5, [.null, .null, .null, .null, .int (nI 0)]))) q230 = .inr (3, [.ref q281, .int (nI 0)]) := (q_ne (ne_mem hqq620 m589)).trans e613
  have e647 : (va_up f594 q620 (.inr (5, [.null, .null, .null, .null, .int (nI 0)]))) q281 = .inl (E.1, 4000, .inl g282) := (q_ne (ne_mem hqq620 m590)).trans e614
  have e648 : (va_up f594 q620 (.inr (5, [.null, .null, .null, .null, .int (nI 0)]))) q350 = .inr (3, [.ref q405, .int (nI 0)]) := (q_ne (ne_mem hqq620 m591)).trans e615
  have e649 : (va_up f594 q620 (.inr (5, [.null, .null, .null, .null, .int (nI 0)]))) q405 = .inl (E.1, 12288, .inl g406) := (q_ne (ne_mem hqq620 m592)).trans e616
  have e650 : (va_up f594 q620 (.inr (5, [.null, .null, .null, .null, .int (nI 0)]))) q480 = .inr (3, [.ref q539, .int (nI 0)]) := (q_ne (ne_mem hqq620 m593)).trans e617
  have e651 : (va_up f594 q620 (.inr (5, [.null, .null, .null, .null, .int (nI 0)]))) q539 = .inl (E.1, 40, .inl g540) := (q_ne (ne_mem hqq620 m541)).trans e618
  have nl625 : q620 ∉ L := fun h9 => hqq620 (s569 _ h9)
  have hF652 : ∀ x, x ∈ L → x ≠ xo → (va_up f594 q620 (.inr (5, [.null, .null, .null, .null, .int (nI 0)]))) x = f x := fun x hx h0 => (q_ne (ne_mem nl625 hx)).trans (hF619 x hx h0)
  generalize (va_up f594 q620 (.inr (5, [.null, .null, .null, .null, .int (nI 0)]))) = f626 at Y e627 e628 e629 e630 e631 e632 e633 e634 e635 e636 e637 e638 e639 e640 e641 e642 e643 e644 e645 e646 e647 e648 e649 e650 e651 hF652
  have s623 : ∀ x, x ∈ L → x ∈ L535 ++ [q620] := fun x hx => List.mem_append_left _ (s569 x hx)
  have m653 : xo ∈ L535 ++ [q620] := List.mem_append_left _ m571
  have m654 : q1 ∈ L535 ++ [q620] := List.mem_append_left _ m572
  have m655 : q18 ∈ L535 ++ [q620] := List.mem_append_left _ m573
  have m656 : q19 ∈ L535 ++ [q620] := List.mem_append_left _ m574
  have m657 : q20 ∈ L535 ++ [q620] := List.mem_append_left _ m575
  have m658 : q21 ∈ L535 ++ [q620] := List.mem_append_left _ m576
  have m659 : q22 ∈ L535 ++ [q620] := List.mem_append_left _ m577
  have m660 : q23 ∈ L535 ++ [q620] := List.mem_append_left _ m578
  have m661 : q24 ∈ L535 ++ [q620] := List.mem_append_left _ m579
  have m662 : q25 ∈ L535 ++ [q620] := List.mem_append_left _ m580
  have m663 : q26 ∈ L535 ++ [q620] := List.mem_append_left _ m581
  have m664 : q27 ∈ L535 ++ [q620] := List.mem_append_left _ m582
  have m665 : q28 ∈ L535 ++ [q620] := List.mem_append_left _ m583
  have m666 : q29 ∈ L535 ++ [q620] := List.mem_append_left _ m584
  have m667 : q30 ∈ L535 ++ [q620] := List.mem_append_left _ m585
  have m668 : q31 ∈ L535 ++ [q620] := List.mem_append_left _ m586
  have m669 : q32 ∈ L535 ++ [q620] := List.mem_append_left _ m587
  have m670 : q33 ∈ L535 ++ [q620] := List.mem_append_left _ m588
  have m671 : q230 ∈ L535 ++ [q620] := List.mem_append_left _ m589
  have m672 : q281 ∈ L535 ++ [q620] := List.mem_append_left _ m590
  have m673 : q350 ∈ L535 ++ [q620] := List.mem_append_left _ m591
  have m674 : q405 ∈ L535 ++ [q620] := List.mem_append_left _ m592
  have m675 : q480 ∈ L535 ++ [q620] := List.mem_append_left _ m593
  have m676 : q539 ∈ L535 ++ [q620] := List.mem_append_left _ m541
  have m624 : q620 ∈ L535 ++ [q620] := List.mem_append_right _ (List.mem_singleton.mpr rfl)
  generalize L535 ++ [q620] = L621 at Y s623 m653 m654 m655 m656 m657 m658 m659 m660 m661 m662 m663 m664 m665 m666 m667 m668 m669 m670 m671 m672 m673 m674 m675 m676 m624
  refine lv_dup X.1 X.2.1 d_H_init_60 rfl ?_
  refine lv_aload_n X.1 X.2.1 d_H_init_61 rfl (lv_at hl 0 rfl) ?_
  refine q_get X.1 X.2.1 X.2.2.1 i_H X.2.2.2.1 X.2.2.2.2 Y m653 e628 rfl 0 (by decide) (X.2.2.1 _ lk_H_12) (fun _ h9 => h9) rfl d_H_init_62 ?_
  refine x_v (x_runI (As := [.ref q1]) (rest := [.ref q620, .ref xo]) (n := 1) X hml hl.1 (c_Ga_init l D E T L621 f626 H.size q1 q620 m624 e627) (ok_k X Y hA KS KR) kl_H_Ga_init ks_Ga_init ki_Ga_init ini_Ga rfl ⟨rfl, rfl⟩ hd_Ga_init.2 ⟨by decide, by decide⟩ rfl (Nat.le_of_ble_eq_true rfl) d_H_init_65 ⟨(show 32 + 4 ≤ 367 by omega), (show 24208 + (8004) ≤ (53413) by omega)⟩) X Y hA (fun u H locs hp Y => ?_)
  obtain ⟨L679, f678⟩ := u
  obtain ⟨eL681, hF680, o684, o685, e683⟩ := hp
  dsimp only at eL681 hF680 e683 Y
  have e686 : f678 xo = .inr (0, [.ref q1, .ref q230, .ref q350, .ref q480, .null, .null, .null, .null, .null]) := (hF680 xo m653 (q_tag e628 e627 (show (0 : Nat) ≠ 5 by decide))).trans e628
  have e687 : f678 q1 = .inr (11, [.int (nI 1000000000), .ref o183, .ref o184, .ref q18, .ref q25, .ref q30, .int (nI 0), .ref o185, .int (nI 20), .int (nI 0), .ref o186, .ref q31, .ref q32]) := (hF680 q1 m654 (q_tag e629 e627 (show (11 : Nat) ≠ 5 by decide))).trans e629
  have e688 : f678 q18 = .inr (6, [.ref q19, .ref q20, .ref q21, .ref q22, .ref q23, .int (nI 0), .int (nI 0), .ref q24]) := (hF680 q18 m655 (q_tag e630 e627 (show (6 : Nat) ≠ 5 by decide))).trans e630
  have e689 : f678 q19 = .inl (E.2.1, 80, .inl g34) := (hF680 q19 m656 (q_tag e631 e627 (show (1000 : Nat) ≠ 5 by decide))).trans e631
  have e690 : f678 q20 = .inl (E.1, 64, .inl g35) := (hF680 q20 m657 (q_tag e632 e627 (show (1000 : Nat) ≠ 5 by decide))).trans e632
  have e691 : f678 q21 = .inl (E.2.1, 5, .inl g36) := (hF680 q21 m658 (q_tag e633 e627 (show (1000 : Nat) ≠ 5 by decide))).trans e633
  have e692 : f678 q22 = .inl (E.2.1, 5, .inl g37) := (hF680 q22 m659 (q_tag e634 e627 (show (1000 : Nat) ≠ 5 by decide))).trans e634
  have e693 : f678 q23 = .inl (E.2.1, 5, .inl g38) := (hF680 q23 m660 (q_tag e635 e627 (show (1000 : Nat) ≠ 5 by decide))).trans e635
  have e694 : f678 q24 = .inl (E.1, 20, .inl g39) := (hF680 q24 m661 (q_tag e636 e627 (show (1000 : Nat) ≠ 5 by decide))).trans e636
  have e695 : f678 q25 = .inr (1, [.ref o187, .ref q26, .ref q27, .int (nI 0), .ref q28, .ref q29, .ref o188]) := (hF680 q25 m662 (q_tag e637 e627 (show (1 : Nat) ≠ 5 by decide))).trans e637
  have e696 : f678 q26 = .inl (E.2.1, 256, .inl g40) := (hF680 q26 m663 (q_tag e638 e627 (show (1000 : Nat) ≠ 5 by decide))).trans e638
  have e697 : f678 q27 = .inl (E.2.1, 240, .inl g41) := (hF680 q27 m664 (q_tag e639 e627 (show (1000 : Nat) ≠ 5 by decide))).trans e639
  have e698 : f678 q28 = .inl (E.2.1, 16, .inl g42) := (hF680 q28 m665 (q_tag e640 e627 (show (1000 : Nat) ≠ 5 by decide))).trans e640
  have e699 : f678 q29 = .inl (E.2.1, 16, .inl g43) := (hF680 q29 m666 (q_tag e641 e627 (show (1000 : Nat) ≠ 5 by decide))).trans e641
  have e700 : f678 q30 = .inl (E.1, 64, .inl g44) := (hF680 q30 m667 (q_tag e642 e627 (show (1000 : Nat) ≠ 5 by decide))).trans e642
  have e701 : f678 q31 = .inl (E.1, 20, .inl g45) := (hF680 q31 m668 (q_tag e643 e627 (show (1000 : Nat) ≠ 5 by decide))).trans e643
  have e702 : f678 q32 = .inr (3, [.ref q33, .int (nI 0)]) := (hF680 q32 m669 (q_tag e644 e627 (show (3 : Nat) ≠ 5 by decide))).trans e644
  have e703 : f678 q33 = .inl (E.1, 64, .inl g46) := (hF680 q33 m670 (q_tag e645 e627 (show (1000 : Nat) ≠ 5 by decide))).trans e645
  have e704 : f678 q230 = .inr (3, [.ref q281, .int (nI 0)]) := (hF680 q230 m671 (q_tag e646 e627 (show (3 : Nat) ≠ 5 by decide))).trans e646
  have e705 : f678 q281 = .inl (E.1, 4000, .inl g282) := (hF680 q281 m672 (q_tag e647 e627 (show (1000 : Nat) ≠ 5 by decide))).trans e647
  have e706 : f678 q350 = .inr (3, [.ref q405, .int (nI 0)]) := (hF680 q350 m673 (q_tag e648 e627 (show (3 : Nat) ≠ 5 by decide))).trans e648
  have e707 : f678 q405 = .inl (E.1, 12288, .inl g406) := (hF680 q405 m674 (q_tag e649 e627 (show (1000 : Nat) ≠ 5 by decide))).trans e649
  have e708 : f678 q480 = .inr (3, [.ref q539, .int (nI 0)]) := (hF680 q480 m675 (q_tag e650 e627 (show (3 : Nat) ≠ 5 by decide))).trans e650
  have e709 : f678 q539 = .inl (E.1, 40, .inl g540) := (hF680 q539 m676 (q_tag e651 e627 (show (1000 : Nat) ≠ 5 by decide))).trans e651
  have hF710 : ∀ x, x ∈ L → x ≠ xo → f678 x = f x := fun x hx h0 => (hF680 x (s623 x hx) (ne_mem nl625 hx)).trans (hF652 x hx h0)
  have s711 : ∀ x, x ∈ L → x ∈ L679 := fun x hx => eL681 x (s623 x hx)
  have m712 : xo ∈ L679 := eL681 _ m653
  have m713 : q1 ∈ L679 := eL681 _ m654
  have m714 : q18 ∈ L679 := eL681 _ m655
  have m715 : q19 ∈ L679 := eL681 _ m656
  have m716 : q20 ∈ L679 := eL681 _ m657
  have m717 : q21 ∈ L679 := eL681 _ m658
  have m718 : q22 ∈ L679 := eL681 _ m659
  have m719 : q23 ∈ L679 := eL681 _ m660
  have m720 : q24 ∈ L679 := eL681 _ m661
  have m721 : q25 ∈ L679 := eL681 _ m662
  have m722 : q26 ∈ L679 := eL681 _ m663
  have m723 : q27 ∈ L679 := eL681 _ m664
  have m724 : q28 ∈ L679 := eL681 _ m665
  have m725 : q29 ∈ L679 := eL681 _ m666
  have m726 : q30 ∈ L679 := eL681 _ m667
  have m727 : q31 ∈ L679 := eL681 _ m668
  have m728 : q32 ∈ L679 := eL681 _ m669
  have m729 : q33 ∈ L679 := eL681 _ m670
  have m730 : q230 ∈ L679 := eL681 _ m671
  have m731 : q281 ∈ L679 := eL681 _ m672
  have m732 : q350 ∈ L679 := eL681 _ m673
  have m733 : q405 ∈ L679 := eL681 _ m674
  have m734 : q480 ∈ L679 := eL681 _ m675
  have m735 : q539 ∈ L679 := eL681 _ m676
  have m736 : q620 ∈ L679 := eL681 _ m624
  refine q_putF X.1 X.2.1 X.2.2.1 i_H t_H t_H_ok n_H X.2.2.2.1 X.2.2.2.2 Y m712 e686 rfl 5 (by decide) (X.2.2.1 _ lk_H_36) (fun _ h9 => h9) rfl hin rfl (t_H_ok 5 (by decide)) rfl rfl (Nat.le_of_ble_eq_true rfl) d_H_init_68 (fun H locs Y => ?_)
  have e738 : (va_up f678 xo (.inr (0, [.ref q1, .ref q230, .ref q350, .ref q480, .null, .ref q620, .null, .null, .null]))) xo = .inr (0, [.ref q1, .ref q230, .ref q350, .ref q480, .null, .ref q620, .null, .null, .null]) := q_up
  have e739 : (va_up f678 xo (.inr (0, [.ref q1, .ref q230, .ref q350, .ref q480, .null, .ref q620, .null, .null, .null]))) q1 = .inr (11, [.int (nI 1000000000), .ref o183, .ref o184, .ref q18, .ref q25, .ref q30, .int (nI 0), .ref o185, .int (nI 20), .int (nI 0), .ref o186, .ref q31, .ref q32]) := (q_ne (q_tag e687 e686 (show (11 : Nat) ≠ 0 by decide))).trans e687
  have e740 : (va_up f678 xo (.inr (0, [.ref q1, .ref q230, .ref q350, .ref q480, .null, .ref q620, .null, .null, .null]))) q18 = .inr (6, [.ref q19, .ref q20, .ref q21, .ref q22, .ref q23, .int (nI 0), .int (nI 0), .ref q24]) := (q_ne (q_tag e688 e686 (show (6 : Nat) ≠ 0 by decide))).trans e688
  have e741 : (va_up f678 xo (.inr (0, [.ref q1, .ref q230, .ref q350, .ref q480, .null, .ref q620, .null, .null, .null]))) q19 = .inl (E.2.1, 80, .inl g34) := (q_ne (q_tag e689 e686 (show (1000 : Nat) ≠ 0 by decide))).trans e689
  have e742 : (va_up f678 xo (.inr (0, [.ref q1, .ref q230, .ref q350, .ref q480, .null, .ref q620, .null, .null, .null]))) q20 = .inl (E.1, 64, .inl g35) := (q_ne (q_tag e690 e686 (show (1000 : Nat) ≠ 0 by decide))).trans e690
  have e743 : (va_up f678 xo (.inr (0, [.ref q1, .ref q230, .ref q350, .ref q480, .null, .ref q620, .null, .null, .null]))) q21 = .inl (E.2.1, 5, .inl g36) := (q_ne (q_tag e691 e686 (show (1000 : Nat) ≠ 0 by decide))).trans e691
  have e744 : (va_up f678 xo (.inr (0, [.ref q1, .ref q230, .ref q350, .ref q480, .null, .ref q620, .null, .null, .null]))) q22 = .inl (E.2.1, 5, .inl g37) := (q_ne (q_tag e692 e686 (show (1000 : Nat) ≠ 0 by decide))).trans e692
  have e745 : (va_up f678 xo (.inr (0, [.ref q1, .ref q230, .ref q350, .ref q480, .null, .ref q620, .null, .null, .null]))) q23 = .inl (E.2.1, 5, .inl g38) := (q_ne (q_tag e693 e686 (show (1000 : Nat) ≠ 0 by decide))).trans e693
  have e746 : (va_up f678 xo (.inr (0, [.ref q1, .ref q230, .ref q350, .ref q480, .null, .ref q620, .null, .null, .null]))) q24 = .inl (E.1, 20, .inl g39) := (q_ne (q_tag e694 e686 (show (1000 : Nat) ≠ 0 by decide))).trans e694
  have e747 : (va_up f678 xo (.inr (0, [.ref q1, .ref q230, .ref q350, .ref q480, .null, .ref q620, .null, .null, .null]))) q25 = .inr (1, [.ref o187, .ref q26, .ref q27, .int (nI 0), .ref q28, .ref q29, .ref o188]) := (q_ne (q_tag e695 e686 (show (1 : Nat) ≠ 0 by decide))).trans e695
  have e748 : (va_up f678 xo (.inr (0, [.ref q1, .ref q230, .ref q350, .ref q480, .null, .ref q620, .null, .null, .null]))) q26 = .inl (E.2.1, 256, .inl g40) := (q_ne (q_tag e696 e686 (show (1000 : Nat) ≠ 0 by decide))).trans e696
  have e749 : (va_up f678 xo (.inr (0, [.ref q1, .ref q230, .ref q350, .ref q480, .null, .ref q620, .null, .null, .null]))) q27 = .inl (E.2.1, 240, .inl g41) := (q_ne (q_tag e697 e686 (show (1000 : Nat) ≠ 0 by decide))).trans e697
  have e750 : (va_up f678 xo (.inr (0, [.ref q1, .ref q230, .ref q350, .ref q480, .null, .ref q620, .null, .null, .null]))) q28 = .inl (E.2.1, 16, .inl g42) := (q_ne (q_tag e698 e686 (show (1000 : Nat) ≠ 0 by decide))).trans e698
  have e751 : (va_up f678 xo (.inr (0, [.ref q1, .ref q230, .ref q350, .ref q480, .null, .ref q620, .null, .null, .null]))) q29 = .inl (E.2.1, 16, .inl g43) := (q_ne (q_tag e699 e686 (show (1000 : Nat) ≠ 0 by decide))).trans e699
  have e752 : (va_up f678 xo (.inr (0, [.ref q1, .ref q230, .ref q350, .ref q480, .null, .ref q620, .null, .null, .null]))) q30 = .inl (E.1, 64, .inl g44) := (q_ne (q_tag e700 e686 (show (1000 : Nat) ≠ 0 by decide))).trans e700
  have e753 : (va_up f678 xo (.inr (0, [.ref q1, .ref q230, .ref q350, .ref q480, .null, .ref q620, .null, .null, .null]))) q31 = .inl (E.1, 20, .inl g45) := (q_ne (q_tag e701 e686 (show (1000 : Nat) ≠ 0 by decide))).trans e701
  have e754 : (va_up f678 xo (.inr (0, [.ref q1, .ref q230, .ref q350, .ref q480, .null, .ref q620, .null, .null, .null]))) q32 = .inr (3, [.ref q33, .int (nI 0)]) := (q_ne (q_tag e702 e686 (show (3 : Nat) ≠ 0 by decide))).trans e702
  have e755 : (va_up f678 xo (.inr (0, [.ref q1, .ref q230, .ref q350, .ref q480, .null, .ref q620, .null, .null, .null]))) q33 = .inl (E.1, 64, .inl g46) := (q_ne (q_tag e703 e686 (show (1000 : Nat) ≠ 0 by decide))).trans e703
  have e756 : (va_up f678 xo (.inr (0, [.ref q1, .ref q230, .ref q350, .ref q480, .null, .ref q620, .null, .null, .null]))) q230 = .inr (3, [.ref q281, .int (nI 0)]) := (q_ne (q_tag e704 e686 (show (3 : Nat) ≠ 0 by decide))).trans e704
  have e757 : (va_up f678 xo (.inr (0, [.ref q1, .ref q230, .ref q350, .ref q480, .null, .ref q620, .null, .null, .null]))) q281 = .inl (E.1, 4000, .inl g282) := (q_ne (q_tag e705 e686 (show (1000 : Nat) ≠ 0 by decide))).trans e705
  have e758 : (va_up f678 xo (.inr (0, [.ref q1, .ref q230, .ref q350, .ref q480, .null, .ref q620, .null, .null, .null]))) q350 = .inr (3, [.ref q405, .int (nI 0)]) := (q_ne (q_tag e706 e686 (show (3 : Nat) ≠ 0 by decide))).trans e706
  have e759 : (va_up f678 xo (.inr (0, [.ref q1, .ref q230, .ref q350, .ref q480, .null, .ref q620, .null, .null, .null]))) q405 = .inl (E.1, 12288, .inl g406) := (q_ne (q_tag e707 e686 (show (1000 : Nat) ≠ 0 by decide))).trans e707
  have e760 : (va_up f678 xo (.inr (0, [.ref q1, .ref q230, .ref q350, .ref q480, .null, .ref q620, .null, .null, .null]))) q480 = .inr (3, [.ref q539, .int (nI 0)]) := (q_ne (q_tag e708 e686 (show (3 : Nat) ≠ 0 by decide))).trans e708
  have e761 : (va_up f678 xo (.inr (0, [.ref q1, .ref q230, .ref q350, .ref q480, .null, .ref q620, .null, .null, .null]))) q539 = .inl (E.1, 40, .inl g540) := (q_ne (q_tag e709 e686 (show (1000 : Nat) ≠ 0 by decide))).trans e709
  have e762 : (va_up f678 xo (.inr (0, [.ref q1, .ref q230, .ref q350, .ref q480, .null, .ref q620, .null, .null, .null]))) q620 = .inr (5, [.ref q1, .ref o684, .ref o685, .ref (T.1 0), .int (nI 32)]) := (q_ne (q_tag e683 e686 (show (5 : Nat) ≠ 0 by decide))).trans e683
  have hF763 : ∀ x, x ∈ L → x ≠ xo → (va_up f678 xo (.inr (0, [.ref q1, .ref q230, .ref q350, .ref q480, .null, .ref q620, .null, .null, .null]))) x = f x := fun x hx h0 => (q_ne h0).trans (hF710 x hx h0)
  have Y : pH D cCl (pA L sz) s.heap L679 (va_up f678 xo (.inr (0, [.ref q1, .ref q230, .ref q350, .ref q480, .null, .ref q620, .null, .null, .null]))) H locs := Y
  generalize (va_up f678 xo (.inr (0, [.ref q1, .ref q230, .ref q350, .ref q480, .null, .ref q620, .null, .null, .null]))) = f737 at Y e738 e739 e740 e741 e742 e743 e744 e745 e746 e747 e748 e749 e750 e751 e752 e753 e754 e755 e756 e757 e758 e759 e760 e761 e762 hF763
  refine lv_aload_n X.1 X.2.1 d_H_init_71 rfl (lv_at hl 0 rfl) ?_
  refine lv_bipush (v := (nI 12)) X.1 X.2.1 d_H_init_72 (by decide) ?_
  refine q_anew X.1 X.2.1 X.2.2.2.1 (X.2.2.1 _ ck_H_40) (KR.2.2.2 _ (by decide)) X.2.2.2.2 2 (cE := E.2.2.1) rfl Y hA (nI_pos (by omega)) (nI_clamp (by omega)) (by decide) (show 36 + 1 ≤ 367 by omega) (show 32212 + 12 ≤ (53413) by omega) d_H_init_74 (fun q764 H hqq764 Y => ?_)
  have Y : pH D cCl (pA L sz) s.heap (L679 ++ [q764]) (va_up f737 q764 (.inl (E.2.2.1, 12, .inr (.inr (.inr (.inr (fun _ => none))))))) H locs := Y
  have e771 : (va_up f737 q764 (.inl (E.2.2.1, 12, .inr (.inr (.inr (.inr (fun _ => none))))))) q764 = .inl (E.2.2.1, 12, .inr (.inr (.inr (.inr (fun _ => none))))) := q_up
  have e772 : (va_up f737 q764 (.inl (E.2.2.1, 12, .inr (.inr (.inr (.inr (fun _ => none))))))) xo = .inr (0, [.ref q1, .ref q230, .ref q350, .ref q480, .null, .ref q620, .null, .null, .null]) := (q_ne (ne_mem hqq764 m712)).trans e738
  have e773 : (va_up f737 q764 (.inl (E.2.2.1, 12, .inr (.inr (.inr (.inr (fun _ => none))))))) q1 = .inr (11, [.int (nI 1000000000), .ref o183, .ref o184, .ref q18, .ref q25, .ref q30, .int (nI 0), .ref o185, .int (nI 20), .int (nI 0), .ref o186, .ref q31, .ref q32]) := (q_ne (ne_mem hqq764 m713)).trans e739
  have e774 : (va_up f737 q764 (.inl (E.2.2.1, 12, .inr (.inr (.inr (.inr (fun _ => none))))))) q18 = .inr (6, [.ref q19, .ref q20, .ref q21, .ref q22, .ref q23, .int (nI 0), .int (nI 0), .ref q24]) := (q_ne (ne_mem hqq764 m714)).trans e740
  have e775 : (va_up f737 q764 (.inl (E.2.2.1, 12, .inr (.inr (.inr (.inr (fun _ => none))))))) q19 = .inl (E.2.1, 80, .inl g34) := (q_ne (ne_mem hqq764 m715)).trans e741
  have e776 : (va_up f737 q764 (.inl (E.2.2.1, 12, .inr (.inr (.inr (.inr (fun _ => none))))))) q20 = .inl (E.1, 64, .inl g35) := (q_ne (ne_mem hqq764 m716)).trans e742
  have e777 : (va_up f737 q764 (.inl (E.2.2.1, 12, .inr (.inr (.inr (.inr (fun _ => none))))))) q21 = .inl (E.2.1, 5, .inl g36) := (q_ne (ne_mem hqq764 m717)).trans e743
  have e778 : (va_up f737 q764 (.inl (E.2.2.1, 12, .inr (.inr (.inr (.inr (fun _ => none))))))) q22 = .inl (E.2.1, 5, .inl g37) := (q_ne (ne_mem hqq764 m718)).trans e744
  have e779 : (va_up f737 q764 (.inl (E.2.2.1, 12, .inr (.inr (.inr (.inr (fun _ => none))))))) q23 = .inl (E.2.1, 5, .inl g38) := (q_ne (ne_mem hqq764 m719)).trans e745
  have e780 : (va_up f737 q764 (.inl (E.2.2.1, 12, .inr (.inr (.inr (.inr (fun _ => none))))))) q24 = .inl (E.1, 20, .inl g39) := (q_ne (ne_mem hqq764 m720)).trans e746
  have e781 : (va_up f737 q764 (.inl (E.2.2.1, 12, .inr (.inr (.inr (.inr (fun _ => none))))))) q25 = .inr (1, [.ref o187, .ref q26, .ref q27, .int (nI 0), .ref q28, .ref q29, .ref o188]) := (q_ne (ne_mem hqq764 m721)).trans e747
  have e782 : (va_up f737 q764 (.inl (E.2.2.1, 12, .inr (.inr (.inr (.inr (fun _ => none))))))) q26 = .inl (E.2.1, 256, .inl g40) := (q_ne (ne_mem hqq764 m722)).trans e748
  have e783 : (va_up f737 q764 (.inl (E.2.2.1, 12, .inr (.inr (.inr (.inr (fun _ => none))))))) q27 = .inl (E.2.1, 240, .inl g41) := (q_ne (ne_mem hqq764 m723)).trans e749
  have e784 : (va_up f737 q764 (.inl (E.2.2.1, 12, .inr (.inr (.inr (.inr (fun _ => none))))))) q28 = .inl (E.2.1, 16, .inl g42) := (q_ne (ne_mem hqq764 m724)).trans e750
  have e785 : (va_up f737 q764 (.inl (E.2.2.1, 12, .inr (.inr (.inr (.inr (fun _ => none))))))) q29 = .inl (E.2.1, 16, .inl g43) := (q_ne (ne_mem hqq764 m725)).trans e751
  have e786 : (va_up f737 q764 (.inl (E.2.2.1, 12, .inr (.inr (.inr (.inr (fun _ => none))))))) q30 = .inl (E.1, 64, .inl g44) := (q_ne (ne_mem hqq764 m726)).trans e752
  have e787 : (va_up f737 q764 (.inl (E.2.2.1, 12, .inr (.inr (.inr (.inr (fun _ => none))))))) q31 = .inl (E.1, 20, .inl g45) := (q_ne (ne_mem hqq764 m727)).trans e753
  have e788 : (va_up f737 q764 (.inl (E.2.2.1, 12, .inr (.inr (.inr (.inr (fun _ => none))))))) q32 = .inr (3, [.ref q33, .int (nI 0)]) := (q_ne (ne_mem hqq764 m728)).trans e754
  have e789 : (va_up f737 q764 (.inl (E.2.2.1, 12, .inr (.inr (.inr (.inr (fun _ => none))))))) q33 = .inl (E.1, 64, .inl g46) := (q_ne (ne_mem hqq764 m729)).trans e755
  have e790 : (va_up f737 q764 (.inl (E.2.2.1, 12, .inr (.inr (.inr (.inr (fun _ => none))))))) q230 = .inr (3, [.ref q281, .int (nI 0)]) := (q_ne (ne_mem hqq764 m730)).trans e756
  have e791 : (va_up f737 q764 (.inl (E.2.2.1, 12, .inr (.inr (.inr (.inr (fun _ => none))))))) q281 = .inl (E.1, 4000, .inl g282) := (q_ne (ne_mem hqq764 m731)).trans e757
  have e792 : (va_up f737 q764 (.inl (E.2.2.1, 12, .inr (.inr (.inr (.inr (fun _ => none))))))) q350 = .inr (3, [.ref q405, .int (nI 0)]) := (q_ne (ne_mem hqq764 m732)).trans e758
  have e793 : (va_up f737 q764 (.inl (E.2.2.1, 12, .inr (.inr (.inr (.inr (fun _ => none))))))) q405 = .inl (E.1, 12288, .inl g406) := (q_ne (ne_mem hqq764 m733)).trans e759
  have e794 : (va_up f737 q764 (.inl (E.2.2.1, 12, .inr (.inr (.inr (.inr (fun _ => none))))))) q480 = .inr (3, [.ref q539, .int (nI 0)]) := (q_ne (ne_mem hqq764 m734)).trans e760
  have e795 : (va_up f737 q764 (.inl (E.2.2.1, 12, .inr (.inr (.inr (.inr (fun _ => none))))))) q539 = .inl (E.1, 40, .inl g540) := (q_ne (ne_mem hqq764 m735)).trans e761
  have e796 : (va_up f737 q764 (.inl (E.2.2.1, 12, .inr (.inr (.inr (.inr (fun _ => none))))))) q620 = .inr (5, [.ref q1, .ref o684, .ref o685, .ref (T.1 0), .int (nI 32)]) := (q_ne (ne_mem hqq764 m736)).trans e762
  have nl769 : q764 ∉ L := fun h9 => hqq764 (s711 _ h9)
  have hF797 : ∀ x, x ∈ L → x ≠ xo → (va_up f737 q764 (.inl (E.2.2.1, 12, .inr (.inr (.inr (.inr (fun _ => none))))))) x = f x := fun x hx h0 => (q_ne (ne_mem nl769 hx)).trans (hF763 x hx h0)
  generalize (va_up f737 q764 (.inl (E.2.2.1, 12, .inr (.inr (.inr (.inr (fun _ => none))))))) = f770 at Y e771 e772 e773 e774 e775 e776 e777 e778 e779 e780 e781 e782 e783 e784 e785 e786 e787 e788 e789 e790 e791 e792 e793 e794 e795 e796 hF797
  have s767 : ∀ x, x ∈ L → x ∈ L679 ++ [q764] := fun x hx => List.mem_append_left _ (s711 x hx)
  have m798 : xo ∈ L679 ++ [q764] := List.mem_append_left _ m712
  have m799 : q1 ∈ L679 ++ [q764] := List.mem_append_left _ m713
  have m800 : q18 ∈ L679 ++ [q764] := List.mem_append_left _ m714
  have m801 : q19 ∈ L679 ++ [q764] := List.mem_append_left _ m715
  have m802 : q20 ∈ L679 ++ [q764] := List.mem_append_left _ m716
  have m803 : q21 ∈ L679 ++ [q764] := List.mem_append_left _ m717
  have m804 : q22 ∈ L679 ++ [q764] := List.mem_append_left _ m718
  have m805 : q23 ∈ L679 ++ [q764] := List.mem_append_left _ m719
  have m806 : q24 ∈ L679 ++ [q764] := List.mem_append_left _ m720
  have m807 : q25 ∈ L679 ++ [q764] := List.mem_append_left _ m721
  have m808 : q26 ∈ L679 ++ [q764] := List.mem_append_left _ m722
  have m809 : q27 ∈ L679 ++ [q764] := List.mem_append_left _ m723
  have m810 : q28 ∈ L679 ++ [q764] := List.mem_append_left _ m724
  have m811 : q29 ∈ L679 ++ [q764] := List.mem_append_left _ m725
  have m812 : q30 ∈ L679 ++ [q764] := List.mem_append_left _ m726
  have m813 : q31 ∈ L679 ++ [q764] := List.mem_append_left _ m727
  have m814 : q32 ∈ L679 ++ [q764] := List.mem_append_left _ m728
  have m815 : q33 ∈ L679 ++ [q764] := List.mem_append_left _ m729
  have m816 : q230 ∈ L679 ++ [q764] := List.mem_append_left _ m730
  have m817 : q281 ∈ L679 ++ [q764] := List.mem_append_left _ m731
  have m818 : q350 ∈ L679 ++ [q764] := List.mem_append_left _ m732
  have m819 : q405 ∈ L679 ++ [q764] := List.mem_append_left _ m733
  have m820 : q480 ∈ L679 ++ [q764] := List.mem_append_left _ m734
  have m821 : q539 ∈ L679 ++ [q764] := List.mem_append_left _ m735
  have m822 : q620 ∈ L679 ++ [q764] := List.mem_append_left _ m736
  have m768 : q764 ∈ L679 ++ [q764] := List.mem_append_right _ (List.mem_singleton.mpr rfl)
  generalize L679 ++ [q764] = L765 at Y s767 m798 m799 m800 m801 m802 m803 m804 m805 m806 m807 m808 m809 m810 m811 m812 m813 m814 m815 m816 m817 m818 m819 m820 m821 m822 m768
  refine q_putF X.1 X.2.1 X.2.2.1 i_H t_H t_H_ok n_H X.2.2.2.1 X.2.2.2.2 Y m798 e772 rfl 4 (by decide) (X.2.2.1 _ lk_H_42) (fun _ h9 => h9) rfl hin rfl (t_H_ok 4 (by decide)) rfl rfl (Nat.le_of_ble_eq_true rfl) d_H_init_77 (fun H locs Y => ?_)
  have e824 : (va_up f770 xo (.inr (0, [.ref q1, .ref q230, .ref q350, .ref q480, .ref q764, .ref q620, .null, .null, .null]))) xo = .inr (0, [.ref q1, .ref q230, .ref q350, .ref q480, .ref q764, .ref q620, .null, .null, .null]) := q_up
  have e825 : (va_up f770 xo (.inr (0, [.ref q1, .ref q230, .ref q350, .ref q480, .ref q764, .ref q620, .null, .null, .null]))) q1 = .inr (11, [.int (nI 1000000000), .ref o183, .ref o184, .ref q18, .ref q25, .ref q30, .int (nI 0), .ref o185, .int (nI 20), .int (nI 0), .ref o186, .ref q31, .ref q32]) := (q_ne (q_tag e773 e772 (show (11 : Nat) ≠ 0 by decide))).trans e773
  have e826 : (va_up f770 xo (.inr (0, [.ref q1, .ref q230, .ref q350, .ref q480, .ref q764, .ref q620, .null, .null, .null]))) q18 = .inr (6, [.ref q19, .ref q20, .ref q21, .ref q22, .ref q23, .int (nI 0), .int (nI 0), .ref q24]) := (q_ne (q_tag e774 e772 (show (6 : Nat) ≠ 0 by decide))).trans e774
  have e827 : (va_up f770 xo (.inr (0, [.ref q1, .ref q230, .ref q350, .ref q480, .ref q764, .ref q620, .null, .null, .null]))) q19 = .inl (E.2.1, 80, .inl g34) := (q_ne (q_tag e775 e772 (show (1000 : Nat) ≠ 0 by decide))).trans e775
  have e828 : (va_up f770 xo (.inr (0, [.ref q1, .ref q230, .ref q350, .ref q480, .ref q764, .ref q620, .null, .null, .null]))) q20 = .inl (E.1, 64, .inl g35) := (q_ne (q_tag e776 e772 (show (1000 : Nat) ≠ 0 by decide))).trans e776
  have e829 : (va_up f770 xo (.inr (0, [.ref q1, .ref q230, .ref q350, .ref q480, .ref q764, .ref q620, .null, .null, .null]))) q21 = .inl (E.2.1, 5, .inl g36) := (q_ne (q_tag e777 e772 (show (1000 : Nat) ≠ 0 by decide))).trans e777
  have e830 : (va_up f770 xo (.inr (0, [.ref q1, .ref q230, .ref q350, .ref q480, .ref q764, .ref q620, .null, .null, .null]))) q22 = .inl (E.2.1, 5, .inl g37) := (q_ne (q_tag e778 e772 (show (1000 : Nat) ≠ 0 by decide))).trans e778
  have e831 : (va_up f770 xo (.inr (0, [.ref q1, .ref q230, .ref q350, .ref q480, .ref q764, .ref q620, .null, .null, .null]))) q23 = .inl (E.2.1, 5, .inl g38) := (q_ne (q_tag e779 e772 (show (1000 : Nat) ≠ 0 by decide))).trans e779
  have e832 : (va_up f770 xo (.inr (0, [.ref q1, .ref q230, .ref q350, .ref q480, .ref q764, .ref q620, .null, .null, .null]))) q24 = .inl (E.1, 20, .inl g39) := (q_ne (q_tag e780 e772 (show (1000 : Nat) ≠ 0 by decide))).trans e780
  have e833 : (va_up f770 xo (.inr (0, [.ref q1, .ref q230, .ref q350, .ref q480, .ref q764, .ref q620, .null, .null, .null]))) q25 = .inr (1, [.ref o187, .ref q26, .ref q27, .int (nI 0), .ref q28, .ref q29, .ref o188]) := (q_ne (q_tag e781 e772 (show (1 : Nat) ≠ 0 by decide))).trans e781
  have e834 : (va_up f770 xo (.inr (0, [.ref q1, .ref q230, .ref q350, .ref q480, .ref q764, .ref q620, .null, .null, .null]))) q26 = .inl (E.2.1, 256, .inl g40) := (q_ne (q_tag e782 e772 (show (1000 : Nat) ≠ 0 by decide))).trans e782
  have e835 : (va_up f770 xo (.inr (0, [.ref q1, .ref q230, .ref q350, .ref q480, .ref q764, .ref q620, .null, .null, .null]))) q27 = .inl (E.2.1, 240, .inl g41) := (q_ne (q_tag e783 e772 (show (1000 : Nat) ≠ 0 by decide))).trans e783
  have e836 : (va_up f770 xo (.inr (0, [.ref q1, .ref q230, .ref q350, .ref q480, .ref q764, .ref q620, .null, .null, .null]))) q28 = .inl (E.2.1, 16, .inl g42) := (q_ne (q_tag e784 e772 (show (1000 : Nat) ≠ 0 by decide))).trans e784
  have e837 : (va_up f770 xo (.inr (0, [.ref q1, .ref q230, .ref q350, .ref q480, .ref q764, .ref q620, .null, .null, .null]))) q29 = .inl (E.2.1, 16, .inl g43) := (q_ne (q_tag e785 e772 (show (1000 : Nat) ≠ 0 by decide))).trans e785
  have e838 : (va_up f770 xo (.inr (0, [.ref q1, .ref q230, .ref q350, .ref q480, .ref q764, .ref q620, .null, .null, .null]))) q30 = .inl (E.1, 64, .inl g44) := (q_ne (q_tag e786 e772 (show (1000 : Nat) ≠ 0 by decide))).trans e786
  have e839 : (va_up f770 xo (.inr (0, [.ref q1, .ref q230, .ref q350, .ref q480, .ref q764, .ref q620, .null, .null, .null]))) q31 = .inl (E.1, 20, .inl g45) := (q_ne (q_tag e787 e772 (show (1000 : Nat) ≠ 0 by decide))).trans e787
  have e840 : (va_up f770 xo (.inr (0, [.ref q1, .ref q230, .ref q350, .ref q480, .ref q764, .ref q620, .null, .null, .null]))) q32 = .inr (3, [.ref q33, .int (nI 0)]) := (q_ne (q_tag e788 e772 (show (3 : Nat) ≠ 0 by decide))).trans e788
  have e841 : (va_up f770 xo (.inr (0, [.ref q1, .ref q230, .ref q350, .ref q480, .ref q764, .ref q620, .null, .null, .null]))) q33 = .inl (E.1, 64, .inl g46) := (q_ne (q_tag e789 e772 (show (1000 : Nat) ≠ 0 by decide))).trans e789
  have e842 : (va_up f770 xo (.inr (0, [.ref q1, .ref q230, .ref q350, .ref q480, .ref q764, .ref q620, .null, .null, .null]))) q230 = .inr (3, [.ref q281, .int (nI 0)]) := (q_ne (q_tag e790 e772 (show (3 : Nat) ≠ 0 by decide))).trans e790
  have e843 : (va_up f770 xo (.inr (0, [.ref q1, .ref q230, .ref q350, .ref q480, .ref q764, .ref q620, .null, .null, .null]))) q281 = .inl (E.1, 4000, .inl g282) := (q_ne (q_tag e791 e772 (show (1000 : Nat) ≠ 0 by decide))).trans e791
  have e844 : (va_up f770 xo (.inr (0, [.ref q1, .ref q230, .ref q350, .ref q480, .ref q764, .ref q620, .null, .null, .null]))) q350 = .inr (3, [.ref q405, .int (nI 0)]) := (q_ne (q_tag e792 e772 (show (3 : Nat) ≠ 0 by decide))).trans e792
  have e845 : (va_up f770 xo (.inr (0, [.ref q1, .ref q230, .ref q350, .ref q480, .ref q764, .ref q620, .null, .null, .null]))) q405 = .inl (E.1, 12288, .inl g406) := (q_ne (q_tag e793 e772 (show (1000 : Nat) ≠ 0 by decide))).trans e793
  have e846 : (va_up f770 xo (.inr (0, [.ref q1, .ref q230, .ref q350, .ref q480, .ref q764, .ref q620, .null, .null, .null]))) q480 = .inr (3, [.ref q539, .int (nI 0)]) := (q_ne (q_tag e794 e772 (show (3 : Nat) ≠ 0 by decide))).trans e794
  have e847 : (va_up f770 xo (.inr (0, [.ref q1, .ref q230, .ref q350, .ref q480, .ref q764, .ref q620, .null, .null, .null]))) q539 = .inl (E.1, 40, .inl g540) := (q_ne (q_tag e795 e772 (show (1000 : Nat) ≠ 0 by decide))).trans e795
  have e848 : (va_up f770 xo (.inr (0, [.ref q1, .ref q230, .ref q350, .ref q480, .ref q764, .ref q620, .null, .null, .null]))) q620 = .inr (5, [.ref q1, .ref o684, .ref o685, .ref (T.1 0), .int (nI 32)]) := (q_ne (q_tag e796 e772 (show (5 : Nat) ≠ 0 by decide))).trans e796
  have e849 : (va_up f770 xo (.inr (0, [.ref q1, .ref q230, .ref q350, .ref q480, .ref q764, .ref q620, .null, .null, .null]))) q764 = .inl (E.2.2.1, 12, .inr (.inr (.inr (.inr (fun _ => none))))) := (q_ne (q_tag e771 e772 (show (1000 : Nat) ≠ 0 by decide))).trans e771
  have hF850 : ∀ x, x ∈ L → x ≠ xo → (va_up f770 xo (.inr (0, [.ref q1, .ref q230, .ref q350, .ref q480, .ref q764, .ref q620, .null, .null, .null]))) x = f x := fun x hx h0 => (q_ne h0).trans (hF797 x hx h0)
  have Y : pH D cCl (pA L sz) s.heap L765 (va_up f770 xo (.inr (0, [.ref q1, .ref q230, .ref q350, .ref q480, .ref q764, .ref q620, .null, .null, .null]))) H locs := Y
  generalize (va_up f770 xo (.inr (0, [.ref q1, .ref q230, .ref q350, .ref q480, .ref q764, .ref q620, .null, .null, .null]))) = f823 at Y e824 e825 e826 e827 e828 e829 e830 e831 e832 e833 e834 e835 e836 e837 e838 e839 e840 e841 e842 e843 e844 e845 e846 e847 e848 e849 hF850
  refine lv_iconst (v := (nI 0)) X.1 X.2.1 d_H_init_80 (by decide) ?_
  refine lv_istore_n (lv' := [(1, .int (nI 0)), (0, .ref xo)]) X.1 X.2.1 d_H_init_81 rfl hl (by decide) rfl (fun ls hl => ?_)
  refine lv_iload_n X.1 X.2.1 d_H_init_82 rfl (lv_at hl 0 rfl) ?_
  refine lv_bipush (v := (nI 12)) X.1 X.2.1 d_H_init_83 (by decide) ?_
  refine lv_icmp_ge (tgt := 107) X.1 X.2.1 d_H_init_85 (by decide) (fun c851 => absurd c851 ?_) (fun c851 => ?_)
  · (rw [nI_leI (by omega) (by omega)] <;> omega)
  rw [nI_leI (by omega) (by omega)] at c851
  refine lv_aload_n X.1 X.2.1 d_H_init_88 rfl (lv_at hl 1 rfl) ?_
  refine q_get X.1 X.2.1 X.2.2.1 i_H X.2.2.2.1 X.2.2.2.2 Y m798 e824 rfl 4 (by decide) (X.2.2.1 _ lk_H_42) (fun _ h9 => h9) rfl d_H_init_89 ?_
  refine lv_iload_n X.1 X.2.1 d_H_init_92 rfl (lv_at hl 0 rfl) ?_
  refine q_new X.1 X.2.1 X.2.2.1 i_Pr t_Pr t_Pr_ok X.2.2.2.1 (X.2.2.1 _ ck_H_40) (X.2.2.1 _ mk_Pr) (X.2.2.1 _ ini_Pr) X.2.2.2.2 Y hA (ci := 7) rfl (fs := [.null, .null, .int (nI 0), .int (nI 0), .int (nI 0), .null, .null, .null, .null, .int (nI 0), .int (nI 0), .int (nI 0), .int (nI 0)]) (fun j hj => match j, hj with | 0, _ => rfl | 1, _ => rfl | 2, _ => rfl | 3, _ => rfl | 4, _ => rfl | 5, _ => rfl | 6, _ => rfl | 7, _ => rfl | 8, _ => rfl | 9, _ => rfl | 10, _ => rfl | 11, _ => rfl | 12, _ => rfl | n9 + 13, h9 => absurd (show n9 + 13 < 13 from h9) (by omega)) (show 37 + 1 ≤ 367 by omega) (show 32224 + 13 ≤ (53413) by omega) d_H_init_93 (fun q852 H hqq852 Y => ?_)
  have Y : pH D cCl (pA L sz) s.heap (L765 ++ [q852]) (va_up f823 q852 (.inr (7, [.null, .null, .int (nI 0), .int (nI 0), .int (nI 0), .null, .null, .null, .null, .int (nI 0), .int (nI 0), .int (nI 0), .int (nI 0)]))) H locs := Y
  have e859 : (va_up f823 q852 (.inr (7, [.null, .null, .int (nI 0), .int (nI 0), .int (nI 0), .null, .null, .null, .null, .int (nI 0), .int (nI 0), .int (nI 0), .int (nI 0)]))) q852 = .inr (7, [.null, .null, .int (nI 0), .int (nI 0), .int (nI 0), .null, .null, .null, .null, .int (nI 0), .int (nI 0), .int (nI 0), .int (nI 0)]) := q_up
  have e860 : (va_up f823 q852 (.inr (7, [.null, .null, .int (nI 0), .int (nI 0), .int (nI 0), .null, .null, .null, .null, .int (nI 0), .int (nI 0), .int (nI 0), .int (nI 0)]))) xo = .inr (0, [.ref q1, .ref q230, .ref q350, .ref q480, .ref q764, .ref q620, .null, .null, .null]) := (q_ne (ne_mem hqq852 m798)).trans e824
  have e861 : (va_up f823 q852 (.inr (7, [.null, .null, .int (nI 0), .int (nI 0), .int (nI 0), .null, .null, .null, .null, .int (nI 0), .int (nI 0), .int (nI 0), .int (nI 0)]))) q1 = .inr (11, [.int (nI 1000000000), .ref o183, .ref o184, .ref q18, .ref q25, .ref q30, .int (nI 0), .ref o185, .int (nI 20), .int (nI 0), .ref o186, .ref q31, .ref q32]) := (q_ne (ne_mem hqq852 m799)).trans e825
  have e862 : (va_up f823 q852 (.inr (7, [.null, .null, .int (nI 0), .int (nI 0), .int (nI 0), .null, .null, .null, .null, .int (nI 0), .int (nI 0), .int (nI 0), .int (nI 0)]))) q18 = .inr (6, [.ref q19, .ref q20, .ref q21, .ref q22, .ref q23, .int (nI 0), .int (nI 0), .ref q24]) := (q_ne (ne_mem hqq852 m800)).trans e826
  have e863 : (va_up f823 q852 (.inr (7, [.null, .null, .int (nI 0), .int (nI 0), .int (nI 0), .null, .null, .null, .null, .int (nI 0), .int (nI 0), .int (nI 0), .int (nI 0)]))) q19 = .inl (E.2.1, 80, .inl g34) := (q_ne (ne_mem hqq852 m801)).trans e827
  have e864 : (va_up f823 q852 (.inr (7, [.null, .null, .int (nI 0), .int (nI 0), .int (nI 0), .null, .null, .null, .null, .int (nI 0), .int (nI 0), .int (nI 0), .int (nI 0)]))) q20 = .inl (E.1, 64, .inl g35) := (q_ne (ne_mem hqq852 m802)).trans e828
  have e865 : (va_up f823 q852 (.inr (7, [.null, .null, .int (nI 0), .int (nI 0), .int (nI 0), .null, .null, .null, .null, .int (nI 0), .int (nI 0), .int (nI 0), .int (nI 0)]))) q21 = .inl (E.2.1, 5, .inl g36) := (q_ne (ne_mem hqq852 m803)).trans e829
  have e866 : (va_up f823 q852 (.inr (7, [.null, .null, .int (nI 0), .int (nI 0), .int (nI 0), .null, .null, .null, .null, .int (nI 0), .int (nI 0), .int (nI 0), .int (nI 0)]))) q22 = .inl (E.2.1, 5, .inl g37) := (q_ne (ne_mem hqq852 m804)).trans e830
  have e867 : (va_up f823 q852 (.inr (7, [.null, .null, .int (nI 0), .int (nI 0), .int (nI 0), .null, .null, .null, .null, .int (nI 0), .int (nI 0), .int (nI 0), .int (nI 0)]))) q23 = .inl (E.2.1, 5, .inl g38) := (q_ne (ne_mem hqq852 m805)).trans e831
  have e868 : (va_up f823 q852 (.inr (7, [.null, .null, .int (nI 0), .int (nI 0), .int (nI 0), .null, .null, .null, .null, .int (nI 0), .int (nI 0), .int (nI 0), .int (nI 0)]))) q24 = .inl (E.1, 20, .inl g39) := (q_ne (ne_mem hqq852 m806)).trans e832
  have e869 : (va_up f823 q852 (.inr (7, [.null, .null, .int (nI 0), .int (nI 0), .int (nI 0), .null, .null, .null, .null, .int (nI 0), .int (nI 0), .int (nI 0), .int (nI 0)]))) q25 = .inr (1, [.ref o187, .ref q26, .ref q27, .int (nI 0), .ref q28, .ref q29, .ref o188]) := (q_ne (ne_mem hqq852 m807)).trans e833
  have e870 : (va_up f823 q852 (.inr (7, [.null, .null, .int (nI 0), .int (nI 0), .int (nI 0), .null, .null, .null, .null, .int (nI 0), .int (nI 0), .int (nI 0), .int (nI 0)]))) q26 = .inl (E.2.1, 256, .inl g40) := (q_ne (ne_mem hqq852 m808)).trans e834
  have e871 : (va_up f823 q852 (.inr (7, [.null, .null, .int (nI 0), .int (nI 0), .int (nI 0), .null, .null, .null, .null, .int (nI 0), .int (nI 0), .int (nI 0), .int (nI 0)]))) q27 = .inl (E.2.1, 240, .inl g41) := (q_ne (ne_mem hqq852 m809)).trans e835
  have e872 : (va_up f823 q852 (.inr (7, [.null, .null, .int (nI 0), .int (nI 0), .int (nI 0), .null, .null, .null, .null, .int (nI 0), .int (nI 0), .int (nI 0), .int (nI 0)]))) q28 = .inl (E.2.1, 16, .inl g42) := (q_ne (ne_mem hqq852 m810)).trans e836
  have e873 : (va_up f823 q852 (.inr (7, [.null, .null, .int (nI 0), .int (nI 0), .int (nI 0), .null, .null, .null, .null, .int (nI 0), .int (nI 0), .int (nI 0), .int (nI 0)]))) q29 = .inl (E.2.1, 16, .inl g43) := (q_ne (ne_mem hqq852 m811)).trans e837
  have e874 : (va_up f823 q852 (.inr (7, [.null, .null, .int (nI 0), .int (nI 0), .int (nI 0), .null, .null, .null, .null, .int (nI 0), .int (nI 0), .int (nI 0), .int (nI 0)]))) q30 = .inl (E.1, 64, .inl g44) := (q_ne (ne_mem hqq852 m812)).trans e838
  have e875 : (va_up f823 q852 (.inr (7, [.null, .null, .int (nI 0), .int (nI 0), .int (nI 0), .null, .null, .null, .null, .int (nI 0), .int (nI 0), .int (nI 0), .int (nI 0)]))) q31 = .inl (E.1, 20, .inl g45) := (q_ne (ne_mem hqq852 m813)).trans e839
  have e876 : (va_up f823 q852 (.inr (7, [.null, .null, .int (nI 0), .int (nI 0), .int (nI 0), .null, .null, .null, .null, .int (nI 0), .int (nI 0), .int (nI 0), .int (nI 0)]))) q32 = .inr (3, [.ref q33, .int (nI 0)]) := (q_ne (ne_mem hqq852 m814)).trans e840
  have e877 : (va_up f823 q852 (.inr (7, [.null, .null, .int (nI 0), .int (nI 0), .int (nI 0), .null, .null, .null, .null, .int (nI 0), .int (nI 0), .int (nI 0), .int (nI 0)]))) q33 = .inl (E.1, 64, .inl g46) := (q_ne (ne_mem hqq852 m815)).trans e841
  have e878 : (va_up f823 q852 (.inr (7, [.null, .null, .int (nI 0), .int (nI 0), .int (nI 0), .null, .null, .null, .null, .int (nI 0), .int (nI 0), .int (nI 0), .int (nI 0)]))) q230 = .inr (3, [.ref q281, .int (nI 0)]) := (q_ne (ne_mem hqq852 m816)).trans e842
  have e879 : (va_up f823 q852 (.inr (7, [.null, .null, .int (nI 0), .int (nI 0), .int (nI 0), .null, .null, .null, .null, .int (nI 0), .int (nI 0), .int (nI 0), .int (nI 0)]))) q281 = .inl (E.1, 4000, .inl g282) := (q_ne (ne_mem hqq852 m817)).trans e843
  have e880 : (va_up f823 q852 (.inr (7, [.null, .null, .int (nI 0), .int (nI 0), .int (nI 0), .null, .null, .null, .null, .int (nI 0), .int (nI 0), .int (nI 0), .int (nI 0)]))) q350 = .inr (3, [.ref q405, .int (nI 0)]) := (q_ne (ne_mem hqq852 m818)).trans e844
  have e881 : (va_up f823 q852 (.inr (7, [.null, .null, .int (nI 0), .int (nI 0), .int (nI 0), .null, .null, .null, .null, .int (nI 0), .int (nI 0), .int (nI 0), .int (nI 0)]))) q405 = .inl (E.1, 12288, .inl g406) := (q_ne (ne_mem hqq852 m819)).trans e845
  have e882 : (va_up f823 q852 (.inr (7, [.null, .null, .int (nI 0), .int (nI 0), .int (nI 0), .null, .null, .null, .null, .int (nI 0), .int (nI 0), .int (nI 0), .int (nI 0)]))) q480 = .inr (3, [.ref q539, .int (nI 0)]) := (q_ne (ne_mem hqq852 m820)).trans e846
  have e883 : (va_up f823 q852 (.inr (7, [.null, .null, .int (nI 0), .int (nI 0), .int (nI 0), .null, .null, .null, .null, .int (nI 0), .int (nI 0), .int (nI 0), .int (nI 0)]))) q539 = .inl (E.1, 40, .inl g540) := (q_ne (ne_mem hqq852 m821)).trans e847
  have e884 : (va_up f823 q852 (.inr (7, [.null, .null, .int (nI 0), .int (nI 0), .int (nI 0), .null, .null, .null, .null, .int (nI 0), .int (nI 0), .int (nI 0), .int (nI 0)]))) q620 = .inr (5, [.ref q1, .ref o684, .ref o685, .ref (T.1 0), .int (nI 32)]) := (q_ne (ne_mem hqq852 m822)).trans e848
  have e885 : (va_up f823 q852 (.inr (7, [.null, .null, .int (nI 0), .int (nI 0), .int (nI 0), .null, .null, .null, .null, .int (nI 0), .int (nI 0), .int (nI 0), .int (nI 0)]))) q764 = .inl (E.2.2.1, 12, .inr (.inr (.inr (.inr (fun _ => none))))) := (q_ne (ne_mem hqq852 m768)).trans e849
  have nl857 : q852 ∉ L := fun h9 => hqq852 (s767 _ h9)
  have hF886 : ∀ x, x ∈ L → x ≠ xo → (va_up f823 q852 (.inr (7, [.null, .null, .int (nI 0), .int (nI 0), .int (nI 0), .null, .null, .null, .null, .int (nI 0), .int (nI 0), .int (nI 0), .int (nI 0)]))) x = f x := fun x hx h0 => (q_ne (ne_mem nl857 hx)).trans (hF850 x hx h0)
  generalize (va_up f823 q852 (.inr (7, [.null, .null, .int (nI 0), .int (nI 0), .int (nI 0), .null, .null, .null, .null, .int (nI 0), .int (nI 0), .int (nI 0), .int (nI 0)]))) = f858 at Y e859 e860 e861 e862 e863 e864 e865 e866 e867 e868 e869 e870 e871 e872 e873 e874 e875 e876 e877 e878 e879 e880 e881 e882 e883 e884 e885 hF886
  have s855 : ∀ x, x ∈ L → x ∈ L765 ++ [q852] := fun x hx => List.mem_append_left _ (s767 x hx)
  have m887 : xo ∈ L765 ++ [q852] := List.mem_append_left _ m798
  have m888 : q1 ∈ L765 ++ [q852] := List.mem_append_left _ m799
  have m889 : q18 ∈ L765 ++ [q852] := List.mem_append_left _ m800
  have m890 : q19 ∈ L765 ++ [q852] := List.mem_append_left _ m801
  have m891 : q20 ∈ L765 ++ [q852] := List.mem_append_left _ m802
  have m892 : q21 ∈ L765 ++ [q852] := List.mem_append_left _ m803
  have m893 : q22 ∈ L765 ++ [q852] := List.mem_append_left _ m804
  have m894 : q23 ∈ L765 ++ [q852] := List.mem_append_left _ m805
  have m895 : q24 ∈ L765 ++ [q852] := List.mem_append_left _ m806
  have m896 : q25 ∈ L765 ++ [q852] := List.mem_append_left _ m807
  have m897 : q26 ∈ L765 ++ [q852] := List.mem_append_left _ m808
  have m898 : q27 ∈ L765 ++ [q852] := List.mem_append_left _ m809
  have m899 : q28 ∈ L765 ++ [q852] := List.mem_append_left _ m810
  have m900 : q29 ∈ L765 ++ [q852] := List.mem_append_left _ m811
  have m901 : q30 ∈ L765 ++ [q852] := List.mem_append_left _ m812
  have m902 : q31 ∈ L765 ++ [q852] := List.mem_append_left _ m813
  have m903 : q32 ∈ L765 ++ [q852] := List.mem_append_left _ m814
  have m904 : q33 ∈ L765 ++ [q852] := List.mem_append_left _ m815
  have m905 : q230 ∈ L765 ++ [q852] := List.mem_append_left _ m816
  have m906 : q281 ∈ L765 ++ [q852] := List.mem_append_left _ m817
  have m907 : q350 ∈ L765 ++ [q852] := List.mem_append_left _ m818
  have m908 : q405 ∈ L765 ++ [q852] := List.mem_append_left _ m819
  have m909 : q480 ∈ L765 ++ [q852] := List.mem_append_left _ m820
  have m910 : q539 ∈ L765 ++ [q852] := List.mem_append_left _ m821
  have m911 : q620 ∈ L765 ++ [q852] := List.mem_append_left _ m822
  have m912 : q764 ∈ L765 ++ [q852] := List.mem_append_left _ m768
  have m856 : q852 ∈ L765 ++ [q852] := List.mem_append_right _ (List.mem_singleton.mpr rfl)
  generalize L765 ++ [q852] = L853 at Y s855 m887 m888 m889 m890 m891 m892 m893 m894 m895 m896 m897 m898 m899 m900 m901 m902 m903 m904 m905 m906 m907 m908 m909 m910 m911 m912 m856
  refine lv_dup X.1 X.2.1 d_H_init_96 rfl ?_
  refine x_v (x_runIN (As := []) (rest := [.ref q852, .int (nI 0), .ref q764]) (n := 0) X KR hml hl.1 (c_Pr_init l D E T L853 f858 H.size q852 m856 e859) (ok_k X Y hA KS KR) (by decide) ks_Pr_init ki_Pr_init ini_Pr rfl ⟨rfl, rfl⟩ hd_Pr_init.2 ⟨by decide, by decide⟩ rfl (Nat.le_of_ble_eq_true rfl) d_H_init_97 ⟨(show 38 + 7 ≤ 367 by omega), (show 32237 + (1423) ≤ (53413) by omega)⟩) X Y hA (fun u H locs hp Y => ?_)
  obtain ⟨L915, f914⟩ := u
  obtain ⟨eL917, hF916, q919, q920, o930, g921, m922, nl924, m923, nl925, hg926, e927, e928, e929⟩ := hp
  dsimp only at eL917 hF916 m922 m923 e927 e928 e929 Y
  have e931 : f914 xo = .inr (0, [.ref q1, .ref q230, .ref q350, .ref q480, .ref q764, .ref q620, .null, .null, .null]) := (hF916 xo m887 (q_tag e860 e859 (show (0 : Nat) ≠ 7 by decide))).trans e860
  have e932 : f914 q1 = .inr (11, [.int (nI 1000000000), .ref o183, .ref o184, .ref q18, .ref q25, .ref q30, .int (nI 0), .ref o185, .int (nI 20), .int (nI 0), .ref o186, .ref q31, .ref q32]) := (hF916 q1 m888 (q_tag e861 e859 (show (11 : Nat) ≠ 7 by decide))).trans e861
  have e933 : f914 q18 = .inr (6, [.ref q19, .ref q20, .ref q21, .ref q22, .ref q23, .int (nI 0), .int (nI 0), .ref q24]) := (hF916 q18 m889 (q_tag e862 e859 (show (6 : Nat) ≠ 7 by decide))).trans e862
  have e934 : f914 q19 = .inl (E.2.1, 80, .inl g34) := (hF916 q19 m890 (q_tag e863 e859 (show (1000 : Nat) ≠ 7 by decide))).trans e863
  have e935 : f914 q20 = .inl (E.1, 64, .inl g35) := (hF916 q20 m891 (q_tag e864 e859 (show (1000 : Nat) ≠ 7 by decide))).trans e864
  have e936 : f914 q21 = .inl (E.2.1, 5, .inl g36) := (hF916 q21 m892 (q_tag e865 e859 (show (1000 : Nat) ≠ 7 by decide))).trans e865
  have e937 : f914 q22 = .inl (E.2.1, 5, .inl g37) := (hF916 q22 m893 (q_tag e866 e859 (show (1000 : Nat) ≠ 7 by decide))).trans e866
  have e938 : f914 q23 = .inl (E.2.1, 5, .inl g38) := (hF916 q23 m894 (q_tag e867 e859 (show (1000 : Nat) ≠ 7 by decide))).trans e867
  have e939 : f914 q24 = .inl (E.1, 20, .inl g39) := (hF916 q24 m895 (q_tag e868 e859 (show (1000 : Nat) ≠ 7 by decide))).trans e868
  have e940 : f914 q25 = .inr (1, [.ref o187, .ref q26, .ref q27, .int (nI 0), .ref q28, .ref q29, .ref o188]) := (hF916 q25 m896 (q_tag e869 e859 (show (1 : Nat) ≠ 7 by decide))).trans e869
  have e941 : f914 q26 = .inl (E.2.1, 256, .inl g40) := (hF916 q26 m897 (q_tag e870 e859 (show (1000 : Nat) ≠ 7 by decide))).trans e870
  have e942 : f914 q27 = .inl (E.2.1, 240, .inl g41) := (hF916 q27 m898 (q_tag e871 e859 (show (1000 : Nat) ≠ 7 by decide))).trans e871
  have e943 : f914 q28 = .inl (E.2.1, 16, .inl g42) := (hF916 q28 m899 (q_tag e872 e859 (show (1000 : Nat) ≠ 7 by decide))).trans e872
  have e944 : f914 q29 = .inl (E.2.1, 16, .inl g43) := (hF916 q29 m900 (q_tag e873 e859 (show (1000 : Nat) ≠ 7 by decide))).trans e873
  have e945 : f914 q30 = .inl (E.1, 64, .inl g44) := (hF916 q30 m901 (q_tag e874 e859 (show (1000 : Nat) ≠ 7 by decide))).trans e874
  have e946 : f914 q31 = .inl (E.1, 20, .inl g45) := (hF916 q31 m902 (q_tag e875 e859 (show (1000 : Nat) ≠ 7 by decide))).trans e875
  have e947 : f914 q32 = .inr (3, [.ref q33, .int (nI 0)]) := (hF916 q32 m903 (q_tag e876 e859 (show (3 : Nat) ≠ 7 by decide))).trans e876
  have e948 : f914 q33 = .inl (E.1, 64, .inl g46) := (hF916 q33 m904 (q_tag e877 e859 (show (1000 : Nat) ≠ 7 by decide))).trans e877
  have e949 : f914 q230 = .inr (3, [.ref q281, .int (nI 0)]) := (hF916 q230 m905 (q_tag e878 e859 (show (3 : Nat) ≠ 7 by decide))).trans e878
  have e950 : f914 q281 = .inl (E.1, 4000, .inl g282) := (hF916 q281 m906 (q_tag e879 e859 (show (1000 : Nat) ≠ 7 by decide))).trans e879
  have e951 : f914 q350 = .inr (3, [.ref q405, .int (nI 0)]) := (hF916 q350 m907 (q_tag e880 e859 (show (3 : Nat) ≠ 7 by decide))).trans e880
  have e952 : f914 q405 = .inl (E.1, 12288, .inl g406) := (hF916 q405 m908 (q_tag e881 e859 (show (1000 : Nat) ≠ 7 by decide))).trans e881
  have e953 : f914 q480 = .inr (3, [.ref q539, .int (nI 0)]) := (hF916 q480 m909 (q_tag e882 e859 (show (3 : Nat) ≠ 7 by decide))).trans e882
  have e954 : f914 q539 = .inl (E.1, 40, .inl g540) := (hF916 q539 m910 (q_tag e883 e859 (show (1000 : Nat) ≠ 7 by decide))).trans e883
  have e955 : f914 q620 = .inr (5, [.ref q1, .ref o684, .ref o685, .ref (T.1 0), .int (nI 32)]) := (hF916 q620 m911 (q_tag e884 e859 (show (5 : Nat) ≠ 7 by decide))).trans e884
  have e956 : f914 q764 = .inl (E.2.2.1, 12, .inr (.inr (.inr (.inr (fun _ => none))))) := (hF916 q764 m912 (q_tag e885 e859 (show (1000 : Nat) ≠ 7 by decide))).trans e885
  have hF957 : ∀ x, x ∈ L → x ≠ xo → f914 x = f x := fun x hx h0 => (hF916 x (s855 x hx) (ne_mem nl857 hx)).trans (hF886 x hx h0)
  have s958 : ∀ x, x ∈ L → x ∈ L915 := fun x hx => eL917 x (s855 x hx)
  have nl959 : q919 ∉ L := fun h9 => nl924 (s855 _ h9)
  have nl960 : q920 ∉ L := fun h9 => nl925 (s855 _ h9)
  have m961 : xo ∈ L915 := eL917 _ m887
  have m962 : q1 ∈ L915 := eL917 _ m888
  have m963 : q18 ∈ L915 := eL917 _ m889
  have m964 : q19 ∈ L915 := eL917 _ m890
  have m965 : q20 ∈ L915 := eL917 _ m891
  have m966 : q21 ∈ L915 := eL917 _ m892
  have m967 : q22 ∈ L915 := eL917 _ m893
  have m968 : q23 ∈ L915 := eL917 _ m894
  have m969 : q24 ∈ L915 := eL917 _ m895
  have m970 : q25 ∈ L915 := eL917 _ m896
  have m971 : q26 ∈ L915 := eL917 _ m897
  have m972 : q27 ∈ L915 := eL917 _ m898
  have m973 : q28 ∈ L915 := eL917 _ m899
  have m974 : q29 ∈ L915 := eL917 _ m900
  have m975 : q30 ∈ L915 := eL917 _ m901
  have m976 : q31 ∈ L915 := eL917 _ m902
  have m977 : q32 ∈ L915 := eL917 _ m903
  have m978 : q33 ∈ L915 := eL917 _ m904
  have m979 : q230 ∈ L915 := eL917 _ m905
  have m980 : q281 ∈ L915 := eL917 _ m906
  have m981 : q350 ∈ L915 := eL917 _ m907
  have m982 : q405 ∈ L915 := eL917 _ m908
  have m983 : q480 ∈ L915 := eL917 _ m909
  have m984 : q539 ∈ L915 := eL917 _ m910
  have m985 : q620 ∈ L915 := eL917 _ m911
  have m986 : q764 ∈ L915 := eL917 _ m912
  have m987 : q852 ∈ L915 := eL917 _ m856
  refine q_aast X.1 X.2.1 X.2.2.2.2 Y 2 7 (r := (R_Pr, F_Pr, 13)) m986 e956 rfl m987 e927 rfl (vp_in_nI (by omega) (by omega)) d_H_init_100 (fun H locs Y => ?_)
  rw [nI_clamp (show 0 < 2 ^ 31 by omega)] at Y
  have e989 : (va_up f914 q764 (.inl (E.2.2.1, 12, .inr (.inr (.inr (.inr (va_up (fun _ => none) 0 (some q852)))))))) q764 = .inl (E.2.2.1, 12, .inr (.inr (.inr (.inr (va_up (fun _ => none) 0 (some q852)))))) := q_up
  have e990 : (va_up f914 q764 (.inl (E.2.2.1, 12, .inr (.inr (.inr (.inr (va_up (fun _ => none) 0 (some q852)))))))) xo = .inr (0, [.ref q1, .ref q230, .ref q350, .ref q480, .ref q764, .ref q620, .null, .null, .null]) := (q_ne (q_tag e931 e956 (show (0 : Nat) ≠ 1000 by decide))).trans e931
  have e991 : (va_up f914 q764 (.inl (E.2.2.1, 12, .inr (.inr (.inr (.inr (va_up (fun _ => none) 0 (some q852)))))))) q1 = .inr (11, [.int (nI 1000000000), .ref o183, .ref o184, .ref q18, .ref q25, .ref q30, .int (nI 0), .ref o185, .int (nI 20), .int (nI 0), .ref o186, .ref q31, .ref q32]) := (q_ne (q_tag e932 e956 (show (11 : Nat) ≠ 1000 by decide))).trans e932
  have e992 : (va_up f914 q764 (.inl (E.2.2.1, 12, .inr (.inr (.inr (.inr (va_up (fun _ => none) 0 (some q852)))))))) q18 = .inr (6, [.ref q19, .ref q20, .ref q21, .ref q22, .ref q23, .int (nI 0), .int (nI 0), .ref q24]) := (q_ne (q_tag e933 e956 (show (6 : Nat) ≠ 1000 by decide))).trans e933
  have e993 : (va_up f914 q764 (.inl (E.2.2.1, 12, .inr (.inr (.inr (.inr (va_up (fun _ => none) 0 (some q852)))))))) q19 = .inl (E.2.1, 80, .inl g34) := (q_ne (ne_mem hqq764 m715)).trans e934
  have e994 : (va_up f914 q764 (.inl (E.2.2.1, 12, .inr (.inr (.inr (.inr (va_up (fun _ => none) 0 (some q852)))))))) q20 = .inl (E.1, 64, .inl g35) := (q_ne (ne_mem hqq764 m716)).trans e935
  have e995 : (va_up f914 q764 (.inl (E.2.2.1, 12, .inr (.inr (.inr (.inr (va_up (fun _ => none) 0 (some q852)))))))) q21 = .inl (E.2.1, 5, .inl g36) := (q_ne (ne_mem hqq764 m717)).trans e936
  have e996 : (va_up f914 q764 (.inl (E.2.2.1, 12, .inr (.inr (.inr (.inr (va_up (fun _ => none) 0 (some q852)))))))) q22 = .inl (E.2.1, 5, .inl g37) := (q_ne (ne_mem hqq764 m718)).trans e937
  have e997 : (va_up f914 q764 (.inl (E.2.2.1, 12, .inr (.inr (.inr (.inr (va_up (fun _ => none) 0 (some q852)))))))) q23 = .inl (E.2.1, 5, .inl g38) := (q_ne (ne_mem hqq764 m719)).trans e938
  have e998 : (va_up f914 q764 (.inl (E.2.2.1, 12, .inr (.inr (.inr (.inr (va_up (fun _ => none) 0 (some q852)))))))) q24 = .inl (E.1, 20, .inl g39) := (q_ne (ne_mem hqq764 m720)).trans e939
  have e999 : (va_up f914 q764 (.inl (E.2.2.1, 12, .inr (.inr (.inr (.inr (va_up (fun _ => none) 0 (some q852)))))))) q25 = .inr (1, [.ref o187, .ref q26, .ref q27, .int (nI 0), .ref q28, .ref q29, .ref o188]) := (q_ne (q_tag e940 e956 (show (1 : Nat) ≠ 1000 by decide))).trans e940
  have e1000 : (va_up f914 q764 (.inl (E.2.2.1, 12, .inr (.inr (.inr (.inr (va_up (fun _ => none) 0 (some q852)))))))) q26 = .inl (E.2.1, 256, .inl g40) := (q_ne (ne_mem hqq764 m722)).trans e941
  have e1001 : (va_up f914 q764 (.inl (E.2.2.1, 12, .inr (.inr (.inr (.inr (va_up (fun _ => none) 0 (some q852)))))))) q27 = .inl (E.2.1, 240, .inl g41) := (q_ne (ne_mem hqq764 m723)).trans e942
  have e1002 : (va_up f914 q764 (.inl (E.2.2.1, 12, .inr (.inr (.inr (.inr (va_up (fun _ => none) 0 (some q852)))))))) q28 = .inl (E.2.1, 16, .inl g42) := (q_ne (ne_mem hqq764 m724)).trans e943
  have e1003 : (va_up f914 q764 (.inl (E.2.2.1, 12, .inr (.inr (.inr (.inr (va_up (fun _ => none) 0 (some q852)))))))) q29 = .inl (E.2.1, 16, .inl g43) := (q_ne (ne_mem hqq764 m725)).trans e944
  have e1004 : (va_up f914 q764 (.inl (E.2.2.1, 12, .inr (.inr (.inr (.inr (va_up (fun _ => none) 0 (some q852)))))))) q30 = .inl (E.1, 64, .inl g44) := (q_ne (ne_mem hqq764 m726)).trans e945
  have e1005 : (va_up f914 q764 (.inl (E.2.2.1, 12, .inr (.inr (.inr (.inr (va_up (fun _ => none) 0 (some q852)))))))) q31 = .inl (E.1, 20, .inl g45) := (q_ne (ne_mem hqq764 m727)).trans e946
  have e1006 : (va_up f914 q764 (.inl (E.2.2.1, 12, .inr (.inr (.inr (.inr (va_up (fun _ => none) 0 (some q852)))))))) q32 = .inr (3, [.ref q33, .int (nI 0)]) := (q_ne (q_tag e947 e956 (show (3 : Nat) ≠ 1000 by decide))).trans e947
  have e1007 : (va_up f914 q764 (.inl (E.2.2.1, 12, .inr (.inr (.inr (.inr (va_up (fun _ => none) 0 (some q852)))))))) q33 = .inl (E.1, 64, .inl g46) := (q_ne (ne_mem hqq764 m729)).trans e948
  have e1008 : (va_up f914 q764 (.inl (E.2.2.1, 12, .inr (.inr (.inr (.inr (va_up (fun _ => none) 0 (some q852)))))))) q230 = .inr (3, [.ref q281, .int (nI 0)]) := (q_ne (q_tag e949 e956 (show (3 : Nat) ≠ 1000 by decide))).trans e949
  have e1009 : (va_up f914 q764 (.inl (E.2.2.1, 12, .inr (.inr (.inr (.inr (va_up (fun _ => none) 0 (some q852)))))))) q281 = .inl (E.1, 4000, .inl g282) := (q_ne (ne_mem hqq764 m731)).trans e950
  have e1010 : (va_up f914 q764 (.inl (E.2.2.1, 12, .inr (.inr (.inr (.inr (va_up (fun _ => none) 0 (some q852)))))))) q350 = .inr (3, [.ref q405, .int (nI 0)]) := (q_ne (q_tag e951 e956 (show (3 : Nat) ≠ 1000 by decide))).trans e951
  have e1011 : (va_up f914 q764 (.inl (E.2.2.1, 12, .inr (.inr (.inr (.inr (va_up (fun _ => none) 0 (some q852)))))))) q405 = .inl (E.1, 12288, .inl g406) := (q_ne (ne_mem hqq764 m733)).trans e952
  have e1012 : (va_up f914 q764 (.inl (E.2.2.1, 12, .inr (.inr (.inr (.inr (va_up (fun _ => none) 0 (some q852)))))))) q480 = .inr (3, [.ref q539, .int (nI 0)]) := (q_ne (q_tag e953 e956 (show (3 : Nat) ≠ 1000 by decide))).trans e953
  have e1013 : (va_up f914 q764 (.inl (E.2.2.1, 12, .inr (.inr (.inr (.inr (va_up (fun _ => none) 0 (some q852)))))))) q539 = .inl (E.1, 40, .inl g540) := (q_ne (ne_mem hqq764 m735)).trans e954
  have e1014 : (va_up f914 q764 (.inl (E.2.2.1, 12, .inr (.inr (.inr (.inr (va_up (fun _ => none) 0 (some q852)))))))) q620 = .inr (5, [.ref q1, .ref o684, .ref o685, .ref (T.1 0), .int (nI 32)]) := (q_ne (q_tag e955 e956 (show (5 : Nat) ≠ 1000 by decide))).trans e955
  have e1015 : (va_up f914 q764 (.inl (E.2.2.1, 12, .inr (.inr (.inr (.inr (va_up (fun _ => none) 0 (some q852)))))))) q852 = .inr (7, [.ref q919, .ref o930, .int (nI 0), .int (nI 0), .int (nI 0), .ref (T.1 0), .ref (T.1 0), .ref (T.1 0), .ref (T.1 0), .int (nI 36000), .int (nI 72000), .int (nI 15), .int (nI 0)]) := (q_ne (q_tag e927 e956 (show (7 : Nat) ≠ 1000 by decide))).trans e927
  have e1016 : (va_up f914 q764 (.inl (E.2.2.1, 12, .inr (.inr (.inr (.inr (va_up (fun _ => none) 0 (some q852)))))))) q919 = .inr (3, [.ref q920, .int (nI 0)]) := (q_ne (q_tag e928 e956 (show (3 : Nat) ≠ 1000 by decide))).trans e928
  have e1017 : (va_up f914 q764 (.inl (E.2.2.1, 12, .inr (.inr (.inr (.inr (va_up (fun _ => none) 0 (some q852)))))))) q920 = .inl (E.1, 40, .inl g921) := (q_ne (ne_mem nl925 m912).symm).trans e929
  have hF1018 : ∀ x, x ∈ L → x ≠ xo → (va_up f914 q764 (.inl (E.2.2.1, 12, .inr (.inr (.inr (.inr (va_up (fun _ => none) 0 (some q852)))))))) x = f x := fun x hx h0 => (q_ne (ne_mem nl769 hx)).trans (hF957 x hx h0)
  have Y : pH D cCl (pA L sz) s.heap L915 (va_up f914 q764 (.inl (E.2.2.1, 12, .inr (.inr (.inr (.inr (va_up (fun _ => none) 0 (some q852)))))))) H locs := Y
  generalize (va_up f914 q764 (.inl (E.2.2.1, 12, .inr (.inr (.inr (.inr (va_up (fun _ => none) 0 (some q852)))))))) = f988 at Y e989 e990 e991 e992 e993 e994 e995 e996 e997 e998 e999 e1000 e1001 e1002 e1003 e1004 e1005 e1006 e1007 e1008 e1009 e1010 e1011 e1012 e1013 e1014 e1015 e1016 e1017 hF1018
  refine lv_iinc (v := (nI 1)) (lv' := [(1, .int (nI 1)), (0, .ref xo)]) X.1 X.2.1 d_H_init_101 hl (k := 0) rfl (by decide) (by decide) rfl (fun ls hl => ?_)
  refine lv_goto (tgt := 82) X.1 X.2.1 d_H_init_104 (by decide) ?_
  have lp1019 : ∀ (n1020 i1021 : Nat) (L1022 : List Nat) (f1023 : pF) (g1024 : Nat → Option Nat) (H : Heap) (locs : List Loc) (ls : Array Slot), 12 - i1021 = n1020 → 1 ≤ i1021 → i1021 ≤ 12 → g1024 0 = some q852 → (∀ x, x ∈ L → x ∈ L1022) → xo ∈ L1022 → q1 ∈ L1022 → q18 ∈ L1022 → q19 ∈ L1022 → q20 ∈ L1022 → q21 ∈ L1022 → q22 ∈ L1022 → q23 ∈ L1022 → q24 ∈ L1022 → q25 ∈ L1022 → q26 ∈ L1022 → q27 ∈ L1022 → q28 ∈ L1022 → q29 ∈ L1022 → q30 ∈ L1022 → q31 ∈ L1022 → q32 ∈ L1022 → q33 ∈ L1022 → q230 ∈ L1022 → q281 ∈ L1022 → q350 ∈ L1022 → q405 ∈ L1022 → q480 ∈ L1022 → q539 ∈ L1022 → q620 ∈ L1022 → q764 ∈ L1022 → q852 ∈ L1022 → q919 ∈ L1022 → q920 ∈ L1022 → f1023 xo = .inr (0, [.ref q1, .ref q230, .ref q350, .ref q480, .ref q764, .ref q620, .null, .null, .null]) → f1023 q1 = .inr (11, [.int (nI 1000000000), .ref o183, .ref o184, .ref q18, .ref q25, .ref q30, .int (nI 0), .ref o185, .int (nI 20), .int (nI 0), .ref o186, .ref q31, .ref q32]) → f1023 q18 = .inr (6, [.ref q19, .ref q20, .ref q21, .ref q22, .ref q23, .int (nI 0), .int (nI 0), .ref q24]) → f1023 q19 = .inl (E.2.1, 80, .inl g34) → f1023 q20 = .inl (E.1, 64, .inl g35) → f1023 q21 = .inl (E.2.1, 5, .inl g36) → f1023 q22 = .inl (E.2.1, 5, .inl g37) → f1023 q23 = .inl (E.2.1, 5, .inl g38) → f1023 q24 = .inl (E.1, 20, .inl g39) → f1023 q25 = .inr (1, [.ref o187, .ref q26, .ref q27, .int (nI 0), .ref q28, .ref q29, .ref o188]) → f1023 q26 = .inl (E.2.1, 256, .inl g40) → f1023 q27 = .inl (E.2.1, 240, .inl g41) → f1023 q28 = .inl (E.2.1, 16, .inl g42) → f1023 q29 = .inl (E.2.1, 16, .inl g43) → f1023 q30 = .inl (E.1, 64, .inl g44) → f1023 q31 = .inl (E.1, 20, .inl g45) → f1023 q32 = .inr (3, [.ref q33, .int (nI 0)]) → f1023 q33 = .inl (E.1, 64, .inl g46) → f1023 q230 = .inr (3, [.ref q281, .int (nI 0)]) → f1023 q281 = .inl (E.1, 4000, .inl g282) → f1023 q350 = .inr (3, [.ref q405, .int (nI 0)]) → f1023 q405 = .inl (E.1, 12288, .inl g406) → f1023 q480 = .inr (3, [.ref q539, .int (nI 0)]) → f1023 q539 = .inl (E.1, 40, .inl g540) → f1023 q620 = .inr (5, [.ref q1, .ref o684, .ref o685, .ref (T.1 0), .int (nI 32)]) → f1023 q764 = .inl (E.2.2.1, 12, .inr (.inr (.inr (.inr g1024)))) → f1023 q852 = .inr (7, [.ref q919, .ref o930, .int (nI 0), .int (nI 0), .int (nI 0), .ref (T.1 0), .ref (T.1 0), .ref (T.1 0), .ref (T.1 0), .int (nI 36000), .int (nI 72000), .int (nI 15), .int (nI 0)]) → f1023 q919 = .inr (3, [.ref q920, .int (nI 0)]) → f1023 q920 = .inl (E.1, 40, .inl g921) → (∀ x, x ∈ L → x ≠ xo → f1023 x = f x) → wP 7 2 1 i1021 q852 f1023 (L1022) g1024 → pH D cCl (pA L sz) s.heap L1022 f1023 H locs → lv_has ls 2 [(1, .int (nI i1021)), (0, .ref xo)] → W p l e (kRm 8 189 367 (53413)) s m AV below meth c H locs (37 + i1021 * 8) (32224 + i1021 * 1436) QQ (F0 m 82 ls []) := by
    intro n1020
    induction n1020 with
    | zero =>
      intro i1021 L1022 f1023 g1024 H locs ls hm1026 hc1027 hc1028 hz1089 s1029 m1031 m1032 m1033 m1034 m1035 m1036 m1037 m1038 m1039 m1040 m1041 m1042 m1043 m1044 m1045 m1046 m1047 m1048 m1049 m1050 m1051 m1052 m1053 m1054 m1055 m1056 m1057 m1058 m1059 e1060 e1061 e1062 e1063 e1064 e1065 e1066 e1067 e1068 e1069 e1070 e1071 e1072 e1073 e1074 e1075 e1076 e1077 e1078 e1079 e1080 e1081 e1082 e1083 e1084 e1085 e1086 e1087 e1088 hF1030 wh1090 Y hl
      obtain rfl : i1021 = 12 := (by omega)
      refine lv_iload_n X.1 X.2.1 d_H_init_82 rfl (lv_at hl 0 rfl) ?_
      refine lv_bipush (v := (nI 12)) X.1 X.2.1 d_H_init_83 (by decide) ?_
      refine lv_icmp_ge (tgt := 107) X.1 X.2.1 d_H_init_85 (by decide) (fun c1091 => ?_) (fun c1091 => absurd ?_ c1091)
      rotate_left
      · (rw [nI_leI (by omega) (by omega)] <;> omega)
      rw [nI_leI (by omega) (by omega)] at c1091
      refine lv_aload_n X.1 X.2.1 d_H_init_107 rfl (lv_at hl 1 rfl) ?_
      refine lv_iconst (v := (nI 4)) X.1 X.2.1 d_H_init_108 (by decide) ?_
      refine q_anew X.1 X.2.1 X.2.2.2.1 (X.2.2.1 _ ck_H_47) (KR.2.2.2 _ (by decide)) X.2.2.2.2 3 (cE := E.2.2.2.1) rfl Y hA (nI_pos (by omega)) (nI_clamp (by omega)) (by decide) (show 133 + 1 ≤ 367 by omega) (show 49456 + 4 ≤ (53413) by omega) d_H_init_109 (fun q1092 H hqq1092 Y => ?_)
      have Y : pH D cCl (pA L sz) s.heap (L1022 ++ [q1092]) (va_up f1023 q1092 (.inl (E.2.2.2.1, 4, .inr (.inr (.inr (.inr (fun _ => none))))))) H locs := Y
      have e1099 : (va_up f1023 q1092 (.inl (E.2.2.2.1, 4, .inr (.inr (.inr (.inr (fun _ => none))))))) q1092 = .inl (E.2.2.2.1, 4, .inr (.inr (.inr (.inr (fun _ => none))))) := q_up
      have e1100 : (va_up f1023 q1092 (.inl (E.2.2.2.1, 4, .inr (.inr (.inr (.inr (fun _ => none))))))) xo = .inr (0, [.ref q1, .ref q230, .ref q350, .ref q480, .ref q764, .ref q620, .null, .null, .null]) := (q_ne (ne_mem hqq1092 m1031)).trans e1060
      have e1101 : (va_up f1023 q1092 (.inl (E.2.2.2.1, 4, .inr (.inr (.inr (.inr (fun _ => none))))))) q1 = .inr (11, [.int (nI 1000000000), .ref o183, .ref o184, .ref q18, .ref q25, .ref q30, .int (nI 0), .ref o185, .int (nI 20), .int (nI 0), .ref o186, .ref q31, .ref q32]) := (q_ne (ne_mem hqq1092 m1032)).trans e1061
      have e1102 : (va_up f1023 q1092 (.inl (E.2.2.2.1, 4, .inr (.inr (.inr (.inr (fun _ => none))))))) q18 = .inr (6, [.ref q19, .ref q20, .ref q21, .ref q22, .ref q23, .int (nI 0), .int (nI 0), .ref q24]) := (q_ne (ne_mem hqq1092 m1033)).trans e1062
      have e1103 : (va_up f1023 q1092 (.inl (E.2.2.2.1, 4, .inr (.inr (.inr (.inr (fun _ => none))))))) q19 = .inl (E.2.1, 80, .inl g34) := (q_ne (ne_mem hqq1092 m1034)).trans e1063
      have e1104 : (va_up f1023 q1092 (.inl (E.2.2.2.1, 4, .inr (.inr (.inr (.inr (fun _ => none))))))) q20 = .inl (E.1, 64, .inl g35) := (q_ne (ne_mem hqq1092 m1035)).trans e1064
      have e1105 : (va_up f1023 q1092 (.inl (E.2.2.2.1, 4, .inr (.inr (.inr (.inr (fun _ => none))))))) q21 = .inl (E.2.1, 5, .inl g36) := (q_ne (ne_mem hqq1092 m1036)).trans e1065
      have e1106 : (va_up f1023 q1092 (.inl (E.2.2.2.1, 4, .inr (.inr (.inr (.inr (fun _ => none))))))) q22 = .inl (E.2.1, 5, .inl g37) := (q_ne (ne_mem hqq1092 m1037)).trans e1066
      have e1107 : (va_up f1023 q1092 (.inl (E.2.2.2.1, 4, .inr (.inr (.inr (.inr (fun _ => none))))))) q23 = .inl (E.2.1, 5, .inl g38) := (q_ne (ne_mem hqq1092 m1038)).trans e1067
      have e1108 : (va_up f1023 q1092 (.inl (E.2.2.2.1, 4, .inr (.inr (.inr (.inr (fun _ => none))))))) q24 = .inl (E.1, 20, .inl g39) := (q_ne (ne_mem hqq1092 m1039)).trans e1068
      have e1109 : (va_up f1023 q1092 (.inl (E.2.2.2.1, 4, .inr (.inr (.inr (.inr (fun _ => none))))))) q25 = .inr (1, [.ref o187, .ref q26, .ref q27, .int (nI 0), .ref q28, .ref q29, .ref o188]) := (q_ne (ne_mem hqq1092 m1040)).trans e1069
      have e1110 : (va_up f1023 q1092 (.inl (E.2.2.2.1, 4, .inr (.inr (.inr (.inr (fun _ => none))))))) q26 = .inl (E.2.1, 256, .inl g40) := (q_ne (ne_mem hqq1092 m1041)).trans e1070
      have e1111 : (va_up f1023 q1092 (.inl (E.2.2.2.1, 4, .inr (.inr (.inr (.inr (fun _ => none))))))) q27 = .inl (E.2.1, 240, .inl g41) := (q_ne (ne_mem hqq1092 m1042)).trans e1071
      have e1112 : (va_up f1023 q1092 (.inl (E.2.2.2.1, 4, .inr (.inr (.inr (.inr (fun _ => none))))))) q28 = .inl (E.2.1, 16, .inl g42) := (q_ne (ne_mem hqq1092 m1043)).trans e1072
      have e1113 : (va_up f1023 q1092 (.inl (E.2.2.2.1, 4, .inr (.inr (.inr (.inr (fun _ => none))))))) q29 = .inl (E.2.1, 16, .inl g43) := (q_ne (ne_mem hqq1092 m1044)).trans e1073
      have e1114 : (va_up f1023 q1092 (.inl (E.2.2.2.1, 4, .inr (.inr (.inr (.inr (fun _ => none))))))) q30 = .inl (E.1, 64, .inl g44) := (q_ne (ne_mem hqq1092 m1045)).trans e1074
      have e1115 : (va_up f1023 q1092 (.inl (E.2.2.2.1, 4, .inr (.inr (.inr (.inr (fun _ => none))))))) q31 = .inl (E.1, 20, .inl g45) := (q_ne (ne_mem hqq1092 m1046)).trans e1075
      have e1116 : (va_up f1023 q1092 (.inl (E.2.2.2.1, 4, .inr (.inr (.inr (.inr (fun _ => none))))))) q32 = .inr (3, [.ref q33, .int (nI 0)]) := (q_ne (ne_mem hqq1092 m1047)).trans e1076
      have e1117 : (va_up f1023 q1092 (.inl (E.2.2.2.1, 4, .inr (.inr (.inr (.inr (fun _ => none))))))) q33 = .inl (E.1, 64, .inl g46) := (q_ne (ne_mem hqq1092 m1048)).trans e1077
      have e1118 : (va_up f1023 q1092 (.inl (E.2.2.2.1, 4, .inr (.inr (.inr (.inr (fun _ => none))))))) q230 = .inr (3, [.ref q281, .int (nI 0)]) := (q_ne (ne_mem hqq1092 m1049)).trans e1078
      have e1119 : (va_up f1023 q1092 (.inl (E.2.2.2.1, 4, .inr (.inr (.inr (.inr (fun _ => none))))))) q281 = .inl (E.1, 4000, .inl g282) := (q_ne (ne_mem hqq1092 m1050)).trans e1079
      have e1120 : (va_up f1023 q1092 (.inl (E.2.2.2.1, 4, .inr (.inr (.inr (.inr (fun _ => none))))))) q350 = .inr (3, [.ref q405, .int (nI 0)]) := (q_ne (ne_mem hqq1092 m1051)).trans e1080
      have e1121 : (va_up f1023 q1092 (.inl (E.2.2.2.1, 4, .inr (.inr (.inr (.inr (fun _ => none))))))) q405 = .inl (E.1, 12288, .inl g406) := (q_ne (ne_mem hqq1092 m1052)).trans e1081
      have e1122 : (va_up f1023 q1092 (.inl (E.2.2.2.1, 4, .inr (.inr (.inr (.inr (fun _ => none))))))) q480 = .inr (3, [.ref q539, .int (nI 0)]) := (q_ne (ne_mem hqq1092 m1053)).trans e1082
      have e1123 : (va_up f1023 q1092 (.inl (E.2.2.2.1, 4, .inr (.inr (.inr (.inr (fun _ => none))))))) q539 = .inl (E.1, 40, .inl g540) := (q_ne (ne_mem hqq1092 m1054)).trans e1083
      have e1124 : (va_up f1023 q1092 (.inl (E.2.2.2.1, 4, .inr (.inr (.inr (.inr (fun _ => none))))))) q620 = .inr (5, [.ref q1, .ref o684, .ref o685, .ref (T.1 0), .int (nI 32)]) := (q_ne (ne_mem hqq1092 m1055)).trans e1084
      have e1125 : (va_up f1023 q1092 (.inl (E.2.2.2.1, 4, .inr (.inr (.inr (.inr (fun _ => none))))))) q764 = .inl (E.2.2.1, 12, .inr (.inr (.inr (.inr g1024)))) := (q_ne (ne_mem hqq1092 m1056)).trans e1085
      have e1126 : (va_up f1023 q1092 (.inl (E.2.2.2.1, 4, .inr (.inr (.inr (.inr (fun _ => none))))))) q852 = .inr (7, [.ref q919, .ref o930, .int (nI 0), .int (nI 0), .int (nI 0), .ref (T.1 0), .ref (T.1 0), .ref (T.1 0), .ref (T.1 0), .int (nI 36000), .int (nI 72000), .int (nI 15), .int (nI 0)]) := (q_ne (ne_mem hqq1092 m1057)).trans e1086
      have e1127 : (va_up f1023 q1092 (.inl (E.2.2.2.1, 4, .inr (.inr (.inr (.inr (fun _ => none))))))) q919 = .inr (3, [.ref q920, .int (nI 0)]) := (q_ne (ne_mem hqq1092 m1058)).trans e1087
      have e1128 : (va_up f1023 q1092 (.inl (E.2.2.2.1, 4, .inr (.inr (.inr (.inr (fun _ => none))))))) q920 = .inl (E.1, 40, .inl g921) := (q_ne (ne_mem hqq1092 m1059)).trans e1088
      have nl1097 : q1092 ∉ L := fun h9 => hqq1092 (s1029 _ h9)
      have hF1129 : ∀ x, x ∈ L → x ≠ xo → (va_up f1023 q1092 (.inl (E.2.2.2.1, 4, .inr (.inr (.inr (.inr (fun _ => none))))))) x = f x := fun x hx h0 => (q_ne (ne_mem nl1097 hx)).trans (hF1030 x hx h0)
      have wh1130 : wP 7 2 1 12 q852 (va_up f1023 q1092 (.inl (E.2.2.2.1, 4, .inr (.inr (.inr (.inr (fun _ => none))))))) (L1022 ++ [q1092]) g1024 := wP_keep wh1090 (fun _ h9 => List.mem_append_left _ h9) (fun x hx h0 ht => q_ne (ne_mem hqq1092 hx))
      generalize (va_up f1023 q1092 (.inl (E.2.2.2.1, 4, .inr (.inr (.inr (.inr (fun _ => none))))))) = f1098 at Y e1099 e1100 e1101 e1102 e1103 e1104 e1105 e1106 e1107 e1108 e1109 e1110 e1111 e1112 e1113 e1114 e1115 e1116 e1117 e1118 e1119 e1120 e1121 e1122 e1123 e1124 e1125 e1126 e1127 e1128 hF1129 wh1130
      have s1095 : ∀ x, x ∈ L → x ∈ L1022 ++ [q1092] := fun x hx => List.mem_append_left _ (s1029 x hx)
      have m1131 : xo ∈ L1022 ++ [q1092] := List.mem_append_left _ m1031
      have m1132 : q1 ∈ L1022 ++ [q1092] := List.mem_append_left _ m1032
      have m1133 : q18 ∈ L1022 ++ [q1092] := List.mem_append_left _ m1033
      have m1134 : q19 ∈ L1022 ++ [q1092] := List.mem_append_left _ m1034
      have m1135 : q20 ∈ L1022 ++ [q1092] := List.mem_append_left _ m1035
      have m1136 : q21 ∈ L1022 ++ [q1092] := List.mem_append_left _ m1036
      have m1137 : q22 ∈ L1022 ++ [q1092] := List.mem_append_left _ m1037
      have m1138 : q23 ∈ L1022 ++ [q1092] := List.mem_append_left _ m1038
      have m1139 : q24 ∈ L1022 ++ [q1092] := List.mem_append_left _ m1039
      have m1140 : q25 ∈ L1022 ++ [q1092] := List.mem_append_left _ m1040
      have m1141 : q26 ∈ L1022 ++ [q1092] := List.mem_append_left _ m1041
      have m1142 : q27 ∈ L1022 ++ [q1092] := List.mem_append_left _ m1042
      have m1143 : q28 ∈ L1022 ++ [q1092] := List.mem_append_left _ m1043
      have m1144 : q29 ∈ L1022 ++ [q1092] := List.mem_append_left _ m1044
      have m1145 : q30 ∈ L1022 ++ [q1092] := List.mem_append_left _ m1045
      have m1146 : q31 ∈ L1022 ++ [q1092] := List.mem_append_left _ m1046
      have m1147 : q32 ∈ L1022 ++ [q1092] := List.mem_append_left _ m1047
      have m1148 : q33 ∈ L1022 ++ [q1092] := List.mem_append_left _ m1048
      have m1149 : q230 ∈ L1022 ++ [q1092] := List.mem_append_left _ m1049
      have m1150 : q281 ∈ L1022 ++ [q1092] := List.mem_append_left _ m1050
      have m1151 : q350 ∈ L1022 ++ [q1092] := List.mem_append_left _ m1051
      have m1152 : q405 ∈ L1022 ++ [q1092] := List.mem_append_left _ m1052
      have m1153 : q480 ∈ L1022 ++ [q1092] := List.mem_append_left _ m1053
      have m1154 : q539 ∈ L1022 ++ [q1092] := List.mem_append_left _ m1054
      have m1155 : q620 ∈ L1022 ++ [q1092] := List.mem_append_left _ m1055
      have m1156 : q764 ∈ L1022 ++ [q1092] := List.mem_append_left _ m1056
      have m1157 : q852 ∈ L1022 ++ [q1092] := List.mem_append_left _ m1057
      have m1158 : q919 ∈ L1022 ++ [q1092] := List.mem_append_left _ m1058
      have m1159 : q920 ∈ L1022 ++ [q1092] := List.mem_append_left _ m1059
      have m1096 : q1092 ∈ L1022 ++ [q1092] := List.mem_append_right _ (List.mem_singleton.mpr rfl)
      generalize L1022 ++ [q1092] = L1093 at Y s1095 m1131 m1132 m1133 m1134 m1135 m1136 m1137 m1138 m1139 m1140 m1141 m1142 m1143 m1144 m1145 m1146 m1147 m1148 m1149 m1150 m1151 m1152 m1153 m1154 m1155 m1156 m1157 m1158 m1159 m1096 wh1130
      refine q_putF X.1 X.2.1 X.2.2.1 i_H t_H t_H_ok n_H X.2.2.2.1 X.2.2.2.2 Y m1131 e1100 rfl 7 (by decide) (X.2.2.1 _ lk_H_49) (fun _ h9 => h9) rfl hin rfl (t_H_ok 7 (by decide)) rfl rfl (Nat.le_of_ble_eq_true rfl) d_H_init_112 (fun H locs Y => ?_)
      have e1161 : (va_up f1098 xo (.inr (0, [.ref q1, .ref q230, .ref q350, .ref q480, .ref q764, .ref q620, .null, .ref q1092, .null]))) xo = .inr (0, [.ref q1, .ref q230, .ref q350, .ref q480, .ref q764, .ref q620, .null, .ref q1092, .null]) := q_up
      have e1162 : (va_up f1098 xo (.inr (0, [.ref q1, .ref q230, .ref q350, .ref q480, .ref q764, .ref q620, .null, .ref q1092, .null]))) q1 = .inr (11, [.int (nI 1000000000), .ref o183, .ref o184, .ref q18, .ref q25, .ref q30, .int (nI 0), .ref o185, .int (nI 20), .int (nI 0), .ref o186, .ref q31, .ref q32]) := (q_ne (q_tag e1101 e1100 (show (11 : Nat) ≠ 0 by decide))).trans e1101
      have e1163 : (va_up f1098 xo (.inr (0, [.ref q1, .ref q230, .ref q350, .ref q480, .ref q764, .ref q620, .null, .ref q1092, .null]))) q18 = .inr (6, [.ref q19, .ref q20, .ref q21, .ref q22, .ref q23, .int (nI 0), .int (nI 0), .ref q24]) := (q_ne (q_tag e1102 e1100 (show (6 : Nat) ≠ 0 by decide))).trans e1102
      have e1164 : (va_up f1098 xo (.inr (0, [.ref q1, .ref q230, .ref q350, .ref q480, .ref q764, .ref q620, .null, .ref q1092, .null]))) q19 = .inl (E.2.1, 80, .inl g34) := (q_ne (q_tag e1103 e1100 (show (1000 : Nat) ≠ 0 by decide))).trans e1103
      have e1165 : (va_up f1098 xo (.inr (0, [.ref q1, .ref q230, .ref q350, .ref q480, .ref q764, .ref q620, .null, .ref q1092, .null]))) q20 = .inl (E.1, 64, .inl g35) := (q_ne (q_tag e1104 e1100 (show (1000 : Nat) ≠ 0 by decide))).trans e1104
      have e1166 : (va_up f1098 xo (.inr (0, [.ref q1, .ref q230, .ref q350, .ref q480, .ref q764, .ref q620, .null, .ref q1092, .null]))) q21 = .inl (E.2.1, 5, .inl g36) := (q_ne (q_tag e1105 e1100 (show (1000 : Nat) ≠ 0 by decide))).trans e1105
      have e1167 : (va_up f1098 xo (.inr (0, [.ref q1, .ref q230, .ref q350, .ref q480, .ref q764, .ref q620, .null, .ref q1092, .null]))) q22 = .inl (E.2.1, 5, .inl g37) := (q_ne (q_tag e1106 e1100 (show (1000 : Nat) ≠ 0 by decide))).trans e1106
      have e1168 : (va_up f1098 xo (.inr (0, [.ref q1, .ref q230, .ref q350, .ref q480, .ref q764, .ref q620, .null, .ref q1092, .null]))) q23 = .inl (E.2.1, 5, .inl g38) := (q_ne (q_tag e1107 e1100 (show (1000 : Nat) ≠ 0 by decide))).trans e1107
      have e1169 : (va_up f1098 xo (.inr (0, [.ref q1, .ref q230, .ref q350, .ref q480, .ref q764, .ref q620, .null, .ref q1092, .null]))) q24 = .inl (E.1, 20, .inl g39) := (q_ne (q_tag e1108 e1100 (show (1000 : Nat) ≠ 0 by decide))).trans e1108
      have e1170 : (va_up f1098 xo (.inr (0, [.ref q1, .ref q230, .ref q350, .ref q480, .ref q764, .ref q620, .null, .ref q1092, .null]))) q25 = .inr (1, [.ref o187, .ref q26, .ref q27, .int (nI 0), .ref q28, .ref q29, .ref o188]) := (q_ne (q_tag e1109 e1100 (show (1 : Nat) ≠ 0 by decide))).trans e1109
      have e1171 : (va_up f1098 xo (.inr (0, [.ref q1, .ref q230, .ref q350, .ref q480, .ref q764, .ref q620, .null, .ref q1092, .null]))) q26 = .inl (E.2.1, 256, .inl g40) := (q_ne (q_tag e1110 e1100 (show (1000 : Nat) ≠ 0 by decide))).trans e1110
      have e1172 : (va_up f1098 xo (.inr (0, [.ref q1, .ref q230, .ref q350, .ref q480, .ref q764, .ref q620, .null, .ref q1092, .null]))) q27 = .inl (E.2.1, 240, .inl g41) := (q_ne (q_tag e1111 e1100 (show (1000 : Nat) ≠ 0 by decide))).trans e1111
      have e1173 : (va_up f1098 xo (.inr (0, [.ref q1, .ref q230, .ref q350, .ref q480, .ref q764, .ref q620, .null, .ref q1092, .null]))) q28 = .inl (E.2.1, 16, .inl g42) := (q_ne (q_tag e1112 e1100 (show (1000 : Nat) ≠ 0 by decide))).trans e1112
      have e1174 : (va_up f1098 xo (.inr (0, [.ref q1, .ref q230, .ref q350, .ref q480, .ref q764, .ref q620, .null, .ref q1092, .null]))) q29 = .inl (E.2.1, 16, .inl g43) := (q_ne (q_tag e1113 e1100 (show (1000 : Nat) ≠ 0 by decide))).trans e1113
      have e1175 : (va_up f1098 xo (.inr (0, [.ref q1, .ref q230, .ref q350, .ref q480, .ref q764, .ref q620, .null, .ref q1092, .null]))) q30 = .inl (E.1, 64, .inl g44) := (q_ne (q_tag e1114 e1100 (show (1000 : Nat) ≠ 0 by decide))).trans e1114
      have e1176 : (va_up f1098 xo (.inr (0, [.ref q1, .ref q230, .ref q350, .ref q480, .ref q764, .ref q620, .null, .ref q1092, .null]))) q31 = .inl (E.1, 20, .inl g45) := (q_ne (q_tag e1115 e1100 (show (1000 : Nat) ≠ 0 by decide))).trans e1115
      have e1177 : (va_up f1098 xo (.inr (0, [.ref q1, .ref q230, .ref q350, .ref q480, .ref q764, .ref q620, .null, .ref q1092, .null]))) q32 = .inr (3, [.ref q33, .int (nI 0)]) := (q_ne (q_tag e1116 e1100 (show (3 : Nat) ≠ 0 by decide))).trans e1116
      have e1178 : (va_up f1098 xo (.inr (0, [.ref q1, .ref q230, .ref q350, .ref q480, .ref q764, .ref q620, .null, .ref q1092, .null]))) q33 = .inl (E.1, 64, .inl g46) := (q_ne (q_tag e1117 e1100 (show (1000 : Nat) ≠ 0 by decide))).trans e1117
      have e1179 : (va_up f1098 xo (.inr (0, [.ref q1, .ref q230, .ref q350, .ref q480, .ref q764, .ref q620, .null, .ref q1092, .null]))) q230 = .inr (3, [.ref q281, .int (nI 0)]) := (q_ne (q_tag e1118 e1100 (show (3 : Nat) ≠ 0 by decide))).trans e1118
      have e1180 : (va_up f1098 xo (.inr (0, [.ref q1, .ref q230, .ref q350, .ref q480, .ref q764, .ref q620, .null, .ref q1092, .null]))) q281 = .inl (E.1, 4000, .inl g282) := (q_ne (q_tag e1119 e1100 (show (1000 : Nat) ≠ 0 by decide))).trans e1119
      have e1181 : (va_up f1098 xo (.inr (0, [.ref q1, .ref q230, .ref q350, .ref q480, .ref q764, .ref q620, .null, .ref q1092, .null]))) q350 = .inr (3, [.ref q405, .int (nI 0)]) := (q_ne (q_tag e1120 e1100 (show (3 : Nat) ≠ 0 by decide))).trans e1120
      have e1182 : (va_up f1098 xo (.inr (0, [.ref q1, .ref q230, .ref q350, .ref q480, .ref q764, .ref q620, .null, .ref q1092, .null]))) q405 = .inl (E.1, 12288, .inl g406) := (q_ne (q_tag e1121 e1100 (show (1000 : Nat) ≠ 0 by decide))).trans e1121
      have e1183 : (va_up f1098 xo (.inr (0, [.ref q1, .ref q230, .ref q350, .ref q480, .ref q764, .ref q620, .null, .ref q1092, .null]))) q480 = .inr (3, [.ref q539, .int (nI 0)]) := (q_ne (q_tag e1122 e1100 (show (3 : Nat) ≠ 0 by decide))).trans e1122
      have e1184 : (va_up f1098 xo (.inr (0, [.ref q1, .ref q230, .ref q350, .ref q480, .ref q764, .ref q620, .null, .ref q1092, .null]))) q539 = .inl (E.1, 40, .inl g540) := (q_ne (q_tag e1123 e1100 (show (1000 : Nat) ≠ 0 by decide))).trans e1123
      have e1185 : (va_up f1098 xo (.inr (0, [.ref q1, .ref q230, .ref q350, .ref q480, .ref q764, .ref q620, .null, .ref q1092, .null]))) q620 = .inr (5, [.ref q1, .ref o684, .ref o685, .ref (T.1 0), .int (nI 32)]) := (q_ne (q_tag e1124 e1100 (show (5 : Nat) ≠ 0 by decide))).trans e1124
      have e1186 : (va_up f1098 xo (.inr (0, [.ref q1, .ref q230, .ref q350, .ref q480, .ref q764, .ref q620, .null, .ref q1092, .null]))) q764 = .inl (E.2.2.1, 12, .inr (.inr (.inr (.inr g1024)))) := (q_ne (q_tag e1125 e1100 (show (1000 : Nat) ≠ 0 by decide))).trans e1125
      have e1187 : (va_up f1098 xo (.inr (0, [.ref q1, .ref q230, .ref q350, .ref q480, .ref q764, .ref q620, .null, .ref q1092, .null]))) q852 = .inr (7, [.ref q919, .ref o930, .int (nI 0), .int (nI 0), .int (nI 0), .ref (T.1 0), .ref (T.1 0), .ref (T.1 0), .ref (T.1 0), .int (nI 36000), .int (nI 72000), .int (nI 15), .int (nI 0)]) := (q_ne (q_tag e1126 e1100 (show (7 : Nat) ≠ 0 by decide))).trans e1126
      have e1188 : (va_up f1098 xo (.inr (0, [.ref q1, .ref q230, .ref q350, .ref q480, .ref q764, .ref q620, .null, .ref q1092, .null]))) q919 = .inr (3, [.ref q920, .int (nI 0)]) := (q_ne (q_tag e1127 e1100 (show (3 : Nat) ≠ 0 by decide))).trans e1127
      have e1189 : (va_up f1098 xo (.inr (0, [.ref q1, .ref q230, .ref q350, .ref q480, .ref q764, .ref q620, .null, .ref q1092, .null]))) q920 = .inl (E.1, 40, .inl g921) := (q_ne (q_tag e1128 e1100 (show (1000 : Nat) ≠ 0 by decide))).trans e1128
      have e1190 : (va_up f1098 xo (.inr (0, [.ref q1, .ref q230, .ref q350, .ref q480, .ref q764, .ref q620, .null, .ref q1092, .null]))) q1092 = .inl (E.2.2.2.1, 4, .inr (.inr (.inr (.inr (fun _ => none))))) := (q_ne (q_tag e1099 e1100 (show (1000 : Nat) ≠ 0 by decide))).trans e1099
      have hF1191 : ∀ x, x ∈ L → x ≠ xo → (va_up f1098 xo (.inr (0, [.ref q1, .ref q230, .ref q350, .ref q480, .ref q764, .ref q620, .null, .ref q1092, .null]))) x = f x := fun x hx h0 => (q_ne h0).trans (hF1129 x hx h0)
      have wh1192 : wP 7 2 1 12 q852 (va_up f1098 xo (.inr (0, [.ref q1, .ref q230, .ref q350, .ref q480, .ref q764, .ref q620, .null, .ref q1092, .null]))) (L1093) g1024 := wP_keep wh1130 (fun _ h9 => h9) (fun x hx h0 ht => q_ne (q_tn ht e1100 (show (0 : Nat) ≠ 7 by decide)))
      have Y : pH D cCl (pA L sz) s.heap L1093 (va_up f1098 xo (.inr (0, [.ref q1, .ref q230, .ref q350, .ref q480, .ref q764, .ref q620, .null, .ref q1092, .null]))) H locs := Y
      generalize (va_up f1098 xo (.inr (0, [.ref q1, .ref q230, .ref q350, .ref q480, .ref q764, .ref q620, .null, .ref q1092, .null]))) = f1160 at Y e1161 e1162 e1163 e1164 e1165 e1166 e1167 e1168 e1169 e1170 e1171 e1172 e1173 e1174 e1175 e1176 e1177 e1178 e1179 e1180 e1181 e1182 e1183 e1184 e1185 e1186 e1187 e1188 e1189 e1190 hF1191 wh1192
      refine lv_iconst (v := (nI 0)) X.1 X.2.1 d_H_init_115 (by decide) ?_
      refine lv_istore_n (lv' := [(1, .int (nI 0)), (0, .ref xo)]) X.1 X.2.1 d_H_init_116 rfl hl (by decide) rfl (fun ls hl => ?_)
      have lp1193 : ∀ (n1194 i1195 : Nat) (L1196 : List Nat) (f1197 : pF) (g1198 : Nat → Option Nat) (H : Heap) (locs : List Loc) (ls : Array Slot), 4 - i1195 = n1194 → 0 ≤ i1195 → i1195 ≤ 4 → (∀ x, x ∈ L → x ∈ L1196) → xo ∈ L1196 → q1 ∈ L1196 → q18 ∈ L1196 → q19 ∈ L1196 → q20 ∈ L1196 → q21 ∈ L1196 → q22 ∈ L1196 → q23 ∈ L1196 → q24 ∈ L1196 → q25 ∈ L1196 → q26 ∈ L1196 → q27 ∈ L1196 → q28 ∈ L1196 → q29 ∈ L1196 → q30 ∈ L1196 → q31 ∈ L1196 → q32 ∈ L1196 → q33 ∈ L1196 → q230 ∈ L1196 → q281 ∈ L1196 → q350 ∈ L1196 → q405 ∈ L1196 → q480 ∈ L1196 → q539 ∈ L1196 → q620 ∈ L1196 → q764 ∈ L1196 → q852 ∈ L1196 → q919 ∈ L1196 → q920 ∈ L1196 → q1092 ∈ L1196 → f1197 xo = .inr (0, [.ref q1, .ref q230, .ref q350, .ref q480, .ref q764, .ref q620, .null, .ref q1092, .null]) → f1197 q1 = .inr (11, [.int (nI 1000000000), .ref o183, .ref o184, .ref q18, .ref q25, .ref q30, .int (nI 0), .ref o185, .int (nI 20), .int (nI 0), .ref o186, .ref q31, .ref q32]) → f1197 q18 = .inr (6, [.ref q19, .ref q20, .ref q21, .ref q22, .ref q23, .int (nI 0), .int (nI 0), .ref q24]) → f1197 q19 = .inl (E.2.1, 80, .inl g34) → f1197 q20 = .inl (E.1, 64, .inl g35) → f1197 q21 = .inl (E.2.1, 5, .inl g36) → f1197 q22 = .inl (E.2.1, 5, .inl g37) → f1197 q23 = .inl (E.2.1, 5, .inl g38) → f1197 q24 = .inl (E.1, 20, .inl g39) → f1197 q25 = .inr (1, [.ref o187, .ref q26, .ref q27, .int (nI 0), .ref q28, .ref q29, .ref o188]) → f1197 q26 = .inl (E.2.1, 256, .inl g40) → f1197 q27 = .inl (E.2.1, 240, .inl g41) → f1197 q28 = .inl (E.2.1, 16, .inl g42) → f1197 q29 = .inl (E.2.1, 16, .inl g43) → f1197 q30 = .inl (E.1, 64, .inl g44) → f1197 q31 = .inl (E.1, 20, .inl g45) → f1197 q32 = .inr (3, [.ref q33, .int (nI 0)]) → f1197 q33 = .inl (E.1, 64, .inl g46) → f1197 q230 = .inr (3, [.ref q281, .int (nI 0)]) → f1197 q281 = .inl (E.1, 4000, .inl g282) → f1197 q350 = .inr (3, [.ref q405, .int (nI 0)]) → f1197 q405 = .inl (E.1, 12288, .inl g406) → f1197 q480 = .inr (3, [.ref q539, .int (nI 0)]) → f1197 q539 = .inl (E.1, 40, .inl g540) → f1197 q620 = .inr (5, [.ref q1, .ref o684, .ref o685, .ref (T.1 0), .int (nI 32)]) → f1197 q764 = .inl (E.2.2.1, 12, .inr (.inr (.inr (.inr g1024)))) → f1197 q852 = .inr (7, [.ref q919, .ref o930, .int (nI 0), .int (nI 0), .int (nI 0), .ref (T.1 0), .ref (T.1 0), .ref (T.1 0), .ref (T.1 0), .int (nI 36000), .int (nI 72000), .int (nI 15), .int (nI 0)]) → f1197 q919 = .inr (3, [.ref q920, .int (nI 0)]) → f1197 q920 = .inl (E.1, 40, .inl g921) → f1197 q1092 = .inl (E.2.2.2.1, 4, .inr (.inr (.inr (.inr g1198)))) → (∀ x, x ∈ L → x ≠ xo → f1197 x = f x) → wP 7 2 1 12 q852 f1197 (L1196) g1024 → wP 2 2 0 i1195 q1092 f1197 (L1196) g1198 → pH D cCl (pA L sz) s.heap L1196 f1197 H locs → lv_has ls 2 [(1, .int (nI i1195)), (0, .ref xo)] → W p l e (kRm 8 189 367 (53413)) s m AV below meth c H locs (134 + i1195 * 48) (49460 + i1195 * 587) QQ (F0 m 117 ls []) := by
        intro n1194
        induction n1194 with
        | zero =>
          intro i1195 L1196 f1197 g1198 H locs ls hm1200 hc1201 hc1202  s1203 m1205 m1206 m1207 m1208 m1209 m1210 m1211 m1212 m1213 m1214 m1215 m1216 m1217 m1218 m1219 m1220 m1221 m1222 m1223 m1224 m1225 m1226 m1227 m1228 m1229 m1230 m1231 m1232 m1233 m1234 e1235 e1236 e1237 e1238 e1239 e1240 e1241 e1242 e1243 e1244 e1245 e1246 e1247 e1248 e1249 e1250 e1251 e1252 e1253 e1254 e1255 e1256 e1257 e1258 e1259 e1260 e1261 e1262 e1263 e1264 hF1204 wh1266 wh1267 Y hl
          obtain rfl : i1195 = 4 := (by omega)
          refine lv_iload_n X.1 X.2.1 d_H_init_117 rfl (lv_at hl 0 rfl) ?_
          refine lv_iconst (v := (nI 4)) X.1 X.2.1 d_H_init_118 (by decide) ?_
          refine lv_icmp_ge (tgt := 145) X.1 X.2.1 d_H_init_119 (by decide) (fun c1268 => ?_) (fun c1268 => absurd ?_ c1268)
          rotate_left
          · (rw [nI_leI (by omega) (by omega)] <;> omega)
          rw [nI_leI (by omega) (by omega)] at c1268
          refine lv_aload_n X.1 X.2.1 d_H_init_145 rfl (lv_at hl 1 rfl) ?_
          refine lv_bipush (v := (nI 8)) X.1 X.2.1 d_H_init_146 (by decide) ?_
          refine q_anew X.1 X.2.1 X.2.2.2.1 (X.2.2.1 _ ck_H_54) (KR.2.2.2 _ (by decide)) X.2.2.2.2 4 (cE := E.2.2.2.2.1) rfl Y hA (nI_pos (by omega)) (nI_clamp (by omega)) (by decide) (show 326 + 1 ≤ 367 by omega) (show 51808 + 8 ≤ (53413) by omega) d_H_init_148 (fun q1269 H hqq1269 Y => ?_)
          have Y : pH D cCl (pA L sz) s.heap (L1196 ++ [q1269]) (va_up f1197 q1269 (.inl (E.2.2.2.2.1, 8, .inr (.inr (.inr (.inr (fun _ => none))))))) H locs := Y
          have e1276 : (va_up f1197 q1269 (.inl (E.2.2.2.2.1, 8, .inr (.inr (.inr (.inr (fun _ => none))))))) q1269 = .inl (E.2.2.2.2.1, 8, .inr (.inr (.inr (.inr (fun _ => none))))) := q_up
          have e1277 : (va_up f1197 q1269 (.inl (E.2.2.2.2.1, 8, .inr (.inr (.inr (.inr (fun _ => none))))))) xo = .inr (0, [.ref q1, .ref q230, .ref q350, .ref q480, .ref q764, .ref q620, .null, .ref q1092, .null]) := (q_ne (ne_mem hqq1269 m1205)).trans e1235
          have e1278 : (va_up f1197 q1269 (.inl (E.2.2.2.2.1, 8, .inr (.inr (.inr (.inr (fun _ => none))))))) q1 = .inr (11, [.int (nI 1000000000), .ref o183, .ref o184, .ref q18, .ref q25, .ref q30, .int (nI 0), .ref o185, .int (nI 20), .int (nI 0), .ref o186, .ref q31, .ref q32]) := (q_ne (ne_mem hqq1269 m1206)).trans e1236
          have e1279 : (va_up f1197 q1269 (.inl (E.2.2.2.2.1, 8, .inr (.inr (.inr (.inr (fun _ => none))))))) q18 = .inr (6, [.ref q19, .ref q20, .ref q21, .ref q22, .ref q23, .int (nI 0), .int (nI 0), .ref q24]) := (q_ne (ne_mem hqq1269 m1207)).trans e1237
          have e1280 : (va_up f1197 q1269 (.inl (E.2.2.2.2.1, 8, .inr (.inr (.inr (.inr (fun _ => none))))))) q19 = .inl (E.2.1, 80, .inl g34) := (q_ne (ne_mem hqq1269 m1208)).trans e1238
          have e1281 : (va_up f1197 q1269 (.inl (E.2.2.2.2.1, 8, .inr (.inr (.inr (.inr (fun _ => none))))))) q20 = .inl (E.1, 64, .inl g35) := (q_ne (ne_mem hqq1269 m1209)).trans e1239
          have e1282 : (va_up f1197 q1269 (.inl (E.2.2.2.2.1, 8, .inr (.inr (.inr (.inr (fun _ => none))))))) q21 = .inl (E.2.1, 5, .inl g36) := (q_ne (ne_mem hqq1269 m1210)).trans e1240
          have e1283 : (va_up f1197 q1269 (.inl (E.2.2.2.2.1, 8, .inr (.inr (.inr (.inr (fun _ => none))))))) q22 = .inl (E.2.1, 5, .inl g37) := (q_ne (ne_mem hqq1269 m1211)).trans e1241
          have e1284 : (va_up f1197 q1269 (.inl (E.2.2.2.2.1, 8, .inr (.inr (.inr (.inr (fun _ => none))))))) q23 = .inl (E.2.1, 5, .inl g38) := (q_ne (ne_mem hqq1269 m1212)).trans e1242
          have e1285 : (va_up f1197 q1269 (.inl (E.2.2.2.2.1, 8, .inr (.inr (.inr (.inr (fun _ => none))))))) q24 = .inl (E.1, 20, .inl g39) := (q_ne (ne_mem hqq1269 m1213)).trans e1243
          have e1286 : (va_up f1197 q1269 (.inl (E.2.2.2.2.1, 8, .inr (.inr (.inr (.inr (fun _ => none))))))) q25 = .inr (1, [.ref o187, .ref q26, .ref q27, .int (nI 0), .ref q28, .ref q29, .ref o188]) := (q_ne (ne_mem hqq1269 m1214)).trans e1244
          have e1287 : (va_up f1197 q1269 (.inl (E.2.2.2.2.1, 8, .inr (.inr (.inr (.inr (fun _ => none))))))) q26 = .inl (E.2.1, 256, .inl g40) := (q_ne (ne_mem hqq1269 m1215)).trans e1245
          have e1288 : (va_up f1197 q1269 (.inl (E.2.2.2.2.1, 8, .inr (.inr (.inr (.inr (fun _ => none))))))) q27 = .inl (E.2.1, 240, .inl g41) := (q_ne (ne_mem hqq1269 m1216)).trans e1246
          have e1289 : (va_up f1197 q1269 (.inl (E.2.2.2.2.1, 8, .inr (.inr (.inr (.inr (fun _ => none))))))) q28 = .inl (E.2.1, 16, .inl g42) := (q_ne (ne_mem hqq1269 m1217)).trans e1247
          have e1290 : (va_up f1197 q1269 (.inl (E.2.2.2.2.1, 8, .inr (.inr (.inr (.inr (fun _ => none))))))) q29 = .inl (E.2.1, 16, .inl g43) := (q_ne (ne_mem hqq1269 m1218)).trans e1248
          have e1291 : (va_up f1197 q1269 (.inl (E.2.2.2.2.1, 8, .inr (.inr (.inr (.inr (fun _ => none))))))) q30 = .inl (E.1, 64, .inl g44) := (q_ne (ne_mem hqq1269 m1219)).trans e1249
          have e1292 : (va_up f1197 q1269 (.inl (E.2.2.2.2.1, 8, .inr (.inr (.inr (.inr (fun _ => none))))))) q31 = .inl (E.1, 20, .inl g45) := (q_ne (ne_mem hqq1269 m1220)).trans e1250
          have e1293 : (va_up f1197 q1269 (.inl (E.2.2.2.2.1, 8, .inr (.inr (.inr (.inr (fun _ => none))))))) q32 = .inr (3, [.ref q33, .int (nI 0)]) := (q_ne (ne_mem hqq1269 m1221)).trans e1251
          have e1294 : (va_up f1197 q1269 (.inl (E.2.2.2.2.1, 8, .inr (.inr (.inr (.inr (fun _ => none))))))) q33 = .inl (E.1, 64, .inl g46) := (q_ne (ne_mem hqq1269 m1222)).trans e1252
          have e1295 : (va_up f1197 q1269 (.inl (E.2.2.2.2.1, 8, .inr (.inr (.inr (.inr (fun _ => none))))))) q230 = .inr (3, [.ref q281, .int (nI 0)]) := (q_ne (ne_mem hqq1269 m1223)).trans e1253
          have e1296 : (va_up f1197 q1269 (.inl (E.2.2.2.2.1, 8, .inr (.inr (.inr (.inr (fun _ => none))))))) q281 = .inl (E.1, 4000, .inl g282) := (q_ne (ne_mem hqq1269 m1224)).trans e1254
          have e1297 : (va_up f1197 q1269 (.inl (E.2.2.2.2.1, 8, .inr (.inr (.inr (.inr (fun _ => none))))))) q350 = .inr (3, [.ref q405, .int (nI 0)]) := (q_ne (ne_mem hqq1269 m1225)).trans e1255
          have e1298 : (va_up f1197 q1269 (.inl (E.2.2.2.2.1, 8, .inr (.inr (.inr (.inr (fun _ => none))))))) q405 = .inl (E.1, 12288, .inl g406) := (q_ne (ne_mem hqq1269 m1226)).trans e1256
          have e1299 : (va_up f1197 q1269 (.inl (E.2.2.2.2.1, 8, .inr (.inr (.inr (.inr (fun _ => none))))))) q480 = .inr (3, [.ref q539, .int (nI 0)]) := (q_ne (ne_mem hqq1269 m1227)).trans e1257
          have e1300 : (va_up f1197 q1269 (.inl (E.2.2.2.2.1, 8, .inr (.inr (.inr (.inr (fun _ => none))))))) q539 = .inl (E.1, 40, .inl g540) := (q_ne (ne_mem hqq1269 m1228)).trans e1258
          have e1301 : (va_up f1197 q1269 (.inl (E.2.2.2.2.1, 8, .inr (.inr (.inr (.inr (fun _ => none))))))) q620 = .inr (5, [.ref q1, .ref o684, .ref o685, .ref (T.1 0), .int (nI 32)]) := (q_ne (ne_mem hqq1269 m1229)).trans e1259
          have e1302 : (va_up f1197 q1269 (.inl (E.2.2.2.2.1, 8, .inr (.inr (.inr (.inr (fun _ => none))))))) q764 = .inl (E.2.2.1, 12, .inr (.inr (.inr (.inr g1024)))) := (q_ne (ne_mem hqq1269 m1230)).trans e1260
          have e1303 : (va_up f1197 q1269 (.inl (E.2.2.2.2.1, 8, .inr (.inr (.inr (.inr (fun _ => none))))))) q852 = .inr (7, [.ref q919, .ref o930, .int (nI 0), .int (nI 0), .int (nI 0), .ref (T.1 0), .ref (T.1 0), .ref (T.1 0), .ref (T.1 0), .int (nI 36000), .int (nI 72000), .int (nI 15), .int (nI 0)]) := (q_ne (ne_mem hqq1269 m1231)).trans e1261
          have e1304 : (va_up f1197 q1269 (.inl (E.2.2.2.2.1, 8, .inr (.inr (.inr (.inr (fun _ => none))))))) q919 = .inr (3, [.ref q920, .int (nI 0)]) := (q_ne (ne_mem hqq1269 m1232)).trans e1262
          have e1305 : (va_up f1197 q1269 (.inl (E.2.2.2.2.1, 8, .inr (.inr (.inr (.inr (fun _ => none))))))) q920 = .inl (E.1, 40, .inl g921) := (q_ne (ne_mem hqq1269 m1233)).trans e1263
          have e1306 : (va_up f1197 q1269 (.inl (E.2.2.2.2.1, 8, .inr (.inr (.inr (.inr (fun _ => none))))))) q1092 = .inl (E.2.2.2.1, 4, .inr (.inr (.inr (.inr g1198)))) := (q_ne (ne_mem hqq1269 m1234)).trans e1264
          have nl1274 : q1269 ∉ L := fun h9 => hqq1269 (s1203 _ h9)
          have hF1307 : ∀ x, x ∈ L → x ≠ xo → (va_up f1197 q1269 (.inl (E.2.2.2.2.1, 8, .inr (.inr (.inr (.inr (fun _ => none))))))) x = f x := fun x hx h0 => (q_ne (ne_mem nl1274 hx)).trans (hF1204 x hx h0)
          have wh1308 : wP 7 2 1 12 q852 (va_up f1197 q1269 (.inl (E.2.2.2.2.1, 8, .inr (.inr (.inr (.inr (fun _ => none))))))) (L1196 ++ [q1269]) g1024 := wP_keep wh1266 (fun _ h9 => List.mem_append_left _ h9) (fun x hx h0 ht => q_ne (ne_mem hqq1269 hx))
          have wh1309 : wP 2 2 0 4 q1092 (va_up f1197 q1269 (.inl (E.2.2.2.2.1, 8, .inr (.inr (.inr (.inr (fun _ => none))))))) (L1196 ++ [q1269]) g1198 := wP_keep wh1267 (fun _ h9 => List.mem_append_left _ h9) (fun x hx h0 ht => q_ne (ne_mem hqq1269 hx))
          generalize (va_up f1197 q1269 (.inl (E.2.2.2.2.1, 8, .inr (.inr (.inr (.inr (fun _ => none))))))) = f1275 at Y e1276 e1277 e1278 e1279 e1280 e1281 e1282 e1283 e1284 e1285 e1286 e1287 e1288 e1289 e1290 e1291 e1292 e1293 e1294 e1295 e1296 e1297 e1298 e1299 e1300 e1301 e1302 e1303 e1304 e1305 e1306 hF1307 wh1308 wh1309
          have s1272 : ∀ x, x ∈ L → x ∈ L1196 ++ [q1269] := fun x hx => List.mem_append_left _ (s1203 x hx)
          have m1310 : xo ∈ L1196 ++ [q1269] := List.mem_append_left _ m1205
          have m1311 : q1 ∈ L1196 ++ [q1269] := List.mem_append_left _ m1206
          have m1312 : q18 ∈ L1196 ++ [q1269] := List.mem_append_left _ m1207
          have m1313 : q19 ∈ L1196 ++ [q1269] := List.mem_append_left _ m1208
          have m1314 : q20 ∈ L1196 ++ [q1269] := List.mem_append_left _ m1209
          have m1315 : q21 ∈ L1196 ++ [q1269] := List.mem_append_left _ m1210
          have m1316 : q22 ∈ L1196 ++ [q1269] := List.mem_append_left _ m1211
          have m1317 : q23 ∈ L1196 ++ [q1269] := List.mem_append_left _ m1212
          have m1318 : q24 ∈ L1196 ++ [q1269] := List.mem_append_left _ m1213
          have m1319 : q25 ∈ L1196 ++ [q1269] := List.mem_append_left _ m1214
          have m1320 : q26 ∈ L1196 ++ [q1269] := List.mem_append_left _ m1215
          have m1321 : q27 ∈ L1196 ++ [q1269] := List.mem_append_left _ m1216
          have m1322 : q28 ∈ L1196 ++ [q1269] := List.mem_append_left _ m1217
          have m1323 : q29 ∈ L1196 ++ [q1269] := List.mem_append_left _ m1218
          have m1324 : q30 ∈ L1196 ++ [q1269] := List.mem_append_left _ m1219
          have m1325 : q31 ∈ L1196 ++ [q1269] := List.mem_append_left _ m1220
          have m1326 : q32 ∈ L1196 ++ [q1269] := List.mem_append_left _ m1221
          have m1327 : q33 ∈ L1196 ++ [q1269] := List.mem_append_left _ m1222
          have m1328 : q230 ∈ L1196 ++ [q1269] := List.mem_append_left _ m1223
          have m1329 : q281 ∈ L1196 ++ [q1269] := List.mem_append_left _ m1224
          have m1330 : q350 ∈ L1196 ++ [q1269] := List.mem_append_left _ m1225
          have m1331 : q405 ∈ L1196 ++ [q1269] := List.mem_append_left _ m1226
          have m1332 : q480 ∈ L1196 ++ [q1269] := List.mem_append_left _ m1227
          have m1333 : q539 ∈ L1196 ++ [q1269] := List.mem_append_left _ m1228
          have m1334 : q620 ∈ L1196 ++ [q1269] := List.mem_append_left _ m1229
          have m1335 : q764 ∈ L1196 ++ [q1269] := List.mem_append_left _ m1230
          have m1336 : q852 ∈ L1196 ++ [q1269] := List.mem_append_left _ m1231
          have m1337 : q919 ∈ L1196 ++ [q1269] := List.mem_append_left _ m1232
          have m1338 : q920 ∈ L1196 ++ [q1269] := List.mem_append_left _ m1233
          have m1339 : q1092 ∈ L1196 ++ [q1269] := List.mem_append_left _ m1234
          have m1273 : q1269 ∈ L1196 ++ [q1269] := List.mem_append_right _ (List.mem_singleton.mpr rfl)
          generalize L1196 ++ [q1269] = L1270 at Y s1272 m1310 m1311 m1312 m1313 m1314 m1315 m1316 m1317 m1318 m1319 m1320 m1321 m1322 m1323 m1324 m1325 m1326 m1327 m1328 m1329 m1330 m1331 m1332 m1333 m1334 m1335 m1336 m1337 m1338 m1339 m1273 wh1308 wh1309
          refine q_putF X.1 X.2.1 X.2.2.1 i_H t_H t_H_ok n_H X.2.2.2.1 X.2.2.2.2 Y m1310 e1277 rfl 8 (by decide) (X.2.2.1 _ lk_H_56) (fun _ h9 => h9) rfl hin rfl (t_H_ok 8 (by decide)) rfl rfl (Nat.le_of_ble_eq_true rfl) d_H_init_151 (fun H locs Y => ?_)
          have e1341 : (va_up f1275 xo (.inr (0, [.ref q1, .ref q230, .ref q350, .ref q480, .ref q764, .ref q620, .null, .ref q1092, .ref q1269]))) xo = .inr (0, [.ref q1, .ref q230, .ref q350, .ref q480, .ref q764, .ref q620, .null, .ref q1092, .ref q1269]) := q_up
          have e1342 : (va_up f1275 xo (.inr (0, [.ref q1, .ref q230, .ref q350, .ref q480, .ref q764, .ref q620, .null, .ref q1092, .ref q1269]))) q1 = .inr (11, [.int (nI 1000000000), .ref o183, .ref o184, .ref q18, .ref q25, .ref q30, .int (nI 0), .ref o185, .int (nI 20), .int (nI 0), .ref o186, .ref q31, .ref q32]) := (q_ne (q_tag e1278 e1277 (show (11 : Nat) ≠ 0 by decide))).trans e1278
          have e1343 : (va_up f1275 xo (.inr (0, [.ref q1, .ref q230, .ref q350, .ref q480, .ref q764, .ref q620, .null, .ref q1092, .ref q1269]))) q18 = .inr (6, [.ref q19, .ref q20, .ref q21, .ref q22, .ref q23, .int (nI 0), .int (nI 0), .ref q24]) := (q_ne (q_tag e1279 e1277 (show (6 : Nat) ≠ 0 by decide))).trans e1279
          have e1344 : (va_up f1275 xo (.inr (0, [.ref q1, .ref q230, .ref q350, .ref q480, .ref q764, .ref q620, .null, .ref q1092, .ref q1269]))) q19 = .inl (E.2.1, 80, .inl g34) := (q_ne (q_tag e1280 e1277 (show (1000 : Nat) ≠ 0 by decide))).trans e1280
          have e1345 : (va_up f1275 xo (.inr (0, [.ref q1, .ref q230, .ref q350, .ref q480, .ref q764, .ref q620, .null, .ref q1092, .ref q1269]))) q20 = .inl (E.1, 64, .inl g35) := (q_ne (q_tag e1281 e1277 (show (1000 : Nat) ≠ 0 by decide))).trans e1281
          have e1346 : (va_up f1275 xo (.inr (0, [.ref q1, .ref q230, .ref q350, .ref q480, .ref q764, .ref q620, .null, .ref q1092, .ref q1269]))) q21 = .inl (E.2.1, 5, .inl g36) := (q_ne (q_tag e1282 e1277 (show (1000 : Nat) ≠ 0 by decide))).trans e1282
          have e1347 : (va_up f1275 xo (.inr (0, [.ref q1, .ref q230, .ref q350, .ref q480, .ref q764, .ref q620, .null, .ref q1092, .ref q1269]))) q22 = .inl (E.2.1, 5, .inl g37) := (q_ne (q_tag e1283 e1277 (show (1000 : Nat) ≠ 0 by decide))).trans e1283
          have e1348 : (va_up f1275 xo (.inr (0, [.ref q1, .ref q230, .ref q350, .ref q480, .ref q764, .ref q620, .null, .ref q1092, .ref q1269]))) q23 = .inl (E.2.1, 5, .inl g38) := (q_ne (q_tag e1284 e1277 (show (1000 : Nat) ≠ 0 by decide))).trans e1284
          have e1349 : (va_up f1275 xo (.inr (0, [.ref q1, .ref q230, .ref q350, .ref q480, .ref q764, .ref q620, .null, .ref q1092, .ref q1269]))) q24 = .inl (E.1, 20, .inl g39) := (q_ne (q_tag e1285 e1277 (show (1000 : Nat) ≠ 0 by decide))).trans e1285
          have e1350 : (va_up f1275 xo (.inr (0, [.ref q1, .ref q230, .ref q350, .ref q480, .ref q764, .ref q620, .null, .ref q1092, .ref q1269]))) q25 = .inr (1, [.ref o187, .ref q26, .ref q27, .int (nI 0), .ref q28, .ref q29, .ref o188]) := (q_ne (q_tag e1286 e1277 (show (1 : Nat) ≠ 0 by decide))).trans e1286
          have e1351 : (va_up f1275 xo (.inr (0, [.ref q1, .ref q230, .ref q350, .ref q480, .ref q764, .ref q620, .null, .ref q1092, .ref q1269]))) q26 = .inl (E.2.1, 256, .inl g40) := (q_ne (q_tag e1287 e1277 (show (1000 : Nat) ≠ 0 by decide))).trans e1287
          have e1352 : (va_up f1275 xo (.inr (0, [.ref q1, .ref q230, .ref q350, .ref q480, .ref q764, .ref q620, .null, .ref q1092, .ref q1269]))) q27 = .inl (E.2.1, 240, .inl g41) := (q_ne (q_tag e1288 e1277 (show (1000 : Nat) ≠ 0 by decide))).trans e1288
          have e1353 : (va_up f1275 xo (.inr (0, [.ref q1, .ref q230, .ref q350, .ref q480, .ref q764, .ref q620, .null, .ref q1092, .ref q1269]))) q28 = .inl (E.2.1, 16, .inl g42) := (q_ne (q_tag e1289 e1277 (show (1000 : Nat) ≠ 0 by decide))).trans e1289
          have e1354 : (va_up f1275 xo (.inr (0, [.ref q1, .ref q230, .ref q350, .ref q480, .ref q764, .ref q620, .null, .ref q1092, .ref q1269]))) q29 = .inl (E.2.1, 16, .inl g43) := (q_ne (q_tag e1290 e1277 (show (1000 : Nat) ≠ 0 by decide))).trans e1290
          have e1355 : (va_up f1275 xo (.inr (0, [.ref q1, .ref q230, .ref q350, .ref q480, .ref q764, .ref q620, .null, .ref q1092, .ref q1269]))) q30 = .inl (E.1, 64, .inl g44) := (q_ne (q_tag e1291 e1277 (show (1000 : Nat) ≠ 0 by decide))).trans e1291
          have e1356 : (va_up f1275 xo (.inr (0, [.ref q1, .ref q230, .ref q350, .ref q480, .ref q764, .ref q620, .null, .ref q1092, .ref q1269]))) q31 = .inl (E.1, 20, .inl g45) := (q_ne (q_tag e1292 e1277 (show (1000 : Nat) ≠ 0 by decide))).trans e1292
          have e1357 : (va_up f1275 xo (.inr (0, [.ref q1, .ref q230, .ref q350, .ref q480, .ref q764, .ref q620, .null, .ref q1092, .ref q1269]))) q32 = .inr (3, [.ref q33, .int (nI 0)]) := (q_ne (q_tag e1293 e1277 (show (3 : Nat) ≠ 0 by decide))).trans e1293
          have e1358 : (va_up f1275 xo (.inr (0, [.ref q1, .ref q230, .ref q350, .ref q480, .ref q764, .ref q620, .null, .ref q1092, .ref q1269]))) q33 = .inl (E.1, 64, .inl g46) := (q_ne (q_tag e1294 e1277 (show (1000 : Nat) ≠ 0 by decide))).trans e1294
          have e1359 : (va_up f1275 xo (.inr (0, [.ref q1, .ref q230, .ref q350, .ref q480, .ref q764, .ref q620, .null, .ref q1092, .ref q1269]))) q230 = .inr (3, [.ref q281, .int (nI 0)]) := (q_ne (q_tag e1295 e1277 (show (3 : Nat) ≠ 0 by decide))).trans e1295
          have e1360 : (va_up f1275 xo (.inr (0, [.ref q1, .ref q230, .ref q350, .ref q480, .ref q764, .ref q620, .null, .ref q1092, .ref q1269]))) q281 = .inl (E.1, 4000, .inl g282) := (q_ne (q_tag e1296 e1277 (show (1000 : Nat) ≠ 0 by decide))).trans e1296
          have e1361 : (va_up f1275 xo (.inr (0, [.ref q1, .ref q230, .ref q350, .ref q480, .ref q764, .ref q620, .null, .ref q1092, .ref q1269]))) q350 = .inr (3, [.ref q405, .int (nI 0)]) := (q_ne (q_tag e1297 e1277 (show (3 : Nat) ≠ 0 by decide))).trans e1297
          have e1362 : (va_up f1275 xo (.inr (0, [.ref q1, .ref q230, .ref q350, .ref q480, .ref q764, .ref q620, .null, .ref q1092, .ref q1269]))) q405 = .inl (E.1, 12288, .inl g406) := (q_ne (q_tag e1298 e1277 (show (1000 : Nat) ≠ 0 by decide))).trans e1298
          have e1363 : (va_up f1275 xo (.inr (0, [.ref q1, .ref q230, .ref q350, .ref q480, .ref q764, .ref q620, .null, .ref q1092, .ref q1269]))) q480 = .inr (3, [.ref q539, .int (nI 0)]) := (q_ne (q_tag e1299 e1277 (show (3 : Nat) ≠ 0 by decide))).trans e1299
          have e1364 : (va_up f1275 xo (.inr (0, [.ref q1, .ref q230, .ref q350, .ref q480, .ref q764, .ref q620, .null, .ref q1092, .ref q1269]))) q539 = .inl (E.1, 40, .inl g540) := (q_ne (q_tag e1300 e1277 (show (1000 : Nat) ≠ 0 by decide))).trans e1300
          have e1365 : (va_up f1275 xo (.inr (0, [.ref q1, .ref q230, .ref q350, .ref q480, .ref q764, .ref q620, .null, .ref q1092, .ref q1269]))) q620 = .inr (5, [.ref q1, .ref o684, .ref o685, .ref (T.1 0), .int (nI 32)]) := (q_ne (q_tag e1301 e1277 (show (5 : Nat) ≠ 0 by decide))).trans e1301
          have e1366 : (va_up f1275 xo (.inr (0, [.ref q1, .ref q230, .ref q350, .ref q480, .ref q764, .ref q620, .null, .ref q1092, .ref q1269]))) q764 = .inl (E.2.2.1, 12, .inr (.inr (.inr (.inr g1024)))) := (q_ne (q_tag e1302 e1277 (show (1000 : Nat) ≠ 0 by decide))).trans e1302
          have e1367 : (va_up f1275 xo (.inr (0, [.ref q1, .ref q230, .ref q350, .ref q480, .ref q764, .ref q620, .null, .ref q1092, .ref q1269]))) q852 = .inr (7, [.ref q919, .ref o930, .int (nI 0), .int (nI 0), .int (nI 0), .ref (T.1 0), .ref (T.1 0), .ref (T.1 0), .ref (T.1 0), .int (nI 36000), .int (nI 72000), .int (nI 15), .int (nI 0)]) := (q_ne (q_tag e1303 e1277 (show (7 : Nat) ≠ 0 by decide))).trans e1303
          have e1368 : (va_up f1275 xo (.inr (0, [.ref q1, .ref q230, .ref q350, .ref q480, .ref q764, .ref q620, .null, .ref q1092, .ref q1269]))) q919 = .inr (3, [.ref q920, .int (nI 0)]) := (q_ne (q_tag e1304 e1277 (show (3 : Nat) ≠ 0 by decide))).trans e1304
          have e1369 : (va_up f1275 xo (.inr (0, [.ref q1, .ref q230, .ref q350, .ref q480, .ref q764, .ref q620, .null, .ref q1092, .ref q1269]))) q920 = .inl (E.1, 40, .inl g921) := (q_ne (q_tag e1305 e1277 (show (1000 : Nat) ≠ 0 by decide))).trans e1305
          have e1370 : (va_up f1275 xo (.inr (0, [.ref q1, .ref q230, .ref q350, .ref q480, .ref q764, .ref q620, .null, .ref q1092, .ref q1269]))) q1092 = .inl (E.2.2.2.1, 4, .inr (.inr (.inr (.inr g1198)))) := (q_ne (q_tag e1306 e1277 (show (1000 : Nat) ≠ 0 by decide))).trans e1306
          have e1371 : (va_up f1275 xo (.inr (0, [.ref q1, .ref q230, .ref q350, .ref q480, .ref q764, .ref q620, .null, .ref q1092, .ref q1269]))) q1269 = .inl (E.2.2.2.2.1, 8, .inr (.inr (.inr (.inr (fun _ => none))))) := (q_ne (q_tag e1276 e1277 (show (1000 : Nat) ≠ 0 by decide))).trans e1276
          have hF1372 : ∀ x, x ∈ L → x ≠ xo → (va_up f1275 xo (.inr (0, [.ref q1, .ref q230, .ref q350, .ref q480, .ref q764, .ref q620, .null, .ref q1092, .ref q1269]))) x = f x := fun x hx h0 => (q_ne h0).trans (hF1307 x hx h0)
          have wh1373 : wP 7 2 1 12 q852 (va_up f1275 xo (.inr (0, [.ref q1, .ref q230, .ref q350, .ref q480, .ref q764, .ref q620, .null, .ref q1092, .ref q1269]))) (L1270) g1024 := wP_keep wh1308 (fun _ h9 => h9) (fun x hx h0 ht => q_ne (q_tn ht e1277 (show (0 : Nat) ≠ 7 by decide)))
          have wh1374 : wP 2 2 0 4 q1092 (va_up f1275 xo (.inr (0, [.ref q1, .ref q230, .ref q350, .ref q480, .ref q764, .ref q620, .null, .ref q1092, .ref q1269]))) (L1270) g1198 := wP_keep wh1309 (fun _ h9 => h9) (fun x hx h0 ht => q_ne (q_tn ht e1277 (show (0 : Nat) ≠ 2 by decide)))
          have Y : pH D cCl (pA L sz) s.heap L1270 (va_up f1275 xo (.inr (0, [.ref q1, .ref q230, .ref q350, .ref q480, .ref q764, .ref q620, .null, .ref q1092, .ref q1269]))) H locs := Y
          generalize (va_up f1275 xo (.inr (0, [.ref q1, .ref q230, .ref q350, .ref q480, .ref q764, .ref q620, .null, .ref q1092, .ref q1269]))) = f1340 at Y e1341 e1342 e1343 e1344 e1345 e1346 e1347 e1348 e1349 e1350 e1351 e1352 e1353 e1354 e1355 e1356 e1357 e1358 e1359 e1360 e1361 e1362 e1363 e1364 e1365 e1366 e1367 e1368 e1369 e1370 e1371 hF1372 wh1373 wh1374
          refine lv_iconst (v := (nI 0)) X.1 X.2.1 d_H_init_154 (by decide) ?_
          refine lv_istore_n (lv' := [(1, .int (nI 0)), (0, .ref xo)]) X.1 X.2.1 d_H_init_155 rfl hl (by decide) rfl (fun ls hl => ?_)
          have lp1375 : ∀ (n1376 i1377 : Nat) (L1378 : List Nat) (f1379 : pF) (g1380 : Nat → Option Nat) (H : Heap) (locs : List Loc) (ls : Array Slot), 8 - i1377 = n1376 → 0 ≤ i1377 → i1377 ≤ 8 → (∀ x, x ∈ L → x ∈ L1378) → xo ∈ L1378 → q1 ∈ L1378 → q18 ∈ L1378 → q19 ∈ L1378 → q20 ∈ L1378 → q21 ∈ L1378 → q22 ∈ L1378 → q23 ∈ L1378 → q24 ∈ L1378 → q25 ∈ L1378 → q26 ∈ L1378 → q27 ∈ L1378 → q28 ∈ L1378 → q29 ∈ L1378 → q30 ∈ L1378 → q31 ∈ L1378 → q32 ∈ L1378 → q33 ∈ L1378 → q230 ∈ L1378 → q281 ∈ L1378 → q350 ∈ L1378 → q405 ∈ L1378 → q480 ∈ L1378 → q539 ∈ L1378 → q620 ∈ L1378 → q764 ∈ L1378 → q852 ∈ L1378 → q919 ∈ L1378 → q920 ∈ L1378 → q1092 ∈ L1378 → q1269 ∈ L1378 → f1379 xo = .inr (0, [.ref q1, .ref q230, .ref q350, .ref q480, .ref q764, .ref q620, .null, .ref q1092, .ref q1269]) → f1379 q1 = .inr (11, [.int (nI 1000000000), .ref o183, .ref o184, .ref q18, .ref q25, .ref q30, .int (nI 0), .ref o185, .int (nI 20), .int (nI 0), .ref o186, .ref q31, .ref q32]) → f1379 q18 = .inr (6, [.ref q19, .ref q20, .ref q21, .ref q22, .ref q23, .int (nI 0), .int (nI 0), .ref q24]) → f1379 q19 = .inl (E.2.1, 80, .inl g34) → f1379 q20 = .inl (E.1, 64, .inl g35) → f1379 q21 = .inl (E.2.1, 5, .inl g36) → f1379 q22 = .inl (E.2.1, 5, .inl g37) → f1379 q23 = .inl (E.2.1, 5, .inl g38) → f1379 q24 = .inl (E.1, 20, .inl g39) → f1379 q25 = .inr (1, [.ref o187, .ref q26, .ref q27, .int (nI 0), .ref q28, .ref q29, .ref o188]) → f1379 q26 = .inl (E.2.1, 256, .inl g40) → f1379 q27 = .inl (E.2.1, 240, .inl g41) → f1379 q28 = .inl (E.2.1, 16, .inl g42) → f1379 q29 = .inl (E.2.1, 16, .inl g43) → f1379 q30 = .inl (E.1, 64, .inl g44) → f1379 q31 = .inl (E.1, 20, .inl g45) → f1379 q32 = .inr (3, [.ref q33, .int (nI 0)]) → f1379 q33 = .inl (E.1, 64, .inl g46) → f1379 q230 = .inr (3, [.ref q281, .int (nI 0)]) → f1379 q281 = .inl (E.1, 4000, .inl g282) → f1379 q350 = .inr (3, [.ref q405, .int (nI 0)]) → f1379 q405 = .inl (E.1, 12288, .inl g406) → f1379 q480 = .inr (3, [.ref q539, .int (nI 0)]) → f1379 q539 = .inl (E.1, 40, .inl g540) → f1379 q620 = .inr (5, [.ref q1, .ref o684, .ref o685, .ref (T.1 0), .int (nI 32)]) → f1379 q764 = .inl (E.2.2.1, 12, .inr (.inr (.inr (.inr g1024)))) → f1379 q852 = .inr (7, [.ref q919, .ref o930, .int (nI 0), .int (nI 0), .int (nI 0), .ref (T.1 0), .ref (T.1 0), .ref (T.1 0), .ref (T.1 0), .int (nI 36000), .int (nI 72000), .int (nI 15), .int (nI 0)]) → f1379 q919 = .inr (3, [.ref q920, .int (nI 0)]) → f1379 q920 = .inl (E.1, 40, .inl g921) → f1379 q1092 = .inl (E.2.2.2.1, 4, .inr (.inr (.inr (.inr g1198)))) → f1379 q1269 = .inl (E.2.2.2.2.1, 8, .inr (.inr (.inr (.inr g1380)))) → (∀ x, x ∈ L → x ≠ xo → f1379 x = f x) → wP 7 2 1 12 q852 f1379 (L1378) g1024 → wP 2 2 0 4 q1092 f1379 (L1378) g1198 → wP 9 1 0 i1377 q1269 f1379 (L1378) g1380 → pH D cCl (pA L sz) s.heap L1378 f1379 H locs → lv_has ls 2 [(1, .int (nI i1377)), (0, .ref xo)] → W p l e (kRm 8 189 367 (53413)) s m AV below meth c H locs (327 + i1377 * 4) (51816 + i1377 * 19) QQ (F0 m 156 ls []) := by
            intro n1376
            induction n1376 with
            | zero =>
              intro i1377 L1378 f1379 g1380 H locs ls hm1382 hc1383 hc1384  s1385 m1387 m1388 m1389 m1390 m1391 m1392 m1393 m1394 m1395 m1396 m1397 m1398 m1399 m1400 m1401 m1402 m1403 m1404 m1405 m1406 m1407 m1408 m1409 m1410 m1411 m1412 m1413 m1414 m1415 m1416 m1417 e1418 e1419 e1420 e1421 e1422 e1423 e1424 e1425 e1426 e1427 e1428 e1429 e1430 e1431 e1432 e1433 e1434 e1435 e1436 e1437 e1438 e1439 e1440 e1441 e1442 e1443 e1444 e1445 e1446 e1447 e1448 hF1386 wh1450 wh1451 wh1452 Y hl
              obtain rfl : i1377 = 8 := (by omega)
              refine lv_iload_n X.1 X.2.1 d_H_init_156 rfl (lv_at hl 0 rfl) ?_
              refine lv_bipush (v := (nI 8)) X.1 X.2.1 d_H_init_157 (by decide) ?_
              refine lv_icmp_ge (tgt := 185) X.1 X.2.1 d_H_init_159 (by decide) (fun c1453 => ?_) (fun c1453 => absurd ?_ c1453)
              rotate_left
              · (rw [nI_leI (by omega) (by omega)] <;> omega)
              rw [nI_leI (by omega) (by omega)] at c1453
              refine lv_aload_n X.1 X.2.1 d_H_init_185 rfl (lv_at hl 1 rfl) ?_
              refine q_get X.1 X.2.1 X.2.2.1 i_H X.2.2.2.1 X.2.2.2.2 Y m1387 e1418 rfl 3 (by decide) (X.2.2.1 _ lk_H_28) (fun _ h9 => h9) rfl d_H_init_186 ?_
              refine x_v (x_runS (As := [.ref q480]) (rest := []) (n := 1) X hml hl.1 (c_H_putCentreName l D E T L1378 f1379 H.size (40) q480 q539 (0) g540 m1409 m1410 e1440 e1441 hg543 (by omega) (by omega)) (ok_k X Y hA KS KR) kl_H_H_putCentreName ks_H_putCentreName ki_H_putCentreName ini_H ⟨rfl, rfl⟩ hd_H_putCentreName.2 ⟨by decide, by decide⟩ rfl (Nat.le_of_ble_eq_true rfl) d_H_init_189 ⟨(show 359 + 0 ≤ 367 by omega), (show 51968 + (0) ≤ (53413) by omega)⟩) X Y hA (fun u H locs hp Y => ?_)
              obtain ⟨L1456, f1455⟩ := u
              obtain ⟨eL1458, hF1457, n1460, g1461, hg1462, h1463, e1464, e1465⟩ := hp
              dsimp only at eL1458 hF1457 e1464 e1465 Y
              rw [eL1458] at Y
              have wh1466 : wP 7 2 1 12 q852 f1455 (L1378) g1024 := wP_keep wh1450 (fun x9 h9 => h9) (fun x hx h0 ht => hF1457 x (q_tn ht e1440 (show (3 : Nat) ≠ 7 by decide)) (q_tn ht e1441 (show (1000 : Nat) ≠ 7 by decide)))
              have wh1467 : wP 2 2 0 4 q1092 f1455 (L1378) g1198 := wP_keep wh1451 (fun x9 h9 => h9) (fun x hx h0 ht => hF1457 x (q_tn ht e1440 (show (3 : Nat) ≠ 2 by decide)) (q_tn ht e1441 (show (1000 : Nat) ≠ 2 by decide)))
              have wh1468 : wP 9 1 0 8 q1269 f1455 (L1378) g1380 := wP_keep wh1452 (fun x9 h9 => h9) (fun x hx h0 ht => hF1457 x (q_tn ht e1440 (show (3 : Nat) ≠ 9 by decide)) (q_tn ht e1441 (show (1000 : Nat) ≠ 9 by decide)))
              have e1469 : f1455 xo = .inr (0, [.ref q1, .ref q230, .ref q350, .ref q480, .ref q764, .ref q620, .null, .ref q1092, .ref q1269]) := (hF1457 xo (q_tag e1418 e1440 (show (0 : Nat) ≠ 3 by decide)) (q_tag e1418 e1441 (show (0 : Nat) ≠ 1000 by decide))).trans e1418
              have e1470 : f1455 q1 = .inr (11, [.int (nI 1000000000), .ref o183, .ref o184, .ref q18, .ref q25, .ref q30, .int (nI 0), .ref o185, .int (nI 20), .int (nI 0), .ref o186, .ref q31, .ref q32]) := (hF1457 q1 (q_tag e1419 e1440 (show (11 : Nat) ≠ 3 by decide)) (q_tag e1419 e1441 (show (11 : Nat) ≠ 1000 by decide))).trans e1419
              have e1471 : f1455 q18 = .inr (6, [.ref q19, .ref q20, .ref q21, .ref q22, .ref q23, .int (nI 0), .int (nI 0), .ref q24]) := (hF1457 q18 (q_tag e1420 e1440 (show (6 : Nat) ≠ 3 by decide)) (q_tag e1420 e1441 (show (6 : Nat) ≠ 1000 by decide))).trans e1420
              have e1472 : f1455 q19 = .inl (E.2.1, 80, .inl g34) := (hF1457 q19 (q_tag e1421 e1440 (show (1000 : Nat) ≠ 3 by decide)) (ne_mem nl542 m514)).trans e1421
              have e1473 : f1455 q20 = .inl (E.1, 64, .inl g35) := (hF1457 q20 (q_tag e1422 e1440 (show (1000 : Nat) ≠ 3 by decide)) (ne_mem nl542 m515)).trans e1422
              have e1474 : f1455 q21 = .inl (E.2.1, 5, .inl g36) := (hF1457 q21 (q_tag e1423 e1440 (show (1000 : Nat) ≠ 3 by decide)) (ne_mem nl542 m516)).trans e1423
              have e1475 : f1455 q22 = .inl (E.2.1, 5, .inl g37) := (hF1457 q22 (q_tag e1424 e1440 (show (1000 : Nat) ≠ 3 by decide)) (ne_mem nl542 m517)).trans e1424
              have e1476 : f1455 q23 = .inl (E.2.1, 5, .inl g38) := (hF1457 q23 (q_tag e1425 e1440 (show (1000 : Nat) ≠ 3 by decide)) (ne_mem nl542 m518)).trans e1425
              have e1477 : f1455 q24 = .inl (E.1, 20, .inl g39) := (hF1457 q24 (q_tag e1426 e1440 (show (1000 : Nat) ≠ 3 by decide)) (ne_mem nl542 m519)).trans e1426
              have e1478 : f1455 q25 = .inr (1, [.ref o187, .ref q26, .ref q27, .int (nI 0), .ref q28, .ref q29, .ref o188]) := (hF1457 q25 (q_tag e1427 e1440 (show (1 : Nat) ≠ 3 by decide)) (q_tag e1427 e1441 (show (1 : Nat) ≠ 1000 by decide))).trans e1427
              have e1479 : f1455 q26 = .inl (E.2.1, 256, .inl g40) := (hF1457 q26 (q_tag e1428 e1440 (show (1000 : Nat) ≠ 3 by decide)) (ne_mem nl542 m521)).trans e1428
              have e1480 : f1455 q27 = .inl (E.2.1, 240, .inl g41) := (hF1457 q27 (q_tag e1429 e1440 (show (1000 : Nat) ≠ 3 by decide)) (ne_mem nl542 m522)).trans e1429
              have e1481 : f1455 q28 = .inl (E.2.1, 16, .inl g42) := (hF1457 q28 (q_tag e1430 e1440 (show (1000 : Nat) ≠ 3 by decide)) (ne_mem nl542 m523)).trans e1430
              have e1482 : f1455 q29 = .inl (E.2.1, 16, .inl g43) := (hF1457 q29 (q_tag e1431 e1440 (show (1000 : Nat) ≠ 3 by decide)) (ne_mem nl542 m524)).trans e1431
              have e1483 : f1455 q30 = .inl (E.1, 64, .inl g44) := (hF1457 q30 (q_tag e1432 e1440 (show (1000 : Nat) ≠ 3 by decide)) (ne_mem nl542 m525)).trans e1432
              have e1484 : f1455 q31 = .inl (E.1, 20, .inl g45) := (hF1457 q31 (q_tag e1433 e1440 (show (1000 : Nat) ≠ 3 by decide)) (ne_mem nl542 m526)).trans e1433
              have e1485 : f1455 q32 = .inr (3, [.ref q33, .int (nI 0)]) := (hF1457 q32 (ne_mem hqq480 m451) (q_tag e1434 e1441 (show (3 : Nat) ≠ 1000 by decide))).trans e1434
              have e1486 : f1455 q33 = .inl (E.1, 64, .inl g46) := (hF1457 q33 (q_tag e1435 e1440 (show (1000 : Nat) ≠ 3 by decide)) (ne_mem nl542 m528)).trans e1435
              have e1487 : f1455 q230 = .inr (3, [.ref q281, .int (nI 0)]) := (hF1457 q230 (ne_mem hqq480 m453) (q_tag e1436 e1441 (show (3 : Nat) ≠ 1000 by decide))).trans e1436
              have e1488 : f1455 q281 = .inl (E.1, 4000, .inl g282) := (hF1457 q281 (q_tag e1437 e1440 (show (1000 : Nat) ≠ 3 by decide)) (ne_mem nl542 m530)).trans e1437
              have e1489 : f1455 q350 = .inr (3, [.ref q405, .int (nI 0)]) := (hF1457 q350 (ne_mem hqq480 m455) (q_tag e1438 e1441 (show (3 : Nat) ≠ 1000 by decide))).trans e1438
              have e1490 : f1455 q405 = .inl (E.1, 12288, .inl g406) := (hF1457 q405 (q_tag e1439 e1440 (show (1000 : Nat) ≠ 3 by decide)) (ne_mem nl542 m532)).trans e1439
              have e1491 : f1455 q620 = .inr (5, [.ref q1, .ref o684, .ref o685, .ref (T.1 0), .int (nI 32)]) := (hF1457 q620 (q_tag e1442 e1440 (show (5 : Nat) ≠ 3 by decide)) (q_tag e1442 e1441 (show (5 : Nat) ≠ 1000 by decide))).trans e1442
              have e1492 : f1455 q764 = .inl (E.2.2.1, 12, .inr (.inr (.inr (.inr g1024)))) := (hF1457 q764 (q_tag e1443 e1440 (show (1000 : Nat) ≠ 3 by decide)) (ne_mem hqq764 m735).symm).trans e1443
              have e1493 : f1455 q852 = .inr (7, [.ref q919, .ref o930, .int (nI 0), .int (nI 0), .int (nI 0), .ref (T.1 0), .ref (T.1 0), .ref (T.1 0), .ref (T.1 0), .int (nI 36000), .int (nI 72000), .int (nI 15), .int (nI 0)]) := (hF1457 q852 (q_tag e1444 e1440 (show (7 : Nat) ≠ 3 by decide)) (q_tag e1444 e1441 (show (7 : Nat) ≠ 1000 by decide))).trans e1444
              have e1494 : f1455 q919 = .inr (3, [.ref q920, .int (nI 0)]) := (hF1457 q919 (ne_mem nl924 m909).symm (q_tag e1445 e1441 (show (3 : Nat) ≠ 1000 by decide))).trans e1445
              have e1495 : f1455 q920 = .inl (E.1, 40, .inl g921) := (hF1457 q920 (q_tag e1446 e1440 (show (1000 : Nat) ≠ 3 by decide)) (ne_mem nl925 m910).symm).trans e1446
              have e1496 : f1455 q1092 = .inl (E.2.2.2.1, 4, .inr (.inr (.inr (.inr g1198)))) := (hF1457 q1092 (q_tag e1447 e1440 (show (1000 : Nat) ≠ 3 by decide)) (ne_mem hqq1092 m1054).symm).trans e1447
              have e1497 : f1455 q1269 = .inl (E.2.2.2.2.1, 8, .inr (.inr (.inr (.inr g1380)))) := (hF1457 q1269 (q_tag e1448 e1440 (show (1000 : Nat) ≠ 3 by decide)) (ne_mem hqq1269 m1228).symm).trans e1448
              have hF1498 : ∀ x, x ∈ L → x ≠ xo → f1455 x = f x := fun x hx h0 => (hF1457 x (ne_mem nl485 hx) (ne_mem nl570 hx)).trans (hF1386 x hx h0)
              refine lv_aload_n X.1 X.2.1 d_H_init_192 rfl (lv_at hl 1 rfl) ?_
              refine q_get X.1 X.2.1 X.2.2.1 i_H X.2.2.2.1 X.2.2.2.2 Y m1387 e1469 rfl 4 (by decide) (X.2.2.1 _ lk_H_42) (fun _ h9 => h9) rfl d_H_init_193 ?_
              refine lv_iconst (v := (nI 0)) X.1 X.2.1 d_H_init_196 (by decide) ?_
              refine q_aald X.1 X.2.1 X.2.2.2.2 Y 2 m1412 e1492 rfl (vp_in_nI (by omega) (by omega)) d_H_init_197 ?_
              refine t_rf (show _ = some q852 by rw [nI_clamp (by decide)]; exact hz1089) ?_
              refine lv_aload_n X.1 X.2.1 d_H_init_198 rfl (lv_at hl 1 rfl) ?_
              refine q_get X.1 X.2.1 X.2.2.1 i_H X.2.2.2.1 X.2.2.2.2 Y m1387 e1469 rfl 3 (by decide) (X.2.2.1 _ lk_H_28) (fun _ h9 => h9) rfl d_H_init_199 ?_
              refine x_v (x_runV (As := [.ref q480]) (rest := []) (n := 1) X Y hml hl.1 (c_Pr_begin l D E T L1378 f1455 H.size (40) (40) q852 q919 q920 q480 q539 o930 (T.1 0) (T.1 0) (T.1 0) (T.1 0) (0) (0) (n1460) ((nI 0)) ((nI 0)) ((nI 36000)) ((nI 72000)) ((nI 15)) ((nI 0)) g921 g1461 m1413 m1414 m1415 m1409 m1410 e1493 e1494 e1495 e1464 e1465 hg926 hg1462 (ne_mem nl924 m909).symm (ne_mem nl925 m910).symm (by omega) (by omega) (by omega) (by omega)) (ok_k X Y hA KS KR) m1413 e1493 rfl kl_H_Pr_begin ks_Pr_begin kx_Pr_begin ki_Pr_begin ini_Pr ⟨rfl, rfl⟩ hd_Pr_begin ⟨by decide, by decide⟩ rfl (Nat.le_of_ble_eq_true rfl) d_H_init_202 ⟨(show 359 + 0 ≤ 367 by omega), (show 51968 + (0) ≤ (53413) by omega)⟩) X Y hA (fun u H locs hp Y => ?_)
              obtain ⟨L1501, f1500⟩ := u
              obtain ⟨eL1503, hF1502, n1505, g1506, hg1507, h1508, e1509, e1510, e1511⟩ := hp
              dsimp only at eL1503 hF1502 e1509 e1510 e1511 Y
              rw [eL1503] at Y
              have wh1512 : wP 7 2 1 12 q852 f1500 (L1378) g1024 := wP_keep wh1466 (fun x9 h9 => h9) (fun x hx h0 ht => hF1502 x h0 (q_tn ht e1494 (show (3 : Nat) ≠ 7 by decide)) (q_tn ht e1495 (show (1000 : Nat) ≠ 7 by decide)))
              have wh1513 : wP 2 2 0 4 q1092 f1500 (L1378) g1198 := wP_keep wh1467 (fun x9 h9 => h9) (fun x hx h0 ht => hF1502 x (q_tn ht e1493 (show (7 : Nat) ≠ 2 by decide)) (q_tn ht e1494 (show (3 : Nat) ≠ 2 by decide)) (q_tn ht e1495 (show (1000 : Nat) ≠ 2 by decide)))
              have wh1514 : wP 9 1 0 8 q1269 f1500 (L1378) g1380 := wP_keep wh1468 (fun x9 h9 => h9) (fun x hx h0 ht => hF1502 x (q_tn ht e1493 (show (7 : Nat) ≠ 9 by decide)) (q_tn ht e1494 (show (3 : Nat) ≠ 9 by decide)) (q_tn ht e1495 (show (1000 : Nat) ≠ 9 by decide)))
              have e1515 : f1500 xo = .inr (0, [.ref q1, .ref q230, .ref q350, .ref q480, .ref q764, .ref q620, .null, .ref q1092, .ref q1269]) := (hF1502 xo (q_tag e1469 e1493 (show (0 : Nat) ≠ 7 by decide)) (q_tag e1469 e1494 (show (0 : Nat) ≠ 3 by decide)) (q_tag e1469 e1495 (show (0 : Nat) ≠ 1000 by decide))).trans e1469
              have e1516 : f1500 q1 = .inr (11, [.int (nI 1000000000), .ref o183, .ref o184, .ref q18, .ref q25, .ref q30, .int (nI 0), .ref o185, .int (nI 20), .int (nI 0), .ref o186, .ref q31, .ref q32]) := (hF1502 q1 (q_tag e1470 e1493 (show (11 : Nat) ≠ 7 by decide)) (q_tag e1470 e1494 (show (11 : Nat) ≠ 3 by decide)) (q_tag e1470 e1495 (show (11 : Nat) ≠ 1000 by decide))).trans e1470
              have e1517 : f1500 q18 = .inr (6, [.ref q19, .ref q20, .ref q21, .ref q22, .ref q23, .int (nI 0), .int (nI 0), .ref q24]) := (hF1502 q18 (q_tag e1471 e1493 (show (6 : Nat) ≠ 7 by decide)) (q_tag e1471 e1494 (show (6 : Nat) ≠ 3 by decide)) (q_tag e1471 e1495 (show (6 : Nat) ≠ 1000 by decide))).trans e1471
              have e1518 : f1500 q19 = .inl (E.2.1, 80, .inl g34) := (hF1502 q19 (q_tag e1472 e1493 (show (1000 : Nat) ≠ 7 by decide)) (q_tag e1472 e1494 (show (1000 : Nat) ≠ 3 by decide)) (ne_mem nl925 m890)).trans e1472
              have e1519 : f1500 q20 = .inl (E.1, 64, .inl g35) := (hF1502 q20 (q_tag e1473 e1493 (show (1000 : Nat) ≠ 7 by decide)) (q_tag e1473 e1494 (show (1000 : Nat) ≠ 3 by decide)) (ne_mem nl925 m891)).trans e1473
              have e1520 : f1500 q21 = .inl (E.2.1, 5, .inl g36) := (hF1502 q21 (q_tag e1474 e1493 (show (1000 : Nat) ≠ 7 by decide)) (q_tag e1474 e1494 (show (1000 : Nat) ≠ 3 by decide)) (ne_mem nl925 m892)).trans e1474
              have e1521 : f1500 q22 = .inl (E.2.1, 5, .inl g37) := (hF1502 q22 (q_tag e1475 e1493 (show (1000 : Nat) ≠ 7 by decide)) (q_tag e1475 e1494 (show (1000 : Nat) ≠ 3 by decide)) (ne_mem nl925 m893)).trans e1475
              have e1522 : f1500 q23 = .inl (E.2.1, 5, .inl g38) := (hF1502 q23 (q_tag e1476 e1493 (show (1000 : Nat) ≠ 7 by decide)) (q_tag e1476 e1494 (show (1000 : Nat) ≠ 3 by decide)) (ne_mem nl925 m894)).trans e1476
              have e1523 : f1500 q24 = .inl (E.1, 20, .inl g39) := (hF1502 q24 (q_tag e1477 e1493 (show (1000 : Nat) ≠ 7 by decide)) (q_tag e1477 e1494 (show (1000 : Nat) ≠ 3 by decide)) (ne_mem nl925 m895)).trans e1477
              have e1524 : f1500 q25 = .inr (1, [.ref o187, .ref q26, .ref q27, .int (nI 0), .ref q28, .ref q29, .ref o188]) := (hF1502 q25 (q_tag e1478 e1493 (show (1 : Nat) ≠ 7 by decide)) (q_tag e1478 e1494 (show (1 : Nat) ≠ 3 by decide)) (q_tag e1478 e1495 (show (1 : Nat) ≠ 1000 by decide))).trans e1478
              have e1525 : f1500 q26 = .inl (E.2.1, 256, .inl g40) := (hF1502 q26 (q_tag e1479 e1493 (show (1000 : Nat) ≠ 7 by decide)) (q_tag e1479 e1494 (show (1000 : Nat) ≠ 3 by decide)) (ne_mem nl925 m897)).trans e1479
              have e1526 : f1500 q27 = .inl (E.2.1, 240, .inl g41) := (hF1502 q27 (q_tag e1480 e1493 (show (1000 : Nat) ≠ 7 by decide)) (q_tag e1480 e1494 (show (1000 : Nat) ≠ 3 by decide)) (ne_mem nl925 m898)).trans e1480
              have e1527 : f1500 q28 = .inl (E.2.1, 16, .inl g42) := (hF1502 q28 (q_tag e1481 e1493 (show (1000 : Nat) ≠ 7 by decide)) (q_tag e1481 e1494 (show (1000 : Nat) ≠ 3 by decide)) (ne_mem nl925 m899)).trans e1481
              have e1528 : f1500 q29 = .inl (E.2.1, 16, .inl g43) := (hF1502 q29 (q_tag e1482 e1493 (show (1000 : Nat) ≠ 7 by decide)) (q_tag e1482 e1494 (show (1000 : Nat) ≠ 3 by decide)) (ne_mem nl925 m900)).trans e1482
              have e1529 : f1500 q30 = .inl (E.1, 64, .inl g44) := (hF1502 q30 (q_tag e1483 e1493 (show (1000 : Nat) ≠ 7 by decide)) (q_tag e1483 e1494 (show (1000 : Nat) ≠ 3 by decide)) (ne_mem nl925 m901)).trans e1483
              have e1530 : f1500 q31 = .inl (E.1, 20, .inl g45) := (hF1502 q31 (q_tag e1484 e1493 (show (1000 : Nat) ≠ 7 by decide)) (q_tag e1484 e1494 (show (1000 : Nat) ≠ 3 by decide)) (ne_mem nl925 m902)).trans e1484
              have e1531 : f1500 q32 = .inr (3, [.ref q33, .int (nI 0)]) := (hF1502 q32 (q_tag e1485 e1493 (show (3 : Nat) ≠ 7 by decide)) (ne_mem nl924 m903) (q_tag e1485 e1495 (show (3 : Nat) ≠ 1000 by decide))).trans e1485
              have e1532 : f1500 q33 = .inl (E.1, 64, .inl g46) := (hF1502 q33 (q_tag e1486 e1493 (show (1000 : Nat) ≠ 7 by decide)) (q_tag e1486 e1494 (show (1000 : Nat) ≠ 3 by decide)) (ne_mem nl925 m904)).trans e1486
              have e1533 : f1500 q230 = .inr (3, [.ref q281, .int (nI 0)]) := (hF1502 q230 (q_tag e1487 e1493 (show (3 : Nat) ≠ 7 by decide)) (ne_mem nl924 m905) (q_tag e1487 e1495 (show (3 : Nat) ≠ 1000 by decide))).trans e1487
              have e1534 : f1500 q281 = .inl (E.1, 4000, .inl g282) := (hF1502 q281 (q_tag e1488 e1493 (show (1000 : Nat) ≠ 7 by decide)) (q_tag e1488 e1494 (show (1000 : Nat) ≠ 3 by decide)) (ne_mem nl925 m906)).trans e1488
              have e1535 : f1500 q350 = .inr (3, [.ref q405, .int (nI 0)]) := (hF1502 q350 (q_tag e1489 e1493 (show (3 : Nat) ≠ 7 by decide)) (ne_mem nl924 m907) (q_tag e1489 e1495 (show (3 : Nat) ≠ 1000 by decide))).trans e1489
              have e1536 : f1500 q405 = .inl (E.1, 12288, .inl g406) := (hF1502 q405 (q_tag e1490 e1493 (show (1000 : Nat) ≠ 7 by decide)) (q_tag e1490 e1494 (show (1000 : Nat) ≠ 3 by decide)) (ne_mem nl925 m908)).trans e1490
              have e1537 : f1500 q480 = .inr (3, [.ref q539, .int (nI n1460)]) := (hF1502 q480 (q_tag e1464 e1493 (show (3 : Nat) ≠ 7 by decide)) (ne_mem nl924 m909) (q_tag e1464 e1495 (show (3 : Nat) ≠ 1000 by decide))).trans e1464
              have e1538 : f1500 q539 = .inl (E.1, 40, .inl g1461) := (hF1502 q539 (q_tag e1465 e1493 (show (1000 : Nat) ≠ 7 by decide)) (q_tag e1465 e1494 (show (1000 : Nat) ≠ 3 by decide)) (ne_mem nl925 m910)).trans e1465
              have e1539 : f1500 q620 = .inr (5, [.ref q1, .ref o684, .ref o685, .ref (T.1 0), .int (nI 32)]) := (hF1502 q620 (q_tag e1491 e1493 (show (5 : Nat) ≠ 7 by decide)) (q_tag e1491 e1494 (show (5 : Nat) ≠ 3 by decide)) (q_tag e1491 e1495 (show (5 : Nat) ≠ 1000 by decide))).trans e1491
              have e1540 : f1500 q764 = .inl (E.2.2.1, 12, .inr (.inr (.inr (.inr g1024)))) := (hF1502 q764 (q_tag e1492 e1493 (show (1000 : Nat) ≠ 7 by decide)) (q_tag e1492 e1494 (show (1000 : Nat) ≠ 3 by decide)) (ne_mem nl925 m912)).trans e1492
              have e1541 : f1500 q1092 = .inl (E.2.2.2.1, 4, .inr (.inr (.inr (.inr g1198)))) := (hF1502 q1092 (q_tag e1496 e1493 (show (1000 : Nat) ≠ 7 by decide)) (q_tag e1496 e1494 (show (1000 : Nat) ≠ 3 by decide)) (ne_mem hqq1092 m1059).symm).trans e1496
              have e1542 : f1500 q1269 = .inl (E.2.2.2.2.1, 8, .inr (.inr (.inr (.inr g1380)))) := (hF1502 q1269 (q_tag e1497 e1493 (show (1000 : Nat) ≠ 7 by decide)) (q_tag e1497 e1494 (show (1000 : Nat) ≠ 3 by decide)) (ne_mem hqq1269 m1233).symm).trans e1497
              have hF1543 : ∀ x, x ∈ L → x ≠ xo → f1500 x = f x := fun x hx h0 => (hF1502 x (ne_mem nl857 hx) (ne_mem nl959 hx) (ne_mem nl960 hx)).trans (hF1498 x hx h0)
              refine lv_aload_n X.1 X.2.1 d_H_init_205 rfl (lv_at hl 1 rfl) ?_
              refine q_get X.1 X.2.1 X.2.2.1 i_H X.2.2.2.1 X.2.2.2.2 Y m1387 e1515 rfl 4 (by decide) (X.2.2.1 _ lk_H_42) (fun _ h9 => h9) rfl d_H_init_206 ?_
              refine lv_iconst (v := (nI 0)) X.1 X.2.1 d_H_init_209 (by decide) ?_
              refine q_aald X.1 X.2.1 X.2.2.2.2 Y 2 m1412 e1540 rfl (vp_in_nI (by omega) (by omega)) d_H_init_210 ?_
              refine t_rf (show _ = some q852 by rw [nI_clamp (by decide)]; exact hz1089) ?_
              refine lv_aload_n X.1 X.2.1 d_H_init_211 rfl (lv_at hl 1 rfl) ?_
              refine q_get X.1 X.2.1 X.2.2.1 i_H X.2.2.2.1 X.2.2.2.2 Y m1387 e1515 rfl 0 (by decide) (X.2.2.1 _ lk_H_12) (fun _ h9 => h9) rfl d_H_init_212 ?_
              refine lv_aload_n X.1 X.2.1 d_H_init_215 rfl (lv_at hl 1 rfl) ?_
              refine q_get X.1 X.2.1 X.2.2.1 i_H X.2.2.2.1 X.2.2.2.2 Y m1387 e1515 rfl 1 (by decide) (X.2.2.1 _ lk_H_21) (fun _ h9 => h9) rfl d_H_init_216 ?_
              refine lv_iconst (v := (nI 0)) X.1 X.2.1 d_H_init_219 (by decide) ?_
              refine lv_iconst (v := (nI 1)) X.1 X.2.1 d_H_init_220 (by decide) ?_
              refine x_v (x_runV (As := [.ref q1, .ref q230, .int (nI 0), .int (nI 1)]) (rest := []) (n := 4) X Y hml hl.1 (c_Pr_rekey l D E T L1378 f1500 H.size (0) ((nI 1)) (64) (40) (4000) q852 q1 q18 q19 q20 q21 q22 q23 q24 q25 q26 q27 q28 q29 q31 q32 q33 q919 q920 q230 q281 o930 (T.1 0) (T.1 0) (T.1 0) (T.1 0) o183 o184 q30 o185 o186 o187 o188 (0) (0) (0) (0) (n1505) (0) ((nI 1)) ((nI 0)) ((nI 36000)) ((nI 72000)) ((nI 15)) ((nI 0)) ((nI 1000000000)) ((nI 0)) ((nI 20)) ((nI 0)) ((nI 0)) g34 g35 g36 g37 g38 g39 g40 g41 g42 g43 g45 g46 g1506 g282 m1413 m1388 m1389 m1390 m1391 m1392 m1393 m1394 m1395 m1396 m1397 m1398 m1399 m1400 m1402 m1403 m1404 m1414 m1415 m1405 m1406 e1509 e1516 e1517 e1518 e1519 e1520 e1521 e1522 e1523 e1524 e1525 e1526 e1527 e1528 e1530 e1531 e1532 e1510 e1511 e1533 e1534 hg157 hg158 hg159 hg160 hg161 hg162 hg164 hg165 hg1507 hg285 ap79 ap80 ap81 ap82 ap83 ap84 ap85 ap86 ap87 ap89 ap90 (ne_mem nl925 m890) (ne_mem nl284 m260) ap91 ap92 ap93 ap94 ap95 ap96 ap97 ap98 ap100 ap101 (ne_mem nl925 m891) (ne_mem nl284 m261) ap102 ap103 ap104 ap105 ap106 ap107 ap108 ap110 ap111 (ne_mem nl925 m892) (ne_mem nl284 m262) ap112 ap113 ap114 ap115 ap116 ap117 ap119 ap120 (ne_mem nl925 m893) (ne_mem nl284 m263) ap121 ap122 ap123 ap124 ap125 ap127 ap128 (ne_mem nl925 m894) (ne_mem nl284 m264) ap129 ap130 ap131 ap132 ap134 ap135 (ne_mem nl925 m895) (ne_mem nl284 m265) ap136 ap137 ap138 ap140 ap141 (ne_mem nl925 m897) (ne_mem nl284 m267) ap142 ap143 ap145 ap146 (ne_mem nl925 m898) (ne_mem nl284 m268) ap147 ap149 ap150 (ne_mem nl925 m899) (ne_mem nl284 m269) ap152 ap153 (ne_mem nl925 m900) (ne_mem nl284 m270) ap156 (ne_mem nl925 m902) (ne_mem nl284 m272) (ne_mem nl924 m903) (ne_mem hqq230 m61) (ne_mem nl925 m904) (ne_mem nl284 m274) (ne_mem nl924 m905).symm (ne_mem nl925 m906).symm (by omega) (by omega) (by omega) (by omega) (by omega) (by omega) (by omega) (by omega) (by omega) (by omega)) (ok_k X Y hA KS KR) m1413 e1509 rfl kl_H_Pr_rekey ks_Pr_rekey kx_Pr_rekey ki_Pr_rekey ini_Pr ⟨rfl, rfl⟩ hd_Pr_rekey ⟨by decide, by decide⟩ rfl (Nat.le_of_ble_eq_true rfl) d_H_init_221 ⟨(show 359 + 2 ≤ 367 by omega), (show 51968 + (48) ≤ (53413) by omega)⟩) X Y hA (fun u H locs hp Y => ?_)
              obtain ⟨L1546, f1545⟩ := u
              obtain ⟨eL1548, hF1547, o1593, o1594, n1550, n1551, n1552, n1553, v1554, v1555, g1556, g1557, g1558, g1559, g1560, g1561, g1562, g1563, g1564, g1565, g1566, hg1567, hg1568, hg1569, hg1570, hg1571, hg1572, hg1573, h1574, h1575, h1576, h1577, e1578, e1579, e1580, e1581, e1582, e1583, e1584, e1585, e1586, e1587, e1588, e1589, e1590, e1591, e1592⟩ := hp
              dsimp only at eL1548 hF1547 e1578 e1579 e1580 e1581 e1582 e1583 e1584 e1585 e1586 e1587 e1588 e1589 e1590 e1591 e1592 Y
              have wh1595 : wP 7 2 1 12 q852 f1545 (L1546) g1024 := wP_keep wh1512 (fun x9 h9 => eL1548 x9 h9) (fun x hx h0 ht => hF1547 x hx h0 (q_tn ht e1517 (show (6 : Nat) ≠ 7 by decide)) (q_tn ht e1518 (show (1000 : Nat) ≠ 7 by decide)) (q_tn ht e1519 (show (1000 : Nat) ≠ 7 by decide)) (q_tn ht e1520 (show (1000 : Nat) ≠ 7 by decide)) (q_tn ht e1523 (show (1000 : Nat) ≠ 7 by decide)) (q_tn ht e1521 (show (1000 : Nat) ≠ 7 by decide)) (q_tn ht e1522 (show (1000 : Nat) ≠ 7 by decide)) (q_tn ht e1524 (show (1 : Nat) ≠ 7 by decide)) (q_tn ht e1526 (show (1000 : Nat) ≠ 7 by decide)) (q_tn ht e1527 (show (1000 : Nat) ≠ 7 by decide)) (q_tn ht e1528 (show (1000 : Nat) ≠ 7 by decide)) (q_tn ht e1530 (show (1000 : Nat) ≠ 7 by decide)) (q_tn ht e1531 (show (3 : Nat) ≠ 7 by decide)) (q_tn ht e1532 (show (1000 : Nat) ≠ 7 by decide)))
              have wh1596 : wP 2 2 0 4 q1092 f1545 (L1546) g1198 := wP_keep wh1513 (fun x9 h9 => eL1548 x9 h9) (fun x hx h0 ht => hF1547 x hx (q_tn ht e1509 (show (7 : Nat) ≠ 2 by decide)) (q_tn ht e1517 (show (6 : Nat) ≠ 2 by decide)) (q_tn ht e1518 (show (1000 : Nat) ≠ 2 by decide)) (q_tn ht e1519 (show (1000 : Nat) ≠ 2 by decide)) (q_tn ht e1520 (show (1000 : Nat) ≠ 2 by decide)) (q_tn ht e1523 (show (1000 : Nat) ≠ 2 by decide)) (q_tn ht e1521 (show (1000 : Nat) ≠ 2 by decide)) (q_tn ht e1522 (show (1000 : Nat) ≠ 2 by decide)) (q_tn ht e1524 (show (1 : Nat) ≠ 2 by decide)) (q_tn ht e1526 (show (1000 : Nat) ≠ 2 by decide)) (q_tn ht e1527 (show (1000 : Nat) ≠ 2 by decide)) (q_tn ht e1528 (show (1000 : Nat) ≠ 2 by decide)) (q_tn ht e1530 (show (1000 : Nat) ≠ 2 by decide)) (q_tn ht e1531 (show (3 : Nat) ≠ 2 by decide)) (q_tn ht e1532 (show (1000 : Nat) ≠ 2 by decide)))
              have wh1597 : wP 9 1 0 8 q1269 f1545 (L1546) g1380 := wP_keep wh1514 (fun x9 h9 => eL1548 x9 h9) (fun x hx h0 ht => hF1547 x hx (q_tn ht e1509 (show (7 : Nat) ≠ 9 by decide)) (q_tn ht e1517 (show (6 : Nat) ≠ 9 by decide)) (q_tn ht e1518 (show (1000 : Nat) ≠ 9 by decide)) (q_tn ht e1519 (show (1000 : Nat) ≠ 9 by decide)) (q_tn ht e1520 (show (1000 : Nat) ≠ 9 by decide)) (q_tn ht e1523 (show (1000 : Nat) ≠ 9 by decide)) (q_tn ht e1521 (show (1000 : Nat) ≠ 9 by decide)) (q_tn ht e1522 (show (1000 : Nat) ≠ 9 by decide)) (q_tn ht e1524 (show (1 : Nat) ≠ 9 by decide)) (q_tn ht e1526 (show (1000 : Nat) ≠ 9 by decide)) (q_tn ht e1527 (show (1000 : Nat) ≠ 9 by decide)) (q_tn ht e1528 (show (1000 : Nat) ≠ 9 by decide)) (q_tn ht e1530 (show (1000 : Nat) ≠ 9 by decide)) (q_tn ht e1531 (show (3 : Nat) ≠ 9 by decide)) (q_tn ht e1532 (show (1000 : Nat) ≠ 9 by decide)))
              have e1598 : f1545 xo = .inr (0, [.ref q1, .ref q230, .ref q350, .ref q480, .ref q764, .ref q620, .null, .ref q1092, .ref q1269]) := (hF1547 xo m1387 (q_tag e1515 e1509 (show (0 : Nat) ≠ 7 by decide)) (q_tag e1515 e1517 (show (0 : Nat) ≠ 6 by decide)) (q_tag e1515 e1518 (show (0 : Nat) ≠ 1000 by decide)) (q_tag e1515 e1519 (show (0 : Nat) ≠ 1000 by decide)) (q_tag e1515 e1520 (show (0 : Nat) ≠ 1000 by decide)) (q_tag e1515 e1523 (show (0 : Nat) ≠ 1000 by decide)) (q_tag e1515 e1521 (show (0 : Nat) ≠ 1000 by decide)) (q_tag e1515 e1522 (show (0 : Nat) ≠ 1000 by decide)) (q_tag e1515 e1524 (show (0 : Nat) ≠ 1 by decide)) (q_tag e1515 e1526 (show (0 : Nat) ≠ 1000 by decide)) (q_tag e1515 e1527 (show (0 : Nat) ≠ 1000 by decide)) (q_tag e1515 e1528 (show (0 : Nat) ≠ 1000 by decide)) (q_tag e1515 e1530 (show (0 : Nat) ≠ 1000 by decide)) (q_tag e1515 e1531 (show (0 : Nat) ≠ 3 by decide)) (q_tag e1515 e1532 (show (0 : Nat) ≠ 1000 by decide))).trans e1515
              have e1599 : f1545 q1 = .inr (11, [.int (nI 1000000000), .ref o183, .ref o184, .ref q18, .ref q25, .ref q30, .int (nI 0), .ref o185, .int (nI 20), .int (nI 0), .ref o186, .ref q31, .ref q32]) := (hF1547 q1 m1388 (q_tag e1516 e1509 (show (11 : Nat) ≠ 7 by decide)) (q_tag e1516 e1517 (show (11 : Nat) ≠ 6 by decide)) (q_tag e1516 e1518 (show (11 : Nat) ≠ 1000 by decide)) (q_tag e1516 e1519 (show (11 : Nat) ≠ 1000 by decide)) (q_tag e1516 e1520 (show (11 : Nat) ≠ 1000 by decide)) (q_tag e1516 e1523 (show (11 : Nat) ≠ 1000 by decide)) (q_tag e1516 e1521 (show (11 : Nat) ≠ 1000 by decide)) (q_tag e1516 e1522 (show (11 : Nat) ≠ 1000 by decide)) (q_tag e1516 e1524 (show (11 : Nat) ≠ 1 by decide)) (q_tag e1516 e1526 (show (11 : Nat) ≠ 1000 by decide)) (q_tag e1516 e1527 (show (11 : Nat) ≠ 1000 by decide)) (q_tag e1516 e1528 (show (11 : Nat) ≠ 1000 by decide)) (q_tag e1516 e1530 (show (11 : Nat) ≠ 1000 by decide)) (q_tag e1516 e1531 (show (11 : Nat) ≠ 3 by decide)) (q_tag e1516 e1532 (show (11 : Nat) ≠ 1000 by decide))).trans e1516
              have e1600 : f1545 q26 = .inl (E.2.1, 256, .inl g40) := (hF1547 q26 m1397 (q_tag e1525 e1509 (show (1000 : Nat) ≠ 7 by decide)) (q_tag e1525 e1517 (show (1000 : Nat) ≠ 6 by decide)) ap84.symm ap95.symm ap105.symm ap129.symm ap114.symm ap122.symm (q_tag e1525 e1524 (show (1000 : Nat) ≠ 1 by decide)) ap136 ap137 ap138 ap140 (q_tag e1525 e1531 (show (1000 : Nat) ≠ 3 by decide)) ap141).trans e1525
              have e1601 : f1545 q30 = .inl (E.1, 64, .inl g44) := (hF1547 q30 m1401 (q_tag e1529 e1509 (show (1000 : Nat) ≠ 7 by decide)) (q_tag e1529 e1517 (show (1000 : Nat) ≠ 6 by decide)) ap88.symm ap99.symm ap109.symm ap133.symm ap118.symm ap126.symm (q_tag e1529 e1524 (show (1000 : Nat) ≠ 1 by decide)) ap144.symm ap148.symm ap151.symm ap154 (q_tag e1529 e1531 (show (1000 : Nat) ≠ 3 by decide)) ap155).trans e1529
              have e1602 : f1545 q230 = .inr (3, [.ref q281, .int (nI 0)]) := (hF1547 q230 m1405 (q_tag e1533 e1509 (show (3 : Nat) ≠ 7 by decide)) (q_tag e1533 e1517 (show (3 : Nat) ≠ 6 by decide)) (q_tag e1533 e1518 (show (3 : Nat) ≠ 1000 by decide)) (q_tag e1533 e1519 (show (3 : Nat) ≠ 1000 by decide)) (q_tag e1533 e1520 (show (3 : Nat) ≠ 1000 by decide)) (q_tag e1533 e1523 (show (3 : Nat) ≠ 1000 by decide)) (q_tag e1533 e1521 (show (3 : Nat) ≠ 1000 by decide)) (q_tag e1533 e1522 (show (3 : Nat) ≠ 1000 by decide)) (q_tag e1533 e1524 (show (3 : Nat) ≠ 1 by decide)) (q_tag e1533 e1526 (show (3 : Nat) ≠ 1000 by decide)) (q_tag e1533 e1527 (show (3 : Nat) ≠ 1000 by decide)) (q_tag e1533 e1528 (show (3 : Nat) ≠ 1000 by decide)) (q_tag e1533 e1530 (show (3 : Nat) ≠ 1000 by decide)) (ne_mem hqq230 m61).symm (q_tag e1533 e1532 (show (3 : Nat) ≠ 1000 by decide))).trans e1533
              have e1603 : f1545 q281 = .inl (E.1, 4000, .inl g282) := (hF1547 q281 m1406 (q_tag e1534 e1509 (show (1000 : Nat) ≠ 7 by decide)) (q_tag e1534 e1517 (show (1000 : Nat) ≠ 6 by decide)) (ne_mem nl284 m260).symm (ne_mem nl284 m261).symm (ne_mem nl284 m262).symm (ne_mem nl284 m265).symm (ne_mem nl284 m263).symm (ne_mem nl284 m264).symm (q_tag e1534 e1524 (show (1000 : Nat) ≠ 1 by decide)) (ne_mem nl284 m268).symm (ne_mem nl284 m269).symm (ne_mem nl284 m270).symm (ne_mem nl284 m272).symm (q_tag e1534 e1531 (show (1000 : Nat) ≠ 3 by decide)) (ne_mem nl284 m274).symm).trans e1534
              have e1604 : f1545 q350 = .inr (3, [.ref q405, .int (nI 0)]) := (hF1547 q350 m1407 (q_tag e1535 e1509 (show (3 : Nat) ≠ 7 by decide)) (q_tag e1535 e1517 (show (3 : Nat) ≠ 6 by decide)) (q_tag e1535 e1518 (show (3 : Nat) ≠ 1000 by decide)) (q_tag e1535 e1519 (show (3 : Nat) ≠ 1000 by decide)) (q_tag e1535 e1520 (show (3 : Nat) ≠ 1000 by decide)) (q_tag e1535 e1523 (show (3 : Nat) ≠ 1000 by decide)) (q_tag e1535 e1521 (show (3 : Nat) ≠ 1000 by decide)) (q_tag e1535 e1522 (show (3 : Nat) ≠ 1000 by decide)) (q_tag e1535 e1524 (show (3 : Nat) ≠ 1 by decide)) (q_tag e1535 e1526 (show (3 : Nat) ≠ 1000 by decide)) (q_tag e1535 e1527 (show (3 : Nat) ≠ 1000 by decide)) (q_tag e1535 e1528 (show (3 : Nat) ≠ 1000 by decide)) (q_tag e1535 e1530 (show (3 : Nat) ≠ 1000 by decide)) (ne_mem hqq350 m325).symm (q_tag e1535 e1532 (show (3 : Nat) ≠ 1000 by decide))).trans e1535
              have e1605 : f1545 q405 = .inl (E.1, 12288, .inl g406) := (hF1547 q405 m1408 (q_tag e1536 e1509 (show (1000 : Nat) ≠ 7 by decide)) (q_tag e1536 e1517 (show (1000 : Nat) ≠ 6 by decide)) (ne_mem nl408 m382).symm (ne_mem nl408 m383).symm (ne_mem nl408 m384).symm (ne_mem nl408 m387).symm (ne_mem nl408 m385).symm (ne_mem nl408 m386).symm (q_tag e1536 e1524 (show (1000 : Nat) ≠ 1 by decide)) (ne_mem nl408 m390).symm (ne_mem nl408 m391).symm (ne_mem nl408 m392).symm (ne_mem nl408 m394).symm (q_tag e1536 e1531 (show (1000 : Nat) ≠ 3 by decide)) (ne_mem nl408 m396).symm).trans e1536
              have e1606 : f1545 q480 = .inr (3, [.ref q539, .int (nI n1460)]) := (hF1547 q480 m1409 (q_tag e1537 e1509 (show (3 : Nat) ≠ 7 by decide)) (q_tag e1537 e1517 (show (3 : Nat) ≠ 6 by decide)) (q_tag e1537 e1518 (show (3 : Nat) ≠ 1000 by decide)) (q_tag e1537 e1519 (show (3 : Nat) ≠ 1000 by decide)) (q_tag e1537 e1520 (show (3 : Nat) ≠ 1000 by decide)) (q_tag e1537 e1523 (show (3 : Nat) ≠ 1000 by decide)) (q_tag e1537 e1521 (show (3 : Nat) ≠ 1000 by decide)) (q_tag e1537 e1522 (show (3 : Nat) ≠ 1000 by decide)) (q_tag e1537 e1524 (show (3 : Nat) ≠ 1 by decide)) (q_tag e1537 e1526 (show (3 : Nat) ≠ 1000 by decide)) (q_tag e1537 e1527 (show (3 : Nat) ≠ 1000 by decide)) (q_tag e1537 e1528 (show (3 : Nat) ≠ 1000 by decide)) (q_tag e1537 e1530 (show (3 : Nat) ≠ 1000 by decide)) (ne_mem hqq480 m451).symm (q_tag e1537 e1532 (show (3 : Nat) ≠ 1000 by decide))).trans e1537
              have e1607 : f1545 q539 = .inl (E.1, 40, .inl g1461) := (hF1547 q539 m1410 (q_tag e1538 e1509 (show (1000 : Nat) ≠ 7 by decide)) (q_tag e1538 e1517 (show (1000 : Nat) ≠ 6 by decide)) (ne_mem nl542 m514).symm (ne_mem nl542 m515).symm (ne_mem nl542 m516).symm (ne_mem nl542 m519).symm (ne_mem nl542 m517).symm (ne_mem nl542 m518).symm (q_tag e1538 e1524 (show (1000 : Nat) ≠ 1 by decide)) (ne_mem nl542 m522).symm (ne_mem nl542 m523).symm (ne_mem nl542 m524).symm (ne_mem nl542 m526).symm (q_tag e1538 e1531 (show (1000 : Nat) ≠ 3 by decide)) (ne_mem nl542 m528).symm).trans e1538
              have e1608 : f1545 q620 = .inr (5, [.ref q1, .ref o684, .ref o685, .ref (T.1 0), .int (nI 32)]) := (hF1547 q620 m1411 (q_tag e1539 e1509 (show (5 : Nat) ≠ 7 by decide)) (q_tag e1539 e1517 (show (5 : Nat) ≠ 6 by decide)) (q_tag e1539 e1518 (show (5 : Nat) ≠ 1000 by decide)) (q_tag e1539 e1519 (show (5 : Nat) ≠ 1000 by decide)) (q_tag e1539 e1520 (show (5 : Nat) ≠ 1000 by decide)) (q_tag e1539 e1523 (show (5 : Nat) ≠ 1000 by decide)) (q_tag e1539 e1521 (show (5 : Nat) ≠ 1000 by decide)) (q_tag e1539 e1522 (show (5 : Nat) ≠ 1000 by decide)) (q_tag e1539 e1524 (show (5 : Nat) ≠ 1 by decide)) (q_tag e1539 e1526 (show (5 : Nat) ≠ 1000 by decide)) (q_tag e1539 e1527 (show (5 : Nat) ≠ 1000 by decide)) (q_tag e1539 e1528 (show (5 : Nat) ≠ 1000 by decide)) (q_tag e1539 e1530 (show (5 : Nat) ≠ 1000 by decide)) (q_tag e1539 e1531 (show (5 : Nat) ≠ 3 by decide)) (q_tag e1539 e1532 (show (5 : Nat) ≠ 1000 by decide))).trans e1539
              have e1609 : f1545 q764 = .inl (E.2.2.1, 12, .inr (.inr (.inr (.inr g1024)))) := (hF1547 q764 m1412 (q_tag e1540 e1509 (show (1000 : Nat) ≠ 7 by decide)) (q_tag e1540 e1517 (show (1000 : Nat) ≠ 6 by decide)) (ne_mem hqq764 m715).symm (ne_mem hqq764 m716).symm (ne_mem hqq764 m717).symm (ne_mem hqq764 m720).symm (ne_mem hqq764 m718).symm (ne_mem hqq764 m719).symm (q_tag e1540 e1524 (show (1000 : Nat) ≠ 1 by decide)) (ne_mem hqq764 m723).symm (ne_mem hqq764 m724).symm (ne_mem hqq764 m725).symm (ne_mem hqq764 m727).symm (q_tag e1540 e1531 (show (1000 : Nat) ≠ 3 by decide)) (ne_mem hqq764 m729).symm).trans e1540
              have e1610 : f1545 q919 = .inr (3, [.ref q920, .int (nI n1505)]) := (hF1547 q919 m1414 (q_tag e1510 e1509 (show (3 : Nat) ≠ 7 by decide)) (q_tag e1510 e1517 (show (3 : Nat) ≠ 6 by decide)) (q_tag e1510 e1518 (show (3 : Nat) ≠ 1000 by decide)) (q_tag e1510 e1519 (show (3 : Nat) ≠ 1000 by decide)) (q_tag e1510 e1520 (show (3 : Nat) ≠ 1000 by decide)) (q_tag e1510 e1523 (show (3 : Nat) ≠ 1000 by decide)) (q_tag e1510 e1521 (show (3 : Nat) ≠ 1000 by decide)) (q_tag e1510 e1522 (show (3 : Nat) ≠ 1000 by decide)) (q_tag e1510 e1524 (show (3 : Nat) ≠ 1 by decide)) (q_tag e1510 e1526 (show (3 : Nat) ≠ 1000 by decide)) (q_tag e1510 e1527 (show (3 : Nat) ≠ 1000 by decide)) (q_tag e1510 e1528 (show (3 : Nat) ≠ 1000 by decide)) (q_tag e1510 e1530 (show (3 : Nat) ≠ 1000 by decide)) (ne_mem nl924 m903).symm (q_tag e1510 e1532 (show (3 : Nat) ≠ 1000 by decide))).trans e1510
              have e1611 : f1545 q920 = .inl (E.1, 40, .inl g1506) := (hF1547 q920 m1415 (q_tag e1511 e1509 (show (1000 : Nat) ≠ 7 by decide)) (q_tag e1511 e1517 (show (1000 : Nat) ≠ 6 by decide)) (ne_mem nl925 m890).symm (ne_mem nl925 m891).symm (ne_mem nl925 m892).symm (ne_mem nl925 m895).symm (ne_mem nl925 m893).symm (ne_mem nl925 m894).symm (q_tag e1511 e1524 (show (1000 : Nat) ≠ 1 by decide)) (ne_mem nl925 m898).symm (ne_mem nl925 m899).symm (ne_mem nl925 m900).symm (ne_mem nl925 m902).symm (q_tag e1511 e1531 (show (1000 : Nat) ≠ 3 by decide)) (ne_mem nl925 m904).symm).trans e1511
              have e1612 : f1545 q1092 = .inl (E.2.2.2.1, 4, .inr (.inr (.inr (.inr g1198)))) := (hF1547 q1092 m1416 (q_tag e1541 e1509 (show (1000 : Nat) ≠ 7 by decide)) (q_tag e1541 e1517 (show (1000 : Nat) ≠ 6 by decide)) (ne_mem hqq1092 m1034).symm (ne_mem hqq1092 m1035).symm (ne_mem hqq1092 m1036).symm (ne_mem hqq1092 m1039).symm (ne_mem hqq1092 m1037).symm (ne_mem hqq1092 m1038).symm (q_tag e1541 e1524 (show (1000 : Nat) ≠ 1 by decide)) (ne_mem hqq1092 m1042).symm (ne_mem hqq1092 m1043).symm (ne_mem hqq1092 m1044).symm (ne_mem hqq1092 m1046).symm (q_tag e1541 e1531 (show (1000 : Nat) ≠ 3 by decide)) (ne_mem hqq1092 m1048).symm).trans e1541
              have e1613 : f1545 q1269 = .inl (E.2.2.2.2.1, 8, .inr (.inr (.inr (.inr g1380)))) := (hF1547 q1269 m1417 (q_tag e1542 e1509 (show (1000 : Nat) ≠ 7 by decide)) (q_tag e1542 e1517 (show (1000 : Nat) ≠ 6 by decide)) (ne_mem hqq1269 m1208).symm (ne_mem hqq1269 m1209).symm (ne_mem hqq1269 m1210).symm (ne_mem hqq1269 m1213).symm (ne_mem hqq1269 m1211).symm (ne_mem hqq1269 m1212).symm (q_tag e1542 e1524 (show (1000 : Nat) ≠ 1 by decide)) (ne_mem hqq1269 m1216).symm (ne_mem hqq1269 m1217).symm (ne_mem hqq1269 m1218).symm (ne_mem hqq1269 m1220).symm (q_tag e1542 e1531 (show (1000 : Nat) ≠ 3 by decide)) (ne_mem hqq1269 m1222).symm).trans e1542
              have hF1614 : ∀ x, x ∈ L → x ≠ xo → f1545 x = f x := fun x hx h0 => (hF1547 x (s1385 x hx) (ne_mem nl857 hx) (ne_mem nl192 hx) (ne_mem nl193 hx) (ne_mem nl194 hx) (ne_mem nl195 hx) (ne_mem nl198 hx) (ne_mem nl196 hx) (ne_mem nl197 hx) (ne_mem nl199 hx) (ne_mem nl201 hx) (ne_mem nl202 hx) (ne_mem nl203 hx) (ne_mem nl205 hx) (ne_mem nl206 hx) (ne_mem nl207 hx)).trans (hF1543 x hx h0)
              have s1615 : ∀ x, x ∈ L → x ∈ L1546 := fun x hx => eL1548 x (s1385 x hx)
              have m1616 : xo ∈ L1546 := eL1548 _ m1387
              have m1617 : q1 ∈ L1546 := eL1548 _ m1388
              have m1618 : q18 ∈ L1546 := eL1548 _ m1389
              have m1619 : q19 ∈ L1546 := eL1548 _ m1390
              have m1620 : q20 ∈ L1546 := eL1548 _ m1391
              have m1621 : q21 ∈ L1546 := eL1548 _ m1392
              have m1622 : q22 ∈ L1546 := eL1548 _ m1393
              have m1623 : q23 ∈ L1546 := eL1548 _ m1394
              have m1624 : q24 ∈ L1546 := eL1548 _ m1395
              have m1625 : q25 ∈ L1546 := eL1548 _ m1396
              have m1626 : q26 ∈ L1546 := eL1548 _ m1397
              have m1627 : q27 ∈ L1546 := eL1548 _ m1398
              have m1628 : q28 ∈ L1546 := eL1548 _ m1399
              have m1629 : q29 ∈ L1546 := eL1548 _ m1400
              have m1630 : q30 ∈ L1546 := eL1548 _ m1401
              have m1631 : q31 ∈ L1546 := eL1548 _ m1402
              have m1632 : q32 ∈ L1546 := eL1548 _ m1403
              have m1633 : q33 ∈ L1546 := eL1548 _ m1404
              have m1634 : q230 ∈ L1546 := eL1548 _ m1405
              have m1635 : q281 ∈ L1546 := eL1548 _ m1406
              have m1636 : q350 ∈ L1546 := eL1548 _ m1407
              have m1637 : q405 ∈ L1546 := eL1548 _ m1408
              have m1638 : q480 ∈ L1546 := eL1548 _ m1409
              have m1639 : q539 ∈ L1546 := eL1548 _ m1410
              have m1640 : q620 ∈ L1546 := eL1548 _ m1411
              have m1641 : q764 ∈ L1546 := eL1548 _ m1412
              have m1642 : q852 ∈ L1546 := eL1548 _ m1413
              have m1643 : q919 ∈ L1546 := eL1548 _ m1414
              have m1644 : q920 ∈ L1546 := eL1548 _ m1415
              have m1645 : q1092 ∈ L1546 := eL1548 _ m1416
              have m1646 : q1269 ∈ L1546 := eL1548 _ m1417
              obtain rfl : n1550 = 1 := (by omega)
              refine lv_aload_n X.1 X.2.1 d_H_init_224 rfl (lv_at hl 1 rfl) ?_
              refine q_new X.1 X.2.1 X.2.2.1 i_Ce t_Ce t_Ce_ok X.2.2.2.1 (X.2.2.1 _ ck_H_72) (X.2.2.1 _ mk_Ce) (X.2.2.1 _ ini_Ce) X.2.2.2.2 Y hA (ci := 4) rfl (fs := [.null, .null, .null, .null, .null, .null, .int (nI 0), .int (nI 0), .int (nI 0), .int (nI 0), .null, .null, .int (nI 0), .int (nI 0), .int (nI 0), .int (nI 0)]) (fun j hj => match j, hj with | 0, _ => rfl | 1, _ => rfl | 2, _ => rfl | 3, _ => rfl | 4, _ => rfl | 5, _ => rfl | 6, _ => rfl | 7, _ => rfl | 8, _ => rfl | 9, _ => rfl | 10, _ => rfl | 11, _ => rfl | 12, _ => rfl | 13, _ => rfl | 14, _ => rfl | 15, _ => rfl | n9 + 16, h9 => absurd (show n9 + 16 < 16 from h9) (by omega)) (show 361 + 1 ≤ 367 by omega) (show 52016 + 16 ≤ (53413) by omega) d_H_init_225 (fun q1647 H hqq1647 Y => ?_)
              have Y : pH D cCl (pA L sz) s.heap (L1546 ++ [q1647]) (va_up f1545 q1647 (.inr (4, [.null, .null, .null, .null, .null, .null, .int (nI 0), .int (nI 0), .int (nI 0), .int (nI 0), .null, .null, .int (nI 0), .int (nI 0), .int (nI 0), .int (nI 0)]))) H locs := Y
              have e1654 : (va_up f1545 q1647 (.inr (4, [.null, .null, .null, .null, .null, .null, .int (nI 0), .int (nI 0), .int (nI 0), .int (nI 0), .null, .null, .int (nI 0), .int (nI 0), .int (nI 0), .int (nI 0)]))) q1647 = .inr (4, [.null, .null, .null, .null, .null, .null, .int (nI 0), .int (nI 0), .int (nI 0), .int (nI 0), .null, .null, .int (nI 0), .int (nI 0), .int (nI 0), .int (nI 0)]) := q_up
              have e1655 : (va_up f1545 q1647 (.inr (4, [.null, .null, .null, .null, .null, .null, .int (nI 0), .int (nI 0), .int (nI 0), .int (nI 0), .null, .null, .int (nI 0), .int (nI 0), .int (nI 0), .int (nI 0)]))) xo = .inr (0, [.ref q1, .ref q230, .ref q350, .ref q480, .ref q764, .ref q620, .null, .ref q1092, .ref q1269]) := (q_ne (ne_mem hqq1647 m1616)).trans e1598
              have e1656 : (va_up f1545 q1647 (.inr (4, [.null, .null, .null, .null, .null, .null, .int (nI 0), .int (nI 0), .int (nI 0), .int (nI 0), .null, .null, .int (nI 0), .int (nI 0), .int (nI 0), .int (nI 0)]))) q1 = .inr (11, [.int (nI 1000000000), .ref o183, .ref o184, .ref q18, .ref q25, .ref q30, .int (nI 0), .ref o185, .int (nI 20), .int (nI 0), .ref o186, .ref q31, .ref q32]) := (q_ne (ne_mem hqq1647 m1617)).trans e1599
              have e1657 : (va_up f1545 q1647 (.inr (4, [.null, .null, .null, .null, .null, .null, .int (nI 0), .int (nI 0), .int (nI 0), .int (nI 0), .null, .null, .int (nI 0), .int (nI 0), .int (nI 0), .int (nI 0)]))) q18 = .inr (6, [.ref q19, .ref q20, .ref q21, .ref q22, .ref q23, .int (nI n1551), .int v1555, .ref q24]) := (q_ne (ne_mem hqq1647 m1618)).trans e1579
              have e1658 : (va_up f1545 q1647 (.inr (4, [.null, .null, .null, .null, .null, .null, .int (nI 0), .int (nI 0), .int (nI 0), .int (nI 0), .null, .null, .int (nI 0), .int (nI 0), .int (nI 0), .int (nI 0)]))) q19 = .inl (E.2.1, 80, .inl g1556) := (q_ne (ne_mem hqq1647 m1619)).trans e1580
              have e1659 : (va_up f1545 q1647 (.inr (4, [.null, .null, .null, .null, .null, .null, .int (nI 0), .int (nI 0), .int (nI 0), .int (nI 0), .null, .null, .int (nI 0), .int (nI 0), .int (nI 0), .int (nI 0)]))) q20 = .inl (E.1, 64, .inl g1557) := (q_ne (ne_mem hqq1647 m1620)).trans e1581
              have e1660 : (va_up f1545 q1647 (.inr (4, [.null, .null, .null, .null, .null, .null, .int (nI 0), .int (nI 0), .int (nI 0), .int (nI 0), .null, .null, .int (nI 0), .int (nI 0), .int (nI 0), .int (nI 0)]))) q21 = .inl (E.2.1, 5, .inl g1558) := (q_ne (ne_mem hqq1647 m1621)).trans e1582
              have e1661 : (va_up f1545 q1647 (.inr (4, [.null, .null, .null, .null, .null, .null, .int (nI 0), .int (nI 0), .int (nI 0), .int (nI 0), .null, .null, .int (nI 0), .int (nI 0), .int (nI 0), .int (nI 0)]))) q22 = .inl (E.2.1, 5, .inl g1560) := (q_ne (ne_mem hqq1647 m1622)).trans e1584
              have e1662 : (va_up f1545 q1647 (.inr (4, [.null, .null, .null, .null, .null, .null, .int (nI 0), .int (nI 0), .int (nI 0), .int (nI 0), .null, .null, .int (nI 0), .int (nI 0), .int (nI 0), .int (nI 0)]))) q23 = .inl (E.2.1, 5, .inl g1561) := (q_ne (ne_mem hqq1647 m1623)).trans e1585
              have e1663 : (va_up f1545 q1647 (.inr (4, [.null, .null, .null, .null, .null, .null, .int (nI 0), .int (nI 0), .int (nI 0), .int (nI 0), .null, .null, .int (nI 0), .int (nI 0), .int (nI 0), .int (nI 0)]))) q24 = .inl (E.1, 20, .inl g1559) := (q_ne (ne_mem hqq1647 m1624)).trans e1583
              have e1664 : (va_up f1545 q1647 (.inr (4, [.null, .null, .null, .null, .null, .null, .int (nI 0), .int (nI 0), .int (nI 0), .int (nI 0), .null, .null, .int (nI 0), .int (nI 0), .int (nI 0), .int (nI 0)]))) q25 = .inr (1, [.ref o187, .ref q26, .ref q27, .int (nI n1552), .ref q28, .ref q29, .ref o188]) := (q_ne (ne_mem hqq1647 m1625)).trans e1586
              have e1665 : (va_up f1545 q1647 (.inr (4, [.null, .null, .null, .null, .null, .null, .int (nI 0), .int (nI 0), .int (nI 0), .int (nI 0), .null, .null, .int (nI 0), .int (nI 0), .int (nI 0), .int (nI 0)]))) q26 = .inl (E.2.1, 256, .inl g40) := (q_ne (ne_mem hqq1647 m1626)).trans e1600
              have e1666 : (va_up f1545 q1647 (.inr (4, [.null, .null, .null, .null, .null, .null, .int (nI 0), .int (nI 0), .int (nI 0), .int (nI 0), .null, .null, .int (nI 0), .int (nI 0), .int (nI 0), .int (nI 0)]))) q27 = .inl (E.2.1, 240, .inl g1562) := (q_ne (ne_mem hqq1647 m1627)).trans e1587
              have e1667 : (va_up f1545 q1647 (.inr (4, [.null, .null, .null, .null, .null, .null, .int (nI 0), .int (nI 0), .int (nI 0), .int (nI 0), .null, .null, .int (nI 0), .int (nI 0), .int (nI 0), .int (nI 0)]))) q28 = .inl (E.2.1, 16, .inl g1563) := (q_ne (ne_mem hqq1647 m1628)).trans e1588
              have e1668 : (va_up f1545 q1647 (.inr (4, [.null, .null, .null, .null, .null, .null, .int (nI 0), .int (nI 0), .int (nI 0), .int (nI 0), .null, .null, .int (nI 0), .int (nI 0), .int (nI 0), .int (nI 0)]))) q29 = .inl (E.2.1, 16, .inl g1564) := (q_ne (ne_mem hqq1647 m1629)).trans e1589
              have e1669 : (va_up f1545 q1647 (.inr (4, [.null, .null, .null, .null, .null, .null, .int (nI 0), .int (nI 0), .int (nI 0), .int (nI 0), .null, .null, .int (nI 0), .int (nI 0), .int (nI 0), .int (nI 0)]))) q30 = .inl (E.1, 64, .inl g44) := (q_ne (ne_mem hqq1647 m1630)).trans e1601
              have e1670 : (va_up f1545 q1647 (.inr (4, [.null, .null, .null, .null, .null, .null, .int (nI 0), .int (nI 0), .int (nI 0), .int (nI 0), .null, .null, .int (nI 0), .int (nI 0), .int (nI 0), .int (nI 0)]))) q31 = .inl (E.1, 20, .inl g1565) := (q_ne (ne_mem hqq1647 m1631)).trans e1590
              have e1671 : (va_up f1545 q1647 (.inr (4, [.null, .null, .null, .null, .null, .null, .int (nI 0), .int (nI 0), .int (nI 0), .int (nI 0), .null, .null, .int (nI 0), .int (nI 0), .int (nI 0), .int (nI 0)]))) q32 = .inr (3, [.ref q33, .int (nI n1553)]) := (q_ne (ne_mem hqq1647 m1632)).trans e1591
              have e1672 : (va_up f1545 q1647 (.inr (4, [.null, .null, .null, .null, .null, .null, .int (nI 0), .int (nI 0), .int (nI 0), .int (nI 0), .null, .null, .int (nI 0), .int (nI 0), .int (nI 0), .int (nI 0)]))) q33 = .inl (E.1, 64, .inl g1566) := (q_ne (ne_mem hqq1647 m1633)).trans e1592
              have e1673 : (va_up f1545 q1647 (.inr (4, [.null, .null, .null, .null, .null, .null, .int (nI 0), .int (nI 0), .int (nI 0), .int (nI 0), .null, .null, .int (nI 0), .int (nI 0), .int (nI 0), .int (nI 0)]))) q230 = .inr (3, [.ref q281, .int (nI 0)]) := (q_ne (ne_mem hqq1647 m1634)).trans e1602
              have e1674 : (va_up f1545 q1647 (.inr (4, [.null, .null, .null, .null, .null, .null, .int (nI 0), .int (nI 0), .int (nI 0), .int (nI 0), .null, .null, .int (nI 0), .int (nI 0), .int (nI 0), .int (nI 0)]))) q281 = .inl (E.1, 4000, .inl g282) := (q_ne (ne_mem hqq1647 m1635)).trans e1603
              have e1675 : (va_up f1545 q1647 (.inr (4, [.null, .null, .null, .null, .null, .null, .int (nI 0), .int (nI 0), .int (nI 0), .int (nI 0), .null, .null, .int (nI 0), .int (nI 0), .int (nI 0), .int (nI 0)]))) q350 = .inr (3, [.ref q405, .int (nI 0)]) := (q_ne (ne_mem hqq1647 m1636)).trans e1604
              have e1676 : (va_up f1545 q1647 (.inr (4, [.null, .null, .null, .null, .null, .null, .int (nI 0), .int (nI 0), .int (nI 0), .int (nI 0), .null, .null, .int (nI 0), .int (nI 0), .int (nI 0), .int (nI 0)]))) q405 = .inl (E.1, 12288, .inl g406) := (q_ne (ne_mem hqq1647 m1637)).trans e1605
              have e1677 : (va_up f1545 q1647 (.inr (4, [.null, .null, .null, .null, .null, .null, .int (nI 0), .int (nI 0), .int (nI 0), .int (nI 0), .null, .null, .int (nI 0), .int (nI 0), .int (nI 0), .int (nI 0)]))) q480 = .inr (3, [.ref q539, .int (nI n1460)]) := (q_ne (ne_mem hqq1647 m1638)).trans e1606
              have e1678 : (va_up f1545 q1647 (.inr (4, [.null, .null, .null, .null, .null, .null, .int (nI 0), .int (nI 0), .int (nI 0), .int (nI 0), .null, .null, .int (nI 0), .int (nI 0), .int (nI 0), .int (nI 0)]))) q539 = .inl (E.1, 40, .inl g1461) := (q_ne (ne_mem hqq1647 m1639)).trans e1607
              have e1679 : (va_up f1545 q1647 (.inr (4, [.null, .null, .null, .null, .null, .null, .int (nI 0), .int (nI 0), .int (nI 0), .int (nI 0), .null, .null, .int (nI 0), .int (nI 0), .int (nI 0), .int (nI 0)]))) q620 = .inr (5, [.ref q1, .ref o684, .ref o685, .ref (T.1 0), .int (nI 32)]) := (q_ne (ne_mem hqq1647 m1640)).trans e1608
              have e1680 : (va_up f1545 q1647 (.inr (4, [.null, .null, .null, .null, .null, .null, .int (nI 0), .int (nI 0), .int (nI 0), .int (nI 0), .null, .null, .int (nI 0), .int (nI 0), .int (nI 0), .int (nI 0)]))) q764 = .inl (E.2.2.1, 12, .inr (.inr (.inr (.inr g1024)))) := (q_ne (ne_mem hqq1647 m1641)).trans e1609
              have e1681 : (va_up f1545 q1647 (.inr (4, [.null, .null, .null, .null, .null, .null, .int (nI 0), .int (nI 0), .int (nI 0), .int (nI 0), .null, .null, .int (nI 0), .int (nI 0), .int (nI 0), .int (nI 0)]))) q852 = .inr (7, [.ref q919, .ref o930, .int (nI 1), .int (nI 1), .int v1554, .ref o1593, .ref o1594, .ref (T.1 0), .ref (T.1 0), .int (nI 36000), .int (nI 72000), .int (nI 15), .int (nI 0)]) := (q_ne (ne_mem hqq1647 m1642)).trans e1578
              have e1682 : (va_up f1545 q1647 (.inr (4, [.null, .null, .null, .null, .null, .null, .int (nI 0), .int (nI 0), .int (nI 0), .int (nI 0), .null, .null, .int (nI 0), .int (nI 0), .int (nI 0), .int (nI 0)]))) q919 = .inr (3, [.ref q920, .int (nI n1505)]) := (q_ne (ne_mem hqq1647 m1643)).trans e1610
              have e1683 : (va_up f1545 q1647 (.inr (4, [.null, .null, .null, .null, .null, .null, .int (nI 0), .int (nI 0), .int (nI 0), .int (nI 0), .null, .null, .int (nI 0), .int (nI 0), .int (nI 0), .int (nI 0)]))) q920 = .inl (E.1, 40, .inl g1506) := (q_ne (ne_mem hqq1647 m1644)).trans e1611
              have e1684 : (va_up f1545 q1647 (.inr (4, [.null, .null, .null, .null, .null, .null, .int (nI 0), .int (nI 0), .int (nI 0), .int (nI 0), .null, .null, .int (nI 0), .int (nI 0), .int (nI 0), .int (nI 0)]))) q1092 = .inl (E.2.2.2.1, 4, .inr (.inr (.inr (.inr g1198)))) := (q_ne (ne_mem hqq1647 m1645)).trans e1612
              have e1685 : (va_up f1545 q1647 (.inr (4, [.null, .null, .null, .null, .null, .null, .int (nI 0), .int (nI 0), .int (nI 0), .int (nI 0), .null, .null, .int (nI 0), .int (nI 0), .int (nI 0), .int (nI 0)]))) q1269 = .inl (E.2.2.2.2.1, 8, .inr (.inr (.inr (.inr g1380)))) := (q_ne (ne_mem hqq1647 m1646)).trans e1613
              have nl1652 : q1647 ∉ L := fun h9 => hqq1647 (s1615 _ h9)
              have hF1686 : ∀ x, x ∈ L → x ≠ xo → (va_up f1545 q1647 (.inr (4, [.null, .null, .null, .null, .null, .null, .int (nI 0), .int (nI 0), .int (nI 0), .int (nI 0), .null, .null, .int (nI 0), .int (nI 0), .int (nI 0), .int (nI 0)]))) x = f x := fun x hx h0 => (q_ne (ne_mem nl1652 hx)).trans (hF1614 x hx h0)
              have wh1687 : wP 7 2 1 12 q852 (va_up f1545 q1647 (.inr (4, [.null, .null, .null, .null, .null, .null, .int (nI 0), .int (nI 0), .int (nI 0), .int (nI 0), .null, .null, .int (nI 0), .int (nI 0), .int (nI 0), .int (nI 0)]))) (L1546 ++ [q1647]) g1024 := wP_keep wh1595 (fun _ h9 => List.mem_append_left _ h9) (fun x hx h0 ht => q_ne (ne_mem hqq1647 hx))
              have wh1688 : wP 2 2 0 4 q1092 (va_up f1545 q1647 (.inr (4, [.null, .null, .null, .null, .null, .null, .int (nI 0), .int (nI 0), .int (nI 0), .int (nI 0), .null, .null, .int (nI 0), .int (nI 0), .int (nI 0), .int (nI 0)]))) (L1546 ++ [q1647]) g1198 := wP_keep wh1596 (fun _ h9 => List.mem_append_left _ h9) (fun x hx h0 ht => q_ne (ne_mem hqq1647 hx))
              have wh1689 : wP 9 1 0 8 q1269 (va_up f1545 q1647 (.inr (4, [.null, .null, .null, .null, .null, .null, .int (nI 0), .int (nI 0), .int (nI 0), .int (nI 0), .null, .null, .int (nI 0), .int (nI 0), .int (nI 0), .int (nI 0)]))) (L1546 ++ [q1647]) g1380 := wP_keep wh1597 (fun _ h9 => List.mem_append_left _ h9) (fun x hx h0 ht => q_ne (ne_mem hqq1647 hx))
              generalize (va_up f1545 q1647 (.inr (4, [.null, .null, .null, .null, .null, .null, .int (nI 0), .int (nI 0), .int (nI 0), .int (nI 0), .null, .null, .int (nI 0), .int (nI 0), .int (nI 0), .int (nI 0)]))) = f1653 at Y e1654 e1655 e1656 e1657 e1658 e1659 e1660 e1661 e1662 e1663 e1664 e1665 e1666 e1667 e1668 e1669 e1670 e1671 e1672 e1673 e1674 e1675 e1676 e1677 e1678 e1679 e1680 e1681 e1682 e1683 e1684 e1685 hF1686 wh1687 wh1688 wh1689
              have s1650 : ∀ x, x ∈ L → x ∈ L1546 ++ [q1647] := fun x hx => List.mem_append_left _ (s1615 x hx)
              have m1690 : xo ∈ L1546 ++ [q1647] := List.mem_append_left _ m1616
              have m1691 : q1 ∈ L1546 ++ [q1647] := List.mem_append_left _ m1617
              have m1692 : q18 ∈ L1546 ++ [q1647] := List.mem_append_left _ m1618
              have m1693 : q19 ∈ L1546 ++ [q1647] := List.mem_append_left _ m1619
              have m1694 : q20 ∈ L1546 ++ [q1647] := List.mem_append_left _ m1620
              have m1695 : q21 ∈ L1546 ++ [q1647] := List.mem_append_left _ m1621
              have m1696 : q22 ∈ L1546 ++ [q1647] := List.mem_append_left _ m1622
              have m1697 : q23 ∈ L1546 ++ [q1647] := List.mem_append_left _ m1623
              have m1698 : q24 ∈ L1546 ++ [q1647] := List.mem_append_left _ m1624
              have m1699 : q25 ∈ L1546 ++ [q1647] := List.mem_append_left _ m1625
              have m1700 : q26 ∈ L1546 ++ [q1647] := List.mem_append_left _ m1626
              have m1701 : q27 ∈ L1546 ++ [q1647] := List.mem_append_left _ m1627
              have m1702 : q28 ∈ L1546 ++ [q1647] := List.mem_append_left _ m1628
              have m1703 : q29 ∈ L1546 ++ [q1647] := List.mem_append_left _ m1629
              have m1704 : q30 ∈ L1546 ++ [q1647] := List.mem_append_left _ m1630
              have m1705 : q31 ∈ L1546 ++ [q1647] := List.mem_append_left _ m1631
              have m1706 : q32 ∈ L1546 ++ [q1647] := List.mem_append_left _ m1632
              have m1707 : q33 ∈ L1546 ++ [q1647] := List.mem_append_left _ m1633
              have m1708 : q230 ∈ L1546 ++ [q1647] := List.mem_append_left _ m1634
              have m1709 : q281 ∈ L1546 ++ [q1647] := List.mem_append_left _ m1635
              have m1710 : q350 ∈ L1546 ++ [q1647] := List.mem_append_left _ m1636
              have m1711 : q405 ∈ L1546 ++ [q1647] := List.mem_append_left _ m1637
              have m1712 : q480 ∈ L1546 ++ [q1647] := List.mem_append_left _ m1638
              have m1713 : q539 ∈ L1546 ++ [q1647] := List.mem_append_left _ m1639
              have m1714 : q620 ∈ L1546 ++ [q1647] := List.mem_append_left _ m1640
              have m1715 : q764 ∈ L1546 ++ [q1647] := List.mem_append_left _ m1641
              have m1716 : q852 ∈ L1546 ++ [q1647] := List.mem_append_left _ m1642
              have m1717 : q919 ∈ L1546 ++ [q1647] := List.mem_append_left _ m1643
              have m1718 : q920 ∈ L1546 ++ [q1647] := List.mem_append_left _ m1644
              have m1719 : q1092 ∈ L1546 ++ [q1647] := List.mem_append_left _ m1645
              have m1720 : q1269 ∈ L1546 ++ [q1647] := List.mem_append_left _ m1646
              have m1651 : q1647 ∈ L1546 ++ [q1647] := List.mem_append_right _ (List.mem_singleton.mpr rfl)
              generalize L1546 ++ [q1647] = L1648 at Y s1650 m1690 m1691 m1692 m1693 m1694 m1695 m1696 m1697 m1698 m1699 m1700 m1701 m1702 m1703 m1704 m1705 m1706 m1707 m1708 m1709 m1710 m1711 m1712 m1713 m1714 m1715 m1716 m1717 m1718 m1719 m1720 m1651 wh1687 wh1688 wh1689
              refine lv_dup X.1 X.2.1 d_H_init_228 rfl ?_
              refine lv_aload_n X.1 X.2.1 d_H_init_229 rfl (lv_at hl 1 rfl) ?_
              refine q_get X.1 X.2.1 X.2.2.1 i_H X.2.2.2.1 X.2.2.2.2 Y m1690 e1655 rfl 0 (by decide) (X.2.2.1 _ lk_H_12) (fun _ h9 => h9) rfl d_H_init_230 ?_
              refine lv_aload_n X.1 X.2.1 d_H_init_233 rfl (lv_at hl 1 rfl) ?_
              refine q_get X.1 X.2.1 X.2.2.1 i_H X.2.2.2.1 X.2.2.2.2 Y m1690 e1655 rfl 5 (by decide) (X.2.2.1 _ lk_H_36) (fun _ h9 => h9) rfl d_H_init_234 ?_
              refine lv_aload_n X.1 X.2.1 d_H_init_237 rfl (lv_at hl 1 rfl) ?_
              refine q_get X.1 X.2.1 X.2.2.1 i_H X.2.2.2.1 X.2.2.2.2 Y m1690 e1655 rfl 4 (by decide) (X.2.2.1 _ lk_H_42) (fun _ h9 => h9) rfl d_H_init_238 ?_
              refine lv_aload_n X.1 X.2.1 d_H_init_241 rfl (lv_at hl 1 rfl) ?_
              refine q_get X.1 X.2.1 X.2.2.1 i_H X.2.2.2.1 X.2.2.2.2 Y m1690 e1655 rfl 1 (by decide) (X.2.2.1 _ lk_H_21) (fun _ h9 => h9) rfl d_H_init_242 ?_
              refine lv_aload_n X.1 X.2.1 d_H_init_245 rfl (lv_at hl 1 rfl) ?_
              refine q_get X.1 X.2.1 X.2.2.1 i_H X.2.2.2.1 X.2.2.2.2 Y m1690 e1655 rfl 2 (by decide) (X.2.2.1 _ lk_H_25) (fun _ h9 => h9) rfl d_H_init_246 ?_
              refine x_v (x_runI (As := [.ref q1, .ref q620, .ref q764, .ref q230, .ref q350]) (rest := [.ref q1647, .ref xo]) (n := 5) X hml hl.1 (c_Ce_init l D E T L1648 f1653 H.size q1 q620 q230 q350 q852 q1647 q764 g1024 m1651 m1715 e1654 e1680 hz1089) (ok_k X Y hA KS KR) kl_H_Ce_init ks_Ce_init ki_Ce_init ini_Ce rfl ⟨rfl, rfl⟩ hd_Ce_init.2 ⟨by decide, by decide⟩ rfl (Nat.le_of_ble_eq_true rfl) d_H_init_249 ⟨(show 362 + 5 ≤ 367 by omega), (show 52032 + (1381) ≤ (53413) by omega)⟩) X Y hA (fun u H locs hp Y => ?_)
              obtain ⟨L1723, f1722⟩ := u
              obtain ⟨eL1725, hF1724, o1728, o1729, e1727⟩ := hp
              dsimp only at eL1725 hF1724 e1727 Y
              have wh1730 : wP 7 2 1 12 q852 f1722 (L1723) g1024 := wP_keep wh1687 (fun x9 h9 => eL1725 x9 h9) (fun x hx h0 ht => hF1724 x hx (q_tn ht e1654 (show (4 : Nat) ≠ 7 by decide)))
              have wh1731 : wP 2 2 0 4 q1092 f1722 (L1723) g1198 := wP_keep wh1688 (fun x9 h9 => eL1725 x9 h9) (fun x hx h0 ht => hF1724 x hx (q_tn ht e1654 (show (4 : Nat) ≠ 2 by decide)))
              have wh1732 : wP 9 1 0 8 q1269 f1722 (L1723) g1380 := wP_keep wh1689 (fun x9 h9 => eL1725 x9 h9) (fun x hx h0 ht => hF1724 x hx (q_tn ht e1654 (show (4 : Nat) ≠ 9 by decide)))
              have e1733 : f1722 xo = .inr (0, [.ref q1, .ref q230, .ref q350, .ref q480, .ref q764, .ref q620, .null, .ref q1092, .ref q1269]) := (hF1724 xo m1690 (q_tag e1655 e1654 (show (0 : Nat) ≠ 4 by decide))).trans e1655
              have e1734 : f1722 q1 = .inr (11, [.int (nI 1000000000), .ref o183, .ref o184, .ref q18, .ref q25, .ref q30, .int (nI 0), .ref o185, .int (nI 20), .int (nI 0), .ref o186, .ref q31, .ref q32]) := (hF1724 q1 m1691 (q_tag e1656 e1654 (show (11 : Nat) ≠ 4 by decide))).trans e1656
              have e1735 : f1722 q18 = .inr (6, [.ref q19, .ref q20, .ref q21, .ref q22, .ref q23, .int (nI n1551), .int v1555, .ref q24]) := (hF1724 q18 m1692 (q_tag e1657 e1654 (show (6 : Nat) ≠ 4 by decide))).trans e1657
              have e1736 : f1722 q19 = .inl (E.2.1, 80, .inl g1556) := (hF1724 q19 m1693 (q_tag e1658 e1654 (show (1000 : Nat) ≠ 4 by decide))).trans e1658
              have e1737 : f1722 q20 = .inl (E.1, 64, .inl g1557) := (hF1724 q20 m1694 (q_tag e1659 e1654 (show (1000 : Nat) ≠ 4 by decide))).trans e1659
              have e1738 : f1722 q21 = .inl (E.2.1, 5, .inl g1558) := (hF1724 q21 m1695 (q_tag e1660 e1654 (show (1000 : Nat) ≠ 4 by decide))).trans e1660
              have e1739 : f1722 q22 = .inl (E.2.1, 5, .inl g1560) := (hF1724 q22 m1696 (q_tag e1661 e1654 (show (1000 : Nat) ≠ 4 by decide))).trans e1661
              have e1740 : f1722 q23 = .inl (E.2.1, 5, .inl g1561) := (hF1724 q23 m1697 (q_tag e1662 e1654 (show (1000 : Nat) ≠ 4 by decide))).trans e1662
              have e1741 : f1722 q24 = .inl (E.1, 20, .inl g1559) := (hF1724 q24 m1698 (q_tag e1663 e1654 (show (1000 : Nat) ≠ 4 by decide))).trans e1663
              have e1742 : f1722 q25 = .inr (1, [.ref o187, .ref q26, .ref q27, .int (nI n1552), .ref q28, .ref q29, .ref o188]) := (hF1724 q25 m1699 (q_tag e1664 e1654 (show (1 : Nat) ≠ 4 by decide))).trans e1664
              have e1743 : f1722 q26 = .inl (E.2.1, 256, .inl g40) := (hF1724 q26 m1700 (q_tag e1665 e1654 (show (1000 : Nat) ≠ 4 by decide))).trans e1665
              have e1744 : f1722 q27 = .inl (E.2.1, 240, .inl g1562) := (hF1724 q27 m1701 (q_tag e1666 e1654 (show (1000 : Nat) ≠ 4 by decide))).trans e1666
              have e1745 : f1722 q28 = .inl (E.2.1, 16, .inl g1563) := (hF1724 q28 m1702 (q_tag e1667 e1654 (show (1000 : Nat) ≠ 4 by decide))).trans e1667
              have e1746 : f1722 q29 = .inl (E.2.1, 16, .inl g1564) := (hF1724 q29 m1703 (q_tag e1668 e1654 (show (1000 : Nat) ≠ 4 by decide))).trans e1668
              have e1747 : f1722 q30 = .inl (E.1, 64, .inl g44) := (hF1724 q30 m1704 (q_tag e1669 e1654 (show (1000 : Nat) ≠ 4 by decide))).trans e1669
              have e1748 : f1722 q31 = .inl (E.1, 20, .inl g1565) := (hF1724 q31 m1705 (q_tag e1670 e1654 (show (1000 : Nat) ≠ 4 by decide))).trans e1670
              have e1749 : f1722 q32 = .inr (3, [.ref q33, .int (nI n1553)]) := (hF1724 q32 m1706 (q_tag e1671 e1654 (show (3 : Nat) ≠ 4 by decide))).trans e1671
              have e1750 : f1722 q33 = .inl (E.1, 64, .inl g1566) := (hF1724 q33 m1707 (q_tag e1672 e1654 (show (1000 : Nat) ≠ 4 by decide))).trans e1672
              have e1751 : f1722 q230 = .inr (3, [.ref q281, .int (nI 0)]) := (hF1724 q230 m1708 (q_tag e1673 e1654 (show (3 : Nat) ≠ 4 by decide))).trans e1673
              have e1752 : f1722 q281 = .inl (E.1, 4000, .inl g282) := (hF1724 q281 m1709 (q_tag e1674 e1654 (show (1000 : Nat) ≠ 4 by decide))).trans e1674
              have e1753 : f1722 q350 = .inr (3, [.ref q405, .int (nI 0)]) := (hF1724 q350 m1710 (q_tag e1675 e1654 (show (3 : Nat) ≠ 4 by decide))).trans e1675
              have e1754 : f1722 q405 = .inl (E.1, 12288, .inl g406) := (hF1724 q405 m1711 (q_tag e1676 e1654 (show (1000 : Nat) ≠ 4 by decide))).trans e1676
              have e1755 : f1722 q480 = .inr (3, [.ref q539, .int (nI n1460)]) := (hF1724 q480 m1712 (q_tag e1677 e1654 (show (3 : Nat) ≠ 4 by decide))).trans e1677
              have e1756 : f1722 q539 = .inl (E.1, 40, .inl g1461) := (hF1724 q539 m1713 (q_tag e1678 e1654 (show (1000 : Nat) ≠ 4 by decide))).trans e1678
              have e1757 : f1722 q620 = .inr (5, [.ref q1, .ref o684, .ref o685, .ref (T.1 0), .int (nI 32)]) := (hF1724 q620 m1714 (q_tag e1679 e1654 (show (5 : Nat) ≠ 4 by decide))).trans e1679
              have e1758 : f1722 q764 = .inl (E.2.2.1, 12, .inr (.inr (.inr (.inr g1024)))) := (hF1724 q764 m1715 (q_tag e1680 e1654 (show (1000 : Nat) ≠ 4 by decide))).trans e1680
              have e1759 : f1722 q852 = .inr (7, [.ref q919, .ref o930, .int (nI 1), .int (nI 1), .int v1554, .ref o1593, .ref o1594, .ref (T.1 0), .ref (T.1 0), .int (nI 36000), .int (nI 72000), .int (nI 15), .int (nI 0)]) := (hF1724 q852 m1716 (q_tag e1681 e1654 (show (7 : Nat) ≠ 4 by decide))).trans e1681
              have e1760 : f1722 q919 = .inr (3, [.ref q920, .int (nI n1505)]) := (hF1724 q919 m1717 (q_tag e1682 e1654 (show (3 : Nat) ≠ 4 by decide))).trans e1682
              have e1761 : f1722 q920 = .inl (E.1, 40, .inl g1506) := (hF1724 q920 m1718 (q_tag e1683 e1654 (show (1000 : Nat) ≠ 4 by decide))).trans e1683
              have e1762 : f1722 q1092 = .inl (E.2.2.2.1, 4, .inr (.inr (.inr (.inr g1198)))) := (hF1724 q1092 m1719 (q_tag e1684 e1654 (show (1000 : Nat) ≠ 4 by decide))).trans e1684
              have e1763 : f1722 q1269 = .inl (E.2.2.2.2.1, 8, .inr (.inr (.inr (.inr g1380)))) := (hF1724 q1269 m1720 (q_tag e1685 e1654 (show (1000 : Nat) ≠ 4 by decide))).trans e1685
              have hF1764 : ∀ x, x ∈ L → x ≠ xo → f1722 x = f x := fun x hx h0 => (hF1724 x (s1650 x hx) (ne_mem nl1652 hx)).trans (hF1686 x hx h0)
              have s1765 : ∀ x, x ∈ L → x ∈ L1723 := fun x hx => eL1725 x (s1650 x hx)
              have m1766 : xo ∈ L1723 := eL1725 _ m1690
              have m1767 : q1 ∈ L1723 := eL1725 _ m1691
              have m1768 : q18 ∈ L1723 := eL1725 _ m1692
              have m1769 : q19 ∈ L1723 := eL1725 _ m1693
              have m1770 : q20 ∈ L1723 := eL1725 _ m1694
              have m1771 : q21 ∈ L1723 := eL1725 _ m1695
              have m1772 : q22 ∈ L1723 := eL1725 _ m1696
              have m1773 : q23 ∈ L1723 := eL1725 _ m1697
              have m1774 : q24 ∈ L1723 := eL1725 _ m1698
              have m1775 : q25 ∈ L1723 := eL1725 _ m1699
              have m1776 : q26 ∈ L1723 := eL1725 _ m1700
              have m1777 : q27 ∈ L1723 := eL1725 _ m1701
              have m1778 : q28 ∈ L1723 := eL1725 _ m1702
              have m1779 : q29 ∈ L1723 := eL1725 _ m1703
              have m1780 : q30 ∈ L1723 := eL1725 _ m1704
              have m1781 : q31 ∈ L1723 := eL1725 _ m1705
              have m1782 : q32 ∈ L1723 := eL1725 _ m1706
              have m1783 : q33 ∈ L1723 := eL1725 _ m1707
              have m1784 : q230 ∈ L1723 := eL1725 _ m1708
              have m1785 : q281 ∈ L1723 := eL1725 _ m1709
              have m1786 : q350 ∈ L1723 := eL1725 _ m1710
              have m1787 : q405 ∈ L1723 := eL1725 _ m1711
              have m1788 : q480 ∈ L1723 := eL1725 _ m1712
              have m1789 : q539 ∈ L1723 := eL1725 _ m1713
              have m1790 : q620 ∈ L1723 := eL1725 _ m1714
              have m1791 : q764 ∈ L1723 := eL1725 _ m1715
              have m1792 : q852 ∈ L1723 := eL1725 _ m1716
              have m1793 : q919 ∈ L1723 := eL1725 _ m1717
              have m1794 : q920 ∈ L1723 := eL1725 _ m1718
              have m1795 : q1092 ∈ L1723 := eL1725 _ m1719
              have m1796 : q1269 ∈ L1723 := eL1725 _ m1720
              have m1797 : q1647 ∈ L1723 := eL1725 _ m1651
              refine q_putF X.1 X.2.1 X.2.2.1 i_H t_H t_H_ok n_H X.2.2.2.1 X.2.2.2.2 Y m1766 e1733 rfl 6 (by decide) (X.2.2.1 _ lk_H_77) (fun _ h9 => h9) rfl hin rfl (t_H_ok 6 (by decide)) rfl rfl (Nat.le_of_ble_eq_true rfl) d_H_init_252 (fun H locs Y => ?_)
              have e1799 : (va_up f1722 xo (.inr (0, [.ref q1, .ref q230, .ref q350, .ref q480, .ref q764, .ref q620, .ref q1647, .ref q1092, .ref q1269]))) xo = .inr (0, [.ref q1, .ref q230, .ref q350, .ref q480, .ref q764, .ref q620, .ref q1647, .ref q1092, .ref q1269]) := q_up
              have e1800 : (va_up f1722 xo (.inr (0, [.ref q1, .ref q230, .ref q350, .ref q480, .ref q764, .ref q620, .ref q1647, .ref q1092, .ref q1269]))) q1 = .inr (11, [.int (nI 1000000000), .ref o183, .ref o184, .ref q18, .ref q25, .ref q30, .int (nI 0), .ref o185, .int (nI 20), .int (nI 0), .ref o186, .ref q31, .ref q32]) := (q_ne (q_tag e1734 e1733 (show (11 : Nat) ≠ 0 by decide))).trans e1734
              have e1801 : (va_up f1722 xo (.inr (0, [.ref q1, .ref q230, .ref q350, .ref q480, .ref q764, .ref q620, .ref q1647, .ref q1092, .ref q1269]))) q18 = .inr (6, [.ref q19, .ref q20, .ref q21, .ref q22, .ref q23, .int (nI n1551), .int v1555, .ref q24]) := (q_ne (q_tag e1735 e1733 (show (6 : Nat) ≠ 0 by decide))).trans e1735
              have e1802 : (va_up f1722 xo (.inr (0, [.ref q1, .ref q230, .ref q350, .ref q480, .ref q764, .ref q620, .ref q1647, .ref q1092, .ref q1269]))) q19 = .inl (E.2.1, 80, .inl g1556) := (q_ne (q_tag e1736 e1733 (show (1000 : Nat) ≠ 0 by decide))).trans e1736
              have e1803 : (va_up f1722 xo (.inr (0, [.ref q1, .ref q230, .ref q350, .ref q480, .ref q764, .ref q620, .ref q1647, .ref q1092, .ref q1269]))) q20 = .inl (E.1, 64, .inl g1557) := (q_ne (q_tag e1737 e1733 (show (1000 : Nat) ≠ 0 by decide))).trans e1737
              have e1804 : (va_up f1722 xo (.inr (0, [.ref q1, .ref q230, .ref q350, .ref q480, .ref q764, .ref q620, .ref q1647, .ref q1092, .ref q1269]))) q21 = .inl (E.2.1, 5, .inl g1558) := (q_ne (q_tag e1738 e1733 (show (1000 : Nat) ≠ 0 by decide))).trans e1738
              have e1805 : (va_up f1722 xo (.inr (0, [.ref q1, .ref q230, .ref q350, .ref q480, .ref q764, .ref q620, .ref q1647, .ref q1092, .ref q1269]))) q22 = .inl (E.2.1, 5, .inl g1560) := (q_ne (q_tag e1739 e1733 (show (1000 : Nat) ≠ 0 by decide))).trans e1739
              have e1806 : (va_up f1722 xo (.inr (0, [.ref q1, .ref q230, .ref q350, .ref q480, .ref q764, .ref q620, .ref q1647, .ref q1092, .ref q1269]))) q23 = .inl (E.2.1, 5, .inl g1561) := (q_ne (q_tag e1740 e1733 (show (1000 : Nat) ≠ 0 by decide))).trans e1740
              have e1807 : (va_up f1722 xo (.inr (0, [.ref q1, .ref q230, .ref q350, .ref q480, .ref q764, .ref q620, .ref q1647, .ref q1092, .ref q1269]))) q24 = .inl (E.1, 20, .inl g1559) := (q_ne (q_tag e1741 e1733 (show (1000 : Nat) ≠ 0 by decide))).trans e1741
              have e1808 : (va_up f1722 xo (.inr (0, [.ref q1, .ref q230, .ref q350, .ref q480, .ref q764, .ref q620, .ref q1647, .ref q1092, .ref q1269]))) q25 = .inr (1, [.ref o187, .ref q26, .ref q27, .int (nI n1552), .ref q28, .ref q29, .ref o188]) := (q_ne (q_tag e1742 e1733 (show (1 : Nat) ≠ 0 by decide))).trans e1742
              have e1809 : (va_up f1722 xo (.inr (0, [.ref q1, .ref q230, .ref q350, .ref q480, .ref q764, .ref q620, .ref q1647, .ref q1092, .ref q1269]))) q26 = .inl (E.2.1, 256, .inl g40) := (q_ne (q_tag e1743 e1733 (show (1000 : Nat) ≠ 0 by decide))).trans e1743
              have e1810 : (va_up f1722 xo (.inr (0, [.ref q1, .ref q230, .ref q350, .ref q480, .ref q764, .ref q620, .ref q1647, .ref q1092, .ref q1269]))) q27 = .inl (E.2.1, 240, .inl g1562) := (q_ne (q_tag e1744 e1733 (show (1000 : Nat) ≠ 0 by decide))).trans e1744
              have e1811 : (va_up f1722 xo (.inr (0, [.ref q1, .ref q230, .ref q350, .ref q480, .ref q764, .ref q620, .ref q1647, .ref q1092, .ref q1269]))) q28 = .inl (E.2.1, 16, .inl g1563) := (q_ne (q_tag e1745 e1733 (show (1000 : Nat) ≠ 0 by decide))).trans e1745
              have e1812 : (va_up f1722 xo (.inr (0, [.ref q1, .ref q230, .ref q350, .ref q480, .ref q764, .ref q620, .ref q1647, .ref q1092, .ref q1269]))) q29 = .inl (E.2.1, 16, .inl g1564) := (q_ne (q_tag e1746 e1733 (show (1000 : Nat) ≠ 0 by decide))).trans e1746
              have e1813 : (va_up f1722 xo (.inr (0, [.ref q1, .ref q230, .ref q350, .ref q480, .ref q764, .ref q620, .ref q1647, .ref q1092, .ref q1269]))) q30 = .inl (E.1, 64, .inl g44) := (q_ne (q_tag e1747 e1733 (show (1000 : Nat) ≠ 0 by decide))).trans e1747
              have e1814 : (va_up f1722 xo (.inr (0, [.ref q1, .ref q230, .ref q350, .ref q480, .ref q764, .ref q620, .ref q1647, .ref q1092, .ref q1269]))) q31 = .inl (E.1, 20, .inl g1565) := (q_ne (q_tag e1748 e1733 (show (1000 : Nat) ≠ 0 by decide))).trans e1748
              have e1815 : (va_up f1722 xo (.inr (0, [.ref q1, .ref q230, .ref q350, .ref q480, .ref q764, .ref q620, .ref q1647, .ref q1092, .ref q1269]))) q32 = .inr (3, [.ref q33, .int (nI n1553)]) := (q_ne (q_tag e1749 e1733 (show (3 : Nat) ≠ 0 by decide))).trans e1749
              have e1816 : (va_up f1722 xo (.inr (0, [.ref q1, .ref q230, .ref q350, .ref q480, .ref q764, .ref q620, .ref q1647, .ref q1092, .ref q1269]))) q33 = .inl (E.1, 64, .inl g1566) := (q_ne (q_tag e1750 e1733 (show (1000 : Nat) ≠ 0 by decide))).trans e1750
              have e1817 : (va_up f1722 xo (.inr (0, [.ref q1, .ref q230, .ref q350, .ref q480, .ref q764, .ref q620, .ref q1647, .ref q1092, .ref q1269]))) q230 = .inr (3, [.ref q281, .int (nI 0)]) := (q_ne (q_tag e1751 e1733 (show (3 : Nat) ≠ 0 by decide))).trans e1751
              have e1818 : (va_up f1722 xo (.inr (0, [.ref q1, .ref q230, .ref q350, .ref q480, .ref q764, .ref q620, .ref q1647, .ref q1092, .ref q1269]))) q281 = .inl (E.1, 4000, .inl g282) := (q_ne (q_tag e1752 e1733 (show (1000 : Nat) ≠ 0 by decide))).trans e1752
              have e1819 : (va_up f1722 xo (.inr (0, [.ref q1, .ref q230, .ref q350, .ref q480, .ref q764, .ref q620, .ref q1647, .ref q1092, .ref q1269]))) q350 = .inr (3, [.ref q405, .int (nI 0)]) := (q_ne (q_tag e1753 e1733 (show (3 : Nat) ≠ 0 by decide))).trans e1753
              have e1820 : (va_up f1722 xo (.inr (0, [.ref q1, .ref q230, .ref q350, .ref q480, .ref q764, .ref q620, .ref q1647, .ref q1092, .ref q1269]))) q405 = .inl (E.1, 12288, .inl g406) := (q_ne (q_tag e1754 e1733 (show (1000 : Nat) ≠ 0 by decide))).trans e1754
              have e1821 : (va_up f1722 xo (.inr (0, [.ref q1, .ref q230, .ref q350, .ref q480, .ref q764, .ref q620, .ref q1647, .ref q1092, .ref q1269]))) q480 = .inr (3, [.ref q539, .int (nI n1460)]) := (q_ne (q_tag e1755 e1733 (show (3 : Nat) ≠ 0 by decide))).trans e1755
              have e1822 : (va_up f1722 xo (.inr (0, [.ref q1, .ref q230, .ref q350, .ref q480, .ref q764, .ref q620, .ref q1647, .ref q1092, .ref q1269]))) q539 = .inl (E.1, 40, .inl g1461) := (q_ne (q_tag e1756 e1733 (show (1000 : Nat) ≠ 0 by decide))).trans e1756
              have e1823 : (va_up f1722 xo (.inr (0, [.ref q1, .ref q230, .ref q350, .ref q480, .ref q764, .ref q620, .ref q1647, .ref q1092, .ref q1269]))) q620 = .inr (5, [.ref q1, .ref o684, .ref o685, .ref (T.1 0), .int (nI 32)]) := (q_ne (q_tag e1757 e1733 (show (5 : Nat) ≠ 0 by decide))).trans e1757
              have e1824 : (va_up f1722 xo (.inr (0, [.ref q1, .ref q230, .ref q350, .ref q480, .ref q764, .ref q620, .ref q1647, .ref q1092, .ref q1269]))) q764 = .inl (E.2.2.1, 12, .inr (.inr (.inr (.inr g1024)))) := (q_ne (q_tag e1758 e1733 (show (1000 : Nat) ≠ 0 by decide))).trans e1758
              have e1825 : (va_up f1722 xo (.inr (0, [.ref q1, .ref q230, .ref q350, .ref q480, .ref q764, .ref q620, .ref q1647, .ref q1092, .ref q1269]))) q852 = .inr (7, [.ref q919, .ref o930, .int (nI 1), .int (nI 1), .int v1554, .ref o1593, .ref o1594, .ref (T.1 0), .ref (T.1 0), .int (nI 36000), .int (nI 72000), .int (nI 15), .int (nI 0)]) := (q_ne (q_tag e1759 e1733 (show (7 : Nat) ≠ 0 by decide))).trans e1759
              have e1826 : (va_up f1722 xo (.inr (0, [.ref q1, .ref q230, .ref q350, .ref q480, .ref q764, .ref q620, .ref q1647, .ref q1092, .ref q1269]))) q919 = .inr (3, [.ref q920, .int (nI n1505)]) := (q_ne (q_tag e1760 e1733 (show (3 : Nat) ≠ 0 by decide))).trans e1760
              have e1827 : (va_up f1722 xo (.inr (0, [.ref q1, .ref q230, .ref q350, .ref q480, .ref q764, .ref q620, .ref q1647, .ref q1092, .ref q1269]))) q920 = .inl (E.1, 40, .inl g1506) := (q_ne (q_tag e1761 e1733 (show (1000 : Nat) ≠ 0 by decide))).trans e1761
              have e1828 : (va_up f1722 xo (.inr (0, [.ref q1, .ref q230, .ref q350, .ref q480, .ref q764, .ref q620, .ref q1647, .ref q1092, .ref q1269]))) q1092 = .inl (E.2.2.2.1, 4, .inr (.inr (.inr (.inr g1198)))) := (q_ne (q_tag e1762 e1733 (show (1000 : Nat) ≠ 0 by decide))).trans e1762
              have e1829 : (va_up f1722 xo (.inr (0, [.ref q1, .ref q230, .ref q350, .ref q480, .ref q764, .ref q620, .ref q1647, .ref q1092, .ref q1269]))) q1269 = .inl (E.2.2.2.2.1, 8, .inr (.inr (.inr (.inr g1380)))) := (q_ne (q_tag e1763 e1733 (show (1000 : Nat) ≠ 0 by decide))).trans e1763
              have e1830 : (va_up f1722 xo (.inr (0, [.ref q1, .ref q230, .ref q350, .ref q480, .ref q764, .ref q620, .ref q1647, .ref q1092, .ref q1269]))) q1647 = .inr (4, [.ref q1, .ref q620, .ref q764, .ref q230, .ref q350, .ref o1728, .int (nI 0), .int (nI 0), .int (nI 0), .int (nI 0), .ref o1729, .ref o1729, .int (nI 0), .int (nI 0), .int (nI 0), .int (nI 0)]) := (q_ne (q_tag e1727 e1733 (show (4 : Nat) ≠ 0 by decide))).trans e1727
              have hF1831 : ∀ x, x ∈ L → x ≠ xo → (va_up f1722 xo (.inr (0, [.ref q1, .ref q230, .ref q350, .ref q480, .ref q764, .ref q620, .ref q1647, .ref q1092, .ref q1269]))) x = f x := fun x hx h0 => (q_ne h0).trans (hF1764 x hx h0)
              have wh1832 : wP 7 2 1 12 q852 (va_up f1722 xo (.inr (0, [.ref q1, .ref q230, .ref q350, .ref q480, .ref q764, .ref q620, .ref q1647, .ref q1092, .ref q1269]))) (L1723) g1024 := wP_keep wh1730 (fun _ h9 => h9) (fun x hx h0 ht => q_ne (q_tn ht e1733 (show (0 : Nat) ≠ 7 by decide)))
              have wh1833 : wP 2 2 0 4 q1092 (va_up f1722 xo (.inr (0, [.ref q1, .ref q230, .ref q350, .ref q480, .ref q764, .ref q620, .ref q1647, .ref q1092, .ref q1269]))) (L1723) g1198 := wP_keep wh1731 (fun _ h9 => h9) (fun x hx h0 ht => q_ne (q_tn ht e1733 (show (0 : Nat) ≠ 2 by decide)))
              have wh1834 : wP 9 1 0 8 q1269 (va_up f1722 xo (.inr (0, [.ref q1, .ref q230, .ref q350, .ref q480, .ref q764, .ref q620, .ref q1647, .ref q1092, .ref q1269]))) (L1723) g1380 := wP_keep wh1732 (fun _ h9 => h9) (fun x hx h0 ht => q_ne (q_tn ht e1733 (show (0 : Nat) ≠ 9 by decide)))
              have Y : pH D cCl (pA L sz) s.heap L1723 (va_up f1722 xo (.inr (0, [.ref q1, .ref q230, .ref q350, .ref q480, .ref q764, .ref q620, .ref q1647, .ref q1092, .ref q1269]))) H locs := Y
              generalize (va_up f1722 xo (.inr (0, [.ref q1, .ref q230, .ref q350, .ref q480, .ref q764, .ref q620, .ref q1647, .ref q1092, .ref q1269]))) = f1798 at Y e1799 e1800 e1801 e1802 e1803 e1804 e1805 e1806 e1807 e1808 e1809 e1810 e1811 e1812 e1813 e1814 e1815 e1816 e1817 e1818 e1819 e1820 e1821 e1822 e1823 e1824 e1825 e1826 e1827 e1828 e1829 e1830 hF1831 wh1832 wh1833 wh1834
              refine W.cs (cells' := 367) (slots' := 53413) (by omega) (by omega) ?_
              exact c_retv hQQ X Y hr hlk ⟨s1765, hF1831, q1, q18, q19, q20, q21, q22, q23, q24, q25, q26, q27, q28, q29, q30, q31, q32, q33, q230, q281, q350, q405, q620, q764, q852, q919, q920, q1092, q1269, q1647, q480, o183, o184, o185, o186, o187, o188, o684, o685, (T.1 0), o930, o1593, o1594, (T.1 0), (T.1 0), o1728, o1729, o1729, (n1551), (n1552), (n1553), (n1505), ((nI 1000000000)), ((nI 0)), ((nI 20)), ((nI 0)), (v1555), ((nI 32)), (v1554), ((nI 36000)), ((nI 72000)), ((nI 15)), ((nI 0)), ((nI 0)), ((nI 0)), ((nI 0)), ((nI 0)), ((nI 0)), ((nI 0)), ((nI 0)), ((nI 0)), g1556, g1557, g1558, g1560, g1561, g1559, g40, g1562, g1563, g1564, g44, g1565, g1566, g282, g406, g1506, g1024, g1198, g1380, m1767, nl6, m1768, nl192, m1769, nl193, m1770, nl194, m1771, nl195, m1772, nl196, m1773, nl197, m1774, nl198, m1775, nl199, m1776, nl200, m1777, nl201, m1778, nl202, m1779, nl203, m1780, nl204, m1781, nl205, m1782, nl206, m1783, nl207, m1784, nl235, m1785, nl308, m1786, nl355, m1787, nl434, m1790, nl625, m1791, nl769, m1792, nl857, m1793, nl959, m1794, nl960, m1795, nl1097, m1796, nl1274, m1797, nl1652, ap79, ap80, ap81, ap82, ap83, ap84, ap85, ap86, ap87, ap88, ap89, ap90, (ne_mem nl284 m260), (ne_mem nl408 m382), (ne_mem hqq764 m715), (ne_mem nl925 m890), (ne_mem hqq1092 m1034), (ne_mem hqq1269 m1208), ap91, ap92, ap93, ap94, ap95, ap96, ap97, ap98, ap99, ap100, ap101, (ne_mem nl284 m261), (ne_mem nl408 m383), (ne_mem hqq764 m716), (ne_mem nl925 m891), (ne_mem hqq1092 m1035), (ne_mem hqq1269 m1209), ap102, ap103, ap104, ap105, ap106, ap107, ap108, ap109, ap110, ap111, (ne_mem nl284 m262), (ne_mem nl408 m384), (ne_mem hqq764 m717), (ne_mem nl925 m892), (ne_mem hqq1092 m1036), (ne_mem hqq1269 m1210), ap112, ap113, ap114, ap115, ap116, ap117, ap118, ap119, ap120, (ne_mem nl284 m263), (ne_mem nl408 m385), (ne_mem hqq764 m718), (ne_mem nl925 m893), (ne_mem hqq1092 m1037), (ne_mem hqq1269 m1211), ap121, ap122, ap123, ap124, ap125, ap126, ap127, ap128, (ne_mem nl284 m264), (ne_mem nl408 m386), (ne_mem hqq764 m719), (ne_mem nl925 m894), (ne_mem hqq1092 m1038), (ne_mem hqq1269 m1212), ap129, ap130, ap131, ap132, ap133, ap134, ap135, (ne_mem nl284 m265), (ne_mem nl408 m387), (ne_mem hqq764 m720), (ne_mem nl925 m895), (ne_mem hqq1092 m1039), (ne_mem hqq1269 m1213), ap136, ap137, ap138, ap139, ap140, ap141, (ne_mem nl284 m267), (ne_mem nl408 m389), (ne_mem hqq764 m722), (ne_mem nl925 m897), (ne_mem hqq1092 m1041), (ne_mem hqq1269 m1215), ap142, ap143, ap144, ap145, ap146, (ne_mem nl284 m268), (ne_mem nl408 m390), (ne_mem hqq764 m723), (ne_mem nl925 m898), (ne_mem hqq1092 m1042), (ne_mem hqq1269 m1216), ap147, ap148, ap149, ap150, (ne_mem nl284 m269), (ne_mem nl408 m391), (ne_mem hqq764 m724), (ne_mem nl925 m899), (ne_mem hqq1092 m1043), (ne_mem hqq1269 m1217), ap151, ap152, ap153, (ne_mem nl284 m270), (ne_mem nl408 m392), (ne_mem hqq764 m725), (ne_mem nl925 m900), (ne_mem hqq1092 m1044), (ne_mem hqq1269 m1218), ap154, ap155, (ne_mem nl284 m271), (ne_mem nl408 m393), (ne_mem hqq764 m726), (ne_mem nl925 m901), (ne_mem hqq1092 m1045), (ne_mem hqq1269 m1219), ap156, (ne_mem nl284 m272), (ne_mem nl408 m394), (ne_mem hqq764 m727), (ne_mem nl925 m902), (ne_mem hqq1092 m1046), (ne_mem hqq1269 m1220), (ne_mem hqq230 m61), (ne_mem hqq350 m325), (ne_mem nl924 m903), (ne_mem nl284 m274), (ne_mem nl408 m396), (ne_mem hqq764 m729), (ne_mem nl925 m904), (ne_mem hqq1092 m1048), (ne_mem hqq1269 m1222), (ne_mem hqq350 m327), (ne_mem nl924 m905), (ne_mem nl408 m398), (ne_mem hqq764 m731), (ne_mem nl925 m906), (ne_mem hqq1092 m1050), (ne_mem hqq1269 m1224), (ne_mem nl924 m907), (ne_mem hqq764 m733), (ne_mem nl925 m908), (ne_mem hqq1092 m1052), (ne_mem hqq1269 m1226), (ne_mem nl925 m912), (ne_mem hqq1092 m1056), (ne_mem hqq1269 m1230), (ne_mem hqq1092 m1059), (ne_mem hqq1269 m1233), (ne_mem hqq1269 m1234), hg1567, hg1568, hg159, hg1569, hg1570, hg1571, hg163, hg1572, hg1573, hg285, hg409, hg1507, wh1832, wh1833, wh1834, hz1089, (by omega), (by omega), (by omega), (by omega), e1799, e1800, e1801, e1802, e1803, e1804, e1805, e1806, e1807, e1808, e1809, e1810, e1811, e1812, e1813, e1814, e1815, e1816, e1817, e1818, e1819, e1820, e1823, e1824, e1825, e1826, e1827, e1828, e1829, e1830⟩ d_H_init_255
            | succ n1376 ih1381 =>
              intro i1377 L1378 f1379 g1380 H locs ls hm1382 hc1383 hc1384  s1385 m1387 m1388 m1389 m1390 m1391 m1392 m1393 m1394 m1395 m1396 m1397 m1398 m1399 m1400 m1401 m1402 m1403 m1404 m1405 m1406 m1407 m1408 m1409 m1410 m1411 m1412 m1413 m1414 m1415 m1416 m1417 e1418 e1419 e1420 e1421 e1422 e1423 e1424 e1425 e1426 e1427 e1428 e1429 e1430 e1431 e1432 e1433 e1434 e1435 e1436 e1437 e1438 e1439 e1440 e1441 e1442 e1443 e1444 e1445 e1446 e1447 e1448 hF1386 wh1450 wh1451 wh1452 Y hl
              refine lv_iload_n X.1 X.2.1 d_H_init_156 rfl (lv_at hl 0 rfl) ?_
              refine lv_bipush (v := (nI 8)) X.1 X.2.1 d_H_init_157 (by decide) ?_
              refine lv_icmp_ge (tgt := 185) X.1 X.2.1 d_H_init_159 (by decide) (fun c1835 => absurd c1835 ?_) (fun c1835 => ?_)
              · (rw [nI_leI (by omega) (by omega)] <;> omega)
              rw [nI_leI (by omega) (by omega)] at c1835
              refine lv_aload_n X.1 X.2.1 d_H_init_162 rfl (lv_at hl 1 rfl) ?_
              refine q_get X.1 X.2.1 X.2.2.1 i_H X.2.2.2.1 X.2.2.2.2 Y m1387 e1418 rfl 8 (by decide) (X.2.2.1 _ lk_H_56) (fun _ h9 => h9) rfl d_H_init_163 ?_
              refine lv_iload_n X.1 X.2.1 d_H_init_166 rfl (lv_at hl 0 rfl) ?_
              refine q_new X.1 X.2.1 X.2.2.1 i_So t_So t_So_ok X.2.2.2.1 (X.2.2.1 _ ck_H_54) (X.2.2.1 _ mk_So) (X.2.2.1 _ ini_So) X.2.2.2.2 Y hA (ci := 9) rfl (fs := [.null, .int (nI 0), .int (nI 0), .null, .null, .int (nI 0), .int (nI 0), .long 0, .null, .null, .null]) (fun j hj => match j, hj with | 0, _ => rfl | 1, _ => rfl | 2, _ => rfl | 3, _ => rfl | 4, _ => rfl | 5, _ => rfl | 6, _ => rfl | 7, _ => rfl | 8, _ => rfl | 9, _ => rfl | 10, _ => rfl | n9 + 11, h9 => absurd (show n9 + 11 < 11 from h9) (by omega)) (show 327 + i1377 * 4 + 1 ≤ 367 by omega) (show 51816 + i1377 * 19 + 11 ≤ (53413) by omega) d_H_init_167 (fun q1836 H hqq1836 Y => ?_)
              have Y : pH D cCl (pA L sz) s.heap (L1378 ++ [q1836]) (va_up f1379 q1836 (.inr (9, [.null, .int (nI 0), .int (nI 0), .null, .null, .int (nI 0), .int (nI 0), .long 0, .null, .null, .null]))) H locs := Y
              have e1843 : (va_up f1379 q1836 (.inr (9, [.null, .int (nI 0), .int (nI 0), .null, .null, .int (nI 0), .int (nI 0), .long 0, .null, .null, .null]))) q1836 = .inr (9, [.null, .int (nI 0), .int (nI 0), .null, .null, .int (nI 0), .int (nI 0), .long 0, .null, .null, .null]) := q_up
              have e1844 : (va_up f1379 q1836 (.inr (9, [.null, .int (nI 0), .int (nI 0), .null, .null, .int (nI 0), .int (nI 0), .long 0, .null, .null, .null]))) xo = .inr (0, [.ref q1, .ref q230, .ref q350, .ref q480, .ref q764, .ref q620, .null, .ref q1092, .ref q1269]) := (q_ne (ne_mem hqq1836 m1387)).trans e1418
              have e1845 : (va_up f1379 q1836 (.inr (9, [.null, .int (nI 0), .int (nI 0), .null, .null, .int (nI 0), .int (nI 0), .long 0, .null, .null, .null]))) q1 = .inr (11, [.int (nI 1000000000), .ref o183, .ref o184, .ref q18, .ref q25, .ref q30, .int (nI 0), .ref o185, .int (nI 20), .int (nI 0), .ref o186, .ref q31, .ref q32]) := (q_ne (ne_mem hqq1836 m1388)).trans e1419
              have e1846 : (va_up f1379 q1836 (.inr (9, [.null, .int (nI 0), .int (nI 0), .null, .null, .int (nI 0), .int (nI 0), .long 0, .null, .null, .null]))) q18 = .inr (6, [.ref q19, .ref q20, .ref q21, .ref q22, .ref q23, .int (nI 0), .int (nI 0), .ref q24]) := (q_ne (ne_mem hqq1836 m1389)).trans e1420
              have e1847 : (va_up f1379 q1836 (.inr (9, [.null, .int (nI 0), .int (nI 0), .null, .null, .int (nI 0), .int (nI 0), .long 0, .null, .null, .null]))) q19 = .inl (E.2.1, 80, .inl g34) := (q_ne (ne_mem hqq1836 m1390)).trans e1421
              have e1848 : (va_up f1379 q1836 (.inr (9, [.null, .int (nI 0), .int (nI 0), .null, .null, .int (nI 0), .int (nI 0), .long 0, .null, .null, .null]))) q20 = .inl (E.1, 64, .inl g35) := (q_ne (ne_mem hqq1836 m1391)).trans e1422
              have e1849 : (va_up f1379 q1836 (.inr (9, [.null, .int (nI 0), .int (nI 0), .null, .null, .int (nI 0), .int (nI 0), .long 0, .null, .null, .null]))) q21 = .inl (E.2.1, 5, .inl g36) := (q_ne (ne_mem hqq1836 m1392)).trans e1423
              have e1850 : (va_up f1379 q1836 (.inr (9, [.null, .int (nI 0), .int (nI 0), .null, .null, .int (nI 0), .int (nI 0), .long 0, .null, .null, .null]))) q22 = .inl (E.2.1, 5, .inl g37) := (q_ne (ne_mem hqq1836 m1393)).trans e1424
              have e1851 : (va_up f1379 q1836 (.inr (9, [.null, .int (nI 0), .int (nI 0), .null, .null, .int (nI 0), .int (nI 0), .long 0, .null, .null, .null]))) q23 = .inl (E.2.1, 5, .inl g38) := (q_ne (ne_mem hqq1836 m1394)).trans e1425
              have e1852 : (va_up f1379 q1836 (.inr (9, [.null, .int (nI 0), .int (nI 0), .null, .null, .int (nI 0), .int (nI 0), .long 0, .null, .null, .null]))) q24 = .inl (E.1, 20, .inl g39) := (q_ne (ne_mem hqq1836 m1395)).trans e1426
              have e1853 : (va_up f1379 q1836 (.inr (9, [.null, .int (nI 0), .int (nI 0), .null, .null, .int (nI 0), .int (nI 0), .long 0, .null, .null, .null]))) q25 = .inr (1, [.ref o187, .ref q26, .ref q27, .int (nI 0), .ref q28, .ref q29, .ref o188]) := (q_ne (ne_mem hqq1836 m1396)).trans e1427
              have e1854 : (va_up f1379 q1836 (.inr (9, [.null, .int (nI 0), .int (nI 0), .null, .null, .int (nI 0), .int (nI 0), .long 0, .null, .null, .null]))) q26 = .inl (E.2.1, 256, .inl g40) := (q_ne (ne_mem hqq1836 m1397)).trans e1428
              have e1855 : (va_up f1379 q1836 (.inr (9, [.null, .int (nI 0), .int (nI 0), .null, .null, .int (nI 0), .int (nI 0), .long 0, .null, .null, .null]))) q27 = .inl (E.2.1, 240, .inl g41) := (q_ne (ne_mem hqq1836 m1398)).trans e1429
              have e1856 : (va_up f1379 q1836 (.inr (9, [.null, .int (nI 0), .int (nI 0), .null, .null, .int (nI 0), .int (nI 0), .long 0, .null, .null, .null]))) q28 = .inl (E.2.1, 16, .inl g42) := (q_ne (ne_mem hqq1836 m1399)).trans e1430
              have e1857 : (va_up f1379 q1836 (.inr (9, [.null, .int (nI 0), .int (nI 0), .null, .null, .int (nI 0), .int (nI 0), .long 0, .null, .null, .null]))) q29 = .inl (E.2.1, 16, .inl g43) := (q_ne (ne_mem hqq1836 m1400)).trans e1431
              have e1858 : (va_up f1379 q1836 (.inr (9, [.null, .int (nI 0), .int (nI 0), .null, .null, .int (nI 0), .int (nI 0), .long 0, .null, .null, .null]))) q30 = .inl (E.1, 64, .inl g44) := (q_ne (ne_mem hqq1836 m1401)).trans e1432
              have e1859 : (va_up f1379 q1836 (.inr (9, [.null, .int (nI 0), .int (nI 0), .null, .null, .int (nI 0), .int (nI 0), .long 0, .null, .null, .null]))) q31 = .inl (E.1, 20, .inl g45) := (q_ne (ne_mem hqq1836 m1402)).trans e1433
              have e1860 : (va_up f1379 q1836 (.inr (9, [.null, .int (nI 0), .int (nI 0), .null, .null, .int (nI 0), .int (nI 0), .long 0, .null, .null, .null]))) q32 = .inr (3, [.ref q33, .int (nI 0)]) := (q_ne (ne_mem hqq1836 m1403)).trans e1434
              have e1861 : (va_up f1379 q1836 (.inr (9, [.null, .int (nI 0), .int (nI 0), .null, .null, .int (nI 0), .int (nI 0), .long 0, .null, .null, .null]))) q33 = .inl (E.1, 64, .inl g46) := (q_ne (ne_mem hqq1836 m1404)).trans e1435
              have e1862 : (va_up f1379 q1836 (.inr (9, [.null, .int (nI 0), .int (nI 0), .null, .null, .int (nI 0), .int (nI 0), .long 0, .null, .null, .null]))) q230 = .inr (3, [.ref q281, .int (nI 0)]) := (q_ne (ne_mem hqq1836 m1405)).trans e1436
              have e1863 : (va_up f1379 q1836 (.inr (9, [.null, .int (nI 0), .int (nI 0), .null, .null, .int (nI 0), .int (nI 0), .long 0, .null, .null, .null]))) q281 = .inl (E.1, 4000, .inl g282) := (q_ne (ne_mem hqq1836 m1406)).trans e1437
              have e1864 : (va_up f1379 q1836 (.inr (9, [.null, .int (nI 0), .int (nI 0), .null, .null, .int (nI 0), .int (nI 0), .long 0, .null, .null, .null]))) q350 = .inr (3, [.ref q405, .int (nI 0)]) := (q_ne (ne_mem hqq1836 m1407)).trans e1438
              have e1865 : (va_up f1379 q1836 (.inr (9, [.null, .int (nI 0), .int (nI 0), .null, .null, .int (nI 0), .int (nI 0), .long 0, .null, .null, .null]))) q405 = .inl (E.1, 12288, .inl g406) := (q_ne (ne_mem hqq1836 m1408)).trans e1439
              have e1866 : (va_up f1379 q1836 (.inr (9, [.null, .int (nI 0), .int (nI 0), .null, .null, .int (nI 0), .int (nI 0), .long 0, .null, .null, .null]))) q480 = .inr (3, [.ref q539, .int (nI 0)]) := (q_ne (ne_mem hqq1836 m1409)).trans e1440
              have e1867 : (va_up f1379 q1836 (.inr (9, [.null, .int (nI 0), .int (nI 0), .null, .null, .int (nI 0), .int (nI 0), .long 0, .null, .null, .null]))) q539 = .inl (E.1, 40, .inl g540) := (q_ne (ne_mem hqq1836 m1410)).trans e1441
              have e1868 : (va_up f1379 q1836 (.inr (9, [.null, .int (nI 0), .int (nI 0), .null, .null, .int (nI 0), .int (nI 0), .long 0, .null, .null, .null]))) q620 = .inr (5, [.ref q1, .ref o684, .ref o685, .ref (T.1 0), .int (nI 32)]) := (q_ne (ne_mem hqq1836 m1411)).trans e1442
              have e1869 : (va_up f1379 q1836 (.inr (9, [.null, .int (nI 0), .int (nI 0), .null, .null, .int (nI 0), .int (nI 0), .long 0, .null, .null, .null]))) q764 = .inl (E.2.2.1, 12, .inr (.inr (.inr (.inr g1024)))) := (q_ne (ne_mem hqq1836 m1412)).trans e1443
              have e1870 : (va_up f1379 q1836 (.inr (9, [.null, .int (nI 0), .int (nI 0), .null, .null, .int (nI 0), .int (nI 0), .long 0, .null, .null, .null]))) q852 = .inr (7, [.ref q919, .ref o930, .int (nI 0), .int (nI 0), .int (nI 0), .ref (T.1 0), .ref (T.1 0), .ref (T.1 0), .ref (T.1 0), .int (nI 36000), .int (nI 72000), .int (nI 15), .int (nI 0)]) := (q_ne (ne_mem hqq1836 m1413)).trans e1444
              have e1871 : (va_up f1379 q1836 (.inr (9, [.null, .int (nI 0), .int (nI 0), .null, .null, .int (nI 0), .int (nI 0), .long 0, .null, .null, .null]))) q919 = .inr (3, [.ref q920, .int (nI 0)]) := (q_ne (ne_mem hqq1836 m1414)).trans e1445
              have e1872 : (va_up f1379 q1836 (.inr (9, [.null, .int (nI 0), .int (nI 0), .null, .null, .int (nI 0), .int (nI 0), .long 0, .null, .null, .null]))) q920 = .inl (E.1, 40, .inl g921) := (q_ne (ne_mem hqq1836 m1415)).trans e1446
              have e1873 : (va_up f1379 q1836 (.inr (9, [.null, .int (nI 0), .int (nI 0), .null, .null, .int (nI 0), .int (nI 0), .long 0, .null, .null, .null]))) q1092 = .inl (E.2.2.2.1, 4, .inr (.inr (.inr (.inr g1198)))) := (q_ne (ne_mem hqq1836 m1416)).trans e1447
              have e1874 : (va_up f1379 q1836 (.inr (9, [.null, .int (nI 0), .int (nI 0), .null, .null, .int (nI 0), .int (nI 0), .long 0, .null, .null, .null]))) q1269 = .inl (E.2.2.2.2.1, 8, .inr (.inr (.inr (.inr g1380)))) := (q_ne (ne_mem hqq1836 m1417)).trans e1448
              have nl1841 : q1836 ∉ L := fun h9 => hqq1836 (s1385 _ h9)
              have hF1875 : ∀ x, x ∈ L → x ≠ xo → (va_up f1379 q1836 (.inr (9, [.null, .int (nI 0), .int (nI 0), .null, .null, .int (nI 0), .int (nI 0), .long 0, .null, .null, .null]))) x = f x := fun x hx h0 => (q_ne (ne_mem nl1841 hx)).trans (hF1386 x hx h0)
              have wh1876 : wP 7 2 1 12 q852 (va_up f1379 q1836 (.inr (9, [.null, .int (nI 0), .int (nI 0), .null, .null, .int (nI 0), .int (nI 0), .long 0, .null, .null, .null]))) (L1378 ++ [q1836]) g1024 := wP_keep wh1450 (fun _ h9 => List.mem_append_left _ h9) (fun x hx h0 ht => q_ne (ne_mem hqq1836 hx))
              have wh1877 : wP 2 2 0 4 q1092 (va_up f1379 q1836 (.inr (9, [.null, .int (nI 0), .int (nI 0), .null, .null, .int (nI 0), .int (nI 0), .long 0, .null, .null, .null]))) (L1378 ++ [q1836]) g1198 := wP_keep wh1451 (fun _ h9 => List.mem_append_left _ h9) (fun x hx h0 ht => q_ne (ne_mem hqq1836 hx))
              have wh1878 : wP 9 1 0 i1377 q1269 (va_up f1379 q1836 (.inr (9, [.null, .int (nI 0), .int (nI 0), .null, .null, .int (nI 0), .int (nI 0), .long 0, .null, .null, .null]))) (L1378) g1380 := wP_keep wh1452 (fun _ h9 => h9) (fun x hx h0 ht => q_ne (ne_mem hqq1836 hx))
              have ws1879 : ∀ x, x ∈ L1378 → x ∈ L1378 ++ [q1836] := fun _ h9 => List.mem_append_left _ h9
              generalize (va_up f1379 q1836 (.inr (9, [.null, .int (nI 0), .int (nI 0), .null, .null, .int (nI 0), .int (nI 0), .long 0, .null, .null, .null]))) = f1842 at Y e1843 e1844 e1845 e1846 e1847 e1848 e1849 e1850 e1851 e1852 e1853 e1854 e1855 e1856 e1857 e1858 e1859 e1860 e1861 e1862 e1863 e1864 e1865 e1866 e1867 e1868 e1869 e1870 e1871 e1872 e1873 e1874 hF1875 wh1876 wh1877 wh1878
              have s1839 : ∀ x, x ∈ L → x ∈ L1378 ++ [q1836] := fun x hx => List.mem_append_left _ (s1385 x hx)
              have m1880 : xo ∈ L1378 ++ [q1836] := List.mem_append_left _ m1387
              have m1881 : q1 ∈ L1378 ++ [q1836] := List.mem_append_left _ m1388
              have m1882 : q18 ∈ L1378 ++ [q1836] := List.mem_append_left _ m1389
              have m1883 : q19 ∈ L1378 ++ [q1836] := List.mem_append_left _ m1390
              have m1884 : q20 ∈ L1378 ++ [q1836] := List.mem_append_left _ m1391
              have m1885 : q21 ∈ L1378 ++ [q1836] := List.mem_append_left _ m1392
              have m1886 : q22 ∈ L1378 ++ [q1836] := List.mem_append_left _ m1393
              have m1887 : q23 ∈ L1378 ++ [q1836] := List.mem_append_left _ m1394
              have m1888 : q24 ∈ L1378 ++ [q1836] := List.mem_append_left _ m1395
              have m1889 : q25 ∈ L1378 ++ [q1836] := List.mem_append_left _ m1396
              have m1890 : q26 ∈ L1378 ++ [q1836] := List.mem_append_left _ m1397
              have m1891 : q27 ∈ L1378 ++ [q1836] := List.mem_append_left _ m1398
              have m1892 : q28 ∈ L1378 ++ [q1836] := List.mem_append_left _ m1399
              have m1893 : q29 ∈ L1378 ++ [q1836] := List.mem_append_left _ m1400
              have m1894 : q30 ∈ L1378 ++ [q1836] := List.mem_append_left _ m1401
              have m1895 : q31 ∈ L1378 ++ [q1836] := List.mem_append_left _ m1402
              have m1896 : q32 ∈ L1378 ++ [q1836] := List.mem_append_left _ m1403
              have m1897 : q33 ∈ L1378 ++ [q1836] := List.mem_append_left _ m1404
              have m1898 : q230 ∈ L1378 ++ [q1836] := List.mem_append_left _ m1405
              have m1899 : q281 ∈ L1378 ++ [q1836] := List.mem_append_left _ m1406
              have m1900 : q350 ∈ L1378 ++ [q1836] := List.mem_append_left _ m1407
              have m1901 : q405 ∈ L1378 ++ [q1836] := List.mem_append_left _ m1408
              have m1902 : q480 ∈ L1378 ++ [q1836] := List.mem_append_left _ m1409
              have m1903 : q539 ∈ L1378 ++ [q1836] := List.mem_append_left _ m1410
              have m1904 : q620 ∈ L1378 ++ [q1836] := List.mem_append_left _ m1411
              have m1905 : q764 ∈ L1378 ++ [q1836] := List.mem_append_left _ m1412
              have m1906 : q852 ∈ L1378 ++ [q1836] := List.mem_append_left _ m1413
              have m1907 : q919 ∈ L1378 ++ [q1836] := List.mem_append_left _ m1414
              have m1908 : q920 ∈ L1378 ++ [q1836] := List.mem_append_left _ m1415
              have m1909 : q1092 ∈ L1378 ++ [q1836] := List.mem_append_left _ m1416
              have m1910 : q1269 ∈ L1378 ++ [q1836] := List.mem_append_left _ m1417
              have m1840 : q1836 ∈ L1378 ++ [q1836] := List.mem_append_right _ (List.mem_singleton.mpr rfl)
              generalize L1378 ++ [q1836] = L1837 at Y s1839 m1880 m1881 m1882 m1883 m1884 m1885 m1886 m1887 m1888 m1889 m1890 m1891 m1892 m1893 m1894 m1895 m1896 m1897 m1898 m1899 m1900 m1901 m1902 m1903 m1904 m1905 m1906 m1907 m1908 m1909 m1910 m1840 wh1876 wh1877 ws1879
              refine lv_dup X.1 X.2.1 d_H_init_170 rfl ?_
              refine lv_aload_n X.1 X.2.1 d_H_init_171 rfl (lv_at hl 1 rfl) ?_
              refine q_get X.1 X.2.1 X.2.2.1 i_H X.2.2.2.1 X.2.2.2.2 Y m1880 e1844 rfl 0 (by decide) (X.2.2.1 _ lk_H_12) (fun _ h9 => h9) rfl d_H_init_172 ?_
              refine x_v (x_runI (As := [.ref q1]) (rest := [.ref q1836, .int (nI i1377), .ref q1269]) (n := 1) X hml hl.1 (c_So_init l D E T L1837 f1842 H.size q1 q1836 m1840 e1843) (ok_k X Y hA KS KR) kl_H_So_init ks_So_init ki_So_init ini_So rfl ⟨rfl, rfl⟩ hd_So_init.2 ⟨by decide, by decide⟩ rfl (Nat.le_of_ble_eq_true rfl) d_H_init_175 ⟨(show 327 + i1377 * 4 + 1 + 3 ≤ 367 by omega), (show 51816 + i1377 * 19 + 11 + (8) ≤ (53413) by omega)⟩) X Y hA (fun u H locs hp Y => ?_)
              obtain ⟨L1913, f1912⟩ := u
              obtain ⟨eL1915, hF1914, o1919, o1920, o1921, v1917, e1918⟩ := hp
              dsimp only at eL1915 hF1914 e1918 Y
              have wh1922 : wP 7 2 1 12 q852 f1912 (L1913) g1024 := wP_keep wh1876 (fun x9 h9 => eL1915 x9 h9) (fun x hx h0 ht => hF1914 x hx (q_tn ht e1843 (show (9 : Nat) ≠ 7 by decide)))
              have wh1923 : wP 2 2 0 4 q1092 f1912 (L1913) g1198 := wP_keep wh1877 (fun x9 h9 => eL1915 x9 h9) (fun x hx h0 ht => hF1914 x hx (q_tn ht e1843 (show (9 : Nat) ≠ 2 by decide)))
              have wh1924 : wP 9 1 0 i1377 q1269 f1912 (L1378) g1380 := wP_keep wh1878 (fun x9 h9 => h9) (fun x hx h0 ht => hF1914 x (ws1879 x hx) (ne_mem hqq1836 hx))
              have ws1925 : ∀ x, x ∈ L1378 → x ∈ L1913 := fun x hx => eL1915 x (ws1879 x hx)
              have e1926 : f1912 xo = .inr (0, [.ref q1, .ref q230, .ref q350, .ref q480, .ref q764, .ref q620, .null, .ref q1092, .ref q1269]) := (hF1914 xo m1880 (q_tag e1844 e1843 (show (0 : Nat) ≠ 9 by decide))).trans e1844
              have e1927 : f1912 q1 = .inr (11, [.int (nI 1000000000), .ref o183, .ref o184, .ref q18, .ref q25, .ref q30, .int (nI 0), .ref o185, .int (nI 20), .int (nI 0), .ref o186, .ref q31, .ref q32]) := (hF1914 q1 m1881 (q_tag e1845 e1843 (show (11 : Nat) ≠ 9 by decide))).trans e1845
              have e1928 : f1912 q18 = .inr (6, [.ref q19, .ref q20, .ref q21, .ref q22, .ref q23, .int (nI 0), .int (nI 0), .ref q24]) := (hF1914 q18 m1882 (q_tag e1846 e1843 (show (6 : Nat) ≠ 9 by decide))).trans e1846
              have e1929 : f1912 q19 = .inl (E.2.1, 80, .inl g34) := (hF1914 q19 m1883 (q_tag e1847 e1843 (show (1000 : Nat) ≠ 9 by decide))).trans e1847
              have e1930 : f1912 q20 = .inl (E.1, 64, .inl g35) := (hF1914 q20 m1884 (q_tag e1848 e1843 (show (1000 : Nat) ≠ 9 by decide))).trans e1848
              have e1931 : f1912 q21 = .inl (E.2.1, 5, .inl g36) := (hF1914 q21 m1885 (q_tag e1849 e1843 (show (1000 : Nat) ≠ 9 by decide))).trans e1849
              have e1932 : f1912 q22 = .inl (E.2.1, 5, .inl g37) := (hF1914 q22 m1886 (q_tag e1850 e1843 (show (1000 : Nat) ≠ 9 by decide))).trans e1850
              have e1933 : f1912 q23 = .inl (E.2.1, 5, .inl g38) := (hF1914 q23 m1887 (q_tag e1851 e1843 (show (1000 : Nat) ≠ 9 by decide))).trans e1851
              have e1934 : f1912 q24 = .inl (E.1, 20, .inl g39) := (hF1914 q24 m1888 (q_tag e1852 e1843 (show (1000 : Nat) ≠ 9 by decide))).trans e1852
              have e1935 : f1912 q25 = .inr (1, [.ref o187, .ref q26, .ref q27, .int (nI 0), .ref q28, .ref q29, .ref o188]) := (hF1914 q25 m1889 (q_tag e1853 e1843 (show (1 : Nat) ≠ 9 by decide))).trans e1853
              have e1936 : f1912 q26 = .inl (E.2.1, 256, .inl g40) := (hF1914 q26 m1890 (q_tag e1854 e1843 (show (1000 : Nat) ≠ 9 by decide))).trans e1854
              have e1937 : f1912 q27 = .inl (E.2.1, 240, .inl g41) := (hF1914 q27 m1891 (q_tag e1855 e1843 (show (1000 : Nat) ≠ 9 by decide))).trans e1855
              have e1938 : f1912 q28 = .inl (E.2.1, 16, .inl g42) := (hF1914 q28 m1892 (q_tag e1856 e1843 (show (1000 : Nat) ≠ 9 by decide))).trans e1856
              have e1939 : f1912 q29 = .inl (E.2.1, 16, .inl g43) := (hF1914 q29 m1893 (q_tag e1857 e1843 (show (1000 : Nat) ≠ 9 by decide))).trans e1857
              have e1940 : f1912 q30 = .inl (E.1, 64, .inl g44) := (hF1914 q30 m1894 (q_tag e1858 e1843 (show (1000 : Nat) ≠ 9 by decide))).trans e1858
              have e1941 : f1912 q31 = .inl (E.1, 20, .inl g45) := (hF1914 q31 m1895 (q_tag e1859 e1843 (show (1000 : Nat) ≠ 9 by decide))).trans e1859
              have e1942 : f1912 q32 = .inr (3, [.ref q33, .int (nI 0)]) := (hF1914 q32 m1896 (q_tag e1860 e1843 (show (3 : Nat) ≠ 9 by decide))).trans e1860
              have e1943 : f1912 q33 = .inl (E.1, 64, .inl g46) := (hF1914 q33 m1897 (q_tag e1861 e1843 (show (1000 : Nat) ≠ 9 by decide))).trans e1861
              have e1944 : f1912 q230 = .inr (3, [.ref q281, .int (nI 0)]) := (hF1914 q230 m1898 (q_tag e1862 e1843 (show (3 : Nat) ≠ 9 by decide))).trans e1862
              have e1945 : f1912 q281 = .inl (E.1, 4000, .inl g282) := (hF1914 q281 m1899 (q_tag e1863 e1843 (show (1000 : Nat) ≠ 9 by decide))).trans e1863
              have e1946 : f1912 q350 = .inr (3, [.ref q405, .int (nI 0)]) := (hF1914 q350 m1900 (q_tag e1864 e1843 (show (3 : Nat) ≠ 9 by decide))).trans e1864
              have e1947 : f1912 q405 = .inl (E.1, 12288, .inl g406) := (hF1914 q405 m1901 (q_tag e1865 e1843 (show (1000 : Nat) ≠ 9 by decide))).trans e1865
              have e1948 : f1912 q480 = .inr (3, [.ref q539, .int (nI 0)]) := (hF1914 q480 m1902 (q_tag e1866 e1843 (show (3 : Nat) ≠ 9 by decide))).trans e1866
              have e1949 : f1912 q539 = .inl (E.1, 40, .inl g540) := (hF1914 q539 m1903 (q_tag e1867 e1843 (show (1000 : Nat) ≠ 9 by decide))).trans e1867
              have e1950 : f1912 q620 = .inr (5, [.ref q1, .ref o684, .ref o685, .ref (T.1 0), .int (nI 32)]) := (hF1914 q620 m1904 (q_tag e1868 e1843 (show (5 : Nat) ≠ 9 by decide))).trans e1868
              have e1951 : f1912 q764 = .inl (E.2.2.1, 12, .inr (.inr (.inr (.inr g1024)))) := (hF1914 q764 m1905 (q_tag e1869 e1843 (show (1000 : Nat) ≠ 9 by decide))).trans e1869
              have e1952 : f1912 q852 = .inr (7, [.ref q919, .ref o930, .int (nI 0), .int (nI 0), .int (nI 0), .ref (T.1 0), .ref (T.1 0), .ref (T.1 0), .ref (T.1 0), .int (nI 36000), .int (nI 72000), .int (nI 15), .int (nI 0)]) := (hF1914 q852 m1906 (q_tag e1870 e1843 (show (7 : Nat) ≠ 9 by decide))).trans e1870
              have e1953 : f1912 q919 = .inr (3, [.ref q920, .int (nI 0)]) := (hF1914 q919 m1907 (q_tag e1871 e1843 (show (3 : Nat) ≠ 9 by decide))).trans e1871
              have e1954 : f1912 q920 = .inl (E.1, 40, .inl g921) := (hF1914 q920 m1908 (q_tag e1872 e1843 (show (1000 : Nat) ≠ 9 by decide))).trans e1872
              have e1955 : f1912 q1092 = .inl (E.2.2.2.1, 4, .inr (.inr (.inr (.inr g1198)))) := (hF1914 q1092 m1909 (q_tag e1873 e1843 (show (1000 : Nat) ≠ 9 by decide))).trans e1873
              have e1956 : f1912 q1269 = .inl (E.2.2.2.2.1, 8, .inr (.inr (.inr (.inr g1380)))) := (hF1914 q1269 m1910 (q_tag e1874 e1843 (show (1000 : Nat) ≠ 9 by decide))).trans e1874
              have hF1957 : ∀ x, x ∈ L → x ≠ xo → f1912 x = f x := fun x hx h0 => (hF1914 x (s1839 x hx) (ne_mem nl1841 hx)).trans (hF1875 x hx h0)
              have s1958 : ∀ x, x ∈ L → x ∈ L1913 := fun x hx => eL1915 x (s1839 x hx)
              have m1959 : xo ∈ L1913 := eL1915 _ m1880
              have m1960 : q1 ∈ L1913 := eL1915 _ m1881
              have m1961 : q18 ∈ L1913 := eL1915 _ m1882
              have m1962 : q19 ∈ L1913 := eL1915 _ m1883
              have m1963 : q20 ∈ L1913 := eL1915 _ m1884
              have m1964 : q21 ∈ L1913 := eL1915 _ m1885
              have m1965 : q22 ∈ L1913 := eL1915 _ m1886
              have m1966 : q23 ∈ L1913 := eL1915 _ m1887
              have m1967 : q24 ∈ L1913 := eL1915 _ m1888
              have m1968 : q25 ∈ L1913 := eL1915 _ m1889
              have m1969 : q26 ∈ L1913 := eL1915 _ m1890
              have m1970 : q27 ∈ L1913 := eL1915 _ m1891
              have m1971 : q28 ∈ L1913 := eL1915 _ m1892
              have m1972 : q29 ∈ L1913 := eL1915 _ m1893
              have m1973 : q30 ∈ L1913 := eL1915 _ m1894
              have m1974 : q31 ∈ L1913 := eL1915 _ m1895
              have m1975 : q32 ∈ L1913 := eL1915 _ m1896
              have m1976 : q33 ∈ L1913 := eL1915 _ m1897
              have m1977 : q230 ∈ L1913 := eL1915 _ m1898
              have m1978 : q281 ∈ L1913 := eL1915 _ m1899
              have m1979 : q350 ∈ L1913 := eL1915 _ m1900
              have m1980 : q405 ∈ L1913 := eL1915 _ m1901
              have m1981 : q480 ∈ L1913 := eL1915 _ m1902
              have m1982 : q539 ∈ L1913 := eL1915 _ m1903
              have m1983 : q620 ∈ L1913 := eL1915 _ m1904
              have m1984 : q764 ∈ L1913 := eL1915 _ m1905
              have m1985 : q852 ∈ L1913 := eL1915 _ m1906
              have m1986 : q919 ∈ L1913 := eL1915 _ m1907
              have m1987 : q920 ∈ L1913 := eL1915 _ m1908
              have m1988 : q1092 ∈ L1913 := eL1915 _ m1909
              have m1989 : q1269 ∈ L1913 := eL1915 _ m1910
              have m1990 : q1836 ∈ L1913 := eL1915 _ m1840
              refine q_aast X.1 X.2.1 X.2.2.2.2 Y 4 9 (r := (R_So, F_So, 11)) m1989 e1956 rfl m1990 e1918 rfl (vp_in_nI (by omega) (by omega)) d_H_init_178 (fun H locs Y => ?_)
              rw [nI_clamp (show i1377 < 2 ^ 31 by omega)] at Y
              have e1992 : (va_up f1912 q1269 (.inl (E.2.2.2.2.1, 8, .inr (.inr (.inr (.inr (va_up g1380 i1377 (some q1836)))))))) q1269 = .inl (E.2.2.2.2.1, 8, .inr (.inr (.inr (.inr (va_up g1380 i1377 (some q1836)))))) := q_up
              have e1993 : (va_up f1912 q1269 (.inl (E.2.2.2.2.1, 8, .inr (.inr (.inr (.inr (va_up g1380 i1377 (some q1836)))))))) xo = .inr (0, [.ref q1, .ref q230, .ref q350, .ref q480, .ref q764, .ref q620, .null, .ref q1092, .ref q1269]) := (q_ne (q_tag e1926 e1956 (show (0 : Nat) ≠ 1000 by decide))).trans e1926
              have e1994 : (va_up f1912 q1269 (.inl (E.2.2.2.2.1, 8, .inr (.inr (.inr (.inr (va_up g1380 i1377 (some q1836)))))))) q1 = .inr (11, [.int (nI 1000000000), .ref o183, .ref o184, .ref q18, .ref q25, .ref q30, .int (nI 0), .ref o185, .int (nI 20), .int (nI 0), .ref o186, .ref q31, .ref q32]) := (q_ne (q_tag e1927 e1956 (show (11 : Nat) ≠ 1000 by decide))).trans e1927
              have e1995 : (va_up f1912 q1269 (.inl (E.2.2.2.2.1, 8, .inr (.inr (.inr (.inr (va_up g1380 i1377 (some q1836)))))))) q18 = .inr (6, [.ref q19, .ref q20, .ref q21, .ref q22, .ref q23, .int (nI 0), .int (nI 0), .ref q24]) := (q_ne (q_tag e1928 e1956 (show (6 : Nat) ≠ 1000 by decide))).trans e1928
              have e1996 : (va_up f1912 q1269 (.inl (E.2.2.2.2.1, 8, .inr (.inr (.inr (.inr (va_up g1380 i1377 (some q1836)))))))) q19 = .inl (E.2.1, 80, .inl g34) := (q_ne (ne_mem hqq1269 m1208)).trans e1929
              have e1997 : (va_up f1912 q1269 (.inl (E.2.2.2.2.1, 8, .inr (.inr (.inr (.inr (va_up g1380 i1377 (some q1836)))))))) q20 = .inl (E.1, 64, .inl g35) := (q_ne (ne_mem hqq1269 m1209)).trans e1930
              have e1998 : (va_up f1912 q1269 (.inl (E.2.2.2.2.1, 8, .inr (.inr (.inr (.inr (va_up g1380 i1377 (some q1836)))))))) q21 = .inl (E.2.1, 5, .inl g36) := (q_ne (ne_mem hqq1269 m1210)).trans e1931
              have e1999 : (va_up f1912 q1269 (.inl (E.2.2.2.2.1, 8, .inr (.inr (.inr (.inr (va_up g1380 i1377 (some q1836)))))))) q22 = .inl (E.2.1, 5, .inl g37) := (q_ne (ne_mem hqq1269 m1211)).trans e1932
              have e2000 : (va_up f1912 q1269 (.inl (E.2.2.2.2.1, 8, .inr (.inr (.inr (.inr (va_up g1380 i1377 (some q1836)))))))) q23 = .inl (E.2.1, 5, .inl g38) := (q_ne (ne_mem hqq1269 m1212)).trans e1933
              have e2001 : (va_up f1912 q1269 (.inl (E.2.2.2.2.1, 8, .inr (.inr (.inr (.inr (va_up g1380 i1377 (some q1836)))))))) q24 = .inl (E.1, 20, .inl g39) := (q_ne (ne_mem hqq1269 m1213)).trans e1934
              have e2002 : (va_up f1912 q1269 (.inl (E.2.2.2.2.1, 8, .inr (.inr (.inr (.inr (va_up g1380 i1377 (some q1836)))))))) q25 = .inr (1, [.ref o187, .ref q26, .ref q27, .int (nI 0), .ref q28, .ref q29, .ref o188]) := (q_ne (q_tag e1935 e1956 (show (1 : Nat) ≠ 1000 by decide))).trans e1935
              have e2003 : (va_up f1912 q1269 (.inl (E.2.2.2.2.1, 8, .inr (.inr (.inr (.inr (va_up g1380 i1377 (some q1836)))))))) q26 = .inl (E.2.1, 256, .inl g40) := (q_ne (ne_mem hqq1269 m1215)).trans e1936
              have e2004 : (va_up f1912 q1269 (.inl (E.2.2.2.2.1, 8, .inr (.inr (.inr (.inr (va_up g1380 i1377 (some q1836)))))))) q27 = .inl (E.2.1, 240, .inl g41) := (q_ne (ne_mem hqq1269 m1216)).trans e1937
              have e2005 : (va_up f1912 q1269 (.inl (E.2.2.2.2.1, 8, .inr (.inr (.inr (.inr (va_up g1380 i1377 (some q1836)))))))) q28 = .inl (E.2.1, 16, .inl g42) := (q_ne (ne_mem hqq1269 m1217)).trans e1938
              have e2006 : (va_up f1912 q1269 (.inl (E.2.2.2.2.1, 8, .inr (.inr (.inr (.inr (va_up g1380 i1377 (some q1836)))))))) q29 = .inl (E.2.1, 16, .inl g43) := (q_ne (ne_mem hqq1269 m1218)).trans e1939
              have e2007 : (va_up f1912 q1269 (.inl (E.2.2.2.2.1, 8, .inr (.inr (.inr (.inr (va_up g1380 i1377 (some q1836)))))))) q30 = .inl (E.1, 64, .inl g44) := (q_ne (ne_mem hqq1269 m1219)).trans e1940
              have e2008 : (va_up f1912 q1269 (.inl (E.2.2.2.2.1, 8, .inr (.inr (.inr (.inr (va_up g1380 i1377 (some q1836)))))))) q31 = .inl (E.1, 20, .inl g45) := (q_ne (ne_mem hqq1269 m1220)).trans e1941
              have e2009 : (va_up f1912 q1269 (.inl (E.2.2.2.2.1, 8, .inr (.inr (.inr (.inr (va_up g1380 i1377 (some q1836)))))))) q32 = .inr (3, [.ref q33, .int (nI 0)]) := (q_ne (q_tag e1942 e1956 (show (3 : Nat) ≠ 1000 by decide))).trans e1942
              have e2010 : (va_up f1912 q1269 (.inl (E.2.2.2.2.1, 8, .inr (.inr (.inr (.inr (va_up g1380 i1377 (some q1836)))))))) q33 = .inl (E.1, 64, .inl g46) := (q_ne (ne_mem hqq1269 m1222)).trans e1943
              have e2011 : (va_up f1912 q1269 (.inl (E.2.2.2.2.1, 8, .inr (.inr (.inr (.inr (va_up g1380 i1377 (some q1836)))))))) q230 = .inr (3, [.ref q281, .int (nI 0)]) := (q_ne (q_tag e1944 e1956 (show (3 : Nat) ≠ 1000 by decide))).trans e1944
              have e2012 : (va_up f1912 q1269 (.inl (E.2.2.2.2.1, 8, .inr (.inr (.inr (.inr (va_up g1380 i1377 (some q1836)))))))) q281 = .inl (E.1, 4000, .inl g282) := (q_ne (ne_mem hqq1269 m1224)).trans e1945
              have e2013 : (va_up f1912 q1269 (.inl (E.2.2.2.2.1, 8, .inr (.inr (.inr (.inr (va_up g1380 i1377 (some q1836)))))))) q350 = .inr (3, [.ref q405, .int (nI 0)]) := (q_ne (q_tag e1946 e1956 (show (3 : Nat) ≠ 1000 by decide))).trans e1946
              have e2014 : (va_up f1912 q1269 (.inl (E.2.2.2.2.1, 8, .inr (.inr (.inr (.inr (va_up g1380 i1377 (some q1836)))))))) q405 = .inl (E.1, 12288, .inl g406) := (q_ne (ne_mem hqq1269 m1226)).trans e1947
              have e2015 : (va_up f1912 q1269 (.inl (E.2.2.2.2.1, 8, .inr (.inr (.inr (.inr (va_up g1380 i1377 (some q1836)))))))) q480 = .inr (3, [.ref q539, .int (nI 0)]) := (q_ne (q_tag e1948 e1956 (show (3 : Nat) ≠ 1000 by decide))).trans e1948
              have e2016 : (va_up f1912 q1269 (.inl (E.2.2.2.2.1, 8, .inr (.inr (.inr (.inr (va_up g1380 i1377 (some q1836)))))))) q539 = .inl (E.1, 40, .inl g540) := (q_ne (ne_mem hqq1269 m1228)).trans e1949
              have e2017 : (va_up f1912 q1269 (.inl (E.2.2.2.2.1, 8, .inr (.inr (.inr (.inr (va_up g1380 i1377 (some q1836)))))))) q620 = .inr (5, [.ref q1, .ref o684, .ref o685, .ref (T.1 0), .int (nI 32)]) := (q_ne (q_tag e1950 e1956 (show (5 : Nat) ≠ 1000 by decide))).trans e1950
              have e2018 : (va_up f1912 q1269 (.inl (E.2.2.2.2.1, 8, .inr (.inr (.inr (.inr (va_up g1380 i1377 (some q1836)))))))) q764 = .inl (E.2.2.1, 12, .inr (.inr (.inr (.inr g1024)))) := (q_ne (ne_mem hqq1269 m1230)).trans e1951
              have e2019 : (va_up f1912 q1269 (.inl (E.2.2.2.2.1, 8, .inr (.inr (.inr (.inr (va_up g1380 i1377 (some q1836)))))))) q852 = .inr (7, [.ref q919, .ref o930, .int (nI 0), .int (nI 0), .int (nI 0), .ref (T.1 0), .ref (T.1 0), .ref (T.1 0), .ref (T.1 0), .int (nI 36000), .int (nI 72000), .int (nI 15), .int (nI 0)]) := (q_ne (q_tag e1952 e1956 (show (7 : Nat) ≠ 1000 by decide))).trans e1952
              have e2020 : (va_up f1912 q1269 (.inl (E.2.2.2.2.1, 8, .inr (.inr (.inr (.inr (va_up g1380 i1377 (some q1836)))))))) q919 = .inr (3, [.ref q920, .int (nI 0)]) := (q_ne (q_tag e1953 e1956 (show (3 : Nat) ≠ 1000 by decide))).trans e1953
              have e2021 : (va_up f1912 q1269 (.inl (E.2.2.2.2.1, 8, .inr (.inr (.inr (.inr (va_up g1380 i1377 (some q1836)))))))) q920 = .inl (E.1, 40, .inl g921) := (q_ne (ne_mem hqq1269 m1233)).trans e1954
              have e2022 : (va_up f1912 q1269 (.inl (E.2.2.2.2.1, 8, .inr (.inr (.inr (.inr (va_up g1380 i1377 (some q1836)))))))) q1092 = .inl (E.2.2.2.1, 4, .inr (.inr (.inr (.inr g1198)))) := (q_ne (ne_mem hqq1269 m1234)).trans e1955
              have e2023 : (va_up f1912 q1269 (.inl (E.2.2.2.2.1, 8, .inr (.inr (.inr (.inr (va_up g1380 i1377 (some q1836)))))))) q1836 = .inr (9, [.ref q1, .int (nI 0), .int v1917, .ref (T.1 0), .ref (T.1 0), .int (nI 0), .int (nI 0), .long 0, .ref o1919, .ref o1920, .ref o1921]) := (q_ne (q_tag e1918 e1956 (show (9 : Nat) ≠ 1000 by decide))).trans e1918
              have hF2024 : ∀ x, x ∈ L → x ≠ xo → (va_up f1912 q1269 (.inl (E.2.2.2.2.1, 8, .inr (.inr (.inr (.inr (va_up g1380 i1377 (some q1836)))))))) x = f x := fun x hx h0 => (q_ne (ne_mem nl1274 hx)).trans (hF1957 x hx h0)
              have wh2025 : wP 7 2 1 12 q852 (va_up f1912 q1269 (.inl (E.2.2.2.2.1, 8, .inr (.inr (.inr (.inr (va_up g1380 i1377 (some q1836)))))))) (L1913) g1024 := wP_keep wh1922 (fun _ h9 => h9) (fun x hx h0 ht => q_ne (q_tn ht e1956 (show (1000 : Nat) ≠ 7 by decide)))
              have wh2026 : wP 2 2 0 4 q1092 (va_up f1912 q1269 (.inl (E.2.2.2.2.1, 8, .inr (.inr (.inr (.inr (va_up g1380 i1377 (some q1836)))))))) (L1913) g1198 := wP_keep wh1923 (fun _ h9 => h9) (fun x hx h0 ht => q_ne (q_tn ht e1956 (show (1000 : Nat) ≠ 2 by decide)))
              have wh2027 : wP 9 1 0 (i1377 + 1) q1269 (va_up f1912 q1269 (.inl (E.2.2.2.2.1, 8, .inr (.inr (.inr (.inr (va_up g1380 i1377 (some q1836)))))))) (L1913) (va_up g1380 i1377 (some q1836)) := wP_push (wP_keep wh1924 ws1925 (fun x hx h0 ht => q_ne h0)) m1990 (q_tag e2023 e1992 (show (9 : Nat) ≠ 1000 by decide)) e2023 rfl
              have Y : pH D cCl (pA L sz) s.heap L1913 (va_up f1912 q1269 (.inl (E.2.2.2.2.1, 8, .inr (.inr (.inr (.inr (va_up g1380 i1377 (some q1836)))))))) H locs := Y
              generalize (va_up f1912 q1269 (.inl (E.2.2.2.2.1, 8, .inr (.inr (.inr (.inr (va_up g1380 i1377 (some q1836)))))))) = f1991 at Y e1992 e1993 e1994 e1995 e1996 e1997 e1998 e1999 e2000 e2001 e2002 e2003 e2004 e2005 e2006 e2007 e2008 e2009 e2010 e2011 e2012 e2013 e2014 e2015 e2016 e2017 e2018 e2019 e2020 e2021 e2022 e2023 hF2024 wh2025 wh2026 wh2027
              refine lv_iinc (v := (nI (i1377 + 1))) (lv' := [(1, .int (nI (i1377 + 1))), (0, .ref xo)]) X.1 X.2.1 d_H_init_179 hl (k := 0) rfl (nI_add _ 1) (by decide) rfl (fun ls hl => ?_)
              refine lv_goto (tgt := 156) X.1 X.2.1 d_H_init_182 (by decide) ?_
              refine W.cs (cells' := 327 + (i1377 + 1) * 4) (slots' := 51816 + (i1377 + 1) * 19) (by omega) (by omega) ?_
              exact ih1381  (i1377 + 1) L1913 f1991 (va_up g1380 i1377 (some q1836)) _ _ _ (by omega) (by omega) (by omega)  s1958 m1959 m1960 m1961 m1962 m1963 m1964 m1965 m1966 m1967 m1968 m1969 m1970 m1971 m1972 m1973 m1974 m1975 m1976 m1977 m1978 m1979 m1980 m1981 m1982 m1983 m1984 m1985 m1986 m1987 m1988 m1989 e1993 e1994 e1995 e1996 e1997 e1998 e1999 e2000 e2001 e2002 e2003 e2004 e2005 e2006 e2007 e2008 e2009 e2010 e2011 e2012 e2013 e2014 e2015 e2016 e2017 e2018 e2019 e2020 e2021 e2022 e1992 hF2024 wh2025 wh2026 wh2027 Y (lv_sub hl [0, 1] rfl)
          exact lp1375 (8) 0 L1270 f1340 (fun _ => none) _ _ _ (by omega) (by omega) (by omega)  s1272 m1310 m1311 m1312 m1313 m1314 m1315 m1316 m1317 m1318 m1319 m1320 m1321 m1322 m1323 m1324 m1325 m1326 m1327 m1328 m1329 m1330 m1331 m1332 m1333 m1334 m1335 m1336 m1337 m1338 m1339 m1273 e1341 e1342 e1343 e1344 e1345 e1346 e1347 e1348 e1349 e1350 e1351 e1352 e1353 e1354 e1355 e1356 e1357 e1358 e1359 e1360 e1361 e1362 e1363 e1364 e1365 e1366 e1367 e1368 e1369 e1370 e1371 hF1372 wh1373 wh1374 (fun j h1 h2 => absurd h2 (by omega)) Y (lv_sub hl [0, 1] rfl)
        | succ n1194 ih1199 =>
          intro i1195 L1196 f1197 g1198 H locs ls hm1200 hc1201 hc1202  s1203 m1205 m1206 m1207 m1208 m1209 m1210 m1211 m1212 m1213 m1214 m1215 m1216 m1217 m1218 m1219 m1220 m1221 m1222 m1223 m1224 m1225 m1226 m1227 m1228 m1229 m1230 m1231 m1232 m1233 m1234 e1235 e1236 e1237 e1238 e1239 e1240 e1241 e1242 e1243 e1244 e1245 e1246 e1247 e1248 e1249 e1250 e1251 e1252 e1253 e1254 e1255 e1256 e1257 e1258 e1259 e1260 e1261 e1262 e1263 e1264 hF1204 wh1266 wh1267 Y hl
          refine lv_iload_n X.1 X.2.1 d_H_init_117 rfl (lv_at hl 0 rfl) ?_
          refine lv_iconst (v := (nI 4)) X.1 X.2.1 d_H_init_118 (by decide) ?_
          refine lv_icmp_ge (tgt := 145) X.1 X.2.1 d_H_init_119 (by decide) (fun c2028 => absurd c2028 ?_) (fun c2028 => ?_)
          · (rw [nI_leI (by omega) (by omega)] <;> omega)
          rw [nI_leI (by omega) (by omega)] at c2028
          refine lv_aload_n X.1 X.2.1 d_H_init_122 rfl (lv_at hl 1 rfl) ?_
          refine q_get X.1 X.2.1 X.2.2.1 i_H X.2.2.2.1 X.2.2.2.2 Y m1205 e1235 rfl 7 (by decide) (X.2.2.1 _ lk_H_49) (fun _ h9 => h9) rfl d_H_init_123 ?_
          refine lv_iload_n X.1 X.2.1 d_H_init_126 rfl (lv_at hl 0 rfl) ?_
          refine q_new X.1 X.2.1 X.2.2.1 i_Ag t_Ag t_Ag_ok X.2.2.2.1 (X.2.2.1 _ ck_H_47) (X.2.2.1 _ mk_Ag) (X.2.2.1 _ ini_Ag) X.2.2.2.2 Y hA (ci := 2) rfl (fs := [.null, .null, .int (nI 0), .int (nI 0), .null, .null, .null, .int (nI 0), .int (nI 0), .int (nI 0), .int (nI 0), .int (nI 0), .null, .null, .null, .int (nI 0), .int (nI 0), .long 0, .null, .long 0, .int (nI 0)]) (fun j hj => match j, hj with | 0, _ => rfl | 1, _ => rfl | 2, _ => rfl | 3, _ => rfl | 4, _ => rfl | 5, _ => rfl | 6, _ => rfl | 7, _ => rfl | 8, _ => rfl | 9, _ => rfl | 10, _ => rfl | 11, _ => rfl | 12, _ => rfl | 13, _ => rfl | 14, _ => rfl | 15, _ => rfl | 16, _ => rfl | 17, _ => rfl | 18, _ => rfl | 19, _ => rfl | 20, _ => rfl | n9 + 21, h9 => absurd (show n9 + 21 < 21 from h9) (by omega)) (show 134 + i1195 * 48 + 1 ≤ 367 by omega) (show 49460 + i1195 * 587 + 21 ≤ (53413) by omega) d_H_init_127 (fun q2029 H hqq2029 Y => ?_)
          have Y : pH D cCl (pA L sz) s.heap (L1196 ++ [q2029]) (va_up f1197 q2029 (.inr (2, [.null, .null, .int (nI 0), .int (nI 0), .null, .null, .null, .int (nI 0), .int (nI 0), .int (nI 0), .int (nI 0), .int (nI 0), .null, .null, .null, .int (nI 0), .int (nI 0), .long 0, .null, .long 0, .int (nI 0)]))) H locs := Y
          have e2036 : (va_up f1197 q2029 (.inr (2, [.null, .null, .int (nI 0), .int (nI 0), .null, .null, .null, .int (nI 0), .int (nI 0), .int (nI 0), .int (nI 0), .int (nI 0), .null, .null, .null, .int (nI 0), .int (nI 0), .long 0, .null, .long 0, .int (nI 0)]))) q2029 = .inr (2, [.null, .null, .int (nI 0), .int (nI 0), .null, .null, .null, .int (nI 0), .int (nI 0), .int (nI 0), .int (nI 0), .int (nI 0), .null, .null, .null, .int (nI 0), .int (nI 0), .long 0, .null, .long 0, .int (nI 0)]) := q_up
          have e2037 : (va_up f1197 q2029 (.inr (2, [.null, .null, .int (nI 0), .int (nI 0), .null, .null, .null, .int (nI 0), .int (nI 0), .int (nI 0), .int (nI 0), .int (nI 0), .null, .null, .null, .int (nI 0), .int (nI 0), .long 0, .null, .long 0, .int (nI 0)]))) xo = .inr (0, [.ref q1, .ref q230, .ref q350, .ref q480, .ref q764, .ref q620, .null, .ref q1092, .null]) := (q_ne (ne_mem hqq2029 m1205)).trans e1235
          have e2038 : (va_up f1197 q2029 (.inr (2, [.null, .null, .int (nI 0), .int (nI 0), .null, .null, .null, .int (nI 0), .int (nI 0), .int (nI 0), .int (nI 0), .int (nI 0), .null, .null, .null, .int (nI 0), .int (nI 0), .long 0, .null, .long 0, .int (nI 0)]))) q1 = .inr (11, [.int (nI 1000000000), .ref o183, .ref o184, .ref q18, .ref q25, .ref q30, .int (nI 0), .ref o185, .int (nI 20), .int (nI 0), .ref o186, .ref q31, .ref q32]) := (q_ne (ne_mem hqq2029 m1206)).trans e1236
          have e2039 : (va_up f1197 q2029 (.inr (2, [.null, .null, .int (nI 0), .int (nI 0), .null, .null, .null, .int (nI 0), .int (nI 0), .int (nI 0), .int (nI 0), .int (nI 0), .null, .null, .null, .int (nI 0), .int (nI 0), .long 0, .null, .long 0, .int (nI 0)]))) q18 = .inr (6, [.ref q19, .ref q20, .ref q21, .ref q22, .ref q23, .int (nI 0), .int (nI 0), .ref q24]) := (q_ne (ne_mem hqq2029 m1207)).trans e1237
          have e2040 : (va_up f1197 q2029 (.inr (2, [.null, .null, .int (nI 0), .int (nI 0), .null, .null, .null, .int (nI 0), .int (nI 0), .int (nI 0), .int (nI 0), .int (nI 0), .null, .null, .null, .int (nI 0), .int (nI 0), .long 0, .null, .long 0, .int (nI 0)]))) q19 = .inl (E.2.1, 80, .inl g34) := (q_ne (ne_mem hqq2029 m1208)).trans e1238
          have e2041 : (va_up f1197 q2029 (.inr (2, [.null, .null, .int (nI 0), .int (nI 0), .null, .null, .null, .int (nI 0), .int (nI 0), .int (nI 0), .int (nI 0), .int (nI 0), .null, .null, .null, .int (nI 0), .int (nI 0), .long 0, .null, .long 0, .int (nI 0)]))) q20 = .inl (E.1, 64, .inl g35) := (q_ne (ne_mem hqq2029 m1209)).trans e1239
          have e2042 : (va_up f1197 q2029 (.inr (2, [.null, .null, .int (nI 0), .int (nI 0), .null, .null, .null, .int (nI 0), .int (nI 0), .int (nI 0), .int (nI 0), .int (nI 0), .null, .null, .null, .int (nI 0), .int (nI 0), .long 0, .null, .long 0, .int (nI 0)]))) q21 = .inl (E.2.1, 5, .inl g36) := (q_ne (ne_mem hqq2029 m1210)).trans e1240
          have e2043 : (va_up f1197 q2029 (.inr (2, [.null, .null, .int (nI 0), .int (nI 0), .null, .null, .null, .int (nI 0), .int (nI 0), .int (nI 0), .int (nI 0), .int (nI 0), .null, .null, .null, .int (nI 0), .int (nI 0), .long 0, .null, .long 0, .int (nI 0)]))) q22 = .inl (E.2.1, 5, .inl g37) := (q_ne (ne_mem hqq2029 m1211)).trans e1241
          have e2044 : (va_up f1197 q2029 (.inr (2, [.null, .null, .int (nI 0), .int (nI 0), .null, .null, .null, .int (nI 0), .int (nI 0), .int (nI 0), .int (nI 0), .int (nI 0), .null, .null, .null, .int (nI 0), .int (nI 0), .long 0, .null, .long 0, .int (nI 0)]))) q23 = .inl (E.2.1, 5, .inl g38) := (q_ne (ne_mem hqq2029 m1212)).trans e1242
          have e2045 : (va_up f1197 q2029 (.inr (2, [.null, .null, .int (nI 0), .int (nI 0), .null, .null, .null, .int (nI 0), .int (nI 0), .int (nI 0), .int (nI 0), .int (nI 0), .null, .null, .null, .int (nI 0), .int (nI 0), .long 0, .null, .long 0, .int (nI 0)]))) q24 = .inl (E.1, 20, .inl g39) := (q_ne (ne_mem hqq2029 m1213)).trans e1243
          have e2046 : (va_up f1197 q2029 (.inr (2, [.null, .null, .int (nI 0), .int (nI 0), .null, .null, .null, .int (nI 0), .int (nI 0), .int (nI 0), .int (nI 0), .int (nI 0), .null, .null, .null, .int (nI 0), .int (nI 0), .long 0, .null, .long 0, .int (nI 0)]))) q25 = .inr (1, [.ref o187, .ref q26, .ref q27, .int (nI 0), .ref q28, .ref q29, .ref o188]) := (q_ne (ne_mem hqq2029 m1214)).trans e1244
          have e2047 : (va_up f1197 q2029 (.inr (2, [.null, .null, .int (nI 0), .int (nI 0), .null, .null, .null, .int (nI 0), .int (nI 0), .int (nI 0), .int (nI 0), .int (nI 0), .null, .null, .null, .int (nI 0), .int (nI 0), .long 0, .null, .long 0, .int (nI 0)]))) q26 = .inl (E.2.1, 256, .inl g40) := (q_ne (ne_mem hqq2029 m1215)).trans e1245
          have e2048 : (va_up f1197 q2029 (.inr (2, [.null, .null, .int (nI 0), .int (nI 0), .null, .null, .null, .int (nI 0), .int (nI 0), .int (nI 0), .int (nI 0), .int (nI 0), .null, .null, .null, .int (nI 0), .int (nI 0), .long 0, .null, .long 0, .int (nI 0)]))) q27 = .inl (E.2.1, 240, .inl g41) := (q_ne (ne_mem hqq2029 m1216)).trans e1246
          have e2049 : (va_up f1197 q2029 (.inr (2, [.null, .null, .int (nI 0), .int (nI 0), .null, .null, .null, .int (nI 0), .int (nI 0), .int (nI 0), .int (nI 0), .int (nI 0), .null, .null, .null, .int (nI 0), .int (nI 0), .long 0, .null, .long 0, .int (nI 0)]))) q28 = .inl (E.2.1, 16, .inl g42) := (q_ne (ne_mem hqq2029 m1217)).trans e1247
          have e2050 : (va_up f1197 q2029 (.inr (2, [.null, .null, .int (nI 0), .int (nI 0), .null, .null, .null, .int (nI 0), .int (nI 0), .int (nI 0), .int (nI 0), .int (nI 0), .null, .null, .null, .int (nI 0), .int (nI 0), .long 0, .null, .long 0, .int (nI 0)]))) q29 = .inl (E.2.1, 16, .inl g43) := (q_ne (ne_mem hqq2029 m1218)).trans e1248
          have e2051 : (va_up f1197 q2029 (.inr (2, [.null, .null, .int (nI 0), .int (nI 0), .null, .null, .null, .int (nI 0), .int (nI 0), .int (nI 0), .int (nI 0), .int (nI 0), .null, .null, .null, .int (nI 0), .int (nI 0), .long 0, .null, .long 0, .int (nI 0)]))) q30 = .inl (E.1, 64, .inl g44) := (q_ne (ne_mem hqq2029 m1219)).trans e1249
          have e2052 : (va_up f1197 q2029 (.inr (2, [.null, .null, .int (nI 0), .int (nI 0), .null, .null, .null, .int (nI 0), .int (nI 0), .int (nI 0), .int (nI 0), .int (nI 0), .null, .null, .null, .int (nI 0), .int (nI 0), .long 0, .null, .long 0, .int (nI 0)]))) q31 = .inl (E.1, 20, .inl g45) := (q_ne (ne_mem hqq2029 m1220)).trans e1250
          have e2053 : (va_up f1197 q2029 (.inr (2, [.null, .null, .int (nI 0), .int (nI 0), .null, .null, .null, .int (nI 0), .int (nI 0), .int (nI 0), .int (nI 0), .int (nI 0), .null, .null, .null, .int (nI 0), .int (nI 0), .long 0, .null, .long 0, .int (nI 0)]))) q32 = .inr (3, [.ref q33, .int (nI 0)]) := (q_ne (ne_mem hqq2029 m1221)).trans e1251
          have e2054 : (va_up f1197 q2029 (.inr (2, [.null, .null, .int (nI 0), .int (nI 0), .null, .null, .null, .int (nI 0), .int (nI 0), .int (nI 0), .int (nI 0), .int (nI 0), .null, .null, .null, .int (nI 0), .int (nI 0), .long 0, .null, .long 0, .int (nI 0)]))) q33 = .inl (E.1, 64, .inl g46) := (q_ne (ne_mem hqq2029 m1222)).trans e1252
          have e2055 : (va_up f1197 q2029 (.inr (2, [.null, .null, .int (nI 0), .int (nI 0), .null, .null, .null, .int (nI 0), .int (nI 0), .int (nI 0), .int (nI 0), .int (nI 0), .null, .null, .null, .int (nI 0), .int (nI 0), .long 0, .null, .long 0, .int (nI 0)]))) q230 = .inr (3, [.ref q281, .int (nI 0)]) := (q_ne (ne_mem hqq2029 m1223)).trans e1253
          have e2056 : (va_up f1197 q2029 (.inr (2, [.null, .null, .int (nI 0), .int (nI 0), .null, .null, .null, .int (nI 0), .int (nI 0), .int (nI 0), .int (nI 0), .int (nI 0), .null, .null, .null, .int (nI 0), .int (nI 0), .long 0, .null, .long 0, .int (nI 0)]))) q281 = .inl (E.1, 4000, .inl g282) := (q_ne (ne_mem hqq2029 m1224)).trans e1254
          have e2057 : (va_up f1197 q2029 (.inr (2, [.null, .null, .int (nI 0), .int (nI 0), .null, .null, .null, .int (nI 0), .int (nI 0), .int (nI 0), .int (nI 0), .int (nI 0), .null, .null, .null, .int (nI 0), .int (nI 0), .long 0, .null, .long 0, .int (nI 0)]))) q350 = .inr (3, [.ref q405, .int (nI 0)]) := (q_ne (ne_mem hqq2029 m1225)).trans e1255
          have e2058 : (va_up f1197 q2029 (.inr (2, [.null, .null, .int (nI 0), .int (nI 0), .null, .null, .null, .int (nI 0), .int (nI 0), .int (nI 0), .int (nI 0), .int (nI 0), .null, .null, .null, .int (nI 0), .int (nI 0), .long 0, .null, .long 0, .int (nI 0)]))) q405 = .inl (E.1, 12288, .inl g406) := (q_ne (ne_mem hqq2029 m1226)).trans e1256
          have e2059 : (va_up f1197 q2029 (.inr (2, [.null, .null, .int (nI 0), .int (nI 0), .null, .null, .null, .int (nI 0), .int (nI 0), .int (nI 0), .int (nI 0), .int (nI 0), .null, .null, .null, .int (nI 0), .int (nI 0), .long 0, .null, .long 0, .int (nI 0)]))) q480 = .inr (3, [.ref q539, .int (nI 0)]) := (q_ne (ne_mem hqq2029 m1227)).trans e1257
          have e2060 : (va_up f1197 q2029 (.inr (2, [.null, .null, .int (nI 0), .int (nI 0), .null, .null, .null, .int (nI 0), .int (nI 0), .int (nI 0), .int (nI 0), .int (nI 0), .null, .null, .null, .int (nI 0), .int (nI 0), .long 0, .null, .long 0, .int (nI 0)]))) q539 = .inl (E.1, 40, .inl g540) := (q_ne (ne_mem hqq2029 m1228)).trans e1258
          have e2061 : (va_up f1197 q2029 (.inr (2, [.null, .null, .int (nI 0), .int (nI 0), .null, .null, .null, .int (nI 0), .int (nI 0), .int (nI 0), .int (nI 0), .int (nI 0), .null, .null, .null, .int (nI 0), .int (nI 0), .long 0, .null, .long 0, .int (nI 0)]))) q620 = .inr (5, [.ref q1, .ref o684, .ref o685, .ref (T.1 0), .int (nI 32)]) := (q_ne (ne_mem hqq2029 m1229)).trans e1259
          have e2062 : (va_up f1197 q2029 (.inr (2, [.null, .null, .int (nI 0), .int (nI 0), .null, .null, .null, .int (nI 0), .int (nI 0), .int (nI 0), .int (nI 0), .int (nI 0), .null, .null, .null, .int (nI 0), .int (nI 0), .long 0, .null, .long 0, .int (nI 0)]))) q764 = .inl (E.2.2.1, 12, .inr (.inr (.inr (.inr g1024)))) := (q_ne (ne_mem hqq2029 m1230)).trans e1260
          have e2063 : (va_up f1197 q2029 (.inr (2, [.null, .null, .int (nI 0), .int (nI 0), .null, .null, .null, .int (nI 0), .int (nI 0), .int (nI 0), .int (nI 0), .int (nI 0), .null, .null, .null, .int (nI 0), .int (nI 0), .long 0, .null, .long 0, .int (nI 0)]))) q852 = .inr (7, [.ref q919, .ref o930, .int (nI 0), .int (nI 0), .int (nI 0), .ref (T.1 0), .ref (T.1 0), .ref (T.1 0), .ref (T.1 0), .int (nI 36000), .int (nI 72000), .int (nI 15), .int (nI 0)]) := (q_ne (ne_mem hqq2029 m1231)).trans e1261
          have e2064 : (va_up f1197 q2029 (.inr (2, [.null, .null, .int (nI 0), .int (nI 0), .null, .null, .null, .int (nI 0), .int (nI 0), .int (nI 0), .int (nI 0), .int (nI 0), .null, .null, .null, .int (nI 0), .int (nI 0), .long 0, .null, .long 0, .int (nI 0)]))) q919 = .inr (3, [.ref q920, .int (nI 0)]) := (q_ne (ne_mem hqq2029 m1232)).trans e1262
          have e2065 : (va_up f1197 q2029 (.inr (2, [.null, .null, .int (nI 0), .int (nI 0), .null, .null, .null, .int (nI 0), .int (nI 0), .int (nI 0), .int (nI 0), .int (nI 0), .null, .null, .null, .int (nI 0), .int (nI 0), .long 0, .null, .long 0, .int (nI 0)]))) q920 = .inl (E.1, 40, .inl g921) := (q_ne (ne_mem hqq2029 m1233)).trans e1263
          have e2066 : (va_up f1197 q2029 (.inr (2, [.null, .null, .int (nI 0), .int (nI 0), .null, .null, .null, .int (nI 0), .int (nI 0), .int (nI 0), .int (nI 0), .int (nI 0), .null, .null, .null, .int (nI 0), .int (nI 0), .long 0, .null, .long 0, .int (nI 0)]))) q1092 = .inl (E.2.2.2.1, 4, .inr (.inr (.inr (.inr g1198)))) := (q_ne (ne_mem hqq2029 m1234)).trans e1264
          have nl2034 : q2029 ∉ L := fun h9 => hqq2029 (s1203 _ h9)
          have hF2067 : ∀ x, x ∈ L → x ≠ xo → (va_up f1197 q2029 (.inr (2, [.null, .null, .int (nI 0), .int (nI 0), .null, .null, .null, .int (nI 0), .int (nI 0), .int (nI 0), .int (nI 0), .int (nI 0), .null, .null, .null, .int (nI 0), .int (nI 0), .long 0, .null, .long 0, .int (nI 0)]))) x = f x := fun x hx h0 => (q_ne (ne_mem nl2034 hx)).trans (hF1204 x hx h0)
          have wh2068 : wP 7 2 1 12 q852 (va_up f1197 q2029 (.inr (2, [.null, .null, .int (nI 0), .int (nI 0), .null, .null, .null, .int (nI 0), .int (nI 0), .int (nI 0), .int (nI 0), .int (nI 0), .null, .null, .null, .int (nI 0), .int (nI 0), .long 0, .null, .long 0, .int (nI 0)]))) (L1196 ++ [q2029]) g1024 := wP_keep wh1266 (fun _ h9 => List.mem_append_left _ h9) (fun x hx h0 ht => q_ne (ne_mem hqq2029 hx))
          have wh2069 : wP 2 2 0 i1195 q1092 (va_up f1197 q2029 (.inr (2, [.null, .null, .int (nI 0), .int (nI 0), .null, .null, .null, .int (nI 0), .int (nI 0), .int (nI 0), .int (nI 0), .int (nI 0), .null, .null, .null, .int (nI 0), .int (nI 0), .long 0, .null, .long 0, .int (nI 0)]))) (L1196) g1198 := wP_keep wh1267 (fun _ h9 => h9) (fun x hx h0 ht => q_ne (ne_mem hqq2029 hx))
          have ws2070 : ∀ x, x ∈ L1196 → x ∈ L1196 ++ [q2029] := fun _ h9 => List.mem_append_left _ h9
          generalize (va_up f1197 q2029 (.inr (2, [.null, .null, .int (nI 0), .int (nI 0), .null, .null, .null, .int (nI 0), .int (nI 0), .int (nI 0), .int (nI 0), .int (nI 0), .null, .null, .null, .int (nI 0), .int (nI 0), .long 0, .null, .long 0, .int (nI 0)]))) = f2035 at Y e2036 e2037 e2038 e2039 e2040 e2041 e2042 e2043 e2044 e2045 e2046 e2047 e2048 e2049 e2050 e2051 e2052 e2053 e2054 e2055 e2056 e2057 e2058 e2059 e2060 e2061 e2062 e2063 e2064 e2065 e2066 hF2067 wh2068 wh2069
          have s2032 : ∀ x, x ∈ L → x ∈ L1196 ++ [q2029] := fun x hx => List.mem_append_left _ (s1203 x hx)
          have m2071 : xo ∈ L1196 ++ [q2029] := List.mem_append_left _ m1205
          have m2072 : q1 ∈ L1196 ++ [q2029] := List.mem_append_left _ m1206
          have m2073 : q18 ∈ L1196 ++ [q2029] := List.mem_append_left _ m1207
          have m2074 : q19 ∈ L1196 ++ [q2029] := List.mem_append_left _ m1208
          have m2075 : q20 ∈ L1196 ++ [q2029] := List.mem_append_left _ m1209
          have m2076 : q21 ∈ L1196 ++ [q2029] := List.mem_append_left _ m1210
          have m2077 : q22 ∈ L1196 ++ [q2029] := List.mem_append_left _ m1211
          have m2078 : q23 ∈ L1196 ++ [q2029] := List.mem_append_left _ m1212
          have m2079 : q24 ∈ L1196 ++ [q2029] := List.mem_append_left _ m1213
          have m2080 : q25 ∈ L1196 ++ [q2029] := List.mem_append_left _ m1214
          have m2081 : q26 ∈ L1196 ++ [q2029] := List.mem_append_left _ m1215
          have m2082 : q27 ∈ L1196 ++ [q2029] := List.mem_append_left _ m1216
          have m2083 : q28 ∈ L1196 ++ [q2029] := List.mem_append_left _ m1217
          have m2084 : q29 ∈ L1196 ++ [q2029] := List.mem_append_left _ m1218
          have m2085 : q30 ∈ L1196 ++ [q2029] := List.mem_append_left _ m1219
          have m2086 : q31 ∈ L1196 ++ [q2029] := List.mem_append_left _ m1220
          have m2087 : q32 ∈ L1196 ++ [q2029] := List.mem_append_left _ m1221
          have m2088 : q33 ∈ L1196 ++ [q2029] := List.mem_append_left _ m1222
          have m2089 : q230 ∈ L1196 ++ [q2029] := List.mem_append_left _ m1223
          have m2090 : q281 ∈ L1196 ++ [q2029] := List.mem_append_left _ m1224
          have m2091 : q350 ∈ L1196 ++ [q2029] := List.mem_append_left _ m1225
          have m2092 : q405 ∈ L1196 ++ [q2029] := List.mem_append_left _ m1226
          have m2093 : q480 ∈ L1196 ++ [q2029] := List.mem_append_left _ m1227
          have m2094 : q539 ∈ L1196 ++ [q2029] := List.mem_append_left _ m1228
          have m2095 : q620 ∈ L1196 ++ [q2029] := List.mem_append_left _ m1229
          have m2096 : q764 ∈ L1196 ++ [q2029] := List.mem_append_left _ m1230
          have m2097 : q852 ∈ L1196 ++ [q2029] := List.mem_append_left _ m1231
          have m2098 : q919 ∈ L1196 ++ [q2029] := List.mem_append_left _ m1232
          have m2099 : q920 ∈ L1196 ++ [q2029] := List.mem_append_left _ m1233
          have m2100 : q1092 ∈ L1196 ++ [q2029] := List.mem_append_left _ m1234
          have m2033 : q2029 ∈ L1196 ++ [q2029] := List.mem_append_right _ (List.mem_singleton.mpr rfl)
          generalize L1196 ++ [q2029] = L2030 at Y s2032 m2071 m2072 m2073 m2074 m2075 m2076 m2077 m2078 m2079 m2080 m2081 m2082 m2083 m2084 m2085 m2086 m2087 m2088 m2089 m2090 m2091 m2092 m2093 m2094 m2095 m2096 m2097 m2098 m2099 m2100 m2033 wh2068 ws2070
          refine lv_dup X.1 X.2.1 d_H_init_130 rfl ?_
          refine lv_aload_n X.1 X.2.1 d_H_init_131 rfl (lv_at hl 1 rfl) ?_
          refine q_get X.1 X.2.1 X.2.2.1 i_H X.2.2.2.1 X.2.2.2.2 Y m2071 e2037 rfl 0 (by decide) (X.2.2.1 _ lk_H_12) (fun _ h9 => h9) rfl d_H_init_132 ?_
          refine x_v (x_runI (As := [.ref q1]) (rest := [.ref q2029, .int (nI i1195), .ref q1092]) (n := 1) X hml hl.1 (c_Ag_init l D E T L2030 f2035 H.size q1 q2029 m2033 e2036) (ok_k X Y hA KS KR) kl_H_Ag_init ks_Ag_init ki_Ag_init ini_Ag rfl ⟨rfl, rfl⟩ hd_Ag_init.2 ⟨by decide, by decide⟩ rfl (Nat.le_of_ble_eq_true rfl) d_H_init_135 ⟨(show 134 + i1195 * 48 + 1 + 47 ≤ 367 by omega), (show 49460 + i1195 * 587 + 21 + (566) ≤ (53413) by omega)⟩) X Y hA (fun u H locs hp Y => ?_)
          obtain ⟨L2103, f2102⟩ := u
          obtain ⟨eL2105, hF2104, o2108, o2109, o2110, o2111, e2107⟩ := hp
          dsimp only at eL2105 hF2104 e2107 Y
          have wh2112 : wP 7 2 1 12 q852 f2102 (L2103) g1024 := wP_keep wh2068 (fun x9 h9 => eL2105 x9 h9) (fun x hx h0 ht => hF2104 x hx (q_tn ht e2036 (show (2 : Nat) ≠ 7 by decide)))
          have wh2113 : wP 2 2 0 i1195 q1092 f2102 (L1196) g1198 := wP_keep wh2069 (fun x9 h9 => h9) (fun x hx h0 ht => hF2104 x (ws2070 x hx) (ne_mem hqq2029 hx))
          have ws2114 : ∀ x, x ∈ L1196 → x ∈ L2103 := fun x hx => eL2105 x (ws2070 x hx)
          have e2115 : f2102 xo = .inr (0, [.ref q1, .ref q230, .ref q350, .ref q480, .ref q764, .ref q620, .null, .ref q1092, .null]) := (hF2104 xo m2071 (q_tag e2037 e2036 (show (0 : Nat) ≠ 2 by decide))).trans e2037
          have e2116 : f2102 q1 = .inr (11, [.int (nI 1000000000), .ref o183, .ref o184, .ref q18, .ref q25, .ref q30, .int (nI 0), .ref o185, .int (nI 20), .int (nI 0), .ref o186, .ref q31, .ref q32]) := (hF2104 q1 m2072 (q_tag e2038 e2036 (show (11 : Nat) ≠ 2 by decide))).trans e2038
          have e2117 : f2102 q18 = .inr (6, [.ref q19, .ref q20, .ref q21, .ref q22, .ref q23, .int (nI 0), .int (nI 0), .ref q24]) := (hF2104 q18 m2073 (q_tag e2039 e2036 (show (6 : Nat) ≠ 2 by decide))).trans e2039
          have e2118 : f2102 q19 = .inl (E.2.1, 80, .inl g34) := (hF2104 q19 m2074 (q_tag e2040 e2036 (show (1000 : Nat) ≠ 2 by decide))).trans e2040
          have e2119 : f2102 q20 = .inl (E.1, 64, .inl g35) := (hF2104 q20 m2075 (q_tag e2041 e2036 (show (1000 : Nat) ≠ 2 by decide))).trans e2041
          have e2120 : f2102 q21 = .inl (E.2.1, 5, .inl g36) := (hF2104 q21 m2076 (q_tag e2042 e2036 (show (1000 : Nat) ≠ 2 by decide))).trans e2042
          have e2121 : f2102 q22 = .inl (E.2.1, 5, .inl g37) := (hF2104 q22 m2077 (q_tag e2043 e2036 (show (1000 : Nat) ≠ 2 by decide))).trans e2043
          have e2122 : f2102 q23 = .inl (E.2.1, 5, .inl g38) := (hF2104 q23 m2078 (q_tag e2044 e2036 (show (1000 : Nat) ≠ 2 by decide))).trans e2044
          have e2123 : f2102 q24 = .inl (E.1, 20, .inl g39) := (hF2104 q24 m2079 (q_tag e2045 e2036 (show (1000 : Nat) ≠ 2 by decide))).trans e2045
          have e2124 : f2102 q25 = .inr (1, [.ref o187, .ref q26, .ref q27, .int (nI 0), .ref q28, .ref q29, .ref o188]) := (hF2104 q25 m2080 (q_tag e2046 e2036 (show (1 : Nat) ≠ 2 by decide))).trans e2046
          have e2125 : f2102 q26 = .inl (E.2.1, 256, .inl g40) := (hF2104 q26 m2081 (q_tag e2047 e2036 (show (1000 : Nat) ≠ 2 by decide))).trans e2047
          have e2126 : f2102 q27 = .inl (E.2.1, 240, .inl g41) := (hF2104 q27 m2082 (q_tag e2048 e2036 (show (1000 : Nat) ≠ 2 by decide))).trans e2048
          have e2127 : f2102 q28 = .inl (E.2.1, 16, .inl g42) := (hF2104 q28 m2083 (q_tag e2049 e2036 (show (1000 : Nat) ≠ 2 by decide))).trans e2049
          have e2128 : f2102 q29 = .inl (E.2.1, 16, .inl g43) := (hF2104 q29 m2084 (q_tag e2050 e2036 (show (1000 : Nat) ≠ 2 by decide))).trans e2050
          have e2129 : f2102 q30 = .inl (E.1, 64, .inl g44) := (hF2104 q30 m2085 (q_tag e2051 e2036 (show (1000 : Nat) ≠ 2 by decide))).trans e2051
          have e2130 : f2102 q31 = .inl (E.1, 20, .inl g45) := (hF2104 q31 m2086 (q_tag e2052 e2036 (show (1000 : Nat) ≠ 2 by decide))).trans e2052
          have e2131 : f2102 q32 = .inr (3, [.ref q33, .int (nI 0)]) := (hF2104 q32 m2087 (q_tag e2053 e2036 (show (3 : Nat) ≠ 2 by decide))).trans e2053
          have e2132 : f2102 q33 = .inl (E.1, 64, .inl g46) := (hF2104 q33 m2088 (q_tag e2054 e2036 (show (1000 : Nat) ≠ 2 by decide))).trans e2054
          have e2133 : f2102 q230 = .inr (3, [.ref q281, .int (nI 0)]) := (hF2104 q230 m2089 (q_tag e2055 e2036 (show (3 : Nat) ≠ 2 by decide))).trans e2055
          have e2134 : f2102 q281 = .inl (E.1, 4000, .inl g282) := (hF2104 q281 m2090 (q_tag e2056 e2036 (show (1000 : Nat) ≠ 2 by decide))).trans e2056
          have e2135 : f2102 q350 = .inr (3, [.ref q405, .int (nI 0)]) := (hF2104 q350 m2091 (q_tag e2057 e2036 (show (3 : Nat) ≠ 2 by decide))).trans e2057
          have e2136 : f2102 q405 = .inl (E.1, 12288, .inl g406) := (hF2104 q405 m2092 (q_tag e2058 e2036 (show (1000 : Nat) ≠ 2 by decide))).trans e2058
          have e2137 : f2102 q480 = .inr (3, [.ref q539, .int (nI 0)]) := (hF2104 q480 m2093 (q_tag e2059 e2036 (show (3 : Nat) ≠ 2 by decide))).trans e2059
          have e2138 : f2102 q539 = .inl (E.1, 40, .inl g540) := (hF2104 q539 m2094 (q_tag e2060 e2036 (show (1000 : Nat) ≠ 2 by decide))).trans e2060
          have e2139 : f2102 q620 = .inr (5, [.ref q1, .ref o684, .ref o685, .ref (T.1 0), .int (nI 32)]) := (hF2104 q620 m2095 (q_tag e2061 e2036 (show (5 : Nat) ≠ 2 by decide))).trans e2061
          have e2140 : f2102 q764 = .inl (E.2.2.1, 12, .inr (.inr (.inr (.inr g1024)))) := (hF2104 q764 m2096 (q_tag e2062 e2036 (show (1000 : Nat) ≠ 2 by decide))).trans e2062
          have e2141 : f2102 q852 = .inr (7, [.ref q919, .ref o930, .int (nI 0), .int (nI 0), .int (nI 0), .ref (T.1 0), .ref (T.1 0), .ref (T.1 0), .ref (T.1 0), .int (nI 36000), .int (nI 72000), .int (nI 15), .int (nI 0)]) := (hF2104 q852 m2097 (q_tag e2063 e2036 (show (7 : Nat) ≠ 2 by decide))).trans e2063
          have e2142 : f2102 q919 = .inr (3, [.ref q920, .int (nI 0)]) := (hF2104 q919 m2098 (q_tag e2064 e2036 (show (3 : Nat) ≠ 2 by decide))).trans e2064
          have e2143 : f2102 q920 = .inl (E.1, 40, .inl g921) := (hF2104 q920 m2099 (q_tag e2065 e2036 (show (1000 : Nat) ≠ 2 by decide))).trans e2065
          have e2144 : f2102 q1092 = .inl (E.2.2.2.1, 4, .inr (.inr (.inr (.inr g1198)))) := (hF2104 q1092 m2100 (q_tag e2066 e2036 (show (1000 : Nat) ≠ 2 by decide))).trans e2066
          have hF2145 : ∀ x, x ∈ L → x ≠ xo → f2102 x = f x := fun x hx h0 => (hF2104 x (s2032 x hx) (ne_mem nl2034 hx)).trans (hF2067 x hx h0)
          have s2146 : ∀ x, x ∈ L → x ∈ L2103 := fun x hx => eL2105 x (s2032 x hx)
          have m2147 : xo ∈ L2103 := eL2105 _ m2071
          have m2148 : q1 ∈ L2103 := eL2105 _ m2072
          have m2149 : q18 ∈ L2103 := eL2105 _ m2073
          have m2150 : q19 ∈ L2103 := eL2105 _ m2074
          have m2151 : q20 ∈ L2103 := eL2105 _ m2075
          have m2152 : q21 ∈ L2103 := eL2105 _ m2076
          have m2153 : q22 ∈ L2103 := eL2105 _ m2077
          have m2154 : q23 ∈ L2103 := eL2105 _ m2078
          have m2155 : q24 ∈ L2103 := eL2105 _ m2079
          have m2156 : q25 ∈ L2103 := eL2105 _ m2080
          have m2157 : q26 ∈ L2103 := eL2105 _ m2081
          have m2158 : q27 ∈ L2103 := eL2105 _ m2082
          have m2159 : q28 ∈ L2103 := eL2105 _ m2083
          have m2160 : q29 ∈ L2103 := eL2105 _ m2084
          have m2161 : q30 ∈ L2103 := eL2105 _ m2085
          have m2162 : q31 ∈ L2103 := eL2105 _ m2086
          have m2163 : q32 ∈ L2103 := eL2105 _ m2087
          have m2164 : q33 ∈ L2103 := eL2105 _ m2088
          have m2165 : q230 ∈ L2103 := eL2105 _ m2089
          have m2166 : q281 ∈ L2103 := eL2105 _ m2090
          have m2167 : q350 ∈ L2103 := eL2105 _ m2091
          have m2168 : q405 ∈ L2103 := eL2105 _ m2092
          have m2169 : q480 ∈ L2103 := eL2105 _ m2093
          have m2170 : q539 ∈ L2103 := eL2105 _ m2094
          have m2171 : q620 ∈ L2103 := eL2105 _ m2095
          have m2172 : q764 ∈ L2103 := eL2105 _ m2096
          have m2173 : q852 ∈ L2103 := eL2105 _ m2097
          have m2174 : q919 ∈ L2103 := eL2105 _ m2098
          have m2175 : q920 ∈ L2103 := eL2105 _ m2099
          have m2176 : q1092 ∈ L2103 := eL2105 _ m2100
          have m2177 : q2029 ∈ L2103 := eL2105 _ m2033
          refine q_aast X.1 X.2.1 X.2.2.2.2 Y 3 2 (r := (R_Ag, F_Ag, 21)) m2176 e2144 rfl m2177 e2107 rfl (vp_in_nI (by omega) (by omega)) d_H_init_138 (fun H locs Y => ?_)
          rw [nI_clamp (show i1195 < 2 ^ 31 by omega)] at Y
          have e2179 : (va_up f2102 q1092 (.inl (E.2.2.2.1, 4, .inr (.inr (.inr (.inr (va_up g1198 i1195 (some q2029)))))))) q1092 = .inl (E.2.2.2.1, 4, .inr (.inr (.inr (.inr (va_up g1198 i1195 (some q2029)))))) := q_up
          have e2180 : (va_up f2102 q1092 (.inl (E.2.2.2.1, 4, .inr (.inr (.inr (.inr (va_up g1198 i1195 (some q2029)))))))) xo = .inr (0, [.ref q1, .ref q230, .ref q350, .ref q480, .ref q764, .ref q620, .null, .ref q1092, .null]) := (q_ne (q_tag e2115 e2144 (show (0 : Nat) ≠ 1000 by decide))).trans e2115
          have e2181 : (va_up f2102 q1092 (.inl (E.2.2.2.1, 4, .inr (.inr (.inr (.inr (va_up g1198 i1195 (some q2029)))))))) q1 = .inr (11, [.int (nI 1000000000), .ref o183, .ref o184, .ref q18, .ref q25, .ref q30, .int (nI 0), .ref o185, .int (nI 20), .int (nI 0), .ref o186, .ref q31, .ref q32]) := (q_ne (q_tag e2116 e2144 (show (11 : Nat) ≠ 1000 by decide))).trans e2116
          have e2182 : (va_up f2102 q1092 (.inl (E.2.2.2.1, 4, .inr (.inr (.inr (.inr (va_up g1198 i1195 (some q2029)))))))) q18 = .inr (6, [.ref q19, .ref q20, .ref q21, .ref q22, .ref q23, .int (nI 0), .int (nI 0), .ref q24]) := (q_ne (q_tag e2117 e2144 (show (6 : Nat) ≠ 1000 by decide))).trans e2117
          have e2183 : (va_up f2102 q1092 (.inl (E.2.2.2.1, 4, .inr (.inr (.inr (.inr (va_up g1198 i1195 (some q2029)))))))) q19 = .inl (E.2.1, 80, .inl g34) := (q_ne (ne_mem hqq1092 m1034)).trans e2118
          have e2184 : (va_up f2102 q1092 (.inl (E.2.2.2.1, 4, .inr (.inr (.inr (.inr (va_up g1198 i1195 (some q2029)))))))) q20 = .inl (E.1, 64, .inl g35) := (q_ne (ne_mem hqq1092 m1035)).trans e2119
          have e2185 : (va_up f2102 q1092 (.inl (E.2.2.2.1, 4, .inr (.inr (.inr (.inr (va_up g1198 i1195 (some q2029)))))))) q21 = .inl (E.2.1, 5, .inl g36) := (q_ne (ne_mem hqq1092 m1036)).trans e2120
          have e2186 : (va_up f2102 q1092 (.inl (E.2.2.2.1, 4, .inr (.inr (.inr (.inr (va_up g1198 i1195 (some q2029)))))))) q22 = .inl (E.2.1, 5, .inl g37) := (q_ne (ne_mem hqq1092 m1037)).trans e2121
          have e2187 : (va_up f2102 q1092 (.inl (E.2.2.2.1, 4, .inr (.inr (.inr (.inr (va_up g1198 i1195 (some q2029)))))))) q23 = .inl (E.2.1, 5, .inl g38) := (q_ne (ne_mem hqq1092 m1038)).trans e2122
          have e2188 : (va_up f2102 q1092 (.inl (E.2.2.2.1, 4, .inr (.inr (.inr (.inr (va_up g1198 i1195 (some q2029)))))))) q24 = .inl (E.1, 20, .inl g39) := (q_ne (ne_mem hqq1092 m1039)).trans e2123
          have e2189 : (va_up f2102 q1092 (.inl (E.2.2.2.1, 4, .inr (.inr (.inr (.inr (va_up g1198 i1195 (some q2029)))))))) q25 = .inr (1, [.ref o187, .ref q26, .ref q27, .int (nI 0), .ref q28, .ref q29, .ref o188]) := (q_ne (q_tag e2124 e2144 (show (1 : Nat) ≠ 1000 by decide))).trans e2124
          have e2190 : (va_up f2102 q1092 (.inl (E.2.2.2.1, 4, .inr (.inr (.inr (.inr (va_up g1198 i1195 (some q2029)))))))) q26 = .inl (E.2.1, 256, .inl g40) := (q_ne (ne_mem hqq1092 m1041)).trans e2125
          have e2191 : (va_up f2102 q1092 (.inl (E.2.2.2.1, 4, .inr (.inr (.inr (.inr (va_up g1198 i1195 (some q2029)))))))) q27 = .inl (E.2.1, 240, .inl g41) := (q_ne (ne_mem hqq1092 m1042)).trans e2126
          have e2192 : (va_up f2102 q1092 (.inl (E.2.2.2.1, 4, .inr (.inr (.inr (.inr (va_up g1198 i1195 (some q2029)))))))) q28 = .inl (E.2.1, 16, .inl g42) := (q_ne (ne_mem hqq1092 m1043)).trans e2127
          have e2193 : (va_up f2102 q1092 (.inl (E.2.2.2.1, 4, .inr (.inr (.inr (.inr (va_up g1198 i1195 (some q2029)))))))) q29 = .inl (E.2.1, 16, .inl g43) := (q_ne (ne_mem hqq1092 m1044)).trans e2128
          have e2194 : (va_up f2102 q1092 (.inl (E.2.2.2.1, 4, .inr (.inr (.inr (.inr (va_up g1198 i1195 (some q2029)))))))) q30 = .inl (E.1, 64, .inl g44) := (q_ne (ne_mem hqq1092 m1045)).trans e2129
          have e2195 : (va_up f2102 q1092 (.inl (E.2.2.2.1, 4, .inr (.inr (.inr (.inr (va_up g1198 i1195 (some q2029)))))))) q31 = .inl (E.1, 20, .inl g45) := (q_ne (ne_mem hqq1092 m1046)).trans e2130
          have e2196 : (va_up f2102 q1092 (.inl (E.2.2.2.1, 4, .inr (.inr (.inr (.inr (va_up g1198 i1195 (some q2029)))))))) q32 = .inr (3, [.ref q33, .int (nI 0)]) := (q_ne (q_tag e2131 e2144 (show (3 : Nat) ≠ 1000 by decide))).trans e2131
          have e2197 : (va_up f2102 q1092 (.inl (E.2.2.2.1, 4, .inr (.inr (.inr (.inr (va_up g1198 i1195 (some q2029)))))))) q33 = .inl (E.1, 64, .inl g46) := (q_ne (ne_mem hqq1092 m1048)).trans e2132
          have e2198 : (va_up f2102 q1092 (.inl (E.2.2.2.1, 4, .inr (.inr (.inr (.inr (va_up g1198 i1195 (some q2029)))))))) q230 = .inr (3, [.ref q281, .int (nI 0)]) := (q_ne (q_tag e2133 e2144 (show (3 : Nat) ≠ 1000 by decide))).trans e2133
          have e2199 : (va_up f2102 q1092 (.inl (E.2.2.2.1, 4, .inr (.inr (.inr (.inr (va_up g1198 i1195 (some q2029)))))))) q281 = .inl (E.1, 4000, .inl g282) := (q_ne (ne_mem hqq1092 m1050)).trans e2134
          have e2200 : (va_up f2102 q1092 (.inl (E.2.2.2.1, 4, .inr (.inr (.inr (.inr (va_up g1198 i1195 (some q2029)))))))) q350 = .inr (3, [.ref q405, .int (nI 0)]) := (q_ne (q_tag e2135 e2144 (show (3 : Nat) ≠ 1000 by decide))).trans e2135
          have e2201 : (va_up f2102 q1092 (.inl (E.2.2.2.1, 4, .inr (.inr (.inr (.inr (va_up g1198 i1195 (some q2029)))))))) q405 = .inl (E.1, 12288, .inl g406) := (q_ne (ne_mem hqq1092 m1052)).trans e2136
          have e2202 : (va_up f2102 q1092 (.inl (E.2.2.2.1, 4, .inr (.inr (.inr (.inr (va_up g1198 i1195 (some q2029)))))))) q480 = .inr (3, [.ref q539, .int (nI 0)]) := (q_ne (q_tag e2137 e2144 (show (3 : Nat) ≠ 1000 by decide))).trans e2137
          have e2203 : (va_up f2102 q1092 (.inl (E.2.2.2.1, 4, .inr (.inr (.inr (.inr (va_up g1198 i1195 (some q2029)))))))) q539 = .inl (E.1, 40, .inl g540) := (q_ne (ne_mem hqq1092 m1054)).trans e2138
          have e2204 : (va_up f2102 q1092 (.inl (E.2.2.2.1, 4, .inr (.inr (.inr (.inr (va_up g1198 i1195 (some q2029)))))))) q620 = .inr (5, [.ref q1, .ref o684, .ref o685, .ref (T.1 0), .int (nI 32)]) := (q_ne (q_tag e2139 e2144 (show (5 : Nat) ≠ 1000 by decide))).trans e2139
          have e2205 : (va_up f2102 q1092 (.inl (E.2.2.2.1, 4, .inr (.inr (.inr (.inr (va_up g1198 i1195 (some q2029)))))))) q764 = .inl (E.2.2.1, 12, .inr (.inr (.inr (.inr g1024)))) := (q_ne (ne_mem hqq1092 m1056)).trans e2140
          have e2206 : (va_up f2102 q1092 (.inl (E.2.2.2.1, 4, .inr (.inr (.inr (.inr (va_up g1198 i1195 (some q2029)))))))) q852 = .inr (7, [.ref q919, .ref o930, .int (nI 0), .int (nI 0), .int (nI 0), .ref (T.1 0), .ref (T.1 0), .ref (T.1 0), .ref (T.1 0), .int (nI 36000), .int (nI 72000), .int (nI 15), .int (nI 0)]) := (q_ne (q_tag e2141 e2144 (show (7 : Nat) ≠ 1000 by decide))).trans e2141
          have e2207 : (va_up f2102 q1092 (.inl (E.2.2.2.1, 4, .inr (.inr (.inr (.inr (va_up g1198 i1195 (some q2029)))))))) q919 = .inr (3, [.ref q920, .int (nI 0)]) := (q_ne (q_tag e2142 e2144 (show (3 : Nat) ≠ 1000 by decide))).trans e2142
          have e2208 : (va_up f2102 q1092 (.inl (E.2.2.2.1, 4, .inr (.inr (.inr (.inr (va_up g1198 i1195 (some q2029)))))))) q920 = .inl (E.1, 40, .inl g921) := (q_ne (ne_mem hqq1092 m1059)).trans e2143
          have e2209 : (va_up f2102 q1092 (.inl (E.2.2.2.1, 4, .inr (.inr (.inr (.inr (va_up g1198 i1195 (some q2029)))))))) q2029 = .inr (2, [.ref q1, .ref o2108, .int (nI 0), .int (nI 0), .ref o2109, .ref (T.1 0), .ref (T.1 0), .int (nI 0), .int (nI 0), .int (nI 0), .int (nI 0), .int (nI 0), .ref o2110, .ref o2111, .ref (T.1 0), .int (nI 0), .int (nI 0), .long 0, .ref (T.1 0), .long 0, .int (nI 0)]) := (q_ne (q_tag e2107 e2144 (show (2 : Nat) ≠ 1000 by decide))).trans e2107
          have hF2210 : ∀ x, x ∈ L → x ≠ xo → (va_up f2102 q1092 (.inl (E.2.2.2.1, 4, .inr (.inr (.inr (.inr (va_up g1198 i1195 (some q2029)))))))) x = f x := fun x hx h0 => (q_ne (ne_mem nl1097 hx)).trans (hF2145 x hx h0)
          have wh2211 : wP 7 2 1 12 q852 (va_up f2102 q1092 (.inl (E.2.2.2.1, 4, .inr (.inr (.inr (.inr (va_up g1198 i1195 (some q2029)))))))) (L2103) g1024 := wP_keep wh2112 (fun _ h9 => h9) (fun x hx h0 ht => q_ne (q_tn ht e2144 (show (1000 : Nat) ≠ 7 by decide)))
          have wh2212 : wP 2 2 0 (i1195 + 1) q1092 (va_up f2102 q1092 (.inl (E.2.2.2.1, 4, .inr (.inr (.inr (.inr (va_up g1198 i1195 (some q2029)))))))) (L2103) (va_up g1198 i1195 (some q2029)) := wP_push (wP_keep wh2113 ws2114 (fun x hx h0 ht => q_ne h0)) m2177 (q_tag e2209 e2179 (show (2 : Nat) ≠ 1000 by decide)) e2209 rfl
          have Y : pH D cCl (pA L sz) s.heap L2103 (va_up f2102 q1092 (.inl (E.2.2.2.1, 4, .inr (.inr (.inr (.inr (va_up g1198 i1195 (some q2029)))))))) H locs := Y
          generalize (va_up f2102 q1092 (.inl (E.2.2.2.1, 4, .inr (.inr (.inr (.inr (va_up g1198 i1195 (some q2029)))))))) = f2178 at Y e2179 e2180 e2181 e2182 e2183 e2184 e2185 e2186 e2187 e2188 e2189 e2190 e2191 e2192 e2193 e2194 e2195 e2196 e2197 e2198 e2199 e2200 e2201 e2202 e2203 e2204 e2205 e2206 e2207 e2208 e2209 hF2210 wh2211 wh2212
          refine lv_iinc (v := (nI (i1195 + 1))) (lv' := [(1, .int (nI (i1195 + 1))), (0, .ref xo)]) X.1 X.2.1 d_H_init_139 hl (k := 0) rfl (nI_add _ 1) (by decide) rfl (fun ls hl => ?_)
          refine lv_goto (tgt := 117) X.1 X.2.1 d_H_init_142 (by decide) ?_
          refine W.cs (cells' := 134 + (i1195 + 1) * 48) (slots' := 49460 + (i1195 + 1) * 587) (by omega) (by omega) ?_
          exact ih1199  (i1195 + 1) L2103 f2178 (va_up g1198 i1195 (some q2029)) _ _ _ (by omega) (by omega) (by omega)  s2146 m2147 m2148 m2149 m2150 m2151 m2152 m2153 m2154 m2155 m2156 m2157 m2158 m2159 m2160 m2161 m2162 m2163 m2164 m2165 m2166 m2167 m2168 m2169 m2170 m2171 m2172 m2173 m2174 m2175 m2176 e2180 e2181 e2182 e2183 e2184 e2185 e2186 e2187 e2188 e2189 e2190 e2191 e2192 e2193 e2194 e2195 e2196 e2197 e2198 e2199 e2200 e2201 e2202 e2203 e2204 e2205 e2206 e2207 e2208 e2179 hF2210 wh2211 wh2212 Y (lv_sub hl [0, 1] rfl)
      exact lp1193 (4) 0 L1093 f1160 (fun _ => none) _ _ _ (by omega) (by omega) (by omega)  s1095 m1131 m1132 m1133 m1134 m1135 m1136 m1137 m1138 m1139 m1140 m1141 m1142 m1143 m1144 m1145 m1146 m1147 m1148 m1149 m1150 m1151 m1152 m1153 m1154 m1155 m1156 m1157 m1158 m1159 m1096 e1161 e1162 e1163 e1164 e1165 e1166 e1167 e1168 e1169 e1170 e1171 e1172 e1173 e1174 e1175 e1176 e1177 e1178 e1179 e1180 e1181 e1182 e1183 e1184 e1185 e1186 e1187 e1188 e1189 e1190 hF1191 wh1192 (fun j h1 h2 => absurd h2 (by omega)) Y (lv_sub hl [0, 1] rfl)
    | succ n1020 ih1025 =>
      intro i1021 L1022 f1023 g1024 H locs ls hm1026 hc1027 hc1028 hz1089 s1029 m1031 m1032 m1033 m1034 m1035 m1036 m1037 m1038 m1039 m1040 m1041 m1042 m1043 m1044 m1045 m1046 m1047 m1048 m1049 m1050 m1051 m1052 m1053 m1054 m1055 m1056 m1057 m1058 m1059 e1060 e1061 e1062 e1063 e1064 e1065 e1066 e1067 e1068 e1069 e1070 e1071 e1072 e1073 e1074 e1075 e1076 e1077 e1078 e1079 e1080 e1081 e1082 e1083 e1084 e1085 e1086 e1087 e1088 hF1030 wh1090 Y hl
      refine lv_iload_n X.1 X.2.1 d_H_init_82 rfl (lv_at hl 0 rfl) ?_
      refine lv_bipush (v := (nI 12)) X.1 X.2.1 d_H_init_83 (by decide) ?_
      refine lv_icmp_ge (tgt := 107) X.1 X.2.1 d_H_init_85 (by decide) (fun c2213 => absurd c2213 ?_) (fun c2213 => ?_)
      · (rw [nI_leI (by omega) (by omega)] <;> omega)
      rw [nI_leI (by omega) (by omega)] at c2213
      refine lv_aload_n X.1 X.2.1 d_H_init_88 rfl (lv_at hl 1 rfl) ?_
      refine q_get X.1 X.2.1 X.2.2.1 i_H X.2.2.2.1 X.2.2.2.2 Y m1031 e1060 rfl 4 (by decide) (X.2.2.1 _ lk_H_42) (fun _ h9 => h9) rfl d_H_init_89 ?_
      refine lv_iload_n X.1 X.2.1 d_H_init_92 rfl (lv_at hl 0 rfl) ?_
      refine q_new X.1 X.2.1 X.2.2.1 i_Pr t_Pr t_Pr_ok X.2.2.2.1 (X.2.2.1 _ ck_H_40) (X.2.2.1 _ mk_Pr) (X.2.2.1 _ ini_Pr) X.2.2.2.2 Y hA (ci := 7) rfl (fs := [.null, .null, .int (nI 0), .int (nI 0), .int (nI 0), .null, .null, .null, .null, .int (nI 0), .int (nI 0), .int (nI 0), .int (nI 0)]) (fun j hj => match j, hj with | 0, _ => rfl | 1, _ => rfl | 2, _ => rfl | 3, _ => rfl | 4, _ => rfl | 5, _ => rfl | 6, _ => rfl | 7, _ => rfl | 8, _ => rfl | 9, _ => rfl | 10, _ => rfl | 11, _ => rfl | 12, _ => rfl | n9 + 13, h9 => absurd (show n9 + 13 < 13 from h9) (by omega)) (show 37 + i1021 * 8 + 1 ≤ 367 by omega) (show 32224 + i1021 * 1436 + 13 ≤ (53413) by omega) d_H_init_93 (fun q2214 H hqq2214 Y => ?_)
      have Y : pH D cCl (pA L sz) s.heap (L1022 ++ [q2214]) (va_up f1023 q2214 (.inr (7, [.null, .null, .int (nI 0), .int (nI 0), .int (nI 0), .null, .null, .null, .null, .int (nI 0), .int (nI 0), .int (nI 0), .int (nI 0)]))) H locs := Y
      have e2221 : (va_up f1023 q2214 (.inr (7, [.null, .null, .int (nI 0), .int (nI 0), .int (nI 0), .null, .null, .null, .null, .int (nI 0), .int (nI 0), .int (nI 0), .int (nI 0)]))) q2214 = .inr (7, [.null, .null, .int (nI 0), .int (nI 0), .int (nI 0), .null, .null, .null, .null, .int (nI 0), .int (nI 0), .int (nI 0), .int (nI 0)]) := q_up
      have e2222 : (va_up f1023 q2214 (.inr (7, [.null, .null, .int (nI 0), .int (nI 0), .int (nI 0), .null, .null, .null, .null, .int (nI 0), .int (nI 0), .int (nI 0), .int (nI 0)]))) xo = .inr (0, [.ref q1, .ref q230, .ref q350, .ref q480, .ref q764, .ref q620, .null, .null, .null]) := (q_ne (ne_mem hqq2214 m1031)).trans e1060
      have e2223 : (va_up f1023 q2214 (.inr (7, [.null, .null, .int (nI 0), .int (nI 0), .int (nI 0), .null, .null, .null, .null, .int (nI 0), .int (nI 0), .int (nI 0), .int (nI 0)]))) q1 = .inr (11, [.int (nI 1000000000), .ref o183, .ref o184, .ref q18, .ref q25, .ref q30, .int (nI 0), .ref o185, .int (nI 20), .int (nI 0), .ref o186, .ref q31, .ref q32]) := (q_ne (ne_mem hqq2214 m1032)).trans e1061
      have e2224 : (va_up f1023 q2214 (.inr (7, [.null, .null, .int (nI 0), .int (nI 0), .int (nI 0), .null, .null, .null, .null, .int (nI 0), .int (nI 0), .int (nI 0), .int (nI 0)]))) q18 = .inr (6, [.ref q19, .ref q20, .ref q21, .ref q22, .ref q23, .int (nI 0), .int (nI 0), .ref q24]) := (q_ne (ne_mem hqq2214 m1033)).trans e1062
      have e2225 : (va_up f1023 q2214 (.inr (7, [.null, .null, .int (nI 0), .int (nI 0), .int (nI 0), .null, .null, .null, .null, .int (nI 0), .int (nI 0), .int (nI 0), .int (nI 0)]))) q19 = .inl (E.2.1, 80, .inl g34) := (q_ne (ne_mem hqq2214 m1034)).trans e1063
      have e2226 : (va_up f1023 q2214 (.inr (7, [.null, .null, .int (nI 0), .int (nI 0), .int (nI 0), .null, .null, .null, .null, .int (nI 0), .int (nI 0), .int (nI 0), .int (nI 0)]))) q20 = .inl (E.1, 64, .inl g35) := (q_ne (ne_mem hqq2214 m1035)).trans e1064
      have e2227 : (va_up f1023 q2214 (.inr (7, [.null, .null, .int (nI 0), .int (nI 0), .int (nI 0), .null, .null, .null, .null, .int (nI 0), .int (nI 0), .int (nI 0), .int (nI 0)]))) q21 = .inl (E.2.1, 5, .inl g36) := (q_ne (ne_mem hqq2214 m1036)).trans e1065
      have e2228 : (va_up f1023 q2214 (.inr (7, [.null, .null, .int (nI 0), .int (nI 0), .int (nI 0), .null, .null, .null, .null, .int (nI 0), .int (nI 0), .int (nI 0), .int (nI 0)]))) q22 = .inl (E.2.1, 5, .inl g37) := (q_ne (ne_mem hqq2214 m1037)).trans e1066
      have e2229 : (va_up f1023 q2214 (.inr (7, [.null, .null, .int (nI 0), .int (nI 0), .int (nI 0), .null, .null, .null, .null, .int (nI 0), .int (nI 0), .int (nI 0), .int (nI 0)]))) q23 = .inl (E.2.1, 5, .inl g38) := (q_ne (ne_mem hqq2214 m1038)).trans e1067
      have e2230 : (va_up f1023 q2214 (.inr (7, [.null, .null, .int (nI 0), .int (nI 0), .int (nI 0), .null, .null, .null, .null, .int (nI 0), .int (nI 0), .int (nI 0), .int (nI 0)]))) q24 = .inl (E.1, 20, .inl g39) := (q_ne (ne_mem hqq2214 m1039)).trans e1068
      have e2231 : (va_up f1023 q2214 (.inr (7, [.null, .null, .int (nI 0), .int (nI 0), .int (nI 0), .null, .null, .null, .null, .int (nI 0), .int (nI 0), .int (nI 0), .int (nI 0)]))) q25 = .inr (1, [.ref o187, .ref q26, .ref q27, .int (nI 0), .ref q28, .ref q29, .ref o188]) := (q_ne (ne_mem hqq2214 m1040)).trans e1069
      have e2232 : (va_up f1023 q2214 (.inr (7, [.null, .null, .int (nI 0), .int (nI 0), .int (nI 0), .null, .null, .null, .null, .int (nI 0), .int (nI 0), .int (nI 0), .int (nI 0)]))) q26 = .inl (E.2.1, 256, .inl g40) := (q_ne (ne_mem hqq2214 m1041)).trans e1070
      have e2233 : (va_up f1023 q2214 (.inr (7, [.null, .null, .int (nI 0), .int (nI 0), .int (nI 0), .null, .null, .null, .null, .int (nI 0), .int (nI 0), .int (nI 0), .int (nI 0)]))) q27 = .inl (E.2.1, 240, .inl g41) := (q_ne (ne_mem hqq2214 m1042)).trans e1071
      have e2234 : (va_up f1023 q2214 (.inr (7, [.null, .null, .int (nI 0), .int (nI 0), .int (nI 0), .null, .null, .null, .null, .int (nI 0), .int (nI 0), .int (nI 0), .int (nI 0)]))) q28 = .inl (E.2.1, 16, .inl g42) := (q_ne (ne_mem hqq2214 m1043)).trans e1072
      have e2235 : (va_up f1023 q2214 (.inr (7, [.null, .null, .int (nI 0), .int (nI 0), .int (nI 0), .null, .null, .null, .null, .int (nI 0), .int (nI 0), .int (nI 0), .int (nI 0)]))) q29 = .inl (E.2.1, 16, .inl g43) := (q_ne (ne_mem hqq2214 m1044)).trans e1073
      have e2236 : (va_up f1023 q2214 (.inr (7, [.null, .null, .int (nI 0), .int (nI 0), .int (nI 0), .null, .null, .null, .null, .int (nI 0), .int (nI 0), .int (nI 0), .int (nI 0)]))) q30 = .inl (E.1, 64, .inl g44) := (q_ne (ne_mem hqq2214 m1045)).trans e1074
      have e2237 : (va_up f1023 q2214 (.inr (7, [.null, .null, .int (nI 0), .int (nI 0), .int (nI 0), .null, .null, .null, .null, .int (nI 0), .int (nI 0), .int (nI 0), .int (nI 0)]))) q31 = .inl (E.1, 20, .inl g45) := (q_ne (ne_mem hqq2214 m1046)).trans e1075
      have e2238 : (va_up f1023 q2214 (.inr (7, [.null, .null, .int (nI 0), .int (nI 0), .int (nI 0), .null, .null, .null, .null, .int (nI 0), .int (nI 0), .int (nI 0), .int (nI 0)]))) q32 = .inr (3, [.ref q33, .int (nI 0)]) := (q_ne (ne_mem hqq2214 m1047)).trans e1076
      have e2239 : (va_up f1023 q2214 (.inr (7, [.null, .null, .int (nI 0), .int (nI 0), .int (nI 0), .null, .null, .null, .null, .int (nI 0), .int (nI 0), .int (nI 0), .int (nI 0)]))) q33 = .inl (E.1, 64, .inl g46) := (q_ne (ne_mem hqq2214 m1048)).trans e1077
      have e2240 : (va_up f1023 q2214 (.inr (7, [.null, .null, .int (nI 0), .int (nI 0), .int (nI 0), .null, .null, .null, .null, .int (nI 0), .int (nI 0), .int (nI 0), .int (nI 0)]))) q230 = .inr (3, [.ref q281, .int (nI 0)]) := (q_ne (ne_mem hqq2214 m1049)).trans e1078
      have e2241 : (va_up f1023 q2214 (.inr (7, [.null, .null, .int (nI 0), .int (nI 0), .int (nI 0), .null, .null, .null, .null, .int (nI 0), .int (nI 0), .int (nI 0), .int (nI 0)]))) q281 = .inl (E.1, 4000, .inl g282) := (q_ne (ne_mem hqq2214 m1050)).trans e1079
      have e2242 : (va_up f1023 q2214 (.inr (7, [.null, .null, .int (nI 0), .int (nI 0), .int (nI 0), .null, .null, .null, .null, .int (nI 0), .int (nI 0), .int (nI 0), .int (nI 0)]))) q350 = .inr (3, [.ref q405, .int (nI 0)]) := (q_ne (ne_mem hqq2214 m1051)).trans e1080
      have e2243 : (va_up f1023 q2214 (.inr (7, [.null, .null, .int (nI 0), .int (nI 0), .int (nI 0), .null, .null, .null, .null, .int (nI 0), .int (nI 0), .int (nI 0), .int (nI 0)]))) q405 = .inl (E.1, 12288, .inl g406) := (q_ne (ne_mem hqq2214 m1052)).trans e1081
      have e2244 : (va_up f1023 q2214 (.inr (7, [.null, .null, .int (nI 0), .int (nI 0), .int (nI 0), .null, .null, .null, .null, .int (nI 0), .int (nI 0), .int (nI 0), .int (nI 0)]))) q480 = .inr (3, [.ref q539, .int (nI 0)]) := (q_ne (ne_mem hqq2214 m1053)).trans e1082
      have e2245 : (va_up f1023 q2214 (.inr (7, [.null, .null, .int (nI 0), .int (nI 0), .int (nI 0), .null, .null, .null, .null, .int (nI 0), .int (nI 0), .int (nI 0), .int (nI 0)]))) q539 = .inl (E.1, 40, .inl g540) := (q_ne (ne_mem hqq2214 m1054)).trans e1083
      have e2246 : (va_up f1023 q2214 (.inr (7, [.null, .null, .int (nI 0), .int (nI 0), .int (nI 0), .null, .null, .null, .null, .int (nI 0), .int (nI 0), .int (nI 0), .int (nI 0)]))) q620 = .inr (5, [.ref q1, .ref o684, .ref o685, .ref (T.1 0), .int (nI 32)]) := (q_ne (ne_mem hqq2214 m1055)).trans e1084
      have e2247 : (va_up f1023 q2214 (.inr (7, [.null, .null, .int (nI 0), .int (nI 0), .int (nI 0), .null, .null, .null, .null, .int (nI 0), .int (nI 0), .int (nI 0), .int (nI 0)]))) q764 = .inl (E.2.2.1, 12, .inr (.inr (.inr (.inr g1024)))) := (q_ne (ne_mem hqq2214 m1056)).trans e1085
      have e2248 : (va_up f1023 q2214 (.inr (7, [.null, .null, .int (nI 0), .int (nI 0), .int (nI 0), .null, .null, .null, .null, .int (nI 0), .int (nI 0), .int (nI 0), .int (nI 0)]))) q852 = .inr (7, [.ref q919, .ref o930, .int (nI 0), .int (nI 0), .int (nI 0), .ref (T.1 0), .ref (T.1 0), .ref (T.1 0), .ref (T.1 0), .int (nI 36000), .int (nI 72000), .int (nI 15), .int (nI 0)]) := (q_ne (ne_mem hqq2214 m1057)).trans e1086
      have e2249 : (va_up f1023 q2214 (.inr (7, [.null, .null, .int (nI 0), .int (nI 0), .int (nI 0), .null, .null, .null, .null, .int (nI 0), .int (nI 0), .int (nI 0), .int (nI 0)]))) q919 = .inr (3, [.ref q920, .int (nI 0)]) := (q_ne (ne_mem hqq2214 m1058)).trans e1087
      have e2250 : (va_up f1023 q2214 (.inr (7, [.null, .null, .int (nI 0), .int (nI 0), .int (nI 0), .null, .null, .null, .null, .int (nI 0), .int (nI 0), .int (nI 0), .int (nI 0)]))) q920 = .inl (E.1, 40, .inl g921) := (q_ne (ne_mem hqq2214 m1059)).trans e1088
      have nl2219 : q2214 ∉ L := fun h9 => hqq2214 (s1029 _ h9)
      have hF2251 : ∀ x, x ∈ L → x ≠ xo → (va_up f1023 q2214 (.inr (7, [.null, .null, .int (nI 0), .int (nI 0), .int (nI 0), .null, .null, .null, .null, .int (nI 0), .int (nI 0), .int (nI 0), .int (nI 0)]))) x = f x := fun x hx h0 => (q_ne (ne_mem nl2219 hx)).trans (hF1030 x hx h0)
      have wh2252 : wP 7 2 1 i1021 q852 (va_up f1023 q2214 (.inr (7, [.null, .null, .int (nI 0), .int (nI 0), .int (nI 0), .null, .null, .null, .null, .int (nI 0), .int (nI 0), .int (nI 0), .int (nI 0)]))) (L1022) g1024 := wP_keep wh1090 (fun _ h9 => h9) (fun x hx h0 ht => q_ne (ne_mem hqq2214 hx))
      have ws2253 : ∀ x, x ∈ L1022 → x ∈ L1022 ++ [q2214] := fun _ h9 => List.mem_append_left _ h9
      generalize (va_up f1023 q2214 (.inr (7, [.null, .null, .int (nI 0), .int (nI 0), .int (nI 0), .null, .null, .null, .null, .int (nI 0), .int (nI 0), .int (nI 0), .int (nI 0)]))) = f2220 at Y e2221 e2222 e2223 e2224 e2225 e2226 e2227 e2228 e2229 e2230 e2231 e2232 e2233 e2234 e2235 e2236 e2237 e2238 e2239 e2240 e2241 e2242 e2243 e2244 e2245 e2246 e2247 e2248 e2249 e2250 hF2251 wh2252
      have s2217 : ∀ x, x ∈ L → x ∈ L1022 ++ [q2214] := fun x hx => List.mem_append_left _ (s1029 x hx)
      have m2254 : xo ∈ L1022 ++ [q2214] := List.mem_append_left _ m1031
      have m2255 : q1 ∈ L1022 ++ [q2214] := List.mem_append_left _ m1032
      have m2256 : q18 ∈ L1022 ++ [q2214] := List.mem_append_left _ m1033
      have m2257 : q19 ∈ L1022 ++ [q2214] := List.mem_append_left _ m1034
      have m2258 : q20 ∈ L1022 ++ [q2214] := List.mem_append_left _ m1035
      have m2259 : q21 ∈ L1022 ++ [q2214] := List.mem_append_left _ m1036
      have m2260 : q22 ∈ L1022 ++ [q2214] := List.mem_append_left _ m1037
      have m2261 : q23 ∈ L1022 ++ [q2214] := List.mem_append_left _ m1038
      have m2262 : q24 ∈ L1022 ++ [q2214] := List.mem_append_left _ m1039
      have m2263 : q25 ∈ L1022 ++ [q2214] := List.mem_append_left _ m1040
      have m2264 : q26 ∈ L1022 ++ [q2214] := List.mem_append_left _ m1041
      have m2265 : q27 ∈ L1022 ++ [q2214] := List.mem_append_left _ m1042
      have m2266 : q28 ∈ L1022 ++ [q2214] := List.mem_append_left _ m1043
      have m2267 : q29 ∈ L1022 ++ [q2214] := List.mem_append_left _ m1044
      have m2268 : q30 ∈ L1022 ++ [q2214] := List.mem_append_left _ m1045
      have m2269 : q31 ∈ L1022 ++ [q2214] := List.mem_append_left _ m1046
      have m2270 : q32 ∈ L1022 ++ [q2214] := List.mem_append_left _ m1047
      have m2271 : q33 ∈ L1022 ++ [q2214] := List.mem_append_left _ m1048
      have m2272 : q230 ∈ L1022 ++ [q2214] := List.mem_append_left _ m1049
      have m2273 : q281 ∈ L1022 ++ [q2214] := List.mem_append_left _ m1050
      have m2274 : q350 ∈ L1022 ++ [q2214] := List.mem_append_left _ m1051
      have m2275 : q405 ∈ L1022 ++ [q2214] := List.mem_append_left _ m1052
      have m2276 : q480 ∈ L1022 ++ [q2214] := List.mem_append_left _ m1053
      have m2277 : q539 ∈ L1022 ++ [q2214] := List.mem_append_left _ m1054
      have m2278 : q620 ∈ L1022 ++ [q2214] := List.mem_append_left _ m1055
      have m2279 : q764 ∈ L1022 ++ [q2214] := List.mem_append_left _ m1056
      have m2280 : q852 ∈ L1022 ++ [q2214] := List.mem_append_left _ m1057
      have m2281 : q919 ∈ L1022 ++ [q2214] := List.mem_append_left _ m1058
      have m2282 : q920 ∈ L1022 ++ [q2214] := List.mem_append_left _ m1059
      have m2218 : q2214 ∈ L1022 ++ [q2214] := List.mem_append_right _ (List.mem_singleton.mpr rfl)
      generalize L1022 ++ [q2214] = L2215 at Y s2217 m2254 m2255 m2256 m2257 m2258 m2259 m2260 m2261 m2262 m2263 m2264 m2265 m2266 m2267 m2268 m2269 m2270 m2271 m2272 m2273 m2274 m2275 m2276 m2277 m2278 m2279 m2280 m2281 m2282 m2218 ws2253
      refine lv_dup X.1 X.2.1 d_H_init_96 rfl ?_
      refine x_v (x_runIN (As := []) (rest := [.ref q2214, .int (nI i1021), .ref q764]) (n := 0) X KR hml hl.1 (c_Pr_init l D E T L2215 f2220 H.size q2214 m2218 e2221) (ok_k X Y hA KS KR) (by decide) ks_Pr_init ki_Pr_init ini_Pr rfl ⟨rfl, rfl⟩ hd_Pr_init.2 ⟨by decide, by decide⟩ rfl (Nat.le_of_ble_eq_true rfl) d_H_init_97 ⟨(show 37 + i1021 * 8 + 1 + 7 ≤ 367 by omega), (show 32224 + i1021 * 1436 + 13 + (1423) ≤ (53413) by omega)⟩) X Y hA (fun u H locs hp Y => ?_)
      obtain ⟨L2285, f2284⟩ := u
      obtain ⟨eL2287, hF2286, q2289, q2290, o2300, g2291, m2292, nl2294, m2293, nl2295, hg2296, e2297, e2298, e2299⟩ := hp
      dsimp only at eL2287 hF2286 m2292 m2293 e2297 e2298 e2299 Y
      have wh2301 : wP 7 2 1 i1021 q852 f2284 (L1022) g1024 := wP_keep wh2252 (fun x9 h9 => h9) (fun x hx h0 ht => hF2286 x (ws2253 x hx) (ne_mem hqq2214 hx))
      have ws2302 : ∀ x, x ∈ L1022 → x ∈ L2285 := fun x hx => eL2287 x (ws2253 x hx)
      have e2303 : f2284 xo = .inr (0, [.ref q1, .ref q230, .ref q350, .ref q480, .ref q764, .ref q620, .null, .null, .null]) := (hF2286 xo m2254 (q_tag e2222 e2221 (show (0 : Nat) ≠ 7 by decide))).trans e2222
      have e2304 : f2284 q1 = .inr (11, [.int (nI 1000000000), .ref o183, .ref o184, .ref q18, .ref q25, .ref q30, .int (nI 0), .ref o185, .int (nI 20), .int (nI 0), .ref o186, .ref q31, .ref q32]) := (hF2286 q1 m2255 (q_tag e2223 e2221 (show (11 : Nat) ≠ 7 by decide))).trans e2223
      have e2305 : f2284 q18 = .inr (6, [.ref q19, .ref q20, .ref q21, .ref q22, .ref q23, .int (nI 0), .int (nI 0), .ref q24]) := (hF2286 q18 m2256 (q_tag e2224 e2221 (show (6 : Nat) ≠ 7 by decide))).trans e2224
      have e2306 : f2284 q19 = .inl (E.2.1, 80, .inl g34) := (hF2286 q19 m2257 (q_tag e2225 e2221 (show (1000 : Nat) ≠ 7 by decide))).trans e2225
      have e2307 : f2284 q20 = .inl (E.1, 64, .inl g35) := (hF2286 q20 m2258 (q_tag e2226 e2221 (show (1000 : Nat) ≠ 7 by decide))).trans e2226
      have e2308 : f2284 q21 = .inl (E.2.1, 5, .inl g36) := (hF2286 q21 m2259 (q_tag e2227 e2221 (show (1000 : Nat) ≠ 7 by decide))).trans e2227
      have e2309 : f2284 q22 = .inl (E.2.1, 5, .inl g37) := (hF2286 q22 m2260 (q_tag e2228 e2221 (show (1000 : Nat) ≠ 7 by decide))).trans e2228
      have e2310 : f2284 q23 = .inl (E.2.1, 5, .inl g38) := (hF2286 q23 m2261 (q_tag e2229 e2221 (show (1000 : Nat) ≠ 7 by decide))).trans e2229
      have e2311 : f2284 q24 = .inl (E.1, 20, .inl g39) := (hF2286 q24 m2262 (q_tag e2230 e2221 (show (1000 : Nat) ≠ 7 by decide))).trans e2230
      have e2312 : f2284 q25 = .inr (1, [.ref o187, .ref q26, .ref q27, .int (nI 0), .ref q28, .ref q29, .ref o188]) := (hF2286 q25 m2263 (q_tag e2231 e2221 (show (1 : Nat) ≠ 7 by decide))).trans e2231
      have e2313 : f2284 q26 = .inl (E.2.1, 256, .inl g40) := (hF2286 q26 m2264 (q_tag e2232 e2221 (show (1000 : Nat) ≠ 7 by decide))).trans e2232
      have e2314 : f2284 q27 = .inl (E.2.1, 240, .inl g41) := (hF2286 q27 m2265 (q_tag e2233 e2221 (show (1000 : Nat) ≠ 7 by decide))).trans e2233
      have e2315 : f2284 q28 = .inl (E.2.1, 16, .inl g42) := (hF2286 q28 m2266 (q_tag e2234 e2221 (show (1000 : Nat) ≠ 7 by decide))).trans e2234
      have e2316 : f2284 q29 = .inl (E.2.1, 16, .inl g43) := (hF2286 q29 m2267 (q_tag e2235 e2221 (show (1000 : Nat) ≠ 7 by decide))).trans e2235
      have e2317 : f2284 q30 = .inl (E.1, 64, .inl g44) := (hF2286 q30 m2268 (q_tag e2236 e2221 (show (1000 : Nat) ≠ 7 by decide))).trans e2236
      have e2318 : f2284 q31 = .inl (E.1, 20, .inl g45) := (hF2286 q31 m2269 (q_tag e2237 e2221 (show (1000 : Nat) ≠ 7 by decide))).trans e2237
      have e2319 : f2284 q32 = .inr (3, [.ref q33, .int (nI 0)]) := (hF2286 q32 m2270 (q_tag e2238 e2221 (show (3 : Nat) ≠ 7 by decide))).trans e2238
      have e2320 : f2284 q33 = .inl (E.1, 64, .inl g46) := (hF2286 q33 m2271 (q_tag e2239 e2221 (show (1000 : Nat) ≠ 7 by decide))).trans e2239
      have e2321 : f2284 q230 = .inr (3, [.ref q281, .int (nI 0)]) := (hF2286 q230 m2272 (q_tag e2240 e2221 (show (3 : Nat) ≠ 7 by decide))).trans e2240
      have e2322 : f2284 q281 = .inl (E.1, 4000, .inl g282) := (hF2286 q281 m2273 (q_tag e2241 e2221 (show (1000 : Nat) ≠ 7 by decide))).trans e2241
      have e2323 : f2284 q350 = .inr (3, [.ref q405, .int (nI 0)]) := (hF2286 q350 m2274 (q_tag e2242 e2221 (show (3 : Nat) ≠ 7 by decide))).trans e2242
      have e2324 : f2284 q405 = .inl (E.1, 12288, .inl g406) := (hF2286 q405 m2275 (q_tag e2243 e2221 (show (1000 : Nat) ≠ 7 by decide))).trans e2243
      have e2325 : f2284 q480 = .inr (3, [.ref q539, .int (nI 0)]) := (hF2286 q480 m2276 (q_tag e2244 e2221 (show (3 : Nat) ≠ 7 by decide))).trans e2244
      have e2326 : f2284 q539 = .inl (E.1, 40, .inl g540) := (hF2286 q539 m2277 (q_tag e2245 e2221 (show (1000 : Nat) ≠ 7 by decide))).trans e2245
      have e2327 : f2284 q620 = .inr (5, [.ref q1, .ref o684, .ref o685, .ref (T.1 0), .int (nI 32)]) := (hF2286 q620 m2278 (q_tag e2246 e2221 (show (5 : Nat) ≠ 7 by decide))).trans e2246
      have e2328 : f2284 q764 = .inl (E.2.2.1, 12, .inr (.inr (.inr (.inr g1024)))) := (hF2286 q764 m2279 (q_tag e2247 e2221 (show (1000 : Nat) ≠ 7 by decide))).trans e2247
      have e2329 : f2284 q852 = .inr (7, [.ref q919, .ref o930, .int (nI 0), .int (nI 0), .int (nI 0), .ref (T.1 0), .ref (T.1 0), .ref (T.1 0), .ref (T.1 0), .int (nI 36000), .int (nI 72000), .int (nI 15), .int (nI 0)]) := (hF2286 q852 m2280 (ne_mem hqq2214 m1057)).trans e2248
      have e2330 : f2284 q919 = .inr (3, [.ref q920, .int (nI 0)]) := (hF2286 q919 m2281 (q_tag e2249 e2221 (show (3 : Nat) ≠ 7 by decide))).trans e2249
      have e2331 : f2284 q920 = .inl (E.1, 40, .inl g921) := (hF2286 q920 m2282 (q_tag e2250 e2221 (show (1000 : Nat) ≠ 7 by decide))).trans e2250
      have hF2332 : ∀ x, x ∈ L → x ≠ xo → f2284 x = f x := fun x hx h0 => (hF2286 x (s2217 x hx) (ne_mem nl2219 hx)).trans (hF2251 x hx h0)
      have s2333 : ∀ x, x ∈ L → x ∈ L2285 := fun x hx => eL2287 x (s2217 x hx)
      have nl2334 : q2289 ∉ L := fun h9 => nl2294 (s2217 _ h9)
      have nl2335 : q2290 ∉ L := fun h9 => nl2295 (s2217 _ h9)
      have m2336 : xo ∈ L2285 := eL2287 _ m2254
      have m2337 : q1 ∈ L2285 := eL2287 _ m2255
      have m2338 : q18 ∈ L2285 := eL2287 _ m2256
      have m2339 : q19 ∈ L2285 := eL2287 _ m2257
      have m2340 : q20 ∈ L2285 := eL2287 _ m2258
      have m2341 : q21 ∈ L2285 := eL2287 _ m2259
      have m2342 : q22 ∈ L2285 := eL2287 _ m2260
      have m2343 : q23 ∈ L2285 := eL2287 _ m2261
      have m2344 : q24 ∈ L2285 := eL2287 _ m2262
      have m2345 : q25 ∈ L2285 := eL2287 _ m2263
      have m2346 : q26 ∈ L2285 := eL2287 _ m2264
      have m2347 : q27 ∈ L2285 := eL2287 _ m2265
      have m2348 : q28 ∈ L2285 := eL2287 _ m2266
      have m2349 : q29 ∈ L2285 := eL2287 _ m2267
      have m2350 : q30 ∈ L2285 := eL2287 _ m2268
      have m2351 : q31 ∈ L2285 := eL2287 _ m2269
      have m2352 : q32 ∈ L2285 := eL2287 _ m2270
      have m2353 : q33 ∈ L2285 := eL2287 _ m2271
      have m2354 : q230 ∈ L2285 := eL2287 _ m2272
      have m2355 : q281 ∈ L2285 := eL2287 _ m2273
      have m2356 : q350 ∈ L2285 := eL2287 _ m2274
      have m2357 : q405 ∈ L2285 := eL2287 _ m2275
      have m2358 : q480 ∈ L2285 := eL2287 _ m2276
      have m2359 : q539 ∈ L2285 := eL2287 _ m2277
      have m2360 : q620 ∈ L2285 := eL2287 _ m2278
      have m2361 : q764 ∈ L2285 := eL2287 _ m2279
      have m2362 : q852 ∈ L2285 := eL2287 _ m2280
      have m2363 : q919 ∈ L2285 := eL2287 _ m2281
      have m2364 : q920 ∈ L2285 := eL2287 _ m2282
      have m2365 : q2214 ∈ L2285 := eL2287 _ m2218
      refine q_aast X.1 X.2.1 X.2.2.2.2 Y 2 7 (r := (R_Pr, F_Pr, 13)) m2361 e2328 rfl m2365 e2297 rfl (vp_in_nI (by omega) (by omega)) d_H_init_100 (fun H locs Y => ?_)
      rw [nI_clamp (show i1021 < 2 ^ 31 by omega)] at Y
      have e2367 : (va_up f2284 q764 (.inl (E.2.2.1, 12, .inr (.inr (.inr (.inr (va_up g1024 i1021 (some q2214)))))))) q764 = .inl (E.2.2.1, 12, .inr (.inr (.inr (.inr (va_up g1024 i1021 (some q2214)))))) := q_up
      have e2368 : (va_up f2284 q764 (.inl (E.2.2.1, 12, .inr (.inr (.inr (.inr (va_up g1024 i1021 (some q2214)))))))) xo = .inr (0, [.ref q1, .ref q230, .ref q350, .ref q480, .ref q764, .ref q620, .null, .null, .null]) := (q_ne (q_tag e2303 e2328 (show (0 : Nat) ≠ 1000 by decide))).trans e2303
      have e2369 : (va_up f2284 q764 (.inl (E.2.2.1, 12, .inr (.inr (.inr (.inr (va_up g1024 i1021 (some q2214)))))))) q1 = .inr (11, [.int (nI 1000000000), .ref o183, .ref o184, .ref q18, .ref q25, .ref q30, .int (nI 0), .ref o185, .int (nI 20), .int (nI 0), .ref o186, .ref q31, .ref q32]) := (q_ne (q_tag e2304 e2328 (show (11 : Nat) ≠ 1000 by decide))).trans e2304
      have e2370 : (va_up f2284 q764 (.inl (E.2.2.1, 12, .inr (.inr (.inr (.inr (va_up g1024 i1021 (some q2214)))))))) q18 = .inr (6, [.ref q19, .ref q20, .ref q21, .ref q22, .ref q23, .int (nI 0), .int (nI 0), .ref q24]) := (q_ne (q_tag e2305 e2328 (show (6 : Nat) ≠ 1000 by decide))).trans e2305
      have e2371 : (va_up f2284 q764 (.inl (E.2.2.1, 12, .inr (.inr (.inr (.inr (va_up g1024 i1021 (some q2214)))))))) q19 = .inl (E.2.1, 80, .inl g34) := (q_ne (ne_mem hqq764 m715)).trans e2306
      have e2372 : (va_up f2284 q764 (.inl (E.2.2.1, 12, .inr (.inr (.inr (.inr (va_up g1024 i1021 (some q2214)))))))) q20 = .inl (E.1, 64, .inl g35) := (q_ne (ne_mem hqq764 m716)).trans e2307
      have e2373 : (va_up f2284 q764 (.inl (E.2.2.1, 12, .inr (.inr (.inr (.inr (va_up g1024 i1021 (some q2214)))))))) q21 = .inl (E.2.1, 5, .inl g36) := (q_ne (ne_mem hqq764 m717)).trans e2308
      have e2374 : (va_up f2284 q764 (.inl (E.2.2.1, 12, .inr (.inr (.inr (.inr (va_up g1024 i1021 (some q2214)))))))) q22 = .inl (E.2.1, 5, .inl g37) := (q_ne (ne_mem hqq764 m718)).trans e2309
      have e2375 : (va_up f2284 q764 (.inl (E.2.2.1, 12, .inr (.inr (.inr (.inr (va_up g1024 i1021 (some q2214)))))))) q23 = .inl (E.2.1, 5, .inl g38) := (q_ne (ne_mem hqq764 m719)).trans e2310
      have e2376 : (va_up f2284 q764 (.inl (E.2.2.1, 12, .inr (.inr (.inr (.inr (va_up g1024 i1021 (some q2214)))))))) q24 = .inl (E.1, 20, .inl g39) := (q_ne (ne_mem hqq764 m720)).trans e2311
      have e2377 : (va_up f2284 q764 (.inl (E.2.2.1, 12, .inr (.inr (.inr (.inr (va_up g1024 i1021 (some q2214)))))))) q25 = .inr (1, [.ref o187, .ref q26, .ref q27, .int (nI 0), .ref q28, .ref q29, .ref o188]) := (q_ne (q_tag e2312 e2328 (show (1 : Nat) ≠ 1000 by decide))).trans e2312
      have e2378 : (va_up f2284 q764 (.inl (E.2.2.1, 12, .inr (.inr (.inr (.inr (va_up g1024 i1021 (some q2214)))))))) q26 = .inl (E.2.1, 256, .inl g40) := (q_ne (ne_mem hqq764 m722)).trans e2313
      have e2379 : (va_up f2284 q764 (.inl (E.2.2.1, 12, .inr (.inr (.inr (.inr (va_up g1024 i1021 (some q2214)))))))) q27 = .inl (E.2.1, 240, .inl g41) := (q_ne (ne_mem hqq764 m723)).trans e2314
      have e2380 : (va_up f2284 q764 (.inl (E.2.2.1, 12, .inr (.inr (.inr (.inr (va_up g1024 i1021 (some q2214)))))))) q28 = .inl (E.2.1, 16, .inl g42) := (q_ne (ne_mem hqq764 m724)).trans e2315
      have e2381 : (va_up f2284 q764 (.inl (E.2.2.1, 12, .inr (.inr (.inr (.inr (va_up g1024 i1021 (some q2214)))))))) q29 = .inl (E.2.1, 16, .inl g43) := (q_ne (ne_mem hqq764 m725)).trans e2316
      have e2382 : (va_up f2284 q764 (.inl (E.2.2.1, 12, .inr (.inr (.inr (.inr (va_up g1024 i1021 (some q2214)))))))) q30 = .inl (E.1, 64, .inl g44) := (q_ne (ne_mem hqq764 m726)).trans e2317
      have e2383 : (va_up f2284 q764 (.inl (E.2.2.1, 12, .inr (.inr (.inr (.inr (va_up g1024 i1021 (some q2214)))))))) q31 = .inl (E.1, 20, .inl g45) := (q_ne (ne_mem hqq764 m727)).trans e2318
      have e2384 : (va_up f2284 q764 (.inl (E.2.2.1, 12, .inr (.inr (.inr (.inr (va_up g1024 i1021 (some q2214)))))))) q32 = .inr (3, [.ref q33, .int (nI 0)]) := (q_ne (q_tag e2319 e2328 (show (3 : Nat) ≠ 1000 by decide))).trans e2319
      have e2385 : (va_up f2284 q764 (.inl (E.2.2.1, 12, .inr (.inr (.inr (.inr (va_up g1024 i1021 (some q2214)))))))) q33 = .inl (E.1, 64, .inl g46) := (q_ne (ne_mem hqq764 m729)).trans e2320
      have e2386 : (va_up f2284 q764 (.inl (E.2.2.1, 12, .inr (.inr (.inr (.inr (va_up g1024 i1021 (some q2214)))))))) q230 = .inr (3, [.ref q281, .int (nI 0)]) := (q_ne (q_tag e2321 e2328 (show (3 : Nat) ≠ 1000 by decide))).trans e2321
      have e2387 : (va_up f2284 q764 (.inl (E.2.2.1, 12, .inr (.inr (.inr (.inr (va_up g1024 i1021 (some q2214)))))))) q281 = .inl (E.1, 4000, .inl g282) := (q_ne (ne_mem hqq764 m731)).trans e2322
      have e2388 : (va_up f2284 q764 (.inl (E.2.2.1, 12, .inr (.inr (.inr (.inr (va_up g1024 i1021 (some q2214)))))))) q350 = .inr (3, [.ref q405, .int (nI 0)]) := (q_ne (q_tag e2323 e2328 (show (3 : Nat) ≠ 1000 by decide))).trans e2323
      have e2389 : (va_up f2284 q764 (.inl (E.2.2.1, 12, .inr (.inr (.inr (.inr (va_up g1024 i1021 (some q2214)))))))) q405 = .inl (E.1, 12288, .inl g406) := (q_ne (ne_mem hqq764 m733)).trans e2324
      have e2390 : (va_up f2284 q764 (.inl (E.2.2.1, 12, .inr (.inr (.inr (.inr (va_up g1024 i1021 (some q2214)))))))) q480 = .inr (3, [.ref q539, .int (nI 0)]) := (q_ne (q_tag e2325 e2328 (show (3 : Nat) ≠ 1000 by decide))).trans e2325
      have e2391 : (va_up f2284 q764 (.inl (E.2.2.1, 12, .inr (.inr (.inr (.inr (va_up g1024 i1021 (some q2214)))))))) q539 = .inl (E.1, 40, .inl g540) := (q_ne (ne_mem hqq764 m735)).trans e2326
      have e2392 : (va_up f2284 q764 (.inl (E.2.2.1, 12, .inr (.inr (.inr (.inr (va_up g1024 i1021 (some q2214)))))))) q620 = .inr (5, [.ref q1, .ref o684, .ref o685, .ref (T.1 0), .int (nI 32)]) := (q_ne (q_tag e2327 e2328 (show (5 : Nat) ≠ 1000 by decide))).trans e2327
      have e2393 : (va_up f2284 q764 (.inl (E.2.2.1, 12, .inr (.inr (.inr (.inr (va_up g1024 i1021 (some q2214)))))))) q852 = .inr (7, [.ref q919, .ref o930, .int (nI 0), .int (nI 0), .int (nI 0), .ref (T.1 0), .ref (T.1 0), .ref (T.1 0), .ref (T.1 0), .int (nI 36000), .int (nI 72000), .int (nI 15), .int (nI 0)]) := (q_ne (q_tag e2329 e2328 (show (7 : Nat) ≠ 1000 by decide))).trans e2329
      have e2394 : (va_up f2284 q764 (.inl (E.2.2.1, 12, .inr (.inr (.inr (.inr (va_up g1024 i1021 (some q2214)))))))) q919 = .inr (3, [.ref q920, .int (nI 0)]) := (q_ne (q_tag e2330 e2328 (show (3 : Nat) ≠ 1000 by decide))).trans e2330
      have e2395 : (va_up f2284 q764 (.inl (E.2.2.1, 12, .inr (.inr (.inr (.inr (va_up g1024 i1021 (some q2214)))))))) q920 = .inl (E.1, 40, .inl g921) := (q_ne (ne_mem nl925 m912).symm).trans e2331
      have e2396 : (va_up f2284 q764 (.inl (E.2.2.1, 12, .inr (.inr (.inr (.inr (va_up g1024 i1021 (some q2214)))))))) q2214 = .inr (7, [.ref q2289, .ref o2300, .int (nI 0), .int (nI 0), .int (nI 0), .ref (T.1 0), .ref (T.1 0), .ref (T.1 0), .ref (T.1 0), .int (nI 36000), .int (nI 72000), .int (nI 15), .int (nI 0)]) := (q_ne (q_tag e2297 e2328 (show (7 : Nat) ≠ 1000 by decide))).trans e2297
      have e2397 : (va_up f2284 q764 (.inl (E.2.2.1, 12, .inr (.inr (.inr (.inr (va_up g1024 i1021 (some q2214)))))))) q2289 = .inr (3, [.ref q2290, .int (nI 0)]) := (q_ne (q_tag e2298 e2328 (show (3 : Nat) ≠ 1000 by decide))).trans e2298
      have e2398 : (va_up f2284 q764 (.inl (E.2.2.1, 12, .inr (.inr (.inr (.inr (va_up g1024 i1021 (some q2214)))))))) q2290 = .inl (E.1, 40, .inl g2291) := (q_ne (ne_mem nl2295 m2279).symm).trans e2299
      have hF2399 : ∀ x, x ∈ L → x ≠ xo → (va_up f2284 q764 (.inl (E.2.2.1, 12, .inr (.inr (.inr (.inr (va_up g1024 i1021 (some q2214)))))))) x = f x := fun x hx h0 => (q_ne (ne_mem nl769 hx)).trans (hF2332 x hx h0)
      have wh2400 : wP 7 2 1 (i1021 + 1) q852 (va_up f2284 q764 (.inl (E.2.2.1, 12, .inr (.inr (.inr (.inr (va_up g1024 i1021 (some q2214)))))))) (L2285) (va_up g1024 i1021 (some q2214)) := wP_push (wP_keep wh2301 ws2302 (fun x hx h0 ht => q_ne (q_tn ht e2328 (show (1000 : Nat) ≠ 7 by decide)))) m2365 (ne_mem hqq2214 m1057).symm e2396 rfl
      have Y : pH D cCl (pA L sz) s.heap L2285 (va_up f2284 q764 (.inl (E.2.2.1, 12, .inr (.inr (.inr (.inr (va_up g1024 i1021 (some q2214)))))))) H locs := Y
      generalize (va_up f2284 q764 (.inl (E.2.2.1, 12, .inr (.inr (.inr (.inr (va_up g1024 i1021 (some q2214)))))))) = f2366 at Y e2367 e2368 e2369 e2370 e2371 e2372 e2373 e2374 e2375 e2376 e2377 e2378 e2379 e2380 e2381 e2382 e2383 e2384 e2385 e2386 e2387 e2388 e2389 e2390 e2391 e2392 e2393 e2394 e2395 e2396 e2397 e2398 hF2399 wh2400
      refine lv_iinc (v := (nI (i1021 + 1))) (lv' := [(1, .int (nI (i1021 + 1))), (0, .ref xo)]) X.1 X.2.1 d_H_init_101 hl (k := 0) rfl (nI_add _ 1) (by decide) rfl (fun ls hl => ?_)
      refine lv_goto (tgt := 82) X.1 X.2.1 d_H_init_104 (by decide) ?_
      refine W.cs (cells' := 37 + (i1021 + 1) * 8) (slots' := 32224 + (i1021 + 1) * 1436) (by omega) (by omega) ?_
      exact ih1025  (i1021 + 1) L2285 f2366 (va_up g1024 i1021 (some q2214)) _ _ _ (by omega) (by omega) (by omega) ((va_up_ne _ _ (show (0 : Nat) ≠ i1021 by omega)).trans hz1089) s2333 m2336 m2337 m2338 m2339 m2340 m2341 m2342 m2343 m2344 m2345 m2346 m2347 m2348 m2349 m2350 m2351 m2352 m2353 m2354 m2355 m2356 m2357 m2358 m2359 m2360 m2361 m2362 m2363 m2364 e2368 e2369 e2370 e2371 e2372 e2373 e2374 e2375 e2376 e2377 e2378 e2379 e2380 e2381 e2382 e2383 e2384 e2385 e2386 e2387 e2388 e2389 e2390 e2391 e2392 e2367 e2393 e2394 e2395 hF2399 wh2400 Y (lv_sub hl [0, 1] rfl)
  exact lp1019 (11) 1 L915 f988 (va_up (fun _ => none) 0 (some q852)) _ _ _ (by omega) (by omega) (by omega) (va_up_self _ _ _) s958 m961 m962 m963 m964 m965 m966 m967 m968 m969 m970 m971 m972 m973 m974 m975 m976 m977 m978 m979 m980 m981 m982 m983 m984 m985 m986 m987 m922 m923 e990 e991 e992 e993 e994 e995 e996 e997 e998 e999 e1000 e1001 e1002 e1003 e1004 e1005 e1006 e1007 e1008 e1009 e1010 e1011 e1012 e1013 e1014 e989 e1015 e1016 e1017 hF1018 (fun j h1 h2 => absurd h2 (by omega)) Y (lv_sub hl [0, 1] rfl)
