/-! The law: its words, the rows of its calls. -/
/-! THE CLAIM OUT OF ONE WALK OF THE LAW'S BODY. Your part is whole_start (and what it stands on); all else here is the same for every law, but numbers. -/
def R_law : String := "RealmHouseLaw"
def lw_P (b : Addr) (xs : List Int32) (args : Array Value) (s : State) : Prop := args = #[.ref b] ∧ s.IntsAt b xs ∧ xs.length ≤ 4096 ∧ (Jvm.Cond.and given_1 narrow_1).before args s = true
def lw_Q (_ : Array Value) (s : State) (o : Outcome) (t : State) : Prop := o = .returned (some (.int 1)) ∧ Framed s o t [] 600000 7302250
def lw_Z (below : List Frame) (a : Array Value) (s : State) : State → Prop := fun t => ∃ o, t.status = .running ∧ Ended t below o ∧ lw_Q a s o t
/-- the law's own end, with 1 on the stack, nothing written that was there before, its room as the claim has it -/
theorem lw_ret {p : Program} {l : Launch} {e : Env} {s : State} {m : MethodId} {below : List Frame} {meth : Method} {c : Code} {b : Nat} (hx : p.tables.exec = Jvm.exec) (hb : c.code = code) (hr : meth.sig.returnType = ret) (hlocks : meth.locks = false) {pc : Nat} {H : Heap} {ls : Array Slot} (hdg : decode code pc = .ok (.ireturn, 1)) : W p l e room_1 s m #[Value.ref b] below meth c H [] 600000 7302250 (lw_Z below #[Value.ref b] s) (F0 m pc ls [.int 1]) := by
  intro T hT X
  obtain ⟨fs, hret, hrun, hended, hW, hframe⟩ := X.leave (v := some (.int 1)) (hlocks := hlocks) (fun h => by rw [hr] at h; cases h)
  have hmeth' : T.vm.method? m = some meth := X.method'
  refine ⟨T.setFrames fs, ?_, .returned (some (.int 1)), hrun, hended, rfl, ⟨_, rfl⟩, hW, hframe⟩
  jvm_step X.here [X.here.top, hx, hb, hdg, hmeth', hr, ret, narrow_b1]
  (try refine ⟨rfl, ?_⟩); (try refine ⟨rfl, ?_⟩)
  first | (intro acts; rw [hret _ acts rfl rfl rfl]) | rw [hret _ _ rfl rfl rfl]
  exact Steps.refl _
/-- what holds at the law's entry: the machine, the code, the tables' words (any of lw_tbl by 'hts w (by decide +kernel)'), the script of L ints xs at the cell b, what the Statement gives of the start (any of its parts by flat_of_before) -/
def lw_At (p : Program) (s : State) (m : MethodId) (meth : Method) (c : Code) (b L : Nat) (xs : Nat → Int32) : Prop :=
  p.tables.exec = Jvm.exec ∧ c.code = code ∧ meth.sig.returnType = ret ∧ c.maxLocals = 4 ∧ s.vm.findClass R_law = some m.cls ∧ (∀ w ∈ lw_tbl, w.before #[Value.ref b] s = true) ∧ va_X b L xs s s.heap ∧ b < s.heap.size ∧ meth.locks = false ∧ (Jvm.Cond.and given_1 narrow_1).before #[Value.ref b] s = true
theorem ck_L_H : Cond.classLink R_law 7 R_H ∈ lw_tg := in_t 20 (by decide +kernel)
theorem ck_L_M : Cond.classLink R_law 10 R_M ∈ lw_tg := in_t 1745 (by decide +kernel)
theorem kl_L_H_init : Cond.methodLink R_law 9 y_H_init ∈ lw_tg := in_t 22 (by decide +kernel)
theorem kl_L_M_init : Cond.methodLink R_law 12 y_init ∈ lw_tg := in_t 1747 (by decide +kernel)
theorem kl_L_H_feed : Cond.methodLink R_law 13 y_H_feed ∈ lw_tg := in_t 739 (by decide +kernel)
theorem kl_L_M_feed : Cond.methodLink R_law 17 y_M_feed ∈ lw_tg := in_t 2309 (by decide +kernel)
theorem kl_L_H_end : Cond.methodLink R_law 18 y_H_end ∈ lw_tg := in_t 744 (by decide +kernel)
theorem kl_L_M_end : Cond.methodLink R_law 22 y_M_end ∈ lw_tg := in_t 2313 (by decide +kernel)
theorem kl_L_H_carry : Cond.methodLink R_law 23 y_H_carry ∈ lw_tg := in_t 748 (by decide +kernel)
theorem kl_L_M_carry : Cond.methodLink R_law 27 y_M_carry ∈ lw_tg := in_t 2321 (by decide +kernel)
theorem kl_L_H_out : Cond.methodLink R_law 28 y_H_out ∈ lw_tg := in_t 754 (by decide +kernel)
theorem kl_L_M_out : Cond.methodLink R_law 32 y_M_out ∈ lw_tg := in_t 2317 (by decide +kernel)
theorem kl_L_H_clock : Cond.methodLink R_law 33 y_H_clock ∈ lw_tg := in_t 762 (by decide +kernel)
theorem kl_L_M_clock : Cond.methodLink R_law 36 y_M_clock ∈ lw_tg := in_t 2325 (by decide +kernel)
theorem kl_L_H_seed : Cond.methodLink R_law 37 y_H_seed ∈ lw_tg := in_t 767 (by decide +kernel)
theorem kl_L_M_seed : Cond.methodLink R_law 41 y_M_seed ∈ lw_tg := in_t 2330 (by decide +kernel)
theorem kl_L_H_principal : Cond.methodLink R_law 42 y_H_principal ∈ lw_tg := in_t 775 (by decide +kernel)
theorem kl_L_M_principal : Cond.methodLink R_law 45 y_M_principal ∈ lw_tg := in_t 2334 (by decide +kernel)
theorem kl_L_H_change : Cond.methodLink R_law 46 y_H_change ∈ lw_tg := in_t 810 (by decide +kernel)
theorem kl_L_M_change : Cond.methodLink R_law 49 y_M_change ∈ lw_tg := in_t 2338 (by decide +kernel)
theorem kl_L_H_policy : Cond.methodLink R_law 50 y_H_policy ∈ lw_tg := in_t 818 (by decide +kernel)
theorem kl_L_M_policy : Cond.methodLink R_law 54 y_M_policy ∈ lw_tg := in_t 2342 (by decide +kernel)
theorem kl_L_H_room : Cond.methodLink R_law 55 y_H_room ∈ lw_tg := in_t 830 (by decide +kernel)
theorem kl_L_M_room : Cond.methodLink R_law 58 y_M_room ∈ lw_tg := in_t 2348 (by decide +kernel)
theorem kl_L_H_kdc : Cond.methodLink R_law 59 y_H_kdc ∈ lw_tg := in_t 834 (by decide +kernel)
theorem kl_L_M_kdc : Cond.methodLink R_law 63 y_M_kdc ∈ lw_tg := in_t 2352 (by decide +kernel)
theorem kl_L_H_agent : Cond.methodLink R_law 64 y_H_agent ∈ lw_tg := in_t 1364 (by decide +kernel)
theorem kl_L_M_agent : Cond.methodLink R_law 68 y_M_agent ∈ lw_tg := in_t 2719 (by decide +kernel)
theorem kl_L_H_shift : Cond.methodLink R_law 69 y_H_shift ∈ lw_tg := in_t 1379 (by decide +kernel)
theorem kl_L_M_shift : Cond.methodLink R_law 72 y_M_shift ∈ lw_tg := in_t 2723 (by decide +kernel)
theorem kl_L_H_request : Cond.methodLink R_law 73 y_H_request ∈ lw_tg := in_t 1389 (by decide +kernel)
theorem kl_L_M_request : Cond.methodLink R_law 77 y_M_request ∈ lw_tg := in_t 2745 (by decide +kernel)
theorem kl_L_H_take : Cond.methodLink R_law 78 y_H_take ∈ lw_tg := in_t 1475 (by decide +kernel)
theorem kl_L_M_take : Cond.methodLink R_law 81 y_M_take ∈ lw_tg := in_t 2784 (by decide +kernel)
theorem kl_L_H_ticket : Cond.methodLink R_law 82 y_H_ticket ∈ lw_tg := in_t 1530 (by decide +kernel)
theorem kl_L_M_ticket : Cond.methodLink R_law 86 y_M_ticket ∈ lw_tg := in_t 2733 (by decide +kernel)
theorem kl_L_H_drop : Cond.methodLink R_law 87 y_H_drop ∈ lw_tg := in_t 1543 (by decide +kernel)
theorem kl_L_M_drop : Cond.methodLink R_law 90 y_M_drop ∈ lw_tg := in_t 2741 (by decide +kernel)
theorem kl_L_H_present : Cond.methodLink R_law 91 y_H_present ∈ lw_tg := in_t 1547 (by decide +kernel)
theorem kl_L_M_present : Cond.methodLink R_law 94 y_M_present ∈ lw_tg := in_t 2804 (by decide +kernel)
theorem kl_L_H_serve : Cond.methodLink R_law 95 y_H_serve ∈ lw_tg := in_t 1557 (by decide +kernel)
theorem kl_L_M_serve : Cond.methodLink R_law 98 y_M_serve ∈ lw_tg := in_t 2809 (by decide +kernel)
theorem kl_L_H_met : Cond.methodLink R_law 99 y_H_met ∈ lw_tg := in_t 1603 (by decide +kernel)
theorem kl_L_M_met : Cond.methodLink R_law 102 y_M_met ∈ lw_tg := in_t 2818 (by decide +kernel)
theorem kl_L_H_joins : Cond.methodLink R_law 103 y_H_joins ∈ lw_tg := in_t 1612 (by decide +kernel)
theorem kl_L_M_joins : Cond.methodLink R_law 106 y_M_joins ∈ lw_tg := in_t 2824 (by decide +kernel)
theorem kl_L_H_send : Cond.methodLink R_law 107 y_H_send ∈ lw_tg := in_t 1628 (by decide +kernel)
theorem kl_L_M_send : Cond.methodLink R_law 110 y_M_send ∈ lw_tg := in_t 2828 (by decide +kernel)
theorem kl_L_H_receive : Cond.methodLink R_law 111 y_H_receive ∈ lw_tg := in_t 1653 (by decide +kernel)
theorem kl_L_M_receive : Cond.methodLink R_law 114 y_M_receive ∈ lw_tg := in_t 2845 (by decide +kernel)
theorem kl_L_H_ends : Cond.methodLink R_law 115 y_H_ends ∈ lw_tg := in_t 1679 (by decide +kernel)
theorem kl_L_M_ends : Cond.methodLink R_law 118 y_M_ends ∈ lw_tg := in_t 2854 (by decide +kernel)
theorem kl_L_H_assure : Cond.methodLink R_law 119 y_H_assure ∈ lw_tg := in_t 1683 (by decide +kernel)
theorem kl_L_M_assure : Cond.methodLink R_law 122 y_M_assure ∈ lw_tg := in_t 2858 (by decide +kernel)
theorem kl_L_H_assured : Cond.methodLink R_law 123 y_H_assured ∈ lw_tg := in_t 1695 (by decide +kernel)
theorem kl_L_M_assured : Cond.methodLink R_law 126 y_M_assured ∈ lw_tg := in_t 2863 (by decide +kernel)
theorem kl_L_H_hand : Cond.methodLink R_law 127 y_H_hand ∈ lw_tg := in_t 1705 (by decide +kernel)
theorem kl_L_M_hand : Cond.methodLink R_law 130 y_M_hand ∈ lw_tg := in_t 2868 (by decide +kernel)
theorem kl_L_H_handed : Cond.methodLink R_law 131 y_H_handed ∈ lw_tg := in_t 1727 (by decide +kernel)
theorem kl_L_M_handed : Cond.methodLink R_law 134 y_M_handed ∈ lw_tg := in_t 2873 (by decide +kernel)
theorem d_law_0 : decode code 0 = .ok (.new 7, 3) := by decide +kernel
theorem d_law_3 : decode code 3 = .ok (.dup, 1) := by decide +kernel
theorem d_law_4 : decode code 4 = .ok (.invokespecial 9, 3) := by decide +kernel
theorem d_law_7 : decode code 7 = .ok (.astore_n 1, 1) := by decide +kernel
theorem d_law_8 : decode code 8 = .ok (.new 10, 3) := by decide +kernel
theorem d_law_11 : decode code 11 = .ok (.dup, 1) := by decide +kernel
theorem d_law_12 : decode code 12 = .ok (.invokespecial 12, 3) := by decide +kernel
theorem d_law_15 : decode code 15 = .ok (.astore_n 2, 1) := by decide +kernel
theorem d_law_16 : decode code 16 = .ok (.iconst 0, 1) := by decide +kernel
theorem d_law_17 : decode code 17 = .ok (.istore_n 3, 1) := by decide +kernel
theorem d_law_18 : decode code 18 = .ok (.iload_n 3, 1) := by decide +kernel
theorem d_law_19 : decode code 19 = .ok (.aload_n 0, 1) := by decide +kernel
theorem d_law_20 : decode code 20 = .ok (.arraylength, 1) := by decide +kernel
theorem d_law_21 : decode code 21 = .ok (.bipush 8, 2) := by decide +kernel
theorem d_law_23 : decode code 23 = .ok (.isub, 1) := by decide +kernel
theorem d_law_24 : decode code 24 = .ok (.if_icmp .gt 1050, 3) := by decide +kernel
theorem d_law_27 : decode code 27 = .ok (.aload_n 0, 1) := by decide +kernel
theorem d_law_28 : decode code 28 = .ok (.iload_n 3, 1) := by decide +kernel
theorem d_law_29 : decode code 29 = .ok (.iaload, 1) := by decide +kernel
theorem d_law_30 : decode code 30 = .ok (.bipush 31, 2) := by decide +kernel
theorem d_law_32 : decode code 32 = .ok (.iand, 1) := by decide +kernel
theorem d_law_33 : decode code 33 = .ok (.tableswitch 1035 0 27 #[127, 190, 213, 246, 269, 292, 305, 328, 361, 404, 427, 440, 473, 506, 593, 616, 659, 692, 735, 758, 781, 814, 847, 880, 903, 936, 969, 1002], 127) := by decide +kernel
theorem d_law_160 : decode code 160 = .ok (.aload_n 1, 1) := by decide +kernel
theorem d_law_161 : decode code 161 = .ok (.aload_n 0, 1) := by decide +kernel
theorem d_law_162 : decode code 162 = .ok (.iload_n 3, 1) := by decide +kernel
theorem d_law_163 : decode code 163 = .ok (.iconst 1, 1) := by decide +kernel
theorem d_law_164 : decode code 164 = .ok (.iadd, 1) := by decide +kernel
theorem d_law_165 : decode code 165 = .ok (.iaload, 1) := by decide +kernel
theorem d_law_166 : decode code 166 = .ok (.aload_n 0, 1) := by decide +kernel
theorem d_law_167 : decode code 167 = .ok (.iload_n 3, 1) := by decide +kernel
theorem d_law_168 : decode code 168 = .ok (.iconst 2, 1) := by decide +kernel
theorem d_law_169 : decode code 169 = .ok (.iadd, 1) := by decide +kernel
theorem d_law_170 : decode code 170 = .ok (.iaload, 1) := by decide +kernel
theorem d_law_171 : decode code 171 = .ok (.aload_n 0, 1) := by decide +kernel
theorem d_law_172 : decode code 172 = .ok (.iload_n 3, 1) := by decide +kernel
theorem d_law_173 : decode code 173 = .ok (.iconst 3, 1) := by decide +kernel
theorem d_law_174 : decode code 174 = .ok (.iadd, 1) := by decide +kernel
theorem d_law_175 : decode code 175 = .ok (.iaload, 1) := by decide +kernel
theorem d_law_176 : decode code 176 = .ok (.aload_n 0, 1) := by decide +kernel
theorem d_law_177 : decode code 177 = .ok (.iload_n 3, 1) := by decide +kernel
theorem d_law_178 : decode code 178 = .ok (.iconst 4, 1) := by decide +kernel
theorem d_law_179 : decode code 179 = .ok (.iadd, 1) := by decide +kernel
theorem d_law_180 : decode code 180 = .ok (.iaload, 1) := by decide +kernel
theorem d_law_181 : decode code 181 = .ok (.aload_n 0, 1) := by decide +kernel
theorem d_law_182 : decode code 182 = .ok (.iload_n 3, 1) := by decide +kernel
theorem d_law_183 : decode code 183 = .ok (.iconst 5, 1) := by decide +kernel
theorem d_law_184 : decode code 184 = .ok (.iadd, 1) := by decide +kernel
theorem d_law_185 : decode code 185 = .ok (.iaload, 1) := by decide +kernel
theorem d_law_186 : decode code 186 = .ok (.invokevirtual 13, 3) := by decide +kernel
theorem d_law_189 : decode code 189 = .ok (.pop, 1) := by decide +kernel
theorem d_law_190 : decode code 190 = .ok (.aload_n 2, 1) := by decide +kernel
theorem d_law_191 : decode code 191 = .ok (.aload_n 0, 1) := by decide +kernel
theorem d_law_192 : decode code 192 = .ok (.iload_n 3, 1) := by decide +kernel
theorem d_law_193 : decode code 193 = .ok (.iconst 1, 1) := by decide +kernel
theorem d_law_194 : decode code 194 = .ok (.iadd, 1) := by decide +kernel
theorem d_law_195 : decode code 195 = .ok (.iaload, 1) := by decide +kernel
theorem d_law_196 : decode code 196 = .ok (.aload_n 0, 1) := by decide +kernel
theorem d_law_197 : decode code 197 = .ok (.iload_n 3, 1) := by decide +kernel
theorem d_law_198 : decode code 198 = .ok (.iconst 2, 1) := by decide +kernel
theorem d_law_199 : decode code 199 = .ok (.iadd, 1) := by decide +kernel
theorem d_law_200 : decode code 200 = .ok (.iaload, 1) := by decide +kernel
theorem d_law_201 : decode code 201 = .ok (.aload_n 0, 1) := by decide +kernel
theorem d_law_202 : decode code 202 = .ok (.iload_n 3, 1) := by decide +kernel
theorem d_law_203 : decode code 203 = .ok (.iconst 3, 1) := by decide +kernel
theorem d_law_204 : decode code 204 = .ok (.iadd, 1) := by decide +kernel
theorem d_law_205 : decode code 205 = .ok (.iaload, 1) := by decide +kernel
theorem d_law_206 : decode code 206 = .ok (.aload_n 0, 1) := by decide +kernel
theorem d_law_207 : decode code 207 = .ok (.iload_n 3, 1) := by decide +kernel
theorem d_law_208 : decode code 208 = .ok (.iconst 4, 1) := by decide +kernel
theorem d_law_209 : decode code 209 = .ok (.iadd, 1) := by decide +kernel
theorem d_law_210 : decode code 210 = .ok (.iaload, 1) := by decide +kernel
theorem d_law_211 : decode code 211 = .ok (.aload_n 0, 1) := by decide +kernel
theorem d_law_212 : decode code 212 = .ok (.iload_n 3, 1) := by decide +kernel
theorem d_law_213 : decode code 213 = .ok (.iconst 5, 1) := by decide +kernel
theorem d_law_214 : decode code 214 = .ok (.iadd, 1) := by decide +kernel
theorem d_law_215 : decode code 215 = .ok (.iaload, 1) := by decide +kernel
theorem d_law_216 : decode code 216 = .ok (.invokevirtual 17, 3) := by decide +kernel
theorem d_law_219 : decode code 219 = .ok (.pop, 1) := by decide +kernel
theorem d_law_220 : decode code 220 = .ok (.goto 848, 3) := by decide +kernel
theorem d_law_223 : decode code 223 = .ok (.aload_n 1, 1) := by decide +kernel
theorem d_law_224 : decode code 224 = .ok (.aload_n 0, 1) := by decide +kernel
theorem d_law_225 : decode code 225 = .ok (.iload_n 3, 1) := by decide +kernel
theorem d_law_226 : decode code 226 = .ok (.iconst 1, 1) := by decide +kernel
theorem d_law_227 : decode code 227 = .ok (.iadd, 1) := by decide +kernel
theorem d_law_228 : decode code 228 = .ok (.iaload, 1) := by decide +kernel
theorem d_law_229 : decode code 229 = .ok (.invokevirtual 18, 3) := by decide +kernel
theorem d_law_232 : decode code 232 = .ok (.pop, 1) := by decide +kernel
theorem d_law_233 : decode code 233 = .ok (.aload_n 2, 1) := by decide +kernel
theorem d_law_234 : decode code 234 = .ok (.aload_n 0, 1) := by decide +kernel
theorem d_law_235 : decode code 235 = .ok (.iload_n 3, 1) := by decide +kernel
theorem d_law_236 : decode code 236 = .ok (.iconst 1, 1) := by decide +kernel
theorem d_law_237 : decode code 237 = .ok (.iadd, 1) := by decide +kernel
theorem d_law_238 : decode code 238 = .ok (.iaload, 1) := by decide +kernel
theorem d_law_239 : decode code 239 = .ok (.invokevirtual 22, 3) := by decide +kernel
theorem d_law_242 : decode code 242 = .ok (.pop, 1) := by decide +kernel
theorem d_law_243 : decode code 243 = .ok (.goto 825, 3) := by decide +kernel
theorem d_law_246 : decode code 246 = .ok (.aload_n 1, 1) := by decide +kernel
theorem d_law_247 : decode code 247 = .ok (.aload_n 0, 1) := by decide +kernel
theorem d_law_248 : decode code 248 = .ok (.iload_n 3, 1) := by decide +kernel
theorem d_law_249 : decode code 249 = .ok (.iconst 1, 1) := by decide +kernel
theorem d_law_250 : decode code 250 = .ok (.iadd, 1) := by decide +kernel
theorem d_law_251 : decode code 251 = .ok (.iaload, 1) := by decide +kernel
theorem d_law_252 : decode code 252 = .ok (.aload_n 0, 1) := by decide +kernel
theorem d_law_253 : decode code 253 = .ok (.iload_n 3, 1) := by decide +kernel
theorem d_law_254 : decode code 254 = .ok (.iconst 2, 1) := by decide +kernel
theorem d_law_255 : decode code 255 = .ok (.iadd, 1) := by decide +kernel
theorem d_law_256 : decode code 256 = .ok (.iaload, 1) := by decide +kernel
theorem d_law_257 : decode code 257 = .ok (.invokevirtual 23, 3) := by decide +kernel
theorem d_law_260 : decode code 260 = .ok (.pop, 1) := by decide +kernel
theorem d_law_261 : decode code 261 = .ok (.aload_n 2, 1) := by decide +kernel
theorem d_law_262 : decode code 262 = .ok (.aload_n 0, 1) := by decide +kernel
theorem d_law_263 : decode code 263 = .ok (.iload_n 3, 1) := by decide +kernel
theorem d_law_264 : decode code 264 = .ok (.iconst 1, 1) := by decide +kernel
theorem d_law_265 : decode code 265 = .ok (.iadd, 1) := by decide +kernel
theorem d_law_266 : decode code 266 = .ok (.iaload, 1) := by decide +kernel
theorem d_law_267 : decode code 267 = .ok (.aload_n 0, 1) := by decide +kernel
theorem d_law_268 : decode code 268 = .ok (.iload_n 3, 1) := by decide +kernel
theorem d_law_269 : decode code 269 = .ok (.iconst 2, 1) := by decide +kernel
theorem d_law_270 : decode code 270 = .ok (.iadd, 1) := by decide +kernel
theorem d_law_271 : decode code 271 = .ok (.iaload, 1) := by decide +kernel
theorem d_law_272 : decode code 272 = .ok (.invokevirtual 27, 3) := by decide +kernel
theorem d_law_275 : decode code 275 = .ok (.pop, 1) := by decide +kernel
theorem d_law_276 : decode code 276 = .ok (.goto 792, 3) := by decide +kernel
theorem d_law_279 : decode code 279 = .ok (.aload_n 1, 1) := by decide +kernel
theorem d_law_280 : decode code 280 = .ok (.aload_n 0, 1) := by decide +kernel
theorem d_law_281 : decode code 281 = .ok (.iload_n 3, 1) := by decide +kernel
theorem d_law_282 : decode code 282 = .ok (.iconst 1, 1) := by decide +kernel
theorem d_law_283 : decode code 283 = .ok (.iadd, 1) := by decide +kernel
theorem d_law_284 : decode code 284 = .ok (.iaload, 1) := by decide +kernel
theorem d_law_285 : decode code 285 = .ok (.invokevirtual 28, 3) := by decide +kernel
theorem d_law_288 : decode code 288 = .ok (.pop, 1) := by decide +kernel
theorem d_law_289 : decode code 289 = .ok (.aload_n 2, 1) := by decide +kernel
theorem d_law_290 : decode code 290 = .ok (.aload_n 0, 1) := by decide +kernel
theorem d_law_291 : decode code 291 = .ok (.iload_n 3, 1) := by decide +kernel
theorem d_law_292 : decode code 292 = .ok (.iconst 1, 1) := by decide +kernel
theorem d_law_293 : decode code 293 = .ok (.iadd, 1) := by decide +kernel
theorem d_law_294 : decode code 294 = .ok (.iaload, 1) := by decide +kernel
theorem d_law_295 : decode code 295 = .ok (.invokevirtual 32, 3) := by decide +kernel
theorem d_law_298 : decode code 298 = .ok (.pop, 1) := by decide +kernel
theorem d_law_299 : decode code 299 = .ok (.goto 769, 3) := by decide +kernel
theorem d_law_302 : decode code 302 = .ok (.aload_n 1, 1) := by decide +kernel
theorem d_law_303 : decode code 303 = .ok (.aload_n 0, 1) := by decide +kernel
theorem d_law_304 : decode code 304 = .ok (.iload_n 3, 1) := by decide +kernel
theorem d_law_305 : decode code 305 = .ok (.iconst 1, 1) := by decide +kernel
theorem d_law_306 : decode code 306 = .ok (.iadd, 1) := by decide +kernel
theorem d_law_307 : decode code 307 = .ok (.iaload, 1) := by decide +kernel
theorem d_law_308 : decode code 308 = .ok (.invokevirtual 33, 3) := by decide +kernel
theorem d_law_311 : decode code 311 = .ok (.pop, 1) := by decide +kernel
theorem d_law_312 : decode code 312 = .ok (.aload_n 2, 1) := by decide +kernel
theorem d_law_313 : decode code 313 = .ok (.aload_n 0, 1) := by decide +kernel
theorem d_law_314 : decode code 314 = .ok (.iload_n 3, 1) := by decide +kernel
theorem d_law_315 : decode code 315 = .ok (.iconst 1, 1) := by decide +kernel
theorem d_law_316 : decode code 316 = .ok (.iadd, 1) := by decide +kernel
theorem d_law_317 : decode code 317 = .ok (.iaload, 1) := by decide +kernel
theorem d_law_318 : decode code 318 = .ok (.invokevirtual 36, 3) := by decide +kernel
theorem d_law_321 : decode code 321 = .ok (.pop, 1) := by decide +kernel
theorem d_law_322 : decode code 322 = .ok (.goto 746, 3) := by decide +kernel
theorem d_law_325 : decode code 325 = .ok (.aload_n 1, 1) := by decide +kernel
theorem d_law_326 : decode code 326 = .ok (.invokevirtual 37, 3) := by decide +kernel
theorem d_law_329 : decode code 329 = .ok (.pop, 1) := by decide +kernel
theorem d_law_330 : decode code 330 = .ok (.aload_n 2, 1) := by decide +kernel
theorem d_law_331 : decode code 331 = .ok (.invokevirtual 41, 3) := by decide +kernel
theorem d_law_334 : decode code 334 = .ok (.pop, 1) := by decide +kernel
theorem d_law_335 : decode code 335 = .ok (.goto 733, 3) := by decide +kernel
theorem d_law_338 : decode code 338 = .ok (.aload_n 1, 1) := by decide +kernel
theorem d_law_339 : decode code 339 = .ok (.aload_n 0, 1) := by decide +kernel
theorem d_law_340 : decode code 340 = .ok (.iload_n 3, 1) := by decide +kernel
theorem d_law_341 : decode code 341 = .ok (.iconst 1, 1) := by decide +kernel
theorem d_law_342 : decode code 342 = .ok (.iadd, 1) := by decide +kernel
theorem d_law_343 : decode code 343 = .ok (.iaload, 1) := by decide +kernel
theorem d_law_344 : decode code 344 = .ok (.invokevirtual 42, 3) := by decide +kernel
theorem d_law_347 : decode code 347 = .ok (.pop, 1) := by decide +kernel
theorem d_law_348 : decode code 348 = .ok (.aload_n 2, 1) := by decide +kernel
theorem d_law_349 : decode code 349 = .ok (.aload_n 0, 1) := by decide +kernel
theorem d_law_350 : decode code 350 = .ok (.iload_n 3, 1) := by decide +kernel
theorem d_law_351 : decode code 351 = .ok (.iconst 1, 1) := by decide +kernel
theorem d_law_352 : decode code 352 = .ok (.iadd, 1) := by decide +kernel
theorem d_law_353 : decode code 353 = .ok (.iaload, 1) := by decide +kernel
theorem d_law_354 : decode code 354 = .ok (.invokevirtual 45, 3) := by decide +kernel
theorem d_law_357 : decode code 357 = .ok (.pop, 1) := by decide +kernel
theorem d_law_358 : decode code 358 = .ok (.goto 710, 3) := by decide +kernel
theorem d_law_361 : decode code 361 = .ok (.aload_n 1, 1) := by decide +kernel
theorem d_law_362 : decode code 362 = .ok (.aload_n 0, 1) := by decide +kernel
theorem d_law_363 : decode code 363 = .ok (.iload_n 3, 1) := by decide +kernel
theorem d_law_364 : decode code 364 = .ok (.iconst 1, 1) := by decide +kernel
theorem d_law_365 : decode code 365 = .ok (.iadd, 1) := by decide +kernel
theorem d_law_366 : decode code 366 = .ok (.iaload, 1) := by decide +kernel
theorem d_law_367 : decode code 367 = .ok (.aload_n 0, 1) := by decide +kernel
theorem d_law_368 : decode code 368 = .ok (.iload_n 3, 1) := by decide +kernel
theorem d_law_369 : decode code 369 = .ok (.iconst 2, 1) := by decide +kernel
theorem d_law_370 : decode code 370 = .ok (.iadd, 1) := by decide +kernel
theorem d_law_371 : decode code 371 = .ok (.iaload, 1) := by decide +kernel
theorem d_law_372 : decode code 372 = .ok (.invokevirtual 46, 3) := by decide +kernel
theorem d_law_375 : decode code 375 = .ok (.pop, 1) := by decide +kernel
theorem d_law_376 : decode code 376 = .ok (.aload_n 2, 1) := by decide +kernel
theorem d_law_377 : decode code 377 = .ok (.aload_n 0, 1) := by decide +kernel
theorem d_law_378 : decode code 378 = .ok (.iload_n 3, 1) := by decide +kernel
theorem d_law_379 : decode code 379 = .ok (.iconst 1, 1) := by decide +kernel
theorem d_law_380 : decode code 380 = .ok (.iadd, 1) := by decide +kernel
theorem d_law_381 : decode code 381 = .ok (.iaload, 1) := by decide +kernel
theorem d_law_382 : decode code 382 = .ok (.aload_n 0, 1) := by decide +kernel
theorem d_law_383 : decode code 383 = .ok (.iload_n 3, 1) := by decide +kernel
theorem d_law_384 : decode code 384 = .ok (.iconst 2, 1) := by decide +kernel
theorem d_law_385 : decode code 385 = .ok (.iadd, 1) := by decide +kernel
theorem d_law_386 : decode code 386 = .ok (.iaload, 1) := by decide +kernel
theorem d_law_387 : decode code 387 = .ok (.invokevirtual 49, 3) := by decide +kernel
theorem d_law_390 : decode code 390 = .ok (.pop, 1) := by decide +kernel
theorem d_law_391 : decode code 391 = .ok (.goto 677, 3) := by decide +kernel
theorem d_law_394 : decode code 394 = .ok (.aload_n 1, 1) := by decide +kernel
theorem d_law_395 : decode code 395 = .ok (.aload_n 0, 1) := by decide +kernel
theorem d_law_396 : decode code 396 = .ok (.iload_n 3, 1) := by decide +kernel
theorem d_law_397 : decode code 397 = .ok (.iconst 1, 1) := by decide +kernel
theorem d_law_398 : decode code 398 = .ok (.iadd, 1) := by decide +kernel
theorem d_law_399 : decode code 399 = .ok (.iaload, 1) := by decide +kernel
theorem d_law_400 : decode code 400 = .ok (.aload_n 0, 1) := by decide +kernel
theorem d_law_401 : decode code 401 = .ok (.iload_n 3, 1) := by decide +kernel
theorem d_law_402 : decode code 402 = .ok (.iconst 2, 1) := by decide +kernel
theorem d_law_403 : decode code 403 = .ok (.iadd, 1) := by decide +kernel
theorem d_law_404 : decode code 404 = .ok (.iaload, 1) := by decide +kernel
theorem d_law_405 : decode code 405 = .ok (.aload_n 0, 1) := by decide +kernel
theorem d_law_406 : decode code 406 = .ok (.iload_n 3, 1) := by decide +kernel
theorem d_law_407 : decode code 407 = .ok (.iconst 3, 1) := by decide +kernel
theorem d_law_408 : decode code 408 = .ok (.iadd, 1) := by decide +kernel
theorem d_law_409 : decode code 409 = .ok (.iaload, 1) := by decide +kernel
theorem d_law_410 : decode code 410 = .ok (.invokevirtual 50, 3) := by decide +kernel
theorem d_law_413 : decode code 413 = .ok (.pop, 1) := by decide +kernel
theorem d_law_414 : decode code 414 = .ok (.aload_n 2, 1) := by decide +kernel
theorem d_law_415 : decode code 415 = .ok (.aload_n 0, 1) := by decide +kernel
theorem d_law_416 : decode code 416 = .ok (.iload_n 3, 1) := by decide +kernel
theorem d_law_417 : decode code 417 = .ok (.iconst 1, 1) := by decide +kernel
theorem d_law_418 : decode code 418 = .ok (.iadd, 1) := by decide +kernel
theorem d_law_419 : decode code 419 = .ok (.iaload, 1) := by decide +kernel
theorem d_law_420 : decode code 420 = .ok (.aload_n 0, 1) := by decide +kernel
theorem d_law_421 : decode code 421 = .ok (.iload_n 3, 1) := by decide +kernel
theorem d_law_422 : decode code 422 = .ok (.iconst 2, 1) := by decide +kernel
theorem d_law_423 : decode code 423 = .ok (.iadd, 1) := by decide +kernel
theorem d_law_424 : decode code 424 = .ok (.iaload, 1) := by decide +kernel
theorem d_law_425 : decode code 425 = .ok (.aload_n 0, 1) := by decide +kernel
theorem d_law_426 : decode code 426 = .ok (.iload_n 3, 1) := by decide +kernel
theorem d_law_427 : decode code 427 = .ok (.iconst 3, 1) := by decide +kernel
theorem d_law_428 : decode code 428 = .ok (.iadd, 1) := by decide +kernel
theorem d_law_429 : decode code 429 = .ok (.iaload, 1) := by decide +kernel
theorem d_law_430 : decode code 430 = .ok (.invokevirtual 54, 3) := by decide +kernel
theorem d_law_433 : decode code 433 = .ok (.pop, 1) := by decide +kernel
theorem d_law_434 : decode code 434 = .ok (.goto 634, 3) := by decide +kernel
theorem d_law_437 : decode code 437 = .ok (.aload_n 1, 1) := by decide +kernel
theorem d_law_438 : decode code 438 = .ok (.aload_n 0, 1) := by decide +kernel
theorem d_law_439 : decode code 439 = .ok (.iload_n 3, 1) := by decide +kernel
theorem d_law_440 : decode code 440 = .ok (.iconst 1, 1) := by decide +kernel
theorem d_law_441 : decode code 441 = .ok (.iadd, 1) := by decide +kernel
theorem d_law_442 : decode code 442 = .ok (.iaload, 1) := by decide +kernel
theorem d_law_443 : decode code 443 = .ok (.invokevirtual 55, 3) := by decide +kernel
theorem d_law_446 : decode code 446 = .ok (.aload_n 2, 1) := by decide +kernel
theorem d_law_447 : decode code 447 = .ok (.aload_n 0, 1) := by decide +kernel
theorem d_law_448 : decode code 448 = .ok (.iload_n 3, 1) := by decide +kernel
theorem d_law_449 : decode code 449 = .ok (.iconst 1, 1) := by decide +kernel
theorem d_law_450 : decode code 450 = .ok (.iadd, 1) := by decide +kernel
theorem d_law_451 : decode code 451 = .ok (.iaload, 1) := by decide +kernel
theorem d_law_452 : decode code 452 = .ok (.invokevirtual 58, 3) := by decide +kernel
theorem d_law_455 : decode code 455 = .ok (.if_icmp .eq 613, 3) := by decide +kernel
theorem d_law_458 : decode code 458 = .ok (.iconst 0, 1) := by decide +kernel
theorem d_law_459 : decode code 459 = .ok (.ireturn, 1) := by decide +kernel
theorem d_law_460 : decode code 460 = .ok (.aload_n 1, 1) := by decide +kernel
theorem d_law_461 : decode code 461 = .ok (.invokevirtual 59, 3) := by decide +kernel
theorem d_law_464 : decode code 464 = .ok (.pop, 1) := by decide +kernel
theorem d_law_465 : decode code 465 = .ok (.aload_n 2, 1) := by decide +kernel
theorem d_law_466 : decode code 466 = .ok (.invokevirtual 63, 3) := by decide +kernel
theorem d_law_469 : decode code 469 = .ok (.pop, 1) := by decide +kernel
theorem d_law_470 : decode code 470 = .ok (.goto 598, 3) := by decide +kernel
theorem d_law_473 : decode code 473 = .ok (.aload_n 1, 1) := by decide +kernel
theorem d_law_474 : decode code 474 = .ok (.aload_n 0, 1) := by decide +kernel
theorem d_law_475 : decode code 475 = .ok (.iload_n 3, 1) := by decide +kernel
theorem d_law_476 : decode code 476 = .ok (.iconst 1, 1) := by decide +kernel
theorem d_law_477 : decode code 477 = .ok (.iadd, 1) := by decide +kernel
theorem d_law_478 : decode code 478 = .ok (.iaload, 1) := by decide +kernel
theorem d_law_479 : decode code 479 = .ok (.aload_n 0, 1) := by decide +kernel
theorem d_law_480 : decode code 480 = .ok (.iload_n 3, 1) := by decide +kernel
theorem d_law_481 : decode code 481 = .ok (.iconst 2, 1) := by decide +kernel
theorem d_law_482 : decode code 482 = .ok (.iadd, 1) := by decide +kernel
theorem d_law_483 : decode code 483 = .ok (.iaload, 1) := by decide +kernel
theorem d_law_484 : decode code 484 = .ok (.invokevirtual 64, 3) := by decide +kernel
theorem d_law_487 : decode code 487 = .ok (.pop, 1) := by decide +kernel
theorem d_law_488 : decode code 488 = .ok (.aload_n 2, 1) := by decide +kernel
theorem d_law_489 : decode code 489 = .ok (.aload_n 0, 1) := by decide +kernel
theorem d_law_490 : decode code 490 = .ok (.iload_n 3, 1) := by decide +kernel
theorem d_law_491 : decode code 491 = .ok (.iconst 1, 1) := by decide +kernel
theorem d_law_492 : decode code 492 = .ok (.iadd, 1) := by decide +kernel
theorem d_law_493 : decode code 493 = .ok (.iaload, 1) := by decide +kernel
theorem d_law_494 : decode code 494 = .ok (.aload_n 0, 1) := by decide +kernel
theorem d_law_495 : decode code 495 = .ok (.iload_n 3, 1) := by decide +kernel
theorem d_law_496 : decode code 496 = .ok (.iconst 2, 1) := by decide +kernel
theorem d_law_497 : decode code 497 = .ok (.iadd, 1) := by decide +kernel
theorem d_law_498 : decode code 498 = .ok (.iaload, 1) := by decide +kernel
theorem d_law_499 : decode code 499 = .ok (.invokevirtual 68, 3) := by decide +kernel
theorem d_law_502 : decode code 502 = .ok (.pop, 1) := by decide +kernel
theorem d_law_503 : decode code 503 = .ok (.goto 565, 3) := by decide +kernel
theorem d_law_506 : decode code 506 = .ok (.aload_n 1, 1) := by decide +kernel
theorem d_law_507 : decode code 507 = .ok (.aload_n 0, 1) := by decide +kernel
theorem d_law_508 : decode code 508 = .ok (.iload_n 3, 1) := by decide +kernel
theorem d_law_509 : decode code 509 = .ok (.iconst 1, 1) := by decide +kernel
theorem d_law_510 : decode code 510 = .ok (.iadd, 1) := by decide +kernel
theorem d_law_511 : decode code 511 = .ok (.iaload, 1) := by decide +kernel
theorem d_law_512 : decode code 512 = .ok (.aload_n 0, 1) := by decide +kernel
theorem d_law_513 : decode code 513 = .ok (.iload_n 3, 1) := by decide +kernel
theorem d_law_514 : decode code 514 = .ok (.iconst 2, 1) := by decide +kernel
theorem d_law_515 : decode code 515 = .ok (.iadd, 1) := by decide +kernel
theorem d_law_516 : decode code 516 = .ok (.iaload, 1) := by decide +kernel
theorem d_law_517 : decode code 517 = .ok (.invokevirtual 69, 3) := by decide +kernel
theorem d_law_520 : decode code 520 = .ok (.pop, 1) := by decide +kernel
theorem d_law_521 : decode code 521 = .ok (.aload_n 2, 1) := by decide +kernel
theorem d_law_522 : decode code 522 = .ok (.aload_n 0, 1) := by decide +kernel
theorem d_law_523 : decode code 523 = .ok (.iload_n 3, 1) := by decide +kernel
theorem d_law_524 : decode code 524 = .ok (.iconst 1, 1) := by decide +kernel
theorem d_law_525 : decode code 525 = .ok (.iadd, 1) := by decide +kernel
theorem d_law_526 : decode code 526 = .ok (.iaload, 1) := by decide +kernel
theorem d_law_527 : decode code 527 = .ok (.aload_n 0, 1) := by decide +kernel
theorem d_law_528 : decode code 528 = .ok (.iload_n 3, 1) := by decide +kernel
theorem d_law_529 : decode code 529 = .ok (.iconst 2, 1) := by decide +kernel
theorem d_law_530 : decode code 530 = .ok (.iadd, 1) := by decide +kernel
theorem d_law_531 : decode code 531 = .ok (.iaload, 1) := by decide +kernel
theorem d_law_532 : decode code 532 = .ok (.invokevirtual 72, 3) := by decide +kernel
theorem d_law_535 : decode code 535 = .ok (.pop, 1) := by decide +kernel
theorem d_law_536 : decode code 536 = .ok (.goto 532, 3) := by decide +kernel
theorem d_law_539 : decode code 539 = .ok (.aload_n 1, 1) := by decide +kernel
theorem d_law_540 : decode code 540 = .ok (.aload_n 0, 1) := by decide +kernel
theorem d_law_541 : decode code 541 = .ok (.iload_n 3, 1) := by decide +kernel
theorem d_law_542 : decode code 542 = .ok (.iconst 1, 1) := by decide +kernel
theorem d_law_543 : decode code 543 = .ok (.iadd, 1) := by decide +kernel
theorem d_law_544 : decode code 544 = .ok (.iaload, 1) := by decide +kernel
theorem d_law_545 : decode code 545 = .ok (.aload_n 0, 1) := by decide +kernel
theorem d_law_546 : decode code 546 = .ok (.iload_n 3, 1) := by decide +kernel
theorem d_law_547 : decode code 547 = .ok (.iconst 2, 1) := by decide +kernel
theorem d_law_548 : decode code 548 = .ok (.iadd, 1) := by decide +kernel
theorem d_law_549 : decode code 549 = .ok (.iaload, 1) := by decide +kernel
theorem d_law_550 : decode code 550 = .ok (.aload_n 0, 1) := by decide +kernel
theorem d_law_551 : decode code 551 = .ok (.iload_n 3, 1) := by decide +kernel
theorem d_law_552 : decode code 552 = .ok (.iconst 3, 1) := by decide +kernel
theorem d_law_553 : decode code 553 = .ok (.iadd, 1) := by decide +kernel
theorem d_law_554 : decode code 554 = .ok (.iaload, 1) := by decide +kernel
theorem d_law_555 : decode code 555 = .ok (.aload_n 0, 1) := by decide +kernel
theorem d_law_556 : decode code 556 = .ok (.iload_n 3, 1) := by decide +kernel
theorem d_law_557 : decode code 557 = .ok (.iconst 4, 1) := by decide +kernel
theorem d_law_558 : decode code 558 = .ok (.iadd, 1) := by decide +kernel
theorem d_law_559 : decode code 559 = .ok (.iaload, 1) := by decide +kernel
theorem d_law_560 : decode code 560 = .ok (.aload_n 0, 1) := by decide +kernel
theorem d_law_561 : decode code 561 = .ok (.iload_n 3, 1) := by decide +kernel
theorem d_law_562 : decode code 562 = .ok (.iconst 5, 1) := by decide +kernel
theorem d_law_563 : decode code 563 = .ok (.iadd, 1) := by decide +kernel
theorem d_law_564 : decode code 564 = .ok (.iaload, 1) := by decide +kernel
theorem d_law_565 : decode code 565 = .ok (.aload_n 0, 1) := by decide +kernel
theorem d_law_566 : decode code 566 = .ok (.iload_n 3, 1) := by decide +kernel
theorem d_law_567 : decode code 567 = .ok (.bipush 6, 2) := by decide +kernel
theorem d_law_569 : decode code 569 = .ok (.iadd, 1) := by decide +kernel
theorem d_law_570 : decode code 570 = .ok (.iaload, 1) := by decide +kernel
theorem d_law_571 : decode code 571 = .ok (.aload_n 0, 1) := by decide +kernel
theorem d_law_572 : decode code 572 = .ok (.iload_n 3, 1) := by decide +kernel
theorem d_law_573 : decode code 573 = .ok (.bipush 7, 2) := by decide +kernel
theorem d_law_575 : decode code 575 = .ok (.iadd, 1) := by decide +kernel
theorem d_law_576 : decode code 576 = .ok (.iaload, 1) := by decide +kernel
theorem d_law_577 : decode code 577 = .ok (.invokevirtual 73, 3) := by decide +kernel
theorem d_law_580 : decode code 580 = .ok (.pop, 1) := by decide +kernel
theorem d_law_581 : decode code 581 = .ok (.aload_n 2, 1) := by decide +kernel
theorem d_law_582 : decode code 582 = .ok (.aload_n 0, 1) := by decide +kernel
theorem d_law_583 : decode code 583 = .ok (.iload_n 3, 1) := by decide +kernel
theorem d_law_584 : decode code 584 = .ok (.iconst 1, 1) := by decide +kernel
theorem d_law_585 : decode code 585 = .ok (.iadd, 1) := by decide +kernel
theorem d_law_586 : decode code 586 = .ok (.iaload, 1) := by decide +kernel
theorem d_law_587 : decode code 587 = .ok (.aload_n 0, 1) := by decide +kernel
theorem d_law_588 : decode code 588 = .ok (.iload_n 3, 1) := by decide +kernel
theorem d_law_589 : decode code 589 = .ok (.iconst 2, 1) := by decide +kernel
theorem d_law_590 : decode code 590 = .ok (.iadd, 1) := by decide +kernel
theorem d_law_591 : decode code 591 = .ok (.iaload, 1) := by decide +kernel
theorem d_law_592 : decode code 592 = .ok (.aload_n 0, 1) := by decide +kernel
theorem d_law_593 : decode code 593 = .ok (.iload_n 3, 1) := by decide +kernel
theorem d_law_594 : decode code 594 = .ok (.iconst 3, 1) := by decide +kernel
theorem d_law_595 : decode code 595 = .ok (.iadd, 1) := by decide +kernel
theorem d_law_596 : decode code 596 = .ok (.iaload, 1) := by decide +kernel
theorem d_law_597 : decode code 597 = .ok (.aload_n 0, 1) := by decide +kernel
theorem d_law_598 : decode code 598 = .ok (.iload_n 3, 1) := by decide +kernel
theorem d_law_599 : decode code 599 = .ok (.iconst 4, 1) := by decide +kernel
theorem d_law_600 : decode code 600 = .ok (.iadd, 1) := by decide +kernel
theorem d_law_601 : decode code 601 = .ok (.iaload, 1) := by decide +kernel
theorem d_law_602 : decode code 602 = .ok (.aload_n 0, 1) := by decide +kernel
theorem d_law_603 : decode code 603 = .ok (.iload_n 3, 1) := by decide +kernel
theorem d_law_604 : decode code 604 = .ok (.iconst 5, 1) := by decide +kernel
theorem d_law_605 : decode code 605 = .ok (.iadd, 1) := by decide +kernel
theorem d_law_606 : decode code 606 = .ok (.iaload, 1) := by decide +kernel
theorem d_law_607 : decode code 607 = .ok (.aload_n 0, 1) := by decide +kernel
theorem d_law_608 : decode code 608 = .ok (.iload_n 3, 1) := by decide +kernel
theorem d_law_609 : decode code 609 = .ok (.bipush 6, 2) := by decide +kernel
theorem d_law_611 : decode code 611 = .ok (.iadd, 1) := by decide +kernel
theorem d_law_612 : decode code 612 = .ok (.iaload, 1) := by decide +kernel
theorem d_law_613 : decode code 613 = .ok (.aload_n 0, 1) := by decide +kernel
theorem d_law_614 : decode code 614 = .ok (.iload_n 3, 1) := by decide +kernel
theorem d_law_615 : decode code 615 = .ok (.bipush 7, 2) := by decide +kernel
theorem d_law_617 : decode code 617 = .ok (.iadd, 1) := by decide +kernel
theorem d_law_618 : decode code 618 = .ok (.iaload, 1) := by decide +kernel
theorem d_law_619 : decode code 619 = .ok (.invokevirtual 77, 3) := by decide +kernel
theorem d_law_622 : decode code 622 = .ok (.pop, 1) := by decide +kernel
theorem d_law_623 : decode code 623 = .ok (.goto 445, 3) := by decide +kernel
theorem d_law_626 : decode code 626 = .ok (.aload_n 1, 1) := by decide +kernel
theorem d_law_627 : decode code 627 = .ok (.aload_n 0, 1) := by decide +kernel
theorem d_law_628 : decode code 628 = .ok (.iload_n 3, 1) := by decide +kernel
theorem d_law_629 : decode code 629 = .ok (.iconst 1, 1) := by decide +kernel
theorem d_law_630 : decode code 630 = .ok (.iadd, 1) := by decide +kernel
theorem d_law_631 : decode code 631 = .ok (.iaload, 1) := by decide +kernel
theorem d_law_632 : decode code 632 = .ok (.invokevirtual 78, 3) := by decide +kernel
theorem d_law_635 : decode code 635 = .ok (.pop, 1) := by decide +kernel
theorem d_law_636 : decode code 636 = .ok (.aload_n 2, 1) := by decide +kernel
theorem d_law_637 : decode code 637 = .ok (.aload_n 0, 1) := by decide +kernel
theorem d_law_638 : decode code 638 = .ok (.iload_n 3, 1) := by decide +kernel
theorem d_law_639 : decode code 639 = .ok (.iconst 1, 1) := by decide +kernel
theorem d_law_640 : decode code 640 = .ok (.iadd, 1) := by decide +kernel
theorem d_law_641 : decode code 641 = .ok (.iaload, 1) := by decide +kernel
theorem d_law_642 : decode code 642 = .ok (.invokevirtual 81, 3) := by decide +kernel
theorem d_law_645 : decode code 645 = .ok (.pop, 1) := by decide +kernel
theorem d_law_646 : decode code 646 = .ok (.goto 422, 3) := by decide +kernel
theorem d_law_649 : decode code 649 = .ok (.aload_n 1, 1) := by decide +kernel
theorem d_law_650 : decode code 650 = .ok (.aload_n 0, 1) := by decide +kernel
theorem d_law_651 : decode code 651 = .ok (.iload_n 3, 1) := by decide +kernel
theorem d_law_652 : decode code 652 = .ok (.iconst 1, 1) := by decide +kernel
theorem d_law_653 : decode code 653 = .ok (.iadd, 1) := by decide +kernel
theorem d_law_654 : decode code 654 = .ok (.iaload, 1) := by decide +kernel
theorem d_law_655 : decode code 655 = .ok (.aload_n 0, 1) := by decide +kernel
theorem d_law_656 : decode code 656 = .ok (.iload_n 3, 1) := by decide +kernel
theorem d_law_657 : decode code 657 = .ok (.iconst 2, 1) := by decide +kernel
theorem d_law_658 : decode code 658 = .ok (.iadd, 1) := by decide +kernel
theorem d_law_659 : decode code 659 = .ok (.iaload, 1) := by decide +kernel
theorem d_law_660 : decode code 660 = .ok (.aload_n 0, 1) := by decide +kernel
theorem d_law_661 : decode code 661 = .ok (.iload_n 3, 1) := by decide +kernel
theorem d_law_662 : decode code 662 = .ok (.iconst 3, 1) := by decide +kernel
theorem d_law_663 : decode code 663 = .ok (.iadd, 1) := by decide +kernel
theorem d_law_664 : decode code 664 = .ok (.iaload, 1) := by decide +kernel
theorem d_law_665 : decode code 665 = .ok (.invokevirtual 82, 3) := by decide +kernel
theorem d_law_668 : decode code 668 = .ok (.pop, 1) := by decide +kernel
theorem d_law_669 : decode code 669 = .ok (.aload_n 2, 1) := by decide +kernel
theorem d_law_670 : decode code 670 = .ok (.aload_n 0, 1) := by decide +kernel
theorem d_law_671 : decode code 671 = .ok (.iload_n 3, 1) := by decide +kernel
theorem d_law_672 : decode code 672 = .ok (.iconst 1, 1) := by decide +kernel
theorem d_law_673 : decode code 673 = .ok (.iadd, 1) := by decide +kernel
theorem d_law_674 : decode code 674 = .ok (.iaload, 1) := by decide +kernel
theorem d_law_675 : decode code 675 = .ok (.aload_n 0, 1) := by decide +kernel
theorem d_law_676 : decode code 676 = .ok (.iload_n 3, 1) := by decide +kernel
theorem d_law_677 : decode code 677 = .ok (.iconst 2, 1) := by decide +kernel
theorem d_law_678 : decode code 678 = .ok (.iadd, 1) := by decide +kernel
theorem d_law_679 : decode code 679 = .ok (.iaload, 1) := by decide +kernel
theorem d_law_680 : decode code 680 = .ok (.aload_n 0, 1) := by decide +kernel
theorem d_law_681 : decode code 681 = .ok (.iload_n 3, 1) := by decide +kernel
theorem d_law_682 : decode code 682 = .ok (.iconst 3, 1) := by decide +kernel
theorem d_law_683 : decode code 683 = .ok (.iadd, 1) := by decide +kernel
theorem d_law_684 : decode code 684 = .ok (.iaload, 1) := by decide +kernel
theorem d_law_685 : decode code 685 = .ok (.invokevirtual 86, 3) := by decide +kernel
theorem d_law_688 : decode code 688 = .ok (.pop, 1) := by decide +kernel
theorem d_law_689 : decode code 689 = .ok (.goto 379, 3) := by decide +kernel
theorem d_law_692 : decode code 692 = .ok (.aload_n 1, 1) := by decide +kernel
theorem d_law_693 : decode code 693 = .ok (.aload_n 0, 1) := by decide +kernel
theorem d_law_694 : decode code 694 = .ok (.iload_n 3, 1) := by decide +kernel
theorem d_law_695 : decode code 695 = .ok (.iconst 1, 1) := by decide +kernel
theorem d_law_696 : decode code 696 = .ok (.iadd, 1) := by decide +kernel
theorem d_law_697 : decode code 697 = .ok (.iaload, 1) := by decide +kernel
theorem d_law_698 : decode code 698 = .ok (.aload_n 0, 1) := by decide +kernel
theorem d_law_699 : decode code 699 = .ok (.iload_n 3, 1) := by decide +kernel
theorem d_law_700 : decode code 700 = .ok (.iconst 2, 1) := by decide +kernel
theorem d_law_701 : decode code 701 = .ok (.iadd, 1) := by decide +kernel
theorem d_law_702 : decode code 702 = .ok (.iaload, 1) := by decide +kernel
theorem d_law_703 : decode code 703 = .ok (.invokevirtual 87, 3) := by decide +kernel
theorem d_law_706 : decode code 706 = .ok (.pop, 1) := by decide +kernel
theorem d_law_707 : decode code 707 = .ok (.aload_n 2, 1) := by decide +kernel
theorem d_law_708 : decode code 708 = .ok (.aload_n 0, 1) := by decide +kernel
theorem d_law_709 : decode code 709 = .ok (.iload_n 3, 1) := by decide +kernel
theorem d_law_710 : decode code 710 = .ok (.iconst 1, 1) := by decide +kernel
theorem d_law_711 : decode code 711 = .ok (.iadd, 1) := by decide +kernel
theorem d_law_712 : decode code 712 = .ok (.iaload, 1) := by decide +kernel
theorem d_law_713 : decode code 713 = .ok (.aload_n 0, 1) := by decide +kernel
theorem d_law_714 : decode code 714 = .ok (.iload_n 3, 1) := by decide +kernel
theorem d_law_715 : decode code 715 = .ok (.iconst 2, 1) := by decide +kernel
theorem d_law_716 : decode code 716 = .ok (.iadd, 1) := by decide +kernel
theorem d_law_717 : decode code 717 = .ok (.iaload, 1) := by decide +kernel
theorem d_law_718 : decode code 718 = .ok (.invokevirtual 90, 3) := by decide +kernel
theorem d_law_721 : decode code 721 = .ok (.pop, 1) := by decide +kernel
theorem d_law_722 : decode code 722 = .ok (.goto 346, 3) := by decide +kernel
theorem d_law_725 : decode code 725 = .ok (.aload_n 1, 1) := by decide +kernel
theorem d_law_726 : decode code 726 = .ok (.aload_n 0, 1) := by decide +kernel
theorem d_law_727 : decode code 727 = .ok (.iload_n 3, 1) := by decide +kernel
theorem d_law_728 : decode code 728 = .ok (.iconst 1, 1) := by decide +kernel
theorem d_law_729 : decode code 729 = .ok (.iadd, 1) := by decide +kernel
theorem d_law_730 : decode code 730 = .ok (.iaload, 1) := by decide +kernel
theorem d_law_731 : decode code 731 = .ok (.aload_n 0, 1) := by decide +kernel
theorem d_law_732 : decode code 732 = .ok (.iload_n 3, 1) := by decide +kernel
theorem d_law_733 : decode code 733 = .ok (.iconst 2, 1) := by decide +kernel
theorem d_law_734 : decode code 734 = .ok (.iadd, 1) := by decide +kernel
theorem d_law_735 : decode code 735 = .ok (.iaload, 1) := by decide +kernel
theorem d_law_736 : decode code 736 = .ok (.aload_n 0, 1) := by decide +kernel
theorem d_law_737 : decode code 737 = .ok (.iload_n 3, 1) := by decide +kernel
theorem d_law_738 : decode code 738 = .ok (.iconst 3, 1) := by decide +kernel
theorem d_law_739 : decode code 739 = .ok (.iadd, 1) := by decide +kernel
theorem d_law_740 : decode code 740 = .ok (.iaload, 1) := by decide +kernel
theorem d_law_741 : decode code 741 = .ok (.invokevirtual 91, 3) := by decide +kernel
theorem d_law_744 : decode code 744 = .ok (.pop, 1) := by decide +kernel
theorem d_law_745 : decode code 745 = .ok (.aload_n 2, 1) := by decide +kernel
theorem d_law_746 : decode code 746 = .ok (.aload_n 0, 1) := by decide +kernel
theorem d_law_747 : decode code 747 = .ok (.iload_n 3, 1) := by decide +kernel
theorem d_law_748 : decode code 748 = .ok (.iconst 1, 1) := by decide +kernel
theorem d_law_749 : decode code 749 = .ok (.iadd, 1) := by decide +kernel
theorem d_law_750 : decode code 750 = .ok (.iaload, 1) := by decide +kernel
theorem d_law_751 : decode code 751 = .ok (.aload_n 0, 1) := by decide +kernel
theorem d_law_752 : decode code 752 = .ok (.iload_n 3, 1) := by decide +kernel
theorem d_law_753 : decode code 753 = .ok (.iconst 2, 1) := by decide +kernel
theorem d_law_754 : decode code 754 = .ok (.iadd, 1) := by decide +kernel
theorem d_law_755 : decode code 755 = .ok (.iaload, 1) := by decide +kernel
theorem d_law_756 : decode code 756 = .ok (.aload_n 0, 1) := by decide +kernel
theorem d_law_757 : decode code 757 = .ok (.iload_n 3, 1) := by decide +kernel
theorem d_law_758 : decode code 758 = .ok (.iconst 3, 1) := by decide +kernel
theorem d_law_759 : decode code 759 = .ok (.iadd, 1) := by decide +kernel
theorem d_law_760 : decode code 760 = .ok (.iaload, 1) := by decide +kernel
theorem d_law_761 : decode code 761 = .ok (.invokevirtual 94, 3) := by decide +kernel
theorem d_law_764 : decode code 764 = .ok (.pop, 1) := by decide +kernel
theorem d_law_765 : decode code 765 = .ok (.goto 303, 3) := by decide +kernel
theorem d_law_768 : decode code 768 = .ok (.aload_n 1, 1) := by decide +kernel
theorem d_law_769 : decode code 769 = .ok (.aload_n 0, 1) := by decide +kernel
theorem d_law_770 : decode code 770 = .ok (.iload_n 3, 1) := by decide +kernel
theorem d_law_771 : decode code 771 = .ok (.iconst 1, 1) := by decide +kernel
theorem d_law_772 : decode code 772 = .ok (.iadd, 1) := by decide +kernel
theorem d_law_773 : decode code 773 = .ok (.iaload, 1) := by decide +kernel
theorem d_law_774 : decode code 774 = .ok (.invokevirtual 95, 3) := by decide +kernel
theorem d_law_777 : decode code 777 = .ok (.pop, 1) := by decide +kernel
theorem d_law_778 : decode code 778 = .ok (.aload_n 2, 1) := by decide +kernel
theorem d_law_779 : decode code 779 = .ok (.aload_n 0, 1) := by decide +kernel
theorem d_law_780 : decode code 780 = .ok (.iload_n 3, 1) := by decide +kernel
theorem d_law_781 : decode code 781 = .ok (.iconst 1, 1) := by decide +kernel
theorem d_law_782 : decode code 782 = .ok (.iadd, 1) := by decide +kernel
theorem d_law_783 : decode code 783 = .ok (.iaload, 1) := by decide +kernel
theorem d_law_784 : decode code 784 = .ok (.invokevirtual 98, 3) := by decide +kernel
theorem d_law_787 : decode code 787 = .ok (.pop, 1) := by decide +kernel
theorem d_law_788 : decode code 788 = .ok (.goto 280, 3) := by decide +kernel
theorem d_law_791 : decode code 791 = .ok (.aload_n 1, 1) := by decide +kernel
theorem d_law_792 : decode code 792 = .ok (.aload_n 0, 1) := by decide +kernel
theorem d_law_793 : decode code 793 = .ok (.iload_n 3, 1) := by decide +kernel
theorem d_law_794 : decode code 794 = .ok (.iconst 1, 1) := by decide +kernel
theorem d_law_795 : decode code 795 = .ok (.iadd, 1) := by decide +kernel
theorem d_law_796 : decode code 796 = .ok (.iaload, 1) := by decide +kernel
theorem d_law_797 : decode code 797 = .ok (.invokevirtual 99, 3) := by decide +kernel
theorem d_law_800 : decode code 800 = .ok (.pop, 1) := by decide +kernel
theorem d_law_801 : decode code 801 = .ok (.aload_n 2, 1) := by decide +kernel
theorem d_law_802 : decode code 802 = .ok (.aload_n 0, 1) := by decide +kernel
theorem d_law_803 : decode code 803 = .ok (.iload_n 3, 1) := by decide +kernel
theorem d_law_804 : decode code 804 = .ok (.iconst 1, 1) := by decide +kernel
theorem d_law_805 : decode code 805 = .ok (.iadd, 1) := by decide +kernel
theorem d_law_806 : decode code 806 = .ok (.iaload, 1) := by decide +kernel
theorem d_law_807 : decode code 807 = .ok (.invokevirtual 102, 3) := by decide +kernel
theorem d_law_810 : decode code 810 = .ok (.pop, 1) := by decide +kernel
theorem d_law_811 : decode code 811 = .ok (.goto 257, 3) := by decide +kernel
theorem d_law_814 : decode code 814 = .ok (.aload_n 1, 1) := by decide +kernel
theorem d_law_815 : decode code 815 = .ok (.aload_n 0, 1) := by decide +kernel
theorem d_law_816 : decode code 816 = .ok (.iload_n 3, 1) := by decide +kernel
theorem d_law_817 : decode code 817 = .ok (.iconst 1, 1) := by decide +kernel
theorem d_law_818 : decode code 818 = .ok (.iadd, 1) := by decide +kernel
theorem d_law_819 : decode code 819 = .ok (.iaload, 1) := by decide +kernel
theorem d_law_820 : decode code 820 = .ok (.aload_n 0, 1) := by decide +kernel
theorem d_law_821 : decode code 821 = .ok (.iload_n 3, 1) := by decide +kernel
theorem d_law_822 : decode code 822 = .ok (.iconst 2, 1) := by decide +kernel
theorem d_law_823 : decode code 823 = .ok (.iadd, 1) := by decide +kernel
theorem d_law_824 : decode code 824 = .ok (.iaload, 1) := by decide +kernel
theorem d_law_825 : decode code 825 = .ok (.invokevirtual 103, 3) := by decide +kernel
theorem d_law_828 : decode code 828 = .ok (.pop, 1) := by decide +kernel
theorem d_law_829 : decode code 829 = .ok (.aload_n 2, 1) := by decide +kernel
theorem d_law_830 : decode code 830 = .ok (.aload_n 0, 1) := by decide +kernel
theorem d_law_831 : decode code 831 = .ok (.iload_n 3, 1) := by decide +kernel
theorem d_law_832 : decode code 832 = .ok (.iconst 1, 1) := by decide +kernel
theorem d_law_833 : decode code 833 = .ok (.iadd, 1) := by decide +kernel
theorem d_law_834 : decode code 834 = .ok (.iaload, 1) := by decide +kernel
theorem d_law_835 : decode code 835 = .ok (.aload_n 0, 1) := by decide +kernel
theorem d_law_836 : decode code 836 = .ok (.iload_n 3, 1) := by decide +kernel
theorem d_law_837 : decode code 837 = .ok (.iconst 2, 1) := by decide +kernel
theorem d_law_838 : decode code 838 = .ok (.iadd, 1) := by decide +kernel
theorem d_law_839 : decode code 839 = .ok (.iaload, 1) := by decide +kernel
theorem d_law_840 : decode code 840 = .ok (.invokevirtual 106, 3) := by decide +kernel
theorem d_law_843 : decode code 843 = .ok (.pop, 1) := by decide +kernel
theorem d_law_844 : decode code 844 = .ok (.goto 224, 3) := by decide +kernel
theorem d_law_847 : decode code 847 = .ok (.aload_n 1, 1) := by decide +kernel
theorem d_law_848 : decode code 848 = .ok (.aload_n 0, 1) := by decide +kernel
theorem d_law_849 : decode code 849 = .ok (.iload_n 3, 1) := by decide +kernel
theorem d_law_850 : decode code 850 = .ok (.iconst 1, 1) := by decide +kernel
theorem d_law_851 : decode code 851 = .ok (.iadd, 1) := by decide +kernel
theorem d_law_852 : decode code 852 = .ok (.iaload, 1) := by decide +kernel
theorem d_law_853 : decode code 853 = .ok (.aload_n 0, 1) := by decide +kernel
theorem d_law_854 : decode code 854 = .ok (.iload_n 3, 1) := by decide +kernel
theorem d_law_855 : decode code 855 = .ok (.iconst 2, 1) := by decide +kernel
theorem d_law_856 : decode code 856 = .ok (.iadd, 1) := by decide +kernel
theorem d_law_857 : decode code 857 = .ok (.iaload, 1) := by decide +kernel
theorem d_law_858 : decode code 858 = .ok (.invokevirtual 107, 3) := by decide +kernel
theorem d_law_861 : decode code 861 = .ok (.pop, 1) := by decide +kernel
theorem d_law_862 : decode code 862 = .ok (.aload_n 2, 1) := by decide +kernel
theorem d_law_863 : decode code 863 = .ok (.aload_n 0, 1) := by decide +kernel
theorem d_law_864 : decode code 864 = .ok (.iload_n 3, 1) := by decide +kernel
theorem d_law_865 : decode code 865 = .ok (.iconst 1, 1) := by decide +kernel
theorem d_law_866 : decode code 866 = .ok (.iadd, 1) := by decide +kernel
theorem d_law_867 : decode code 867 = .ok (.iaload, 1) := by decide +kernel
theorem d_law_868 : decode code 868 = .ok (.aload_n 0, 1) := by decide +kernel
theorem d_law_869 : decode code 869 = .ok (.iload_n 3, 1) := by decide +kernel
theorem d_law_870 : decode code 870 = .ok (.iconst 2, 1) := by decide +kernel
theorem d_law_871 : decode code 871 = .ok (.iadd, 1) := by decide +kernel
theorem d_law_872 : decode code 872 = .ok (.iaload, 1) := by decide +kernel
theorem d_law_873 : decode code 873 = .ok (.invokevirtual 110, 3) := by decide +kernel
theorem d_law_876 : decode code 876 = .ok (.pop, 1) := by decide +kernel
theorem d_law_877 : decode code 877 = .ok (.goto 191, 3) := by decide +kernel
theorem d_law_880 : decode code 880 = .ok (.aload_n 1, 1) := by decide +kernel
theorem d_law_881 : decode code 881 = .ok (.aload_n 0, 1) := by decide +kernel
theorem d_law_882 : decode code 882 = .ok (.iload_n 3, 1) := by decide +kernel
theorem d_law_883 : decode code 883 = .ok (.iconst 1, 1) := by decide +kernel
theorem d_law_884 : decode code 884 = .ok (.iadd, 1) := by decide +kernel
theorem d_law_885 : decode code 885 = .ok (.iaload, 1) := by decide +kernel
theorem d_law_886 : decode code 886 = .ok (.aload_n 0, 1) := by decide +kernel
theorem d_law_887 : decode code 887 = .ok (.iload_n 3, 1) := by decide +kernel
theorem d_law_888 : decode code 888 = .ok (.iconst 2, 1) := by decide +kernel
theorem d_law_889 : decode code 889 = .ok (.iadd, 1) := by decide +kernel
theorem d_law_890 : decode code 890 = .ok (.iaload, 1) := by decide +kernel
theorem d_law_891 : decode code 891 = .ok (.invokevirtual 111, 3) := by decide +kernel
theorem d_law_894 : decode code 894 = .ok (.pop, 1) := by decide +kernel
theorem d_law_895 : decode code 895 = .ok (.aload_n 2, 1) := by decide +kernel
theorem d_law_896 : decode code 896 = .ok (.aload_n 0, 1) := by decide +kernel
theorem d_law_897 : decode code 897 = .ok (.iload_n 3, 1) := by decide +kernel
theorem d_law_898 : decode code 898 = .ok (.iconst 1, 1) := by decide +kernel
theorem d_law_899 : decode code 899 = .ok (.iadd, 1) := by decide +kernel
theorem d_law_900 : decode code 900 = .ok (.iaload, 1) := by decide +kernel
theorem d_law_901 : decode code 901 = .ok (.aload_n 0, 1) := by decide +kernel
theorem d_law_902 : decode code 902 = .ok (.iload_n 3, 1) := by decide +kernel
theorem d_law_903 : decode code 903 = .ok (.iconst 2, 1) := by decide +kernel
theorem d_law_904 : decode code 904 = .ok (.iadd, 1) := by decide +kernel
theorem d_law_905 : decode code 905 = .ok (.iaload, 1) := by decide +kernel
theorem d_law_906 : decode code 906 = .ok (.invokevirtual 114, 3) := by decide +kernel
theorem d_law_909 : decode code 909 = .ok (.pop, 1) := by decide +kernel
theorem d_law_910 : decode code 910 = .ok (.goto 158, 3) := by decide +kernel
theorem d_law_913 : decode code 913 = .ok (.aload_n 1, 1) := by decide +kernel
theorem d_law_914 : decode code 914 = .ok (.aload_n 0, 1) := by decide +kernel
theorem d_law_915 : decode code 915 = .ok (.iload_n 3, 1) := by decide +kernel
theorem d_law_916 : decode code 916 = .ok (.iconst 1, 1) := by decide +kernel
theorem d_law_917 : decode code 917 = .ok (.iadd, 1) := by decide +kernel
theorem d_law_918 : decode code 918 = .ok (.iaload, 1) := by decide +kernel
theorem d_law_919 : decode code 919 = .ok (.invokevirtual 115, 3) := by decide +kernel
theorem d_law_922 : decode code 922 = .ok (.pop, 1) := by decide +kernel
theorem d_law_923 : decode code 923 = .ok (.aload_n 2, 1) := by decide +kernel
theorem d_law_924 : decode code 924 = .ok (.aload_n 0, 1) := by decide +kernel
theorem d_law_925 : decode code 925 = .ok (.iload_n 3, 1) := by decide +kernel
theorem d_law_926 : decode code 926 = .ok (.iconst 1, 1) := by decide +kernel
theorem d_law_927 : decode code 927 = .ok (.iadd, 1) := by decide +kernel
theorem d_law_928 : decode code 928 = .ok (.iaload, 1) := by decide +kernel
theorem d_law_929 : decode code 929 = .ok (.invokevirtual 118, 3) := by decide +kernel
theorem d_law_932 : decode code 932 = .ok (.pop, 1) := by decide +kernel
theorem d_law_933 : decode code 933 = .ok (.goto 135, 3) := by decide +kernel
theorem d_law_936 : decode code 936 = .ok (.aload_n 1, 1) := by decide +kernel
theorem d_law_937 : decode code 937 = .ok (.aload_n 0, 1) := by decide +kernel
theorem d_law_938 : decode code 938 = .ok (.iload_n 3, 1) := by decide +kernel
theorem d_law_939 : decode code 939 = .ok (.iconst 1, 1) := by decide +kernel
theorem d_law_940 : decode code 940 = .ok (.iadd, 1) := by decide +kernel
theorem d_law_941 : decode code 941 = .ok (.iaload, 1) := by decide +kernel
theorem d_law_942 : decode code 942 = .ok (.aload_n 0, 1) := by decide +kernel
theorem d_law_943 : decode code 943 = .ok (.iload_n 3, 1) := by decide +kernel
theorem d_law_944 : decode code 944 = .ok (.iconst 2, 1) := by decide +kernel
theorem d_law_945 : decode code 945 = .ok (.iadd, 1) := by decide +kernel
theorem d_law_946 : decode code 946 = .ok (.iaload, 1) := by decide +kernel
theorem d_law_947 : decode code 947 = .ok (.invokevirtual 119, 3) := by decide +kernel
theorem d_law_950 : decode code 950 = .ok (.pop, 1) := by decide +kernel
theorem d_law_951 : decode code 951 = .ok (.aload_n 2, 1) := by decide +kernel
theorem d_law_952 : decode code 952 = .ok (.aload_n 0, 1) := by decide +kernel
theorem d_law_953 : decode code 953 = .ok (.iload_n 3, 1) := by decide +kernel
theorem d_law_954 : decode code 954 = .ok (.iconst 1, 1) := by decide +kernel
theorem d_law_955 : decode code 955 = .ok (.iadd, 1) := by decide +kernel
theorem d_law_956 : decode code 956 = .ok (.iaload, 1) := by decide +kernel
theorem d_law_957 : decode code 957 = .ok (.aload_n 0, 1) := by decide +kernel
theorem d_law_958 : decode code 958 = .ok (.iload_n 3, 1) := by decide +kernel
theorem d_law_959 : decode code 959 = .ok (.iconst 2, 1) := by decide +kernel
theorem d_law_960 : decode code 960 = .ok (.iadd, 1) := by decide +kernel
theorem d_law_961 : decode code 961 = .ok (.iaload, 1) := by decide +kernel
theorem d_law_962 : decode code 962 = .ok (.invokevirtual 122, 3) := by decide +kernel
theorem d_law_965 : decode code 965 = .ok (.pop, 1) := by decide +kernel
theorem d_law_966 : decode code 966 = .ok (.goto 102, 3) := by decide +kernel
theorem d_law_969 : decode code 969 = .ok (.aload_n 1, 1) := by decide +kernel
theorem d_law_970 : decode code 970 = .ok (.aload_n 0, 1) := by decide +kernel
theorem d_law_971 : decode code 971 = .ok (.iload_n 3, 1) := by decide +kernel
theorem d_law_972 : decode code 972 = .ok (.iconst 1, 1) := by decide +kernel
theorem d_law_973 : decode code 973 = .ok (.iadd, 1) := by decide +kernel
theorem d_law_974 : decode code 974 = .ok (.iaload, 1) := by decide +kernel
theorem d_law_975 : decode code 975 = .ok (.aload_n 0, 1) := by decide +kernel
theorem d_law_976 : decode code 976 = .ok (.iload_n 3, 1) := by decide +kernel
theorem d_law_977 : decode code 977 = .ok (.iconst 2, 1) := by decide +kernel
theorem d_law_978 : decode code 978 = .ok (.iadd, 1) := by decide +kernel
theorem d_law_979 : decode code 979 = .ok (.iaload, 1) := by decide +kernel
theorem d_law_980 : decode code 980 = .ok (.invokevirtual 123, 3) := by decide +kernel
theorem d_law_983 : decode code 983 = .ok (.pop, 1) := by decide +kernel
theorem d_law_984 : decode code 984 = .ok (.aload_n 2, 1) := by decide +kernel
theorem d_law_985 : decode code 985 = .ok (.aload_n 0, 1) := by decide +kernel
theorem d_law_986 : decode code 986 = .ok (.iload_n 3, 1) := by decide +kernel
theorem d_law_987 : decode code 987 = .ok (.iconst 1, 1) := by decide +kernel
theorem d_law_988 : decode code 988 = .ok (.iadd, 1) := by decide +kernel
theorem d_law_989 : decode code 989 = .ok (.iaload, 1) := by decide +kernel
theorem d_law_990 : decode code 990 = .ok (.aload_n 0, 1) := by decide +kernel
theorem d_law_991 : decode code 991 = .ok (.iload_n 3, 1) := by decide +kernel
theorem d_law_992 : decode code 992 = .ok (.iconst 2, 1) := by decide +kernel
theorem d_law_993 : decode code 993 = .ok (.iadd, 1) := by decide +kernel
theorem d_law_994 : decode code 994 = .ok (.iaload, 1) := by decide +kernel
theorem d_law_995 : decode code 995 = .ok (.invokevirtual 126, 3) := by decide +kernel
theorem d_law_998 : decode code 998 = .ok (.pop, 1) := by decide +kernel
theorem d_law_999 : decode code 999 = .ok (.goto 69, 3) := by decide +kernel
theorem d_law_1002 : decode code 1002 = .ok (.aload_n 1, 1) := by decide +kernel
theorem d_law_1003 : decode code 1003 = .ok (.aload_n 0, 1) := by decide +kernel
theorem d_law_1004 : decode code 1004 = .ok (.iload_n 3, 1) := by decide +kernel
theorem d_law_1005 : decode code 1005 = .ok (.iconst 1, 1) := by decide +kernel
theorem d_law_1006 : decode code 1006 = .ok (.iadd, 1) := by decide +kernel
theorem d_law_1007 : decode code 1007 = .ok (.iaload, 1) := by decide +kernel
theorem d_law_1008 : decode code 1008 = .ok (.aload_n 0, 1) := by decide +kernel
theorem d_law_1009 : decode code 1009 = .ok (.iload_n 3, 1) := by decide +kernel
theorem d_law_1010 : decode code 1010 = .ok (.iconst 2, 1) := by decide +kernel
theorem d_law_1011 : decode code 1011 = .ok (.iadd, 1) := by decide +kernel
theorem d_law_1012 : decode code 1012 = .ok (.iaload, 1) := by decide +kernel
theorem d_law_1013 : decode code 1013 = .ok (.invokevirtual 127, 3) := by decide +kernel
theorem d_law_1016 : decode code 1016 = .ok (.pop, 1) := by decide +kernel
theorem d_law_1017 : decode code 1017 = .ok (.aload_n 2, 1) := by decide +kernel
theorem d_law_1018 : decode code 1018 = .ok (.aload_n 0, 1) := by decide +kernel
theorem d_law_1019 : decode code 1019 = .ok (.iload_n 3, 1) := by decide +kernel
theorem d_law_1020 : decode code 1020 = .ok (.iconst 1, 1) := by decide +kernel
theorem d_law_1021 : decode code 1021 = .ok (.iadd, 1) := by decide +kernel
theorem d_law_1022 : decode code 1022 = .ok (.iaload, 1) := by decide +kernel
theorem d_law_1023 : decode code 1023 = .ok (.aload_n 0, 1) := by decide +kernel
theorem d_law_1024 : decode code 1024 = .ok (.iload_n 3, 1) := by decide +kernel
theorem d_law_1025 : decode code 1025 = .ok (.iconst 2, 1) := by decide +kernel
theorem d_law_1026 : decode code 1026 = .ok (.iadd, 1) := by decide +kernel
theorem d_law_1027 : decode code 1027 = .ok (.iaload, 1) := by decide +kernel
theorem d_law_1028 : decode code 1028 = .ok (.invokevirtual 130, 3) := by decide +kernel
theorem d_law_1031 : decode code 1031 = .ok (.pop, 1) := by decide +kernel
theorem d_law_1032 : decode code 1032 = .ok (.goto 36, 3) := by decide +kernel
theorem d_law_1035 : decode code 1035 = .ok (.aload_n 1, 1) := by decide +kernel
theorem d_law_1036 : decode code 1036 = .ok (.aload_n 0, 1) := by decide +kernel
theorem d_law_1037 : decode code 1037 = .ok (.iload_n 3, 1) := by decide +kernel
theorem d_law_1038 : decode code 1038 = .ok (.iconst 1, 1) := by decide +kernel
theorem d_law_1039 : decode code 1039 = .ok (.iadd, 1) := by decide +kernel
theorem d_law_1040 : decode code 1040 = .ok (.iaload, 1) := by decide +kernel
theorem d_law_1041 : decode code 1041 = .ok (.aload_n 0, 1) := by decide +kernel
theorem d_law_1042 : decode code 1042 = .ok (.iload_n 3, 1) := by decide +kernel
theorem d_law_1043 : decode code 1043 = .ok (.iconst 2, 1) := by decide +kernel
theorem d_law_1044 : decode code 1044 = .ok (.iadd, 1) := by decide +kernel
theorem d_law_1045 : decode code 1045 = .ok (.iaload, 1) := by decide +kernel
theorem d_law_1046 : decode code 1046 = .ok (.invokevirtual 131, 3) := by decide +kernel
theorem d_law_1049 : decode code 1049 = .ok (.pop, 1) := by decide +kernel
theorem d_law_1050 : decode code 1050 = .ok (.aload_n 2, 1) := by decide +kernel
theorem d_law_1051 : decode code 1051 = .ok (.aload_n 0, 1) := by decide +kernel
theorem d_law_1052 : decode code 1052 = .ok (.iload_n 3, 1) := by decide +kernel
theorem d_law_1053 : decode code 1053 = .ok (.iconst 1, 1) := by decide +kernel
theorem d_law_1054 : decode code 1054 = .ok (.iadd, 1) := by decide +kernel
theorem d_law_1055 : decode code 1055 = .ok (.iaload, 1) := by decide +kernel
theorem d_law_1056 : decode code 1056 = .ok (.aload_n 0, 1) := by decide +kernel
theorem d_law_1057 : decode code 1057 = .ok (.iload_n 3, 1) := by decide +kernel
theorem d_law_1058 : decode code 1058 = .ok (.iconst 2, 1) := by decide +kernel
theorem d_law_1059 : decode code 1059 = .ok (.iadd, 1) := by decide +kernel
theorem d_law_1060 : decode code 1060 = .ok (.iaload, 1) := by decide +kernel
theorem d_law_1061 : decode code 1061 = .ok (.invokevirtual 134, 3) := by decide +kernel
theorem d_law_1064 : decode code 1064 = .ok (.pop, 1) := by decide +kernel
theorem d_law_1065 : decode code 1065 = .ok (.goto 3, 3) := by decide +kernel
theorem d_law_1068 : decode code 1068 = .ok (.iinc 3 8, 3) := by decide +kernel
theorem d_law_1071 : decode code 1071 = .ok (.goto (-1053), 3) := by decide +kernel
theorem d_law_1074 : decode code 1074 = .ok (.iconst 1, 1) := by decide +kernel
theorem d_law_1075 : decode code 1075 = .ok (.ireturn, 1) := by decide +kernel
def LIv (k : Int) (I : Nat → Int32) (B : Nat → Nat → Int32) : Prop := rT I B ∧ pG1 I ∧ pG2 (B 37) (B 38) ∧ stT (B 97) (B 98) (B 100) (B 107) (B 108) (B 109) ∧ stA (B 110) (B 118) (B 119) (B 120) ∧ vB (1 + k) (B 46) ∧ ∃ cn : Int, I 33 = iI cn ∧ 0 ≤ cn ∧ cn ≤ 1000 * k
theorem va_plm {L : List Nat} {f : pF} {k : Nat} {x : Nat × va_E} (h : (va_pl L f)[k]? = some x) : x.1 ∈ L := by
  unfold va_pl at h
  rw [List.getElem?_map] at h
  cases e : L[k]? with
  | none => rw [e] at h; exact absurd h (by simp)
  | some a =>
    rw [e] at h
    have h2 : (a, f a) = x := by simpa using h
    rw [← h2]
    exact List.mem_of_getElem? e
theorem lc_next {E : cE} {T : cT} {M : List Nat} {κ κ' : tK} {L L' : List Nat} {f f' : pF} {xo cn tp : Nat} (S : tS E T (tFr κ L M []) κ L f κ' L' f') (hw : tW E T κ L f) (kx : κ xo = (10, 0)) (c6 : gF f xo 6 = .ref cn) (c3 : gF f cn 3 = .ref tp) (c1 : gF f xo 1 = .ref tp) (h10 : 10 ∉ M) (h14 : 14 ∉ M) : tW E T κ' L' f' ∧ κ' xo = (10, 0) ∧ gF f' xo 6 = .ref cn ∧ gF f' cn 3 = .ref tp ∧ gF f' xo 1 = .ref tp := by
  have S0 : tS E T (tFr κ L M []) κ L f κ L f := tS_rf hw
  have kc : κ cn = (14, 0) := t_f6 S0 kx c6
  have mx := (hw xo (by rw [kx]; decide)).1
  have mc := (hw cn (by rw [kc]; decide)).1
  have ex := S.2.2.2 xo ⟨mx, by rw [kx]; exact h10, by simp⟩
  have ec := S.2.2.2 cn ⟨mc, by rw [kc]; exact h14, by simp⟩
  refine ⟨S.1, ex.2.trans kx, ?_, ?_, ?_⟩
  · unfold gF at c6 ⊢; rw [ex.1]; exact c6
  · unfold gF at c3 ⊢; rw [ec.1]; exact c3
  · unfold gF at c1 ⊢; rw [ex.1]; exact c1
theorem vB_cst {v w : Int} {b : Nat → Int32} (h : v = w) (k : vB v b) : vB w b := by rw [← h]; exact k
def lA (s : State) : Nat → Prop := fun q => s.heap.size ≤ q
section LROWS
variable {p : Program} {l : Launch} {e : Env} {R : Room} {s : State} {m : MethodId} {args : Array Value} {below : List Frame} {meth : Method} {c : Code} {H : Heap} {locs : List Loc} {cells slots : Nat} {Q : State → Prop} {cc : ByteArray} {pc : Nat} {ls : Array Slot} {rest : List Value}
variable {D : va_G} {E : cE} {T : cT} {A : Nat → Prop} {L : List Nat} {f : pF} {own : String} {D2 : mD} {E2 : mE} {h : Nat} {q : Nat → Nat} {I : Nat → Int32} {J : Nat → Int64} {B : Nat → Nat → Int32} {G : Nat → Nat → Int64}
theorem l_keep {H1 : Heap} (PM : va_P D2.1 mCl (mW E2 h q I J B G) H) (AP : ∀ (k : Nat) (x : Nat × va_E), (mW E2 h q I J B G)[k]? = some x → x.1 ∉ L) (hk : ∀ q : Nat, q < H.size → ¬ pA L H.size q → H1[q]? = H[q]?) : va_P D2.1 mCl (mW E2 h q I J B G) H1 :=
  fun k x hx => (PM k x hx).kept (hk x.1 (PM k x hx).lt (fun h9 => h9.elim (AP k x hx) (fun h8 => absurd (PM k x hx).lt (Nat.not_lt.mpr h8))))
theorem lx_i {mc ms : Nat} {post : Int32 → cU → Prop} {a0 : Array Value} {st0 : List Value} (hr : va_Run p l e R s m args below meth c H locs cells slots mc ms (F0 m pc ls st0) rest (va_Qi post (cPost D E (pA L H.size)) (pA L H.size) a0) (pA L H.size)) (X : cX own p c cc args s m D E) (Y : pH D cCl A s.heap L f H locs) (hA : ∀ a, s.heap.size ≤ a → A a) (PM : va_P D2.1 mCl (mW E2 h q I J B G) H) (AP : ∀ (k : Nat) (x : Nat × va_E), (mW E2 h q I J B G)[k]? = some x → x.1 ∉ L)
    (kk : ∀ (r : Int32) (u : cU) (H1 : Heap) (locs1 : List Loc), post r u → pH D cCl A s.heap u.1 u.2 H1 locs1 → va_P D2.1 mCl (mW E2 h q I J B G) H1 → (∀ (k : Nat) (x : Nat × va_E), (mW E2 h q I J B G)[k]? = some x → x.1 ∉ u.1) → W p l e R s m args below meth c H1 locs1 (cells + mc) (slots + ms) Q (F0 m (pc + 3) ls (.int r :: rest))) : W p l e R s m args below meth c H locs cells slots Q (F0 m pc ls st0) :=
  va_calli hr Y.2.2 (fun a _ ha => c_sub Y hA a ha) (c_sub Y hA) (fun r u t H1 locs1 ht hvm hp hB hz hk hS => kk r u H1 locs1 hp (c_back X Y ht hB hA hS) (l_keep PM AP hk) (fun k x hx hm => by
    obtain ⟨k2, hk2⟩ := q_at (f := u.2) hm
    rcases hB.2.2.2 k2 _ hk2 with h8 | h8
    · exact AP k x hx h8
    · exact absurd (PM k x hx).lt (Nat.not_lt.mpr h8)))
theorem lm_i {y : MethodName} {bytes : ByteArray} {maxL nL n ix f0 L0 : Nat} {ret : Option FieldType} {As : List Value} {post : Int32 → mS → Prop} (hx : p.tables.exec = Jvm.exec) (hb : c.code = cc) (hg : ∀ w ∈ lw_tg, w.before args s = true) (hown : s.vm.findClass own = some m.cls) (K2 : va_K D2.1 mCl (mTy E2) s) (Z2 : zS D2.2.1 D2.2.2.1 D2.2.2.2 A s s.heap) (R2 : zR D2.2.1 s) (Y : pH D cCl A s.heap L f H locs) (PM : va_P D2.1 mCl (mW E2 h q I J B G) H) (DM : va_D A (mW E2 h q I J B G)) (AP : ∀ (k : Nat) (x : Nat × va_E), (mW E2 h q I J B G)[k]? = some x → x.1 ∉ L) (hA : ∀ a, s.heap.size ≤ a → A a) (hml : c.maxLocals = nL) (hsz : ls.size = nL) (hM : Met l y (Cond.code y bytes maxL ret :: lw_tg) (mR f0 L0) (va_Pc (.ref h :: As) (mPre D2 E2 h q (I, J, B, G) H.size)) (va_Qi post (mPost D2 E2 h q (mA E2 h q H.size)) (mA E2 h q H.size)) 0 0 (mA E2 h q H.size))
    (a1 : Cond.methodLink own ix y ∈ lw_tg) (a2 : Cond.instanceMethod y ∈ lw_tg) (a3 : Cond.selects R_M y y ∈ lw_tg) (a4 : Cond.code y bytes maxL ret ∈ lw_tg) (hd : y.cls = R_M ∧ y.cls ≠ "java/lang/invoke/MethodHandle" ∧ y.cls ≠ "java/lang/invoke/VarHandle" ∧ (parseMethodDescriptor y.desc).map (fun d => d.parameters.length) = some n) (hR : f0 + 1 ≤ R.frames ∧ 8 + (maxL + 11) + L0 ≤ R.locals) (hn : As.length = n) (hw : (rest.map fun v => v.category).sum ≤ 8) (hdg : decode cc pc = .ok (.invokevirtual ix, 3)) (hf : cells ≤ R.cells ∧ slots ≤ R.slots)
    (kk : ∀ (r : Int32) (u : mS) (H1 : Heap) (locs1 : List Loc), post r u → pH D cCl A s.heap L f H1 locs1 → va_P D2.1 mCl (mW E2 h q u.1 u.2.1 u.2.2.1 u.2.2.2) H1 → va_D A (mW E2 h q u.1 u.2.1 u.2.2.1 u.2.2.2) → (∀ (k : Nat) (x : Nat × va_E), (mW E2 h q u.1 u.2.1 u.2.2.1 u.2.2.2)[k]? = some x → x.1 ∉ L) → W p l e R s m args below meth c H1 locs1 cells slots Q (F0 m (pc + 3) ls (.int r :: rest))) : W p l e R s m args below meth c H locs cells slots Q (F0 m pc ls (As.reverse ++ .ref h :: rest)) := by
  have hlt : ∀ a, a ∈ L → a < H.size := fun a ha => by obtain ⟨k, hk⟩ := q_at (f := f) ha; exact (Y.1 k _ hk).lt
  have hap : ∀ a, mA E2 h q H.size a → a ∉ L := mA_sub (A := fun a => a ∉ L) ⟨DM.1, fun k x hx => AP k x hx⟩ (fun a ha hm => absurd (hlt a hm) (Nat.not_lt.mpr ha))
  exact va_calli (va_runV (As := As) (rest := rest) ⟨hx, hb, hml, hown, hg⟩ hM (cwV n hg (gd_V a1 a2 a3 ini_M a4) rfl rfl rfl hd hR) ⟨m_blind, va_recv K2 PM (ci := 0) (q0 := 0) rfl rfl, fun U hU hW => ⟨rfl, by rw [hU], by rw [hU]; exact PM, va_K.moved hW.alike K2, DM.weaken (fun _ _ _ _ => trivial), by rw [hU]; exact zS_narrow (zS_kept (zS_moved hW.alike Z2) Y.2.2.2.1) (mA_sub DM (fun a ha => hA a (Nat.le_trans Y.2.2.1 ha))), fun i hi => vk_R.warm hW (R2 i hi)⟩⟩ rfl hn hsz rfl (lv_room hw) hdg hf) Y.2.2 (fun a _ ha => mA_sub DM (fun a ha => hA a (Nat.le_trans Y.2.2.1 ha)) a ha) (mA_sub DM (fun a ha => hA a (Nat.le_trans Y.2.2.1 ha))) (fun r u t H1 locs1 ht hvm hp hB hz hk hS => kk r u H1 locs1 hp ⟨fun k x hx => (Y.1 k x hx).kept (hk x.1 (Y.1 k x hx).lt (fun h9 => hap x.1 h9 (va_plm hx))), Y.2.1, hS⟩ (by rw [← ht]; exact hB.1) (hB.2.2.weaken (fun k x hk h9 => mA_sub DM (fun a ha => hA a (Nat.le_trans Y.2.2.1 ha)) x.1 h9)) (fun k x hx => hap x.1 (hB.2.2.2 k x hx)))
end LROWS
