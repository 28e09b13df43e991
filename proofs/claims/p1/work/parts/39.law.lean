/-! The law, for a script of one call: its entry, its end, the rows of its calls. -/
/-! THE CLAIM OUT OF ONE WALK OF THE LAW'S BODY. Your part is whole_start (and what it stands on); all else here is the same for every law, but numbers. -/
def R_law : String := "RealmHouseLaw"
def lw_P (b : Addr) (xs : List Int32) (args : Array Value) (s : State) : Prop := args = #[.ref b] ∧ s.IntsAt b xs ∧ xs.length ≤ 8 ∧ (Jvm.Cond.and given_1 narrow_1).before args s = true
def lw_Q (_ : Array Value) (s : State) (o : Outcome) (t : State) : Prop := o = .returned (some (.int 1)) ∧ Framed s o t [] 600000 7302249
def lw_Z (below : List Frame) (a : Array Value) (s : State) : State → Prop := fun t => ∃ o, t.status = .running ∧ Ended t below o ∧ lw_Q a s o t
/-- the law's own end, with 1 on the stack, nothing written that was there before, its room as the claim has it -/
theorem lw_ret {p : Program} {l : Launch} {e : Env} {s : State} {m : MethodId} {below : List Frame} {meth : Method} {c : Code} {b : Nat} (hx : p.tables.exec = Jvm.exec) (hb : c.code = code) (hr : meth.sig.returnType = ret) (hlocks : meth.locks = false) {pc : Nat} {H : Heap} {ls : Array Slot} (hdg : decode code pc = .ok (.ireturn, 1)) : W p l e room_1 s m #[Value.ref b] below meth c H [] 600000 7302249 (lw_Z below #[Value.ref b] s) (F0 m pc ls [.int 1]) := by
  intro T hT X
  obtain ⟨fs, hret, hrun, hended, hW, hframe⟩ := X.leave (v := some (.int 1)) (hlocks := hlocks) (fun h => by rw [hr] at h; cases h)
  have hmeth' : T.vm.method? m = some meth := X.method'
  refine ⟨T.setFrames fs, ?_, .returned (some (.int 1)), hrun, hended, rfl, ⟨_, rfl⟩, hW, hframe⟩
  jvm_step X.here [X.here.top, hx, hb, hdg, hmeth', hr, ret, narrow_b1]
  (try refine ⟨rfl, ?_⟩); (try refine ⟨rfl, ?_⟩)
  first | (intro acts; rw [hret _ acts rfl rfl rfl]) | rw [hret _ _ rfl rfl rfl]
  exact Steps.refl _
/-- what holds at the law's entry: the machine, the code, the tables' words (any of lw_tbl by 'hts w (by decide +kernel)'), the script of L ints xs at the cell b, what the Statement gives of the start (any of its parts by flat_of_before) -/
def lw_At (p : Program) (s : State) (m : MethodId) (meth : Method) (c : Code) (b L : Nat) (xs : Nat → Int32) : Prop :=
  p.tables.exec = Jvm.exec ∧ c.code = code ∧ meth.sig.returnType = ret ∧ c.maxLocals = 4 ∧ s.vm.findClass R_law = some m.cls ∧ (∀ w ∈ lw_tbl, w.before #[Value.ref b] s = true) ∧ va_X b L xs s s.heap ∧ b < s.heap.size ∧ meth.locks = false ∧ (Jvm.Cond.and given_1 narrow_1).before #[Value.ref b] s = true
theorem fld_fs (f : pF) (q : Nat) : va_up f q (.inr (0, [.null, .null, .null, .null, .null, .null, .null, .null, .null])) q = .inr (0, [.null, .null, .null, .null, .null, .null, .null, .null, .null]) := q_up
def lA (s : State) : Nat → Prop := fun q => s.heap.size ≤ q
theorem ck_L_H : Cond.classLink R_law 7 R_H ∈ lw_tg := in_t 20 (by decide +kernel)
theorem ck_L_M : Cond.classLink R_law 10 R_M ∈ lw_tg := in_t 1745 (by decide +kernel)
theorem kl_L_H_init : Cond.methodLink R_law 9 y_H_init ∈ lw_tg := in_t 22 (by decide +kernel)
theorem kl_L_M_init : Cond.methodLink R_law 12 y_init ∈ lw_tg := in_t 1747 (by decide +kernel)
theorem kl_L_H_feed : Cond.methodLink R_law 13 y_H_feed ∈ lw_tg := in_t 739 (by decide +kernel)
theorem kl_L_M_feed : Cond.methodLink R_law 17 y_feed ∈ lw_tg := in_t 2309 (by decide +kernel)
theorem kl_L_H_end : Cond.methodLink R_law 18 y_H_end ∈ lw_tg := in_t 744 (by decide +kernel)
theorem kl_L_M_end : Cond.methodLink R_law 22 y_end ∈ lw_tg := in_t 2313 (by decide +kernel)
theorem kl_L_H_carry : Cond.methodLink R_law 23 y_H_carry ∈ lw_tg := in_t 748 (by decide +kernel)
theorem kl_L_M_carry : Cond.methodLink R_law 27 y_carry ∈ lw_tg := in_t 2321 (by decide +kernel)
theorem kl_L_H_out : Cond.methodLink R_law 28 y_H_out ∈ lw_tg := in_t 754 (by decide +kernel)
theorem kl_L_M_out : Cond.methodLink R_law 32 y_out ∈ lw_tg := in_t 2317 (by decide +kernel)
theorem kl_L_H_clock : Cond.methodLink R_law 33 y_H_clock ∈ lw_tg := in_t 762 (by decide +kernel)
theorem kl_L_M_clock : Cond.methodLink R_law 36 y_clock ∈ lw_tg := in_t 2325 (by decide +kernel)
theorem kl_L_H_seed : Cond.methodLink R_law 37 y_H_seed ∈ lw_tg := in_t 767 (by decide +kernel)
theorem kl_L_M_seed : Cond.methodLink R_law 41 y_seed ∈ lw_tg := in_t 2330 (by decide +kernel)
theorem kl_L_H_principal : Cond.methodLink R_law 42 y_H_principal ∈ lw_tg := in_t 775 (by decide +kernel)
theorem kl_L_M_principal : Cond.methodLink R_law 45 y_principal ∈ lw_tg := in_t 2334 (by decide +kernel)
theorem kl_L_H_change : Cond.methodLink R_law 46 y_H_change ∈ lw_tg := in_t 810 (by decide +kernel)
theorem kl_L_M_change : Cond.methodLink R_law 49 y_change ∈ lw_tg := in_t 2338 (by decide +kernel)
theorem kl_L_H_policy : Cond.methodLink R_law 50 y_H_policy ∈ lw_tg := in_t 818 (by decide +kernel)
theorem kl_L_M_policy : Cond.methodLink R_law 54 y_policy ∈ lw_tg := in_t 2342 (by decide +kernel)
theorem kl_L_H_room : Cond.methodLink R_law 55 y_H_room ∈ lw_tg := in_t 830 (by decide +kernel)
theorem kl_L_M_room : Cond.methodLink R_law 58 y_room ∈ lw_tg := in_t 2348 (by decide +kernel)
theorem kl_L_H_kdc : Cond.methodLink R_law 59 y_H_kdc ∈ lw_tg := in_t 834 (by decide +kernel)
theorem kl_L_M_kdc : Cond.methodLink R_law 63 y_kdc ∈ lw_tg := in_t 2352 (by decide +kernel)
theorem kl_L_H_agent : Cond.methodLink R_law 64 y_H_agent ∈ lw_tg := in_t 1364 (by decide +kernel)
theorem kl_L_M_agent : Cond.methodLink R_law 68 y_agent ∈ lw_tg := in_t 2719 (by decide +kernel)
theorem kl_L_H_shift : Cond.methodLink R_law 69 y_H_shift ∈ lw_tg := in_t 1379 (by decide +kernel)
theorem kl_L_M_shift : Cond.methodLink R_law 72 y_shift ∈ lw_tg := in_t 2723 (by decide +kernel)
theorem kl_L_H_request : Cond.methodLink R_law 73 y_H_request ∈ lw_tg := in_t 1389 (by decide +kernel)
theorem kl_L_M_request : Cond.methodLink R_law 77 y_request ∈ lw_tg := in_t 2745 (by decide +kernel)
theorem kl_L_H_take : Cond.methodLink R_law 78 y_H_take ∈ lw_tg := in_t 1475 (by decide +kernel)
theorem kl_L_M_take : Cond.methodLink R_law 81 y_take ∈ lw_tg := in_t 2784 (by decide +kernel)
theorem kl_L_H_ticket : Cond.methodLink R_law 82 y_H_ticket ∈ lw_tg := in_t 1530 (by decide +kernel)
theorem kl_L_M_ticket : Cond.methodLink R_law 86 y_ticket ∈ lw_tg := in_t 2733 (by decide +kernel)
theorem kl_L_H_drop : Cond.methodLink R_law 87 y_H_drop ∈ lw_tg := in_t 1543 (by decide +kernel)
theorem kl_L_M_drop : Cond.methodLink R_law 90 y_drop ∈ lw_tg := in_t 2741 (by decide +kernel)
theorem kl_L_H_present : Cond.methodLink R_law 91 y_H_present ∈ lw_tg := in_t 1547 (by decide +kernel)
theorem kl_L_M_present : Cond.methodLink R_law 94 y_present ∈ lw_tg := in_t 2804 (by decide +kernel)
theorem kl_L_H_serve : Cond.methodLink R_law 95 y_H_serve ∈ lw_tg := in_t 1557 (by decide +kernel)
theorem kl_L_M_serve : Cond.methodLink R_law 98 y_serve ∈ lw_tg := in_t 2809 (by decide +kernel)
theorem kl_L_H_met : Cond.methodLink R_law 99 y_H_met ∈ lw_tg := in_t 1603 (by decide +kernel)
theorem kl_L_M_met : Cond.methodLink R_law 102 y_met ∈ lw_tg := in_t 2818 (by decide +kernel)
theorem kl_L_H_joins : Cond.methodLink R_law 103 y_H_joins ∈ lw_tg := in_t 1612 (by decide +kernel)
theorem kl_L_M_joins : Cond.methodLink R_law 106 y_joins ∈ lw_tg := in_t 2824 (by decide +kernel)
theorem kl_L_H_send : Cond.methodLink R_law 107 y_H_send ∈ lw_tg := in_t 1628 (by decide +kernel)
theorem kl_L_M_send : Cond.methodLink R_law 110 y_send ∈ lw_tg := in_t 2828 (by decide +kernel)
theorem kl_L_H_receive : Cond.methodLink R_law 111 y_H_receive ∈ lw_tg := in_t 1653 (by decide +kernel)
theorem kl_L_M_receive : Cond.methodLink R_law 114 y_receive ∈ lw_tg := in_t 2845 (by decide +kernel)
theorem kl_L_H_ends : Cond.methodLink R_law 115 y_H_ends ∈ lw_tg := in_t 1679 (by decide +kernel)
theorem kl_L_M_ends : Cond.methodLink R_law 118 y_ends ∈ lw_tg := in_t 2854 (by decide +kernel)
theorem kl_L_H_assure : Cond.methodLink R_law 119 y_H_assure ∈ lw_tg := in_t 1683 (by decide +kernel)
theorem kl_L_M_assure : Cond.methodLink R_law 122 y_assure ∈ lw_tg := in_t 2858 (by decide +kernel)
theorem kl_L_H_assured : Cond.methodLink R_law 123 y_H_assured ∈ lw_tg := in_t 1695 (by decide +kernel)
theorem kl_L_M_assured : Cond.methodLink R_law 126 y_assured ∈ lw_tg := in_t 2863 (by decide +kernel)
theorem kl_L_H_hand : Cond.methodLink R_law 127 y_H_hand ∈ lw_tg := in_t 1705 (by decide +kernel)
theorem kl_L_M_hand : Cond.methodLink R_law 130 y_hand ∈ lw_tg := in_t 2868 (by decide +kernel)
theorem kl_L_H_handed : Cond.methodLink R_law 131 y_H_handed ∈ lw_tg := in_t 1727 (by decide +kernel)
theorem kl_L_M_handed : Cond.methodLink R_law 134 y_handed ∈ lw_tg := in_t 2873 (by decide +kernel)
theorem d_law_0 : decode code 0 = .ok (.new 7, 3) := by decide +kernel
theorem d_law_3 : decode code 3 = .ok (.dup, 1) := by decide +kernel
theorem d_law_4 : decode code 4 = .ok (.invokespecial 9, 3) := by decide +kernel
theorem d_law_7 : decode code 7 = .ok (.astore_n 1, 1) := by decide +kernel
theorem d_law_8 : decode code 8 = .ok (.new 10, 3) := by decide +kernel
theorem d_law_11 : decode code 11 = .ok (.dup, 1) := by decide +kernel
theorem d_law_12 : decode code 12 = .ok (.invokespecial 12, 3) := by decide +kernel
theorem d_law_15 : decode code 15 = .ok (.astore_n 2, 1) := by decide +kernel
theorem d_law_16 : decode code 16 = .ok (.iconst 0, 1) := by decide +kernel
theorem d_law_17 : decode code 17 = .ok (.istore_n 3, 1) := by decide +kernel
theorem d_law_18 : decode code 18 = .ok (.iload_n 3, 1) := by decide +kernel
theorem d_law_19 : decode code 19 = .ok (.aload_n 0, 1) := by decide +kernel
theorem d_law_20 : decode code 20 = .ok (.arraylength, 1) := by decide +kernel
theorem d_law_21 : decode code 21 = .ok (.bipush 8, 2) := by decide +kernel
theorem d_law_23 : decode code 23 = .ok (.isub, 1) := by decide +kernel
theorem d_law_24 : decode code 24 = .ok (.if_icmp .gt 1050, 3) := by decide +kernel
theorem d_law_27 : decode code 27 = .ok (.aload_n 0, 1) := by decide +kernel
theorem d_law_28 : decode code 28 = .ok (.iload_n 3, 1) := by decide +kernel
theorem d_law_29 : decode code 29 = .ok (.iaload, 1) := by decide +kernel
theorem d_law_30 : decode code 30 = .ok (.bipush 31, 2) := by decide +kernel
theorem d_law_32 : decode code 32 = .ok (.iand, 1) := by decide +kernel
theorem d_law_33 : decode code 33 = .ok (.tableswitch 1035 0 27 #[127, 190, 213, 246, 269, 292, 305, 328, 361, 404, 427, 440, 473, 506, 593, 616, 659, 692, 735, 758, 781, 814, 847, 880, 903, 936, 969, 1002], 127) := by decide +kernel
theorem d_law_160 : decode code 160 = .ok (.aload_n 1, 1) := by decide +kernel
theorem d_law_161 : decode code 161 = .ok (.aload_n 0, 1) := by decide +kernel
theorem d_law_162 : decode code 162 = .ok (.iload_n 3, 1) := by decide +kernel
theorem d_law_163 : decode code 163 = .ok (.iconst 1, 1) := by decide +kernel
theorem d_law_164 : decode code 164 = .ok (.iadd, 1) := by decide +kernel
theorem d_law_165 : decode code 165 = .ok (.iaload, 1) := by decide +kernel
theorem d_law_166 : decode code 166 = .ok (.aload_n 0, 1) := by decide +kernel
theorem d_law_167 : decode code 167 = .ok (.iload_n 3, 1) := by decide +kernel
theorem d_law_168 : decode code 168 = .ok (.iconst 2, 1) := by decide +kernel
theorem d_law_169 : decode code 169 = .ok (.iadd, 1) := by decide +kernel
theorem d_law_170 : decode code 170 = .ok (.iaload, 1) := by decide +kernel
theorem d_law_171 : decode code 171 = .ok (.aload_n 0, 1) := by decide +kernel
theorem d_law_172 : decode code 172 = .ok (.iload_n 3, 1) := by decide +kernel
theorem d_law_173 : decode code 173 = .ok (.iconst 3, 1) := by decide +kernel
theorem d_law_174 : decode code 174 = .ok (.iadd, 1) := by decide +kernel
theorem d_law_175 : decode code 175 = .ok (.iaload, 1) := by decide +kernel
theorem d_law_176 : decode code 176 = .ok (.aload_n 0, 1) := by decide +kernel
theorem d_law_177 : decode code 177 = .ok (.iload_n 3, 1) := by decide +kernel
theorem d_law_178 : decode code 178 = .ok (.iconst 4, 1) := by decide +kernel
theorem d_law_179 : decode code 179 = .ok (.iadd, 1) := by decide +kernel
theorem d_law_180 : decode code 180 = .ok (.iaload, 1) := by decide +kernel
theorem d_law_181 : decode code 181 = .ok (.aload_n 0, 1) := by decide +kernel
theorem d_law_182 : decode code 182 = .ok (.iload_n 3, 1) := by decide +kernel
theorem d_law_183 : decode code 183 = .ok (.iconst 5, 1) := by decide +kernel
theorem d_law_184 : decode code 184 = .ok (.iadd, 1) := by decide +kernel
theorem d_law_185 : decode code 185 = .ok (.iaload, 1) := by decide +kernel
theorem d_law_186 : decode code 186 = .ok (.invokevirtual 13, 3) := by decide +kernel
theorem d_law_189 : decode code 189 = .ok (.aload_n 2, 1) := by decide +kernel
theorem d_law_190 : decode code 190 = .ok (.aload_n 0, 1) := by decide +kernel
theorem d_law_191 : decode code 191 = .ok (.iload_n 3, 1) := by decide +kernel
theorem d_law_192 : decode code 192 = .ok (.iconst 1, 1) := by decide +kernel
theorem d_law_193 : decode code 193 = .ok (.iadd, 1) := by decide +kernel
theorem d_law_194 : decode code 194 = .ok (.iaload, 1) := by decide +kernel
theorem d_law_195 : decode code 195 = .ok (.aload_n 0, 1) := by decide +kernel
theorem d_law_196 : decode code 196 = .ok (.iload_n 3, 1) := by decide +kernel
theorem d_law_197 : decode code 197 = .ok (.iconst 2, 1) := by decide +kernel
theorem d_law_198 : decode code 198 = .ok (.iadd, 1) := by decide +kernel
theorem d_law_199 : decode code 199 = .ok (.iaload, 1) := by decide +kernel
theorem d_law_200 : decode code 200 = .ok (.aload_n 0, 1) := by decide +kernel
theorem d_law_201 : decode code 201 = .ok (.iload_n 3, 1) := by decide +kernel
theorem d_law_202 : decode code 202 = .ok (.iconst 3, 1) := by decide +kernel
theorem d_law_203 : decode code 203 = .ok (.iadd, 1) := by decide +kernel
theorem d_law_204 : decode code 204 = .ok (.iaload, 1) := by decide +kernel
theorem d_law_205 : decode code 205 = .ok (.aload_n 0, 1) := by decide +kernel
theorem d_law_206 : decode code 206 = .ok (.iload_n 3, 1) := by decide +kernel
theorem d_law_207 : decode code 207 = .ok (.iconst 4, 1) := by decide +kernel
theorem d_law_208 : decode code 208 = .ok (.iadd, 1) := by decide +kernel
theorem d_law_209 : decode code 209 = .ok (.iaload, 1) := by decide +kernel
theorem d_law_210 : decode code 210 = .ok (.aload_n 0, 1) := by decide +kernel
theorem d_law_211 : decode code 211 = .ok (.iload_n 3, 1) := by decide +kernel
theorem d_law_212 : decode code 212 = .ok (.iconst 5, 1) := by decide +kernel
theorem d_law_213 : decode code 213 = .ok (.iadd, 1) := by decide +kernel
theorem d_law_214 : decode code 214 = .ok (.iaload, 1) := by decide +kernel
theorem d_law_215 : decode code 215 = .ok (.invokevirtual 17, 3) := by decide +kernel
theorem d_law_218 : decode code 218 = .ok (.if_icmp .eq 850, 3) := by decide +kernel
theorem d_law_223 : decode code 223 = .ok (.aload_n 1, 1) := by decide +kernel
theorem d_law_224 : decode code 224 = .ok (.aload_n 0, 1) := by decide +kernel
theorem d_law_225 : decode code 225 = .ok (.iload_n 3, 1) := by decide +kernel
theorem d_law_226 : decode code 226 = .ok (.iconst 1, 1) := by decide +kernel
theorem d_law_227 : decode code 227 = .ok (.iadd, 1) := by decide +kernel
theorem d_law_228 : decode code 228 = .ok (.iaload, 1) := by decide +kernel
theorem d_law_229 : decode code 229 = .ok (.invokevirtual 18, 3) := by decide +kernel
theorem d_law_232 : decode code 232 = .ok (.aload_n 2, 1) := by decide +kernel
theorem d_law_233 : decode code 233 = .ok (.aload_n 0, 1) := by decide +kernel
theorem d_law_234 : decode code 234 = .ok (.iload_n 3, 1) := by decide +kernel
theorem d_law_235 : decode code 235 = .ok (.iconst 1, 1) := by decide +kernel
theorem d_law_236 : decode code 236 = .ok (.iadd, 1) := by decide +kernel
theorem d_law_237 : decode code 237 = .ok (.iaload, 1) := by decide +kernel
theorem d_law_238 : decode code 238 = .ok (.invokevirtual 22, 3) := by decide +kernel
theorem d_law_241 : decode code 241 = .ok (.if_icmp .eq 827, 3) := by decide +kernel
theorem d_law_246 : decode code 246 = .ok (.aload_n 1, 1) := by decide +kernel
theorem d_law_247 : decode code 247 = .ok (.aload_n 0, 1) := by decide +kernel
theorem d_law_248 : decode code 248 = .ok (.iload_n 3, 1) := by decide +kernel
theorem d_law_249 : decode code 249 = .ok (.iconst 1, 1) := by decide +kernel
theorem d_law_250 : decode code 250 = .ok (.iadd, 1) := by decide +kernel
theorem d_law_251 : decode code 251 = .ok (.iaload, 1) := by decide +kernel
theorem d_law_252 : decode code 252 = .ok (.aload_n 0, 1) := by decide +kernel
theorem d_law_253 : decode code 253 = .ok (.iload_n 3, 1) := by decide +kernel
theorem d_law_254 : decode code 254 = .ok (.iconst 2, 1) := by decide +kernel
theorem d_law_255 : decode code 255 = .ok (.iadd, 1) := by decide +kernel
theorem d_law_256 : decode code 256 = .ok (.iaload, 1) := by decide +kernel
theorem d_law_257 : decode code 257 = .ok (.invokevirtual 23, 3) := by decide +kernel
theorem d_law_260 : decode code 260 = .ok (.aload_n 2, 1) := by decide +kernel
theorem d_law_261 : decode code 261 = .ok (.aload_n 0, 1) := by decide +kernel
theorem d_law_262 : decode code 262 = .ok (.iload_n 3, 1) := by decide +kernel
theorem d_law_263 : decode code 263 = .ok (.iconst 1, 1) := by decide +kernel
theorem d_law_264 : decode code 264 = .ok (.iadd, 1) := by decide +kernel
theorem d_law_265 : decode code 265 = .ok (.iaload, 1) := by decide +kernel
theorem d_law_266 : decode code 266 = .ok (.aload_n 0, 1) := by decide +kernel
theorem d_law_267 : decode code 267 = .ok (.iload_n 3, 1) := by decide +kernel
theorem d_law_268 : decode code 268 = .ok (.iconst 2, 1) := by decide +kernel
theorem d_law_269 : decode code 269 = .ok (.iadd, 1) := by decide +kernel
theorem d_law_270 : decode code 270 = .ok (.iaload, 1) := by decide +kernel
theorem d_law_271 : decode code 271 = .ok (.invokevirtual 27, 3) := by decide +kernel
theorem d_law_274 : decode code 274 = .ok (.if_icmp .eq 794, 3) := by decide +kernel
theorem d_law_279 : decode code 279 = .ok (.aload_n 1, 1) := by decide +kernel
theorem d_law_280 : decode code 280 = .ok (.aload_n 0, 1) := by decide +kernel
theorem d_law_281 : decode code 281 = .ok (.iload_n 3, 1) := by decide +kernel
theorem d_law_282 : decode code 282 = .ok (.iconst 1, 1) := by decide +kernel
theorem d_law_283 : decode code 283 = .ok (.iadd, 1) := by decide +kernel
theorem d_law_284 : decode code 284 = .ok (.iaload, 1) := by decide +kernel
theorem d_law_285 : decode code 285 = .ok (.invokevirtual 28, 3) := by decide +kernel
theorem d_law_288 : decode code 288 = .ok (.aload_n 2, 1) := by decide +kernel
theorem d_law_289 : decode code 289 = .ok (.aload_n 0, 1) := by decide +kernel
theorem d_law_290 : decode code 290 = .ok (.iload_n 3, 1) := by decide +kernel
theorem d_law_291 : decode code 291 = .ok (.iconst 1, 1) := by decide +kernel
theorem d_law_292 : decode code 292 = .ok (.iadd, 1) := by decide +kernel
theorem d_law_293 : decode code 293 = .ok (.iaload, 1) := by decide +kernel
theorem d_law_294 : decode code 294 = .ok (.invokevirtual 32, 3) := by decide +kernel
theorem d_law_297 : decode code 297 = .ok (.if_icmp .eq 771, 3) := by decide +kernel
theorem d_law_302 : decode code 302 = .ok (.aload_n 1, 1) := by decide +kernel
theorem d_law_303 : decode code 303 = .ok (.aload_n 0, 1) := by decide +kernel
theorem d_law_304 : decode code 304 = .ok (.iload_n 3, 1) := by decide +kernel
theorem d_law_305 : decode code 305 = .ok (.iconst 1, 1) := by decide +kernel
theorem d_law_306 : decode code 306 = .ok (.iadd, 1) := by decide +kernel
theorem d_law_307 : decode code 307 = .ok (.iaload, 1) := by decide +kernel
theorem d_law_308 : decode code 308 = .ok (.invokevirtual 33, 3) := by decide +kernel
theorem d_law_311 : decode code 311 = .ok (.aload_n 2, 1) := by decide +kernel
theorem d_law_312 : decode code 312 = .ok (.aload_n 0, 1) := by decide +kernel
theorem d_law_313 : decode code 313 = .ok (.iload_n 3, 1) := by decide +kernel
theorem d_law_314 : decode code 314 = .ok (.iconst 1, 1) := by decide +kernel
theorem d_law_315 : decode code 315 = .ok (.iadd, 1) := by decide +kernel
theorem d_law_316 : decode code 316 = .ok (.iaload, 1) := by decide +kernel
theorem d_law_317 : decode code 317 = .ok (.invokevirtual 36, 3) := by decide +kernel
theorem d_law_320 : decode code 320 = .ok (.if_icmp .eq 748, 3) := by decide +kernel
theorem d_law_325 : decode code 325 = .ok (.aload_n 1, 1) := by decide +kernel
theorem d_law_326 : decode code 326 = .ok (.invokevirtual 37, 3) := by decide +kernel
theorem d_law_329 : decode code 329 = .ok (.aload_n 2, 1) := by decide +kernel
theorem d_law_330 : decode code 330 = .ok (.invokevirtual 41, 3) := by decide +kernel
theorem d_law_333 : decode code 333 = .ok (.if_icmp .eq 735, 3) := by decide +kernel
theorem d_law_338 : decode code 338 = .ok (.aload_n 1, 1) := by decide +kernel
theorem d_law_339 : decode code 339 = .ok (.aload_n 0, 1) := by decide +kernel
theorem d_law_340 : decode code 340 = .ok (.iload_n 3, 1) := by decide +kernel
theorem d_law_341 : decode code 341 = .ok (.iconst 1, 1) := by decide +kernel
theorem d_law_342 : decode code 342 = .ok (.iadd, 1) := by decide +kernel
theorem d_law_343 : decode code 343 = .ok (.iaload, 1) := by decide +kernel
theorem d_law_344 : decode code 344 = .ok (.invokevirtual 42, 3) := by decide +kernel
theorem d_law_347 : decode code 347 = .ok (.aload_n 2, 1) := by decide +kernel
theorem d_law_348 : decode code 348 = .ok (.aload_n 0, 1) := by decide +kernel
theorem d_law_349 : decode code 349 = .ok (.iload_n 3, 1) := by decide +kernel
theorem d_law_350 : decode code 350 = .ok (.iconst 1, 1) := by decide +kernel
theorem d_law_351 : decode code 351 = .ok (.iadd, 1) := by decide +kernel
theorem d_law_352 : decode code 352 = .ok (.iaload, 1) := by decide +kernel
theorem d_law_353 : decode code 353 = .ok (.invokevirtual 45, 3) := by decide +kernel
theorem d_law_356 : decode code 356 = .ok (.if_icmp .eq 712, 3) := by decide +kernel
theorem d_law_361 : decode code 361 = .ok (.aload_n 1, 1) := by decide +kernel
theorem d_law_362 : decode code 362 = .ok (.aload_n 0, 1) := by decide +kernel
theorem d_law_363 : decode code 363 = .ok (.iload_n 3, 1) := by decide +kernel
theorem d_law_364 : decode code 364 = .ok (.iconst 1, 1) := by decide +kernel
theorem d_law_365 : decode code 365 = .ok (.iadd, 1) := by decide +kernel
theorem d_law_366 : decode code 366 = .ok (.iaload, 1) := by decide +kernel
theorem d_law_367 : decode code 367 = .ok (.aload_n 0, 1) := by decide +kernel
theorem d_law_368 : decode code 368 = .ok (.iload_n 3, 1) := by decide +kernel
theorem d_law_369 : decode code 369 = .ok (.iconst 2, 1) := by decide +kernel
theorem d_law_370 : decode code 370 = .ok (.iadd, 1) := by decide +kernel
theorem d_law_371 : decode code 371 = .ok (.iaload, 1) := by decide +kernel
theorem d_law_372 : decode code 372 = .ok (.invokevirtual 46, 3) := by decide +kernel
theorem d_law_375 : decode code 375 = .ok (.aload_n 2, 1) := by decide +kernel
theorem d_law_376 : decode code 376 = .ok (.aload_n 0, 1) := by decide +kernel
theorem d_law_377 : decode code 377 = .ok (.iload_n 3, 1) := by decide +kernel
theorem d_law_378 : decode code 378 = .ok (.iconst 1, 1) := by decide +kernel
theorem d_law_379 : decode code 379 = .ok (.iadd, 1) := by decide +kernel
theorem d_law_380 : decode code 380 = .ok (.iaload, 1) := by decide +kernel
theorem d_law_381 : decode code 381 = .ok (.aload_n 0, 1) := by decide +kernel
theorem d_law_382 : decode code 382 = .ok (.iload_n 3, 1) := by decide +kernel
theorem d_law_383 : decode code 383 = .ok (.iconst 2, 1) := by decide +kernel
theorem d_law_384 : decode code 384 = .ok (.iadd, 1) := by decide +kernel
theorem d_law_385 : decode code 385 = .ok (.iaload, 1) := by decide +kernel
theorem d_law_386 : decode code 386 = .ok (.invokevirtual 49, 3) := by decide +kernel
theorem d_law_389 : decode code 389 = .ok (.if_icmp .eq 679, 3) := by decide +kernel
theorem d_law_394 : decode code 394 = .ok (.aload_n 1, 1) := by decide +kernel
theorem d_law_395 : decode code 395 = .ok (.aload_n 0, 1) := by decide +kernel
theorem d_law_396 : decode code 396 = .ok (.iload_n 3, 1) := by decide +kernel
theorem d_law_397 : decode code 397 = .ok (.iconst 1, 1) := by decide +kernel
theorem d_law_398 : decode code 398 = .ok (.iadd, 1) := by decide +kernel
theorem d_law_399 : decode code 399 = .ok (.iaload, 1) := by decide +kernel
theorem d_law_400 : decode code 400 = .ok (.aload_n 0, 1) := by decide +kernel
theorem d_law_401 : decode code 401 = .ok (.iload_n 3, 1) := by decide +kernel
theorem d_law_402 : decode code 402 = .ok (.iconst 2, 1) := by decide +kernel
theorem d_law_403 : decode code 403 = .ok (.iadd, 1) := by decide +kernel
theorem d_law_404 : decode code 404 = .ok (.iaload, 1) := by decide +kernel
theorem d_law_405 : decode code 405 = .ok (.aload_n 0, 1) := by decide +kernel
theorem d_law_406 : decode code 406 = .ok (.iload_n 3, 1) := by decide +kernel
theorem d_law_407 : decode code 407 = .ok (.iconst 3, 1) := by decide +kernel
theorem d_law_408 : decode code 408 = .ok (.iadd, 1) := by decide +kernel
theorem d_law_409 : decode code 409 = .ok (.iaload, 1) := by decide +kernel
theorem d_law_410 : decode code 410 = .ok (.invokevirtual 50, 3) := by decide +kernel
theorem d_law_413 : decode code 413 = .ok (.aload_n 2, 1) := by decide +kernel
theorem d_law_414 : decode code 414 = .ok (.aload_n 0, 1) := by decide +kernel
theorem d_law_415 : decode code 415 = .ok (.iload_n 3, 1) := by decide +kernel
theorem d_law_416 : decode code 416 = .ok (.iconst 1, 1) := by decide +kernel
theorem d_law_417 : decode code 417 = .ok (.iadd, 1) := by decide +kernel
theorem d_law_418 : decode code 418 = .ok (.iaload, 1) := by decide +kernel
theorem d_law_419 : decode code 419 = .ok (.aload_n 0, 1) := by decide +kernel
theorem d_law_420 : decode code 420 = .ok (.iload_n 3, 1) := by decide +kernel
theorem d_law_421 : decode code 421 = .ok (.iconst 2, 1) := by decide +kernel
theorem d_law_422 : decode code 422 = .ok (.iadd, 1) := by decide +kernel
theorem d_law_423 : decode code 423 = .ok (.iaload, 1) := by decide +kernel
theorem d_law_424 : decode code 424 = .ok (.aload_n 0, 1) := by decide +kernel
theorem d_law_425 : decode code 425 = .ok (.iload_n 3, 1) := by decide +kernel
theorem d_law_426 : decode code 426 = .ok (.iconst 3, 1) := by decide +kernel
theorem d_law_427 : decode code 427 = .ok (.iadd, 1) := by decide +kernel
theorem d_law_428 : decode code 428 = .ok (.iaload, 1) := by decide +kernel
theorem d_law_429 : decode code 429 = .ok (.invokevirtual 54, 3) := by decide +kernel
theorem d_law_432 : decode code 432 = .ok (.if_icmp .eq 636, 3) := by decide +kernel
theorem d_law_437 : decode code 437 = .ok (.aload_n 1, 1) := by decide +kernel
theorem d_law_438 : decode code 438 = .ok (.aload_n 0, 1) := by decide +kernel
theorem d_law_439 : decode code 439 = .ok (.iload_n 3, 1) := by decide +kernel
theorem d_law_440 : decode code 440 = .ok (.iconst 1, 1) := by decide +kernel
theorem d_law_441 : decode code 441 = .ok (.iadd, 1) := by decide +kernel
theorem d_law_442 : decode code 442 = .ok (.iaload, 1) := by decide +kernel
theorem d_law_443 : decode code 443 = .ok (.invokevirtual 55, 3) := by decide +kernel
theorem d_law_446 : decode code 446 = .ok (.aload_n 2, 1) := by decide +kernel
theorem d_law_447 : decode code 447 = .ok (.aload_n 0, 1) := by decide +kernel
theorem d_law_448 : decode code 448 = .ok (.iload_n 3, 1) := by decide +kernel
theorem d_law_449 : decode code 449 = .ok (.iconst 1, 1) := by decide +kernel
theorem d_law_450 : decode code 450 = .ok (.iadd, 1) := by decide +kernel
theorem d_law_451 : decode code 451 = .ok (.iaload, 1) := by decide +kernel
theorem d_law_452 : decode code 452 = .ok (.invokevirtual 58, 3) := by decide +kernel
theorem d_law_455 : decode code 455 = .ok (.if_icmp .eq 613, 3) := by decide +kernel
theorem d_law_460 : decode code 460 = .ok (.aload_n 1, 1) := by decide +kernel
theorem d_law_461 : decode code 461 = .ok (.invokevirtual 59, 3) := by decide +kernel
theorem d_law_464 : decode code 464 = .ok (.aload_n 2, 1) := by decide +kernel
theorem d_law_465 : decode code 465 = .ok (.invokevirtual 63, 3) := by decide +kernel
theorem d_law_468 : decode code 468 = .ok (.if_icmp .eq 600, 3) := by decide +kernel
theorem d_law_473 : decode code 473 = .ok (.aload_n 1, 1) := by decide +kernel
theorem d_law_474 : decode code 474 = .ok (.aload_n 0, 1) := by decide +kernel
theorem d_law_475 : decode code 475 = .ok (.iload_n 3, 1) := by decide +kernel
theorem d_law_476 : decode code 476 = .ok (.iconst 1, 1) := by decide +kernel
theorem d_law_477 : decode code 477 = .ok (.iadd, 1) := by decide +kernel
theorem d_law_478 : decode code 478 = .ok (.iaload, 1) := by decide +kernel
theorem d_law_479 : decode code 479 = .ok (.aload_n 0, 1) := by decide +kernel
theorem d_law_480 : decode code 480 = .ok (.iload_n 3, 1) := by decide +kernel
theorem d_law_481 : decode code 481 = .ok (.iconst 2, 1) := by decide +kernel
theorem d_law_482 : decode code 482 = .ok (.iadd, 1) := by decide +kernel
theorem d_law_483 : decode code 483 = .ok (.iaload, 1) := by decide +kernel
theorem d_law_484 : decode code 484 = .ok (.invokevirtual 64, 3) := by decide +kernel
theorem d_law_487 : decode code 487 = .ok (.aload_n 2, 1) := by decide +kernel
theorem d_law_488 : decode code 488 = .ok (.aload_n 0, 1) := by decide +kernel
theorem d_law_489 : decode code 489 = .ok (.iload_n 3, 1) := by decide +kernel
theorem d_law_490 : decode code 490 = .ok (.iconst 1, 1) := by decide +kernel
theorem d_law_491 : decode code 491 = .ok (.iadd, 1) := by decide +kernel
theorem d_law_492 : decode code 492 = .ok (.iaload, 1) := by decide +kernel
theorem d_law_493 : decode code 493 = .ok (.aload_n 0, 1) := by decide +kernel
theorem d_law_494 : decode code 494 = .ok (.iload_n 3, 1) := by decide +kernel
theorem d_law_495 : decode code 495 = .ok (.iconst 2, 1) := by decide +kernel
theorem d_law_496 : decode code 496 = .ok (.iadd, 1) := by decide +kernel
theorem d_law_497 : decode code 497 = .ok (.iaload, 1) := by decide +kernel
theorem d_law_498 : decode code 498 = .ok (.invokevirtual 68, 3) := by decide +kernel
theorem d_law_501 : decode code 501 = .ok (.if_icmp .eq 567, 3) := by decide +kernel
theorem d_law_506 : decode code 506 = .ok (.aload_n 1, 1) := by decide +kernel
theorem d_law_507 : decode code 507 = .ok (.aload_n 0, 1) := by decide +kernel
theorem d_law_508 : decode code 508 = .ok (.iload_n 3, 1) := by decide +kernel
theorem d_law_509 : decode code 509 = .ok (.iconst 1, 1) := by decide +kernel
theorem d_law_510 : decode code 510 = .ok (.iadd, 1) := by decide +kernel
theorem d_law_511 : decode code 511 = .ok (.iaload, 1) := by decide +kernel
theorem d_law_512 : decode code 512 = .ok (.aload_n 0, 1) := by decide +kernel
theorem d_law_513 : decode code 513 = .ok (.iload_n 3, 1) := by decide +kernel
theorem d_law_514 : decode code 514 = .ok (.iconst 2, 1) := by decide +kernel
theorem d_law_515 : decode code 515 = .ok (.iadd, 1) := by decide +kernel
theorem d_law_516 : decode code 516 = .ok (.iaload, 1) := by decide +kernel
theorem d_law_517 : decode code 517 = .ok (.invokevirtual 69, 3) := by decide +kernel
theorem d_law_520 : decode code 520 = .ok (.aload_n 2, 1) := by decide +kernel
theorem d_law_521 : decode code 521 = .ok (.aload_n 0, 1) := by decide +kernel
theorem d_law_522 : decode code 522 = .ok (.iload_n 3, 1) := by decide +kernel
theorem d_law_523 : decode code 523 = .ok (.iconst 1, 1) := by decide +kernel
theorem d_law_524 : decode code 524 = .ok (.iadd, 1) := by decide +kernel
theorem d_law_525 : decode code 525 = .ok (.iaload, 1) := by decide +kernel
theorem d_law_526 : decode code 526 = .ok (.aload_n 0, 1) := by decide +kernel
theorem d_law_527 : decode code 527 = .ok (.iload_n 3, 1) := by decide +kernel
theorem d_law_528 : decode code 528 = .ok (.iconst 2, 1) := by decide +kernel
theorem d_law_529 : decode code 529 = .ok (.iadd, 1) := by decide +kernel
theorem d_law_530 : decode code 530 = .ok (.iaload, 1) := by decide +kernel
theorem d_law_531 : decode code 531 = .ok (.invokevirtual 72, 3) := by decide +kernel
theorem d_law_534 : decode code 534 = .ok (.if_icmp .eq 534, 3) := by decide +kernel
theorem d_law_539 : decode code 539 = .ok (.aload_n 1, 1) := by decide +kernel
theorem d_law_540 : decode code 540 = .ok (.aload_n 0, 1) := by decide +kernel
theorem d_law_541 : decode code 541 = .ok (.iload_n 3, 1) := by decide +kernel
theorem d_law_542 : decode code 542 = .ok (.iconst 1, 1) := by decide +kernel
theorem d_law_543 : decode code 543 = .ok (.iadd, 1) := by decide +kernel
theorem d_law_544 : decode code 544 = .ok (.iaload, 1) := by decide +kernel
theorem d_law_545 : decode code 545 = .ok (.aload_n 0, 1) := by decide +kernel
theorem d_law_546 : decode code 546 = .ok (.iload_n 3, 1) := by decide +kernel
theorem d_law_547 : decode code 547 = .ok (.iconst 2, 1) := by decide +kernel
theorem d_law_548 : decode code 548 = .ok (.iadd, 1) := by decide +kernel
theorem d_law_549 : decode code 549 = .ok (.iaload, 1) := by decide +kernel
theorem d_law_550 : decode code 550 = .ok (.aload_n 0, 1) := by decide +kernel
theorem d_law_551 : decode code 551 = .ok (.iload_n 3, 1) := by decide +kernel
theorem d_law_552 : decode code 552 = .ok (.iconst 3, 1) := by decide +kernel
theorem d_law_553 : decode code 553 = .ok (.iadd, 1) := by decide +kernel
theorem d_law_554 : decode code 554 = .ok (.iaload, 1) := by decide +kernel
theorem d_law_555 : decode code 555 = .ok (.aload_n 0, 1) := by decide +kernel
theorem d_law_556 : decode code 556 = .ok (.iload_n 3, 1) := by decide +kernel
theorem d_law_557 : decode code 557 = .ok (.iconst 4, 1) := by decide +kernel
theorem d_law_558 : decode code 558 = .ok (.iadd, 1) := by decide +kernel
theorem d_law_559 : decode code 559 = .ok (.iaload, 1) := by decide +kernel
theorem d_law_560 : decode code 560 = .ok (.aload_n 0, 1) := by decide +kernel
theorem d_law_561 : decode code 561 = .ok (.iload_n 3, 1) := by decide +kernel
theorem d_law_562 : decode code 562 = .ok (.iconst 5, 1) := by decide +kernel
theorem d_law_563 : decode code 563 = .ok (.iadd, 1) := by decide +kernel
theorem d_law_564 : decode code 564 = .ok (.iaload, 1) := by decide +kernel
theorem d_law_565 : decode code 565 = .ok (.aload_n 0, 1) := by decide +kernel
theorem d_law_566 : decode code 566 = .ok (.iload_n 3, 1) := by decide +kernel
theorem d_law_567 : decode code 567 = .ok (.bipush 6, 2) := by decide +kernel
theorem d_law_569 : decode code 569 = .ok (.iadd, 1) := by decide +kernel
theorem d_law_570 : decode code 570 = .ok (.iaload, 1) := by decide +kernel
theorem d_law_571 : decode code 571 = .ok (.aload_n 0, 1) := by decide +kernel
theorem d_law_572 : decode code 572 = .ok (.iload_n 3, 1) := by decide +kernel
theorem d_law_573 : decode code 573 = .ok (.bipush 7, 2) := by decide +kernel
theorem d_law_575 : decode code 575 = .ok (.iadd, 1) := by decide +kernel
theorem d_law_576 : decode code 576 = .ok (.iaload, 1) := by decide +kernel
theorem d_law_577 : decode code 577 = .ok (.invokevirtual 73, 3) := by decide +kernel
theorem d_law_580 : decode code 580 = .ok (.aload_n 2, 1) := by decide +kernel
theorem d_law_581 : decode code 581 = .ok (.aload_n 0, 1) := by decide +kernel
theorem d_law_582 : decode code 582 = .ok (.iload_n 3, 1) := by decide +kernel
theorem d_law_583 : decode code 583 = .ok (.iconst 1, 1) := by decide +kernel
theorem d_law_584 : decode code 584 = .ok (.iadd, 1) := by decide +kernel
theorem d_law_585 : decode code 585 = .ok (.iaload, 1) := by decide +kernel
theorem d_law_586 : decode code 586 = .ok (.aload_n 0, 1) := by decide +kernel
theorem d_law_587 : decode code 587 = .ok (.iload_n 3, 1) := by decide +kernel
theorem d_law_588 : decode code 588 = .ok (.iconst 2, 1) := by decide +kernel
theorem d_law_589 : decode code 589 = .ok (.iadd, 1) := by decide +kernel
theorem d_law_590 : decode code 590 = .ok (.iaload, 1) := by decide +kernel
theorem d_law_591 : decode code 591 = .ok (.aload_n 0, 1) := by decide +kernel
theorem d_law_592 : decode code 592 = .ok (.iload_n 3, 1) := by decide +kernel
theorem d_law_593 : decode code 593 = .ok (.iconst 3, 1) := by decide +kernel
theorem d_law_594 : decode code 594 = .ok (.iadd, 1) := by decide +kernel
theorem d_law_595 : decode code 595 = .ok (.iaload, 1) := by decide +kernel
theorem d_law_596 : decode code 596 = .ok (.aload_n 0, 1) := by decide +kernel
theorem d_law_597 : decode code 597 = .ok (.iload_n 3, 1) := by decide +kernel
theorem d_law_598 : decode code 598 = .ok (.iconst 4, 1) := by decide +kernel
theorem d_law_599 : decode code 599 = .ok (.iadd, 1) := by decide +kernel
theorem d_law_600 : decode code 600 = .ok (.iaload, 1) := by decide +kernel
theorem d_law_601 : decode code 601 = .ok (.aload_n 0, 1) := by decide +kernel
theorem d_law_602 : decode code 602 = .ok (.iload_n 3, 1) := by decide +kernel
theorem d_law_603 : decode code 603 = .ok (.iconst 5, 1) := by decide +kernel
theorem d_law_604 : decode code 604 = .ok (.iadd, 1) := by decide +kernel
theorem d_law_605 : decode code 605 = .ok (.iaload, 1) := by decide +kernel
theorem d_law_606 : decode code 606 = .ok (.aload_n 0, 1) := by decide +kernel
theorem d_law_607 : decode code 607 = .ok (.iload_n 3, 1) := by decide +kernel
theorem d_law_608 : decode code 608 = .ok (.bipush 6, 2) := by decide +kernel
theorem d_law_610 : decode code 610 = .ok (.iadd, 1) := by decide +kernel
theorem d_law_611 : decode code 611 = .ok (.iaload, 1) := by decide +kernel
theorem d_law_612 : decode code 612 = .ok (.aload_n 0, 1) := by decide +kernel
theorem d_law_613 : decode code 613 = .ok (.iload_n 3, 1) := by decide +kernel
theorem d_law_614 : decode code 614 = .ok (.bipush 7, 2) := by decide +kernel
theorem d_law_616 : decode code 616 = .ok (.iadd, 1) := by decide +kernel
theorem d_law_617 : decode code 617 = .ok (.iaload, 1) := by decide +kernel
theorem d_law_618 : decode code 618 = .ok (.invokevirtual 77, 3) := by decide +kernel
theorem d_law_621 : decode code 621 = .ok (.if_icmp .eq 447, 3) := by decide +kernel
theorem d_law_626 : decode code 626 = .ok (.aload_n 1, 1) := by decide +kernel
theorem d_law_627 : decode code 627 = .ok (.aload_n 0, 1) := by decide +kernel
theorem d_law_628 : decode code 628 = .ok (.iload_n 3, 1) := by decide +kernel
theorem d_law_629 : decode code 629 = .ok (.iconst 1, 1) := by decide +kernel
theorem d_law_630 : decode code 630 = .ok (.iadd, 1) := by decide +kernel
theorem d_law_631 : decode code 631 = .ok (.iaload, 1) := by decide +kernel
theorem d_law_632 : decode code 632 = .ok (.invokevirtual 78, 3) := by decide +kernel
theorem d_law_635 : decode code 635 = .ok (.aload_n 2, 1) := by decide +kernel
theorem d_law_636 : decode code 636 = .ok (.aload_n 0, 1) := by decide +kernel
theorem d_law_637 : decode code 637 = .ok (.iload_n 3, 1) := by decide +kernel
theorem d_law_638 : decode code 638 = .ok (.iconst 1, 1) := by decide +kernel
theorem d_law_639 : decode code 639 = .ok (.iadd, 1) := by decide +kernel
theorem d_law_640 : decode code 640 = .ok (.iaload, 1) := by decide +kernel
theorem d_law_641 : decode code 641 = .ok (.invokevirtual 81, 3) := by decide +kernel
theorem d_law_644 : decode code 644 = .ok (.if_icmp .eq 424, 3) := by decide +kernel
theorem d_law_649 : decode code 649 = .ok (.aload_n 1, 1) := by decide +kernel
theorem d_law_650 : decode code 650 = .ok (.aload_n 0, 1) := by decide +kernel
theorem d_law_651 : decode code 651 = .ok (.iload_n 3, 1) := by decide +kernel
theorem d_law_652 : decode code 652 = .ok (.iconst 1, 1) := by decide +kernel
theorem d_law_653 : decode code 653 = .ok (.iadd, 1) := by decide +kernel
theorem d_law_654 : decode code 654 = .ok (.iaload, 1) := by decide +kernel
theorem d_law_655 : decode code 655 = .ok (.aload_n 0, 1) := by decide +kernel
theorem d_law_656 : decode code 656 = .ok (.iload_n 3, 1) := by decide +kernel
theorem d_law_657 : decode code 657 = .ok (.iconst 2, 1) := by decide +kernel
theorem d_law_658 : decode code 658 = .ok (.iadd, 1) := by decide +kernel
theorem d_law_659 : decode code 659 = .ok (.iaload, 1) := by decide +kernel
theorem d_law_660 : decode code 660 = .ok (.aload_n 0, 1) := by decide +kernel
theorem d_law_661 : decode code 661 = .ok (.iload_n 3, 1) := by decide +kernel
theorem d_law_662 : decode code 662 = .ok (.iconst 3, 1) := by decide +kernel
theorem d_law_663 : decode code 663 = .ok (.iadd, 1) := by decide +kernel
theorem d_law_664 : decode code 664 = .ok (.iaload, 1) := by decide +kernel
theorem d_law_665 : decode code 665 = .ok (.invokevirtual 82, 3) := by decide +kernel
theorem d_law_668 : decode code 668 = .ok (.aload_n 2, 1) := by decide +kernel
theorem d_law_669 : decode code 669 = .ok (.aload_n 0, 1) := by decide +kernel
theorem d_law_670 : decode code 670 = .ok (.iload_n 3, 1) := by decide +kernel
theorem d_law_671 : decode code 671 = .ok (.iconst 1, 1) := by decide +kernel
theorem d_law_672 : decode code 672 = .ok (.iadd, 1) := by decide +kernel
theorem d_law_673 : decode code 673 = .ok (.iaload, 1) := by decide +kernel
theorem d_law_674 : decode code 674 = .ok (.aload_n 0, 1) := by decide +kernel
theorem d_law_675 : decode code 675 = .ok (.iload_n 3, 1) := by decide +kernel
theorem d_law_676 : decode code 676 = .ok (.iconst 2, 1) := by decide +kernel
theorem d_law_677 : decode code 677 = .ok (.iadd, 1) := by decide +kernel
theorem d_law_678 : decode code 678 = .ok (.iaload, 1) := by decide +kernel
theorem d_law_679 : decode code 679 = .ok (.aload_n 0, 1) := by decide +kernel
theorem d_law_680 : decode code 680 = .ok (.iload_n 3, 1) := by decide +kernel
theorem d_law_681 : decode code 681 = .ok (.iconst 3, 1) := by decide +kernel
theorem d_law_682 : decode code 682 = .ok (.iadd, 1) := by decide +kernel
theorem d_law_683 : decode code 683 = .ok (.iaload, 1) := by decide +kernel
theorem d_law_684 : decode code 684 = .ok (.invokevirtual 86, 3) := by decide +kernel
theorem d_law_687 : decode code 687 = .ok (.if_icmp .eq 381, 3) := by decide +kernel
theorem d_law_692 : decode code 692 = .ok (.aload_n 1, 1) := by decide +kernel
theorem d_law_693 : decode code 693 = .ok (.aload_n 0, 1) := by decide +kernel
theorem d_law_694 : decode code 694 = .ok (.iload_n 3, 1) := by decide +kernel
theorem d_law_695 : decode code 695 = .ok (.iconst 1, 1) := by decide +kernel
theorem d_law_696 : decode code 696 = .ok (.iadd, 1) := by decide +kernel
theorem d_law_697 : decode code 697 = .ok (.iaload, 1) := by decide +kernel
theorem d_law_698 : decode code 698 = .ok (.aload_n 0, 1) := by decide +kernel
theorem d_law_699 : decode code 699 = .ok (.iload_n 3, 1) := by decide +kernel
theorem d_law_700 : decode code 700 = .ok (.iconst 2, 1) := by decide +kernel
theorem d_law_701 : decode code 701 = .ok (.iadd, 1) := by decide +kernel
theorem d_law_702 : decode code 702 = .ok (.iaload, 1) := by decide +kernel
theorem d_law_703 : decode code 703 = .ok (.invokevirtual 87, 3) := by decide +kernel
theorem d_law_706 : decode code 706 = .ok (.aload_n 2, 1) := by decide +kernel
theorem d_law_707 : decode code 707 = .ok (.aload_n 0, 1) := by decide +kernel
theorem d_law_708 : decode code 708 = .ok (.iload_n 3, 1) := by decide +kernel
theorem d_law_709 : decode code 709 = .ok (.iconst 1, 1) := by decide +kernel
theorem d_law_710 : decode code 710 = .ok (.iadd, 1) := by decide +kernel
theorem d_law_711 : decode code 711 = .ok (.iaload, 1) := by decide +kernel
theorem d_law_712 : decode code 712 = .ok (.aload_n 0, 1) := by decide +kernel
theorem d_law_713 : decode code 713 = .ok (.iload_n 3, 1) := by decide +kernel
theorem d_law_714 : decode code 714 = .ok (.iconst 2, 1) := by decide +kernel
theorem d_law_715 : decode code 715 = .ok (.iadd, 1) := by decide +kernel
theorem d_law_716 : decode code 716 = .ok (.iaload, 1) := by decide +kernel
theorem d_law_717 : decode code 717 = .ok (.invokevirtual 90, 3) := by decide +kernel
theorem d_law_720 : decode code 720 = .ok (.if_icmp .eq 348, 3) := by decide +kernel
theorem d_law_725 : decode code 725 = .ok (.aload_n 1, 1) := by decide +kernel
theorem d_law_726 : decode code 726 = .ok (.aload_n 0, 1) := by decide +kernel
theorem d_law_727 : decode code 727 = .ok (.iload_n 3, 1) := by decide +kernel
theorem d_law_728 : decode code 728 = .ok (.iconst 1, 1) := by decide +kernel
theorem d_law_729 : decode code 729 = .ok (.iadd, 1) := by decide +kernel
theorem d_law_730 : decode code 730 = .ok (.iaload, 1) := by decide +kernel
theorem d_law_731 : decode code 731 = .ok (.aload_n 0, 1) := by decide +kernel
theorem d_law_732 : decode code 732 = .ok (.iload_n 3, 1) := by decide +kernel
theorem d_law_733 : decode code 733 = .ok (.iconst 2, 1) := by decide +kernel
theorem d_law_734 : decode code 734 = .ok (.iadd, 1) := by decide +kernel
theorem d_law_735 : decode code 735 = .ok (.iaload, 1) := by decide +kernel
theorem d_law_736 : decode code 736 = .ok (.aload_n 0, 1) := by decide +kernel
theorem d_law_737 : decode code 737 = .ok (.iload_n 3, 1) := by decide +kernel
theorem d_law_738 : decode code 738 = .ok (.iconst 3, 1) := by decide +kernel
theorem d_law_739 : decode code 739 = .ok (.iadd, 1) := by decide +kernel
theorem d_law_740 : decode code 740 = .ok (.iaload, 1) := by decide +kernel
theorem d_law_741 : decode code 741 = .ok (.invokevirtual 91, 3) := by decide +kernel
theorem d_law_744 : decode code 744 = .ok (.aload_n 2, 1) := by decide +kernel
theorem d_law_745 : decode code 745 = .ok (.aload_n 0, 1) := by decide +kernel
theorem d_law_746 : decode code 746 = .ok (.iload_n 3, 1) := by decide +kernel
theorem d_law_747 : decode code 747 = .ok (.iconst 1, 1) := by decide +kernel
theorem d_law_748 : decode code 748 = .ok (.iadd, 1) := by decide +kernel
theorem d_law_749 : decode code 749 = .ok (.iaload, 1) := by decide +kernel
theorem d_law_750 : decode code 750 = .ok (.aload_n 0, 1) := by decide +kernel
theorem d_law_751 : decode code 751 = .ok (.iload_n 3, 1) := by decide +kernel
theorem d_law_752 : decode code 752 = .ok (.iconst 2, 1) := by decide +kernel
theorem d_law_753 : decode code 753 = .ok (.iadd, 1) := by decide +kernel
theorem d_law_754 : decode code 754 = .ok (.iaload, 1) := by decide +kernel
theorem d_law_755 : decode code 755 = .ok (.aload_n 0, 1) := by decide +kernel
theorem d_law_756 : decode code 756 = .ok (.iload_n 3, 1) := by decide +kernel
theorem d_law_757 : decode code 757 = .ok (.iconst 3, 1) := by decide +kernel
theorem d_law_758 : decode code 758 = .ok (.iadd, 1) := by decide +kernel
theorem d_law_759 : decode code 759 = .ok (.iaload, 1) := by decide +kernel
theorem d_law_760 : decode code 760 = .ok (.invokevirtual 94, 3) := by decide +kernel
theorem d_law_763 : decode code 763 = .ok (.if_icmp .eq 305, 3) := by decide +kernel
theorem d_law_768 : decode code 768 = .ok (.aload_n 1, 1) := by decide +kernel
theorem d_law_769 : decode code 769 = .ok (.aload_n 0, 1) := by decide +kernel
theorem d_law_770 : decode code 770 = .ok (.iload_n 3, 1) := by decide +kernel
theorem d_law_771 : decode code 771 = .ok (.iconst 1, 1) := by decide +kernel
theorem d_law_772 : decode code 772 = .ok (.iadd, 1) := by decide +kernel
theorem d_law_773 : decode code 773 = .ok (.iaload, 1) := by decide +kernel
theorem d_law_774 : decode code 774 = .ok (.invokevirtual 95, 3) := by decide +kernel
theorem d_law_777 : decode code 777 = .ok (.aload_n 2, 1) := by decide +kernel
theorem d_law_778 : decode code 778 = .ok (.aload_n 0, 1) := by decide +kernel
theorem d_law_779 : decode code 779 = .ok (.iload_n 3, 1) := by decide +kernel
theorem d_law_780 : decode code 780 = .ok (.iconst 1, 1) := by decide +kernel
theorem d_law_781 : decode code 781 = .ok (.iadd, 1) := by decide +kernel
theorem d_law_782 : decode code 782 = .ok (.iaload, 1) := by decide +kernel
theorem d_law_783 : decode code 783 = .ok (.invokevirtual 98, 3) := by decide +kernel
theorem d_law_786 : decode code 786 = .ok (.if_icmp .eq 282, 3) := by decide +kernel
theorem d_law_791 : decode code 791 = .ok (.aload_n 1, 1) := by decide +kernel
theorem d_law_792 : decode code 792 = .ok (.aload_n 0, 1) := by decide +kernel
theorem d_law_793 : decode code 793 = .ok (.iload_n 3, 1) := by decide +kernel
theorem d_law_794 : decode code 794 = .ok (.iconst 1, 1) := by decide +kernel
theorem d_law_795 : decode code 795 = .ok (.iadd, 1) := by decide +kernel
theorem d_law_796 : decode code 796 = .ok (.iaload, 1) := by decide +kernel
theorem d_law_797 : decode code 797 = .ok (.invokevirtual 99, 3) := by decide +kernel
theorem d_law_800 : decode code 800 = .ok (.aload_n 2, 1) := by decide +kernel
theorem d_law_801 : decode code 801 = .ok (.aload_n 0, 1) := by decide +kernel
theorem d_law_802 : decode code 802 = .ok (.iload_n 3, 1) := by decide +kernel
theorem d_law_803 : decode code 803 = .ok (.iconst 1, 1) := by decide +kernel
theorem d_law_804 : decode code 804 = .ok (.iadd, 1) := by decide +kernel
theorem d_law_805 : decode code 805 = .ok (.iaload, 1) := by decide +kernel
theorem d_law_806 : decode code 806 = .ok (.invokevirtual 102, 3) := by decide +kernel
theorem d_law_809 : decode code 809 = .ok (.if_icmp .eq 259, 3) := by decide +kernel
theorem d_law_814 : decode code 814 = .ok (.aload_n 1, 1) := by decide +kernel
theorem d_law_815 : decode code 815 = .ok (.aload_n 0, 1) := by decide +kernel
theorem d_law_816 : decode code 816 = .ok (.iload_n 3, 1) := by decide +kernel
theorem d_law_817 : decode code 817 = .ok (.iconst 1, 1) := by decide +kernel
theorem d_law_818 : decode code 818 = .ok (.iadd, 1) := by decide +kernel
theorem d_law_819 : decode code 819 = .ok (.iaload, 1) := by decide +kernel
theorem d_law_820 : decode code 820 = .ok (.aload_n 0, 1) := by decide +kernel
theorem d_law_821 : decode code 821 = .ok (.iload_n 3, 1) := by decide +kernel
theorem d_law_822 : decode code 822 = .ok (.iconst 2, 1) := by decide +kernel
theorem d_law_823 : decode code 823 = .ok (.iadd, 1) := by decide +kernel
theorem d_law_824 : decode code 824 = .ok (.iaload, 1) := by decide +kernel
theorem d_law_825 : decode code 825 = .ok (.invokevirtual 103, 3) := by decide +kernel
theorem d_law_828 : decode code 828 = .ok (.aload_n 2, 1) := by decide +kernel
theorem d_law_829 : decode code 829 = .ok (.aload_n 0, 1) := by decide +kernel
theorem d_law_830 : decode code 830 = .ok (.iload_n 3, 1) := by decide +kernel
theorem d_law_831 : decode code 831 = .ok (.iconst 1, 1) := by decide +kernel
theorem d_law_832 : decode code 832 = .ok (.iadd, 1) := by decide +kernel
theorem d_law_833 : decode code 833 = .ok (.iaload, 1) := by decide +kernel
theorem d_law_834 : decode code 834 = .ok (.aload_n 0, 1) := by decide +kernel
theorem d_law_835 : decode code 835 = .ok (.iload_n 3, 1) := by decide +kernel
theorem d_law_836 : decode code 836 = .ok (.iconst 2, 1) := by decide +kernel
theorem d_law_837 : decode code 837 = .ok (.iadd, 1) := by decide +kernel
theorem d_law_838 : decode code 838 = .ok (.iaload, 1) := by decide +kernel
theorem d_law_839 : decode code 839 = .ok (.invokevirtual 106, 3) := by decide +kernel
theorem d_law_842 : decode code 842 = .ok (.if_icmp .eq 226, 3) := by decide +kernel
theorem d_law_847 : decode code 847 = .ok (.aload_n 1, 1) := by decide +kernel
theorem d_law_848 : decode code 848 = .ok (.aload_n 0, 1) := by decide +kernel
theorem d_law_849 : decode code 849 = .ok (.iload_n 3, 1) := by decide +kernel
theorem d_law_850 : decode code 850 = .ok (.iconst 1, 1) := by decide +kernel
theorem d_law_851 : decode code 851 = .ok (.iadd, 1) := by decide +kernel
theorem d_law_852 : decode code 852 = .ok (.iaload, 1) := by decide +kernel
theorem d_law_853 : decode code 853 = .ok (.aload_n 0, 1) := by decide +kernel
theorem d_law_854 : decode code 854 = .ok (.iload_n 3, 1) := by decide +kernel
theorem d_law_855 : decode code 855 = .ok (.iconst 2, 1) := by decide +kernel
theorem d_law_856 : decode code 856 = .ok (.iadd, 1) := by decide +kernel
theorem d_law_857 : decode code 857 = .ok (.iaload, 1) := by decide +kernel
theorem d_law_858 : decode code 858 = .ok (.invokevirtual 107, 3) := by decide +kernel
theorem d_law_861 : decode code 861 = .ok (.aload_n 2, 1) := by decide +kernel
theorem d_law_862 : decode code 862 = .ok (.aload_n 0, 1) := by decide +kernel
theorem d_law_863 : decode code 863 = .ok (.iload_n 3, 1) := by decide +kernel
theorem d_law_864 : decode code 864 = .ok (.iconst 1, 1) := by decide +kernel
theorem d_law_865 : decode code 865 = .ok (.iadd, 1) := by decide +kernel
theorem d_law_866 : decode code 866 = .ok (.iaload, 1) := by decide +kernel
theorem d_law_867 : decode code 867 = .ok (.aload_n 0, 1) := by decide +kernel
theorem d_law_868 : decode code 868 = .ok (.iload_n 3, 1) := by decide +kernel
theorem d_law_869 : decode code 869 = .ok (.iconst 2, 1) := by decide +kernel
theorem d_law_870 : decode code 870 = .ok (.iadd, 1) := by decide +kernel
theorem d_law_871 : decode code 871 = .ok (.iaload, 1) := by decide +kernel
theorem d_law_872 : decode code 872 = .ok (.invokevirtual 110, 3) := by decide +kernel
theorem d_law_875 : decode code 875 = .ok (.if_icmp .eq 193, 3) := by decide +kernel
theorem d_law_880 : decode code 880 = .ok (.aload_n 1, 1) := by decide +kernel
theorem d_law_881 : decode code 881 = .ok (.aload_n 0, 1) := by decide +kernel
theorem d_law_882 : decode code 882 = .ok (.iload_n 3, 1) := by decide +kernel
theorem d_law_883 : decode code 883 = .ok (.iconst 1, 1) := by decide +kernel
theorem d_law_884 : decode code 884 = .ok (.iadd, 1) := by decide +kernel
theorem d_law_885 : decode code 885 = .ok (.iaload, 1) := by decide +kernel
theorem d_law_886 : decode code 886 = .ok (.aload_n 0, 1) := by decide +kernel
theorem d_law_887 : decode code 887 = .ok (.iload_n 3, 1) := by decide +kernel
theorem d_law_888 : decode code 888 = .ok (.iconst 2, 1) := by decide +kernel
theorem d_law_889 : decode code 889 = .ok (.iadd, 1) := by decide +kernel
theorem d_law_890 : decode code 890 = .ok (.iaload, 1) := by decide +kernel
theorem d_law_891 : decode code 891 = .ok (.invokevirtual 111, 3) := by decide +kernel
theorem d_law_894 : decode code 894 = .ok (.aload_n 2, 1) := by decide +kernel
theorem d_law_895 : decode code 895 = .ok (.aload_n 0, 1) := by decide +kernel
theorem d_law_896 : decode code 896 = .ok (.iload_n 3, 1) := by decide +kernel
theorem d_law_897 : decode code 897 = .ok (.iconst 1, 1) := by decide +kernel
theorem d_law_898 : decode code 898 = .ok (.iadd, 1) := by decide +kernel
theorem d_law_899 : decode code 899 = .ok (.iaload, 1) := by decide +kernel
theorem d_law_900 : decode code 900 = .ok (.aload_n 0, 1) := by decide +kernel
theorem d_law_901 : decode code 901 = .ok (.iload_n 3, 1) := by decide +kernel
theorem d_law_902 : decode code 902 = .ok (.iconst 2, 1) := by decide +kernel
theorem d_law_903 : decode code 903 = .ok (.iadd, 1) := by decide +kernel
theorem d_law_904 : decode code 904 = .ok (.iaload, 1) := by decide +kernel
theorem d_law_905 : decode code 905 = .ok (.invokevirtual 114, 3) := by decide +kernel
theorem d_law_908 : decode code 908 = .ok (.if_icmp .eq 160, 3) := by decide +kernel
theorem d_law_913 : decode code 913 = .ok (.aload_n 1, 1) := by decide +kernel
theorem d_law_914 : decode code 914 = .ok (.aload_n 0, 1) := by decide +kernel
theorem d_law_915 : decode code 915 = .ok (.iload_n 3, 1) := by decide +kernel
theorem d_law_916 : decode code 916 = .ok (.iconst 1, 1) := by decide +kernel
theorem d_law_917 : decode code 917 = .ok (.iadd, 1) := by decide +kernel
theorem d_law_918 : decode code 918 = .ok (.iaload, 1) := by decide +kernel
theorem d_law_919 : decode code 919 = .ok (.invokevirtual 115, 3) := by decide +kernel
theorem d_law_922 : decode code 922 = .ok (.aload_n 2, 1) := by decide +kernel
theorem d_law_923 : decode code 923 = .ok (.aload_n 0, 1) := by decide +kernel
theorem d_law_924 : decode code 924 = .ok (.iload_n 3, 1) := by decide +kernel
theorem d_law_925 : decode code 925 = .ok (.iconst 1, 1) := by decide +kernel
theorem d_law_926 : decode code 926 = .ok (.iadd, 1) := by decide +kernel
theorem d_law_927 : decode code 927 = .ok (.iaload, 1) := by decide +kernel
theorem d_law_928 : decode code 928 = .ok (.invokevirtual 118, 3) := by decide +kernel
theorem d_law_931 : decode code 931 = .ok (.if_icmp .eq 137, 3) := by decide +kernel
theorem d_law_936 : decode code 936 = .ok (.aload_n 1, 1) := by decide +kernel
theorem d_law_937 : decode code 937 = .ok (.aload_n 0, 1) := by decide +kernel
theorem d_law_938 : decode code 938 = .ok (.iload_n 3, 1) := by decide +kernel
theorem d_law_939 : decode code 939 = .ok (.iconst 1, 1) := by decide +kernel
theorem d_law_940 : decode code 940 = .ok (.iadd, 1) := by decide +kernel
theorem d_law_941 : decode code 941 = .ok (.iaload, 1) := by decide +kernel
theorem d_law_942 : decode code 942 = .ok (.aload_n 0, 1) := by decide +kernel
theorem d_law_943 : decode code 943 = .ok (.iload_n 3, 1) := by decide +kernel
theorem d_law_944 : decode code 944 = .ok (.iconst 2, 1) := by decide +kernel
theorem d_law_945 : decode code 945 = .ok (.iadd, 1) := by decide +kernel
theorem d_law_946 : decode code 946 = .ok (.iaload, 1) := by decide +kernel
theorem d_law_947 : decode code 947 = .ok (.invokevirtual 119, 3) := by decide +kernel
theorem d_law_950 : decode code 950 = .ok (.aload_n 2, 1) := by decide +kernel
theorem d_law_951 : decode code 951 = .ok (.aload_n 0, 1) := by decide +kernel
theorem d_law_952 : decode code 952 = .ok (.iload_n 3, 1) := by decide +kernel
theorem d_law_953 : decode code 953 = .ok (.iconst 1, 1) := by decide +kernel
theorem d_law_954 : decode code 954 = .ok (.iadd, 1) := by decide +kernel
theorem d_law_955 : decode code 955 = .ok (.iaload, 1) := by decide +kernel
theorem d_law_956 : decode code 956 = .ok (.aload_n 0, 1) := by decide +kernel
theorem d_law_957 : decode code 957 = .ok (.iload_n 3, 1) := by decide +kernel
theorem d_law_958 : decode code 958 = .ok (.iconst 2, 1) := by decide +kernel
theorem d_law_959 : decode code 959 = .ok (.iadd, 1) := by decide +kernel
theorem d_law_960 : decode code 960 = .ok (.iaload, 1) := by decide +kernel
theorem d_law_961 : decode code 961 = .ok (.invokevirtual 122, 3) := by decide +kernel
theorem d_law_964 : decode code 964 = .ok (.if_icmp .eq 104, 3) := by decide +kernel
theorem d_law_969 : decode code 969 = .ok (.aload_n 1, 1) := by decide +kernel
theorem d_law_970 : decode code 970 = .ok (.aload_n 0, 1) := by decide +kernel
theorem d_law_971 : decode code 971 = .ok (.iload_n 3, 1) := by decide +kernel
theorem d_law_972 : decode code 972 = .ok (.iconst 1, 1) := by decide +kernel
theorem d_law_973 : decode code 973 = .ok (.iadd, 1) := by decide +kernel
theorem d_law_974 : decode code 974 = .ok (.iaload, 1) := by decide +kernel
theorem d_law_975 : decode code 975 = .ok (.aload_n 0, 1) := by decide +kernel
theorem d_law_976 : decode code 976 = .ok (.iload_n 3, 1) := by decide +kernel
theorem d_law_977 : decode code 977 = .ok (.iconst 2, 1) := by decide +kernel
theorem d_law_978 : decode code 978 = .ok (.iadd, 1) := by decide +kernel
theorem d_law_979 : decode code 979 = .ok (.iaload, 1) := by decide +kernel
theorem d_law_980 : decode code 980 = .ok (.invokevirtual 123, 3) := by decide +kernel
theorem d_law_983 : decode code 983 = .ok (.aload_n 2, 1) := by decide +kernel
theorem d_law_984 : decode code 984 = .ok (.aload_n 0, 1) := by decide +kernel
theorem d_law_985 : decode code 985 = .ok (.iload_n 3, 1) := by decide +kernel
theorem d_law_986 : decode code 986 = .ok (.iconst 1, 1) := by decide +kernel
theorem d_law_987 : decode code 987 = .ok (.iadd, 1) := by decide +kernel
theorem d_law_988 : decode code 988 = .ok (.iaload, 1) := by decide +kernel
theorem d_law_989 : decode code 989 = .ok (.aload_n 0, 1) := by decide +kernel
theorem d_law_990 : decode code 990 = .ok (.iload_n 3, 1) := by decide +kernel
theorem d_law_991 : decode code 991 = .ok (.iconst 2, 1) := by decide +kernel
theorem d_law_992 : decode code 992 = .ok (.iadd, 1) := by decide +kernel
theorem d_law_993 : decode code 993 = .ok (.iaload, 1) := by decide +kernel
theorem d_law_994 : decode code 994 = .ok (.invokevirtual 126, 3) := by decide +kernel
theorem d_law_997 : decode code 997 = .ok (.if_icmp .eq 71, 3) := by decide +kernel
theorem d_law_1002 : decode code 1002 = .ok (.aload_n 1, 1) := by decide +kernel
theorem d_law_1003 : decode code 1003 = .ok (.aload_n 0, 1) := by decide +kernel
theorem d_law_1004 : decode code 1004 = .ok (.iload_n 3, 1) := by decide +kernel
theorem d_law_1005 : decode code 1005 = .ok (.iconst 1, 1) := by decide +kernel
theorem d_law_1006 : decode code 1006 = .ok (.iadd, 1) := by decide +kernel
theorem d_law_1007 : decode code 1007 = .ok (.iaload, 1) := by decide +kernel
theorem d_law_1008 : decode code 1008 = .ok (.aload_n 0, 1) := by decide +kernel
theorem d_law_1009 : decode code 1009 = .ok (.iload_n 3, 1) := by decide +kernel
theorem d_law_1010 : decode code 1010 = .ok (.iconst 2, 1) := by decide +kernel
theorem d_law_1011 : decode code 1011 = .ok (.iadd, 1) := by decide +kernel
theorem d_law_1012 : decode code 1012 = .ok (.iaload, 1) := by decide +kernel
theorem d_law_1013 : decode code 1013 = .ok (.invokevirtual 127, 3) := by decide +kernel
theorem d_law_1016 : decode code 1016 = .ok (.aload_n 2, 1) := by decide +kernel
theorem d_law_1017 : decode code 1017 = .ok (.aload_n 0, 1) := by decide +kernel
theorem d_law_1018 : decode code 1018 = .ok (.iload_n 3, 1) := by decide +kernel
theorem d_law_1019 : decode code 1019 = .ok (.iconst 1, 1) := by decide +kernel
theorem d_law_1020 : decode code 1020 = .ok (.iadd, 1) := by decide +kernel
theorem d_law_1021 : decode code 1021 = .ok (.iaload, 1) := by decide +kernel
theorem d_law_1022 : decode code 1022 = .ok (.aload_n 0, 1) := by decide +kernel
theorem d_law_1023 : decode code 1023 = .ok (.iload_n 3, 1) := by decide +kernel
theorem d_law_1024 : decode code 1024 = .ok (.iconst 2, 1) := by decide +kernel
theorem d_law_1025 : decode code 1025 = .ok (.iadd, 1) := by decide +kernel
theorem d_law_1026 : decode code 1026 = .ok (.iaload, 1) := by decide +kernel
theorem d_law_1027 : decode code 1027 = .ok (.invokevirtual 130, 3) := by decide +kernel
theorem d_law_1030 : decode code 1030 = .ok (.if_icmp .eq 38, 3) := by decide +kernel
theorem d_law_1035 : decode code 1035 = .ok (.aload_n 1, 1) := by decide +kernel
theorem d_law_1036 : decode code 1036 = .ok (.aload_n 0, 1) := by decide +kernel
theorem d_law_1037 : decode code 1037 = .ok (.iload_n 3, 1) := by decide +kernel
theorem d_law_1038 : decode code 1038 = .ok (.iconst 1, 1) := by decide +kernel
theorem d_law_1039 : decode code 1039 = .ok (.iadd, 1) := by decide +kernel
theorem d_law_1040 : decode code 1040 = .ok (.iaload, 1) := by decide +kernel
theorem d_law_1041 : decode code 1041 = .ok (.aload_n 0, 1) := by decide +kernel
theorem d_law_1042 : decode code 1042 = .ok (.iload_n 3, 1) := by decide +kernel
theorem d_law_1043 : decode code 1043 = .ok (.iconst 2, 1) := by decide +kernel
theorem d_law_1044 : decode code 1044 = .ok (.iadd, 1) := by decide +kernel
theorem d_law_1045 : decode code 1045 = .ok (.iaload, 1) := by decide +kernel
theorem d_law_1046 : decode code 1046 = .ok (.invokevirtual 131, 3) := by decide +kernel
theorem d_law_1049 : decode code 1049 = .ok (.aload_n 2, 1) := by decide +kernel
theorem d_law_1050 : decode code 1050 = .ok (.aload_n 0, 1) := by decide +kernel
theorem d_law_1051 : decode code 1051 = .ok (.iload_n 3, 1) := by decide +kernel
theorem d_law_1052 : decode code 1052 = .ok (.iconst 1, 1) := by decide +kernel
theorem d_law_1053 : decode code 1053 = .ok (.iadd, 1) := by decide +kernel
theorem d_law_1054 : decode code 1054 = .ok (.iaload, 1) := by decide +kernel
theorem d_law_1055 : decode code 1055 = .ok (.aload_n 0, 1) := by decide +kernel
theorem d_law_1056 : decode code 1056 = .ok (.iload_n 3, 1) := by decide +kernel
theorem d_law_1057 : decode code 1057 = .ok (.iconst 2, 1) := by decide +kernel
theorem d_law_1058 : decode code 1058 = .ok (.iadd, 1) := by decide +kernel
theorem d_law_1059 : decode code 1059 = .ok (.iaload, 1) := by decide +kernel
theorem d_law_1060 : decode code 1060 = .ok (.invokevirtual 134, 3) := by decide +kernel
theorem d_law_1063 : decode code 1063 = .ok (.if_icmp .eq 5, 3) := by decide +kernel
theorem d_law_1068 : decode code 1068 = .ok (.iinc 3 8, 3) := by decide +kernel
theorem d_law_1071 : decode code 1071 = .ok (.goto (-1053), 3) := by decide +kernel
theorem d_law_1074 : decode code 1074 = .ok (.iconst 1, 1) := by decide +kernel
theorem d_law_1075 : decode code 1075 = .ok (.ireturn, 1) := by decide +kernel
section LROWS
variable {p : Program} {l : Launch} {e : Env} {R : Room} {s : State} {m : MethodId} {args : Array Value} {below : List Frame} {meth : Method} {c : Code} {H : Heap} {locs : List Loc} {cells slots : Nat} {Q : State → Prop} {cc : ByteArray} {pc : Nat} {ls : Array Slot} {rest : List Value}
variable {D : va_G} {E : cE} {T : cT} {A : Nat → Prop} {H0 : Heap} {L : List Nat} {f : pF} {own : String} {D2 : mD} {E2 : mE} {h : Nat} {q : Nat → Nat} {I : Nat → Int32} {J : Nat → Int64} {B : Nat → Nat → Int32} {G : Nat → Nat → Int64}
theorem l_x {mc ms : Nat} {post : Int32 → cU → Prop} {a0 : Array Value} {st0 : List Value} (hr : va_Run p l e R s m args below meth c H locs cells slots mc ms (F0 m pc ls st0) rest (va_Qi post (cPost D E (pA L H.size)) (pA L H.size) a0) (pA L H.size)) (Y : pH D cCl A H0 L f H locs) (hA : ∀ a, H0.size ≤ a → A a)
    (kk : ∀ (r : Int32) (u : cU) (H1 : Heap) (locs1 : List Loc), post r u → H.size ≤ H1.size → (∀ q : Nat, q < H.size → ¬ pA L H.size q → H1[q]? = H[q]?) → va_S A H0 H1 locs1 → W p l e R s m args below meth c H1 locs1 (cells + mc) (slots + ms) Q (F0 m (pc + 3) ls (.int r :: rest))) : W p l e R s m args below meth c H locs cells slots Q (F0 m pc ls st0) :=
  va_calli hr Y.2.2 (fun a _ ha => c_sub Y hA a ha) (c_sub Y hA) (fun r u t H1 locs1 ht hvm hp hB hz hk hS => kk r u H1 locs1 hp hz hk hS)
theorem l_m {y : MethodName} {bytes : ByteArray} {maxL nL n ix f0 L0 : Nat} {ret : Option FieldType} {As : List Value} {post : Int32 → mS → Prop} (hx : p.tables.exec = Jvm.exec) (hb : c.code = cc) (hg : ∀ w ∈ lw_tg, w.before args s = true) (hown : s.vm.findClass own = some m.cls) (K2 : va_K D2.1 mCl (mTy E2) s) (Z2 : zS D2.2.1 D2.2.2.1 D2.2.2.2 A s s.heap) (R2 : zR D2.2.1 s) (PM : va_P D2.1 mCl (mW E2 h q I J B G) H) (DM : va_D A (mW E2 h q I J B G)) (hS : va_S A s.heap H locs) (hA : ∀ a, s.heap.size ≤ a → A a) (hml : c.maxLocals = nL) (hsz : ls.size = nL) (hM : Met l y (Cond.code y bytes maxL ret :: lw_tg) (mR f0 L0) (va_Pc (.ref h :: As) (mPre D2 E2 h q (I, J, B, G) H.size)) (va_Qi post (mPost D2 E2 h q (mA E2 h q H.size)) (mA E2 h q H.size)) 0 0 (mA E2 h q H.size))
    (a1 : Cond.methodLink own ix y ∈ lw_tg) (a2 : Cond.instanceMethod y ∈ lw_tg) (a3 : Cond.selects R_M y y ∈ lw_tg) (a4 : Cond.code y bytes maxL ret ∈ lw_tg) (hd : y.cls = R_M ∧ y.cls ≠ "java/lang/invoke/MethodHandle" ∧ y.cls ≠ "java/lang/invoke/VarHandle" ∧ (parseMethodDescriptor y.desc).map (fun d => d.parameters.length) = some n) (hR : f0 + 1 ≤ R.frames ∧ 8 + (maxL + 11) + L0 ≤ R.locals) (hn : As.length = n) (hw : (rest.map fun v => v.category).sum ≤ 8) (hdg : decode cc pc = .ok (.invokevirtual ix, 3)) (hf : cells ≤ R.cells ∧ slots ≤ R.slots)
    (kk : ∀ (r : Int32) (u : mS) (H1 : Heap) (locs1 : List Loc), post r u → va_S A s.heap H1 locs1 → W p l e R s m args below meth c H1 locs1 cells slots Q (F0 m (pc + 3) ls (.int r :: rest))) : W p l e R s m args below meth c H locs cells slots Q (F0 m pc ls (As.reverse ++ .ref h :: rest)) :=
  va_calli (va_runV (As := As) (rest := rest) ⟨hx, hb, hml, hown, hg⟩ hM (cwV n hg (gd_V a1 a2 a3 ini_M a4) rfl rfl rfl hd hR) ⟨m_blind, va_recv K2 PM (ci := 0) (q0 := 0) rfl rfl, fun U hU hW => ⟨rfl, by rw [hU], by rw [hU]; exact PM, va_K.moved hW.alike K2, DM.weaken (fun _ _ _ _ => trivial), by rw [hU]; exact zS_narrow (zS_kept (zS_moved hW.alike Z2) hS.2.1) (mA_sub DM (fun a ha => hA a (Nat.le_trans hS.1 ha))), fun i hi => vk_R.warm hW (R2 i hi)⟩⟩ rfl hn hsz rfl (lv_room hw) hdg hf) hS (fun a _ ha => mA_sub DM (fun a ha => hA a (Nat.le_trans hS.1 ha)) a ha) (mA_sub DM (fun a ha => hA a (Nat.le_trans hS.1 ha))) (fun r u t H1 locs1 ht hvm hp hB hz hk hS => kk r u H1 locs1 hp hS)
theorem l_keep {H1 : Heap} (PM : va_P D2.1 mCl (mW E2 h q I J B G) H) (AP : ∀ (k : Nat) (x : Nat × va_E), (mW E2 h q I J B G)[k]? = some x → x.1 ∉ L) (hk : ∀ q : Nat, q < H.size → ¬ pA L H.size q → H1[q]? = H[q]?) : va_P D2.1 mCl (mW E2 h q I J B G) H1 :=
  fun k x hx => (PM k x hx).kept (hk x.1 (PM k x hx).lt (fun h9 => h9.elim (AP k x hx) (fun h8 => absurd (PM k x hx).lt (Nat.not_lt.mpr h8))))
end LROWS
set_option maxHeartbeats 4000000 in
theorem law_end {p : Program} {l : Launch} {e : Env} {s : State} {m : MethodId} {below : List Frame} {meth : Method} {c : Code} {b h xo : Nat} {xs : Nat → Int32} {H : Heap} {locs : List Loc} {cells slots : Nat} {ls : Array Slot} (C0 : lw_At p s m meth c b 8 xs) (hS : va_S (lA s) s.heap H locs) (hl : lv_has ls 4 [(3, .int (nI 0)), (2, .ref h), (1, .ref xo), (0, .ref b)]) (hc : cells ≤ 600000) (hs : slots ≤ 7302249) : W p l e room_1 s m #[Value.ref b] below meth c H locs cells slots (lw_Z below #[Value.ref b] s) (F0 m 1068 ls []) := by
  obtain ⟨hx, hb, hr, hml, hown, hts, hX, hbl, hlocks, hgv⟩ := id C0
  have hbA : ¬ lA s b := Nat.not_le.mpr hbl
  refine lv_iinc (v := nI 8) (lv' := [(3, .int (nI 8)), (2, .ref h), (1, .ref xo), (0, .ref b)]) hx hb d_law_1068 hl (k := 0) rfl (by decide) (by decide) rfl (fun ls hl => ?_)
  refine lv_goto (tgt := 18) hx hb d_law_1071 (by decide) ?_
  refine lv_iload_n hx hb d_law_18 rfl (lv_at hl 0 rfl) ?_
  refine lv_aload_n hx hb d_law_19 rfl (lv_at hl 3 rfl) ?_
  refine va_slen hx hb hX hbl hbA hS d_law_20 ?_
  refine lv_bipush (v := nI 8) hx hb d_law_21 (by decide) ?_
  refine lv_isub hx hb d_law_23 ?_
  refine lv_icmp_gt (tgt := 1074) hx hb d_law_24 (by decide) (fun c1 => ?_) (fun c1 => absurd (by decide) c1)
  refine lv_iconst (v := 1) hx hb d_law_1074 (by decide) ?_
  refine va_forget (fun q hq => hS.2.2 q hq) ?_
  refine W.widen (k := 600000) (n := 7302249) hc hs ?_
  exact lw_ret hx hb hr hlocks d_law_1075
