/-! Rows for new cells and for Math. -/
theorem ne_mem {L : List Nat} {q b : Nat} (hq : q ∉ L) (hb : b ∈ L) : b ≠ q := fun e => hq (e ▸ hb)
theorem fB_0 : fB (fun _ => 0) := fun _ => (by decide : fits .byte (.int 0) = true)
theorem by8_0 : by8 (fun _ => 0) := fun _ => ⟨0, by decide, rfl⟩
theorem mx0 {N : Nat} (h : N < 2 ^ 31) : (if nI 0 < nI N then nI N else nI 0) = nI N := by
  by_cases h1 : nI 0 < nI N
  · rw [if_pos h1]
  · rw [if_neg h1]
    rw [nI_ltI (by decide) h] at h1
    rw [show N = 0 by omega]
theorem mmax_nI {a b : Nat} (ha : a < 2 ^ 31) (hb : b < 2 ^ 31) : (if nI a < nI b then nI b else nI a) = nI (max a b) := by
  by_cases h1 : nI a < nI b
  · rw [if_pos h1]
    rw [nI_ltI ha hb] at h1
    rw [show max a b = b by omega]
  · rw [if_neg h1]
    rw [nI_ltI ha hb] at h1
    rw [show max a b = a by omega]
theorem mmin_nI {a b : Nat} (ha : a < 2 ^ 31) (hb : b < 2 ^ 31) : (if nI b < nI a then nI b else nI a) = nI (min a b) := by
  by_cases h1 : nI b < nI a
  · rw [if_pos h1]
    rw [nI_ltI hb ha] at h1
    rw [show min a b = b by omega]
  · rw [if_neg h1]
    rw [nI_ltI hb ha] at h1
    rw [show min a b = a by omega]
theorem mo_rng (x : Int32) : ∃ k, 1 ≤ k ∧ k ≤ 13 ∧ (if nI 1 < (if x < nI 13 then x else nI 13) then (if x < nI 13 then x else nI 13) else nI 1) = nI k := by
  by_cases h1 : nI 1 < (if x < nI 13 then x else nI 13)
  · rw [if_pos h1]
    by_cases h2 : x < nI 13
    · rw [if_pos h2] at h1 ⊢
      obtain ⟨j, hj, rfl⟩ := nI_of (x := x) (fun h9 => absurd (Int32.lt_trans h9 (show (0 : Int32) < nI 1 by decide)) (Int32.lt_asymm h1))
      rw [nI_ltI (by omega) (by omega)] at h1 h2
      exact ⟨j, by omega, by omega, rfl⟩
    · rw [if_neg h2]
      exact ⟨13, by decide, by decide, rfl⟩
  · rw [if_neg h1]
    exact ⟨1, by decide, by decide, rfl⟩
theorem tw_ok : ∀ i, i < 256 → ∃ t, t < 256 ∧ (nI i <<< (nI 1 &&& 31)) ^^^ ((nI i >>> (nI 7 &&& 31)) * nI 283) = nI t := by
  have h : ∀ i, i < 256 → ((nI i <<< (nI 1 &&& 31)) ^^^ ((nI i >>> (nI 7 &&& 31)) * nI 283)).toNatClampNeg < 256 ∧ (nI i <<< (nI 1 &&& 31)) ^^^ ((nI i >>> (nI 7 &&& 31)) * nI 283) = nI ((nI i <<< (nI 1 &&& 31)) ^^^ ((nI i >>> (nI 7 &&& 31)) * nI 283)).toNatClampNeg := by decide +kernel
  exact fun i hi => ⟨_, h i hi⟩
theorem fB_ker {g : Nat → Int32} {b n : Nat} (hn : n ≤ 16) (hg : fB g) : fB (va_cpy (sB 2) g 0 b n) := fun i => by
  unfold va_cpy
  split
  · rename_i h
    have := sKER_fit (i - b) (by omega)
    simpa using this
  · exact hg _
theorem ini_Math : Cond.initialized "java/lang/Math" ∈ lw_tg := in_t 4 (by decide +kernel)
theorem ks_mmax : Cond.static Lib.Math.max.name ∈ lw_tg := in_t 42 (by decide +kernel)
theorem ki_mmax : Cond.code Lib.Math.max.name Lib.Math.max.code 2 (some .int) ∈ lw_tg := in_t 43 (by decide +kernel)
theorem ks_mmin : Cond.static Lib.Math.min.name ∈ lw_tg := in_t 632 (by decide +kernel)
theorem ki_mmin : Cond.code Lib.Math.min.name Lib.Math.min.code 2 (some .int) ∈ lw_tg := in_t 633 (by decide +kernel)
abbrev b_By_init : ByteArray := prog_4_method_1_code
def y_By_init : MethodName := ⟨R_By, "<init>", "(I)V"⟩
abbrev k_By_init : Cond := .code y_By_init b_By_init 2 none
theorem ki_By_init : k_By_init ∈ lw_tg := in_t 39 (by decide +kernel)
theorem ks_By_init : Cond.instanceMethod y_By_init ∈ lw_tg := in_t 38 (by decide +kernel)
theorem kl_Va_By_init : Cond.methodLink R_Va 18 y_By_init ∈ lw_tg := in_t 37 (by decide +kernel)
theorem kl_H_By_init : Cond.methodLink R_H 18 y_By_init ∈ lw_tg := in_t 177 (by decide +kernel)
theorem kl_Ga_By_init : Cond.methodLink R_Ga 11 y_By_init ∈ lw_tg := in_t 185 (by decide +kernel)
theorem kl_Pr_By_init : Cond.methodLink R_Pr 11 y_By_init ∈ lw_tg := in_t 218 (by decide +kernel)
theorem kl_Ag_By_init : Cond.methodLink R_Ag 11 y_By_init ∈ lw_tg := in_t 303 (by decide +kernel)
theorem kl_Ti_By_init : Cond.methodLink R_Ti 11 y_By_init ∈ lw_tg := in_t 313 (by decide +kernel)
theorem hd_By_init : y_By_init.cls = R_By ∧ y_By_init.cls ≠ "java/lang/invoke/MethodHandle" ∧ y_By_init.cls ≠ "java/lang/invoke/VarHandle" ∧ (parseMethodDescriptor y_By_init.desc).map (fun d => d.parameters.length) = some 1 := by decide +kernel
theorem d_By_init_0 : decode b_By_init 0 = .ok (.aload_n 0, 1) := by decide +kernel
theorem d_By_init_1 : decode b_By_init 1 = .ok (.invokespecial 3, 3) := by decide +kernel
theorem d_By_init_4 : decode b_By_init 4 = .ok (.aload_n 0, 1) := by decide +kernel
theorem d_By_init_5 : decode b_By_init 5 = .ok (.iconst 0, 1) := by decide +kernel
theorem d_By_init_6 : decode b_By_init 6 = .ok (.iload_n 1, 1) := by decide +kernel
theorem d_By_init_7 : decode b_By_init 7 = .ok (.invokestatic 9, 3) := by decide +kernel
theorem d_By_init_10 : decode b_By_init 10 = .ok (.newarray .byte, 2) := by decide +kernel
theorem d_By_init_12 : decode b_By_init 12 = .ok (.putfield 15, 3) := by decide +kernel
theorem d_By_init_15 : decode b_By_init 15 = .ok (.return_, 1) := by decide +kernel
abbrev b_By_putLetters : ByteArray := prog_4_method_15_code
def y_By_putLetters : MethodName := ⟨R_By, "putLetters", "(Ljava/lang/String;)V"⟩
abbrev k_By_putLetters : Cond := .code y_By_putLetters b_By_putLetters 3 none
theorem ki_By_putLetters : k_By_putLetters ∈ lw_tg := in_t 488 (by decide +kernel)
theorem ks_By_putLetters : Cond.instanceMethod y_By_putLetters ∈ lw_tg := in_t 486 (by decide +kernel)
theorem kx_By_putLetters : Cond.selects R_By y_By_putLetters y_By_putLetters ∈ lw_tg := in_t 487 (by decide +kernel)
theorem kl_By_By_putLetters : Cond.methodLink R_By 65 y_By_putLetters ∈ lw_tg := in_t 485 (by decide +kernel)
theorem kl_Va_By_putLetters : Cond.methodLink R_Va 134 y_By_putLetters ∈ lw_tg := in_t 574 (by decide +kernel)
theorem hd_By_putLetters : y_By_putLetters.cls = R_By ∧ y_By_putLetters.cls ≠ "java/lang/invoke/MethodHandle" ∧ y_By_putLetters.cls ≠ "java/lang/invoke/VarHandle" ∧ (parseMethodDescriptor y_By_putLetters.desc).map (fun d => d.parameters.length) = some 1 := by decide +kernel
theorem d_By_putLetters_0 : decode b_By_putLetters 0 = .ok (.iconst 0, 1) := by decide +kernel
theorem d_By_putLetters_1 : decode b_By_putLetters 1 = .ok (.istore_n 2, 1) := by decide +kernel
theorem d_By_putLetters_2 : decode b_By_putLetters 2 = .ok (.iload_n 2, 1) := by decide +kernel
theorem d_By_putLetters_3 : decode b_By_putLetters 3 = .ok (.aload_n 1, 1) := by decide +kernel
theorem d_By_putLetters_4 : decode b_By_putLetters 4 = .ok (.invokevirtual 55, 3) := by decide +kernel
theorem d_By_putLetters_7 : decode b_By_putLetters 7 = .ok (.if_icmp .ge 18, 3) := by decide +kernel
theorem d_By_putLetters_10 : decode b_By_putLetters 10 = .ok (.aload_n 0, 1) := by decide +kernel
theorem d_By_putLetters_11 : decode b_By_putLetters 11 = .ok (.aload_n 1, 1) := by decide +kernel
theorem d_By_putLetters_12 : decode b_By_putLetters 12 = .ok (.iload_n 2, 1) := by decide +kernel
theorem d_By_putLetters_13 : decode b_By_putLetters 13 = .ok (.invokevirtual 61, 3) := by decide +kernel
theorem d_By_putLetters_16 : decode b_By_putLetters 16 = .ok (.invokevirtual 25, 3) := by decide +kernel
theorem d_By_putLetters_19 : decode b_By_putLetters 19 = .ok (.iinc 2 1, 3) := by decide +kernel
theorem d_By_putLetters_22 : decode b_By_putLetters 22 = .ok (.goto (-20), 3) := by decide +kernel
theorem d_By_putLetters_25 : decode b_By_putLetters 25 = .ok (.return_, 1) := by decide +kernel
abbrev b_By_putText : ByteArray := prog_4_method_16_code
def y_By_putText : MethodName := ⟨R_By, "putText", "(Ljava/lang/String;)V"⟩
abbrev k_By_putText : Cond := .code y_By_putText b_By_putText 3 none
theorem ki_By_putText : k_By_putText ∈ lw_tg := in_t 480 (by decide +kernel)
theorem ks_By_putText : Cond.instanceMethod y_By_putText ∈ lw_tg := in_t 478 (by decide +kernel)
theorem kx_By_putText : Cond.selects R_By y_By_putText y_By_putText ∈ lw_tg := in_t 479 (by decide +kernel)
theorem kl_H_By_putText : Cond.methodLink R_H 324 y_By_putText ∈ lw_tg := in_t 477 (by decide +kernel)
theorem kl_By_By_putText : Cond.methodLink R_By 71 y_By_putText ∈ lw_tg := in_t 1269 (by decide +kernel)
theorem hd_By_putText : y_By_putText.cls = R_By ∧ y_By_putText.cls ≠ "java/lang/invoke/MethodHandle" ∧ y_By_putText.cls ≠ "java/lang/invoke/VarHandle" ∧ (parseMethodDescriptor y_By_putText.desc).map (fun d => d.parameters.length) = some 1 := by decide +kernel
theorem d_By_putText_0 : decode b_By_putText 0 = .ok (.aload_n 0, 1) := by decide +kernel
theorem d_By_putText_1 : decode b_By_putText 1 = .ok (.bipush 27, 2) := by decide +kernel
theorem d_By_putText_3 : decode b_By_putText 3 = .ok (.invokevirtual 39, 3) := by decide +kernel
theorem d_By_putText_6 : decode b_By_putText 6 = .ok (.istore_n 2, 1) := by decide +kernel
theorem d_By_putText_7 : decode b_By_putText 7 = .ok (.aload_n 0, 1) := by decide +kernel
theorem d_By_putText_8 : decode b_By_putText 8 = .ok (.aload_n 1, 1) := by decide +kernel
theorem d_By_putText_9 : decode b_By_putText 9 = .ok (.invokevirtual 65, 3) := by decide +kernel
theorem d_By_putText_12 : decode b_By_putText 12 = .ok (.aload_n 0, 1) := by decide +kernel
theorem d_By_putText_13 : decode b_By_putText 13 = .ok (.iload_n 2, 1) := by decide +kernel
theorem d_By_putText_14 : decode b_By_putText 14 = .ok (.invokevirtual 43, 3) := by decide +kernel
theorem d_By_putText_17 : decode b_By_putText 17 = .ok (.return_, 1) := by decide +kernel
abbrev b_By_putRealm : ByteArray := prog_4_method_17_code
def y_By_putRealm : MethodName := ⟨R_By, "putRealm", "(I)V"⟩
abbrev k_By_putRealm : Cond := .code y_By_putRealm b_By_putRealm 3 none
theorem ki_By_putRealm : k_By_putRealm ∈ lw_tg := in_t 1268 (by decide +kernel)
theorem ks_By_putRealm : Cond.instanceMethod y_By_putRealm ∈ lw_tg := in_t 1266 (by decide +kernel)
theorem kx_By_putRealm : Cond.selects R_By y_By_putRealm y_By_putRealm ∈ lw_tg := in_t 1267 (by decide +kernel)
theorem kl_Ce_By_putRealm : Cond.methodLink R_Ce 285 y_By_putRealm ∈ lw_tg := in_t 1265 (by decide +kernel)
theorem kl_Ag_By_putRealm : Cond.methodLink R_Ag 155 y_By_putRealm ∈ lw_tg := in_t 1427 (by decide +kernel)
theorem kl_H_By_putRealm : Cond.methodLink R_H 337 y_By_putRealm ∈ lw_tg := in_t 1573 (by decide +kernel)
theorem kl_Ti_By_putRealm : Cond.methodLink R_Ti 100 y_By_putRealm ∈ lw_tg := in_t 1719 (by decide +kernel)
theorem hd_By_putRealm : y_By_putRealm.cls = R_By ∧ y_By_putRealm.cls ≠ "java/lang/invoke/MethodHandle" ∧ y_By_putRealm.cls ≠ "java/lang/invoke/VarHandle" ∧ (parseMethodDescriptor y_By_putRealm.desc).map (fun d => d.parameters.length) = some 1 := by decide +kernel
theorem d_By_putRealm_0 : decode b_By_putRealm 0 = .ok (.aload_n 0, 1) := by decide +kernel
theorem d_By_putRealm_1 : decode b_By_putRealm 1 = .ok (.iload_n 1, 1) := by decide +kernel
theorem d_By_putRealm_2 : decode b_By_putRealm 2 = .ok (.invokevirtual 46, 3) := by decide +kernel
theorem d_By_putRealm_5 : decode b_By_putRealm 5 = .ok (.istore_n 2, 1) := by decide +kernel
theorem d_By_putRealm_6 : decode b_By_putRealm 6 = .ok (.aload_n 0, 1) := by decide +kernel
theorem d_By_putRealm_7 : decode b_By_putRealm 7 = .ok (.ldc 69, 2) := by decide +kernel
theorem d_By_putRealm_9 : decode b_By_putRealm 9 = .ok (.invokevirtual 71, 3) := by decide +kernel
theorem d_By_putRealm_12 : decode b_By_putRealm 12 = .ok (.aload_n 0, 1) := by decide +kernel
theorem d_By_putRealm_13 : decode b_By_putRealm 13 = .ok (.iload_n 2, 1) := by decide +kernel
theorem d_By_putRealm_14 : decode b_By_putRealm 14 = .ok (.invokevirtual 43, 3) := by decide +kernel
theorem d_By_putRealm_17 : decode b_By_putRealm 17 = .ok (.return_, 1) := by decide +kernel
abbrev b_By_putName : ByteArray := prog_4_method_22_code
def y_By_putName : MethodName := ⟨R_By, "putName", "(IILRealmHouse$Bytes;)V"⟩
abbrev k_By_putName : Cond := .code y_By_putName b_By_putName 7 none
theorem ki_By_putName : k_By_putName ∈ lw_tg := in_t 1357 (by decide +kernel)
theorem ks_By_putName : Cond.instanceMethod y_By_putName ∈ lw_tg := in_t 1355 (by decide +kernel)
theorem kx_By_putName : Cond.selects R_By y_By_putName y_By_putName ∈ lw_tg := in_t 1356 (by decide +kernel)
theorem kl_Ce_By_putName : Cond.methodLink R_Ce 366 y_By_putName ∈ lw_tg := in_t 1354 (by decide +kernel)
theorem kl_Ag_By_putName : Cond.methodLink R_Ag 151 y_By_putName ∈ lw_tg := in_t 1426 (by decide +kernel)
theorem kl_H_By_putName : Cond.methodLink R_H 343 y_By_putName ∈ lw_tg := in_t 1574 (by decide +kernel)
theorem kl_Ti_By_putName : Cond.methodLink R_Ti 103 y_By_putName ∈ lw_tg := in_t 1720 (by decide +kernel)
theorem hd_By_putName : y_By_putName.cls = R_By ∧ y_By_putName.cls ≠ "java/lang/invoke/MethodHandle" ∧ y_By_putName.cls ≠ "java/lang/invoke/VarHandle" ∧ (parseMethodDescriptor y_By_putName.desc).map (fun d => d.parameters.length) = some 3 := by decide +kernel
theorem d_By_putName_0 : decode b_By_putName 0 = .ok (.aload_n 0, 1) := by decide +kernel
theorem d_By_putName_1 : decode b_By_putName 1 = .ok (.iload_n 1, 1) := by decide +kernel
theorem d_By_putName_2 : decode b_By_putName 2 = .ok (.invokevirtual 46, 3) := by decide +kernel
theorem d_By_putName_5 : decode b_By_putName 5 = .ok (.istore 4, 2) := by decide +kernel
theorem d_By_putName_7 : decode b_By_putName 7 = .ok (.aload_n 0, 1) := by decide +kernel
theorem d_By_putName_8 : decode b_By_putName 8 = .ok (.bipush 48, 2) := by decide +kernel
theorem d_By_putName_10 : decode b_By_putName 10 = .ok (.invokevirtual 39, 3) := by decide +kernel
theorem d_By_putName_13 : decode b_By_putName 13 = .ok (.istore 5, 2) := by decide +kernel
theorem d_By_putName_15 : decode b_By_putName 15 = .ok (.aload_n 0, 1) := by decide +kernel
theorem d_By_putName_16 : decode b_By_putName 16 = .ok (.iconst 0, 1) := by decide +kernel
theorem d_By_putName_17 : decode b_By_putName 17 = .ok (.iload_n 2, 1) := by decide +kernel
theorem d_By_putName_18 : decode b_By_putName 18 = .ok (.i2l, 1) := by decide +kernel
theorem d_By_putName_19 : decode b_By_putName 19 = .ok (.invokevirtual 81, 3) := by decide +kernel
theorem d_By_putName_22 : decode b_By_putName 22 = .ok (.aload_n 0, 1) := by decide +kernel
theorem d_By_putName_23 : decode b_By_putName 23 = .ok (.iconst 1, 1) := by decide +kernel
theorem d_By_putName_24 : decode b_By_putName 24 = .ok (.invokevirtual 46, 3) := by decide +kernel
theorem d_By_putName_27 : decode b_By_putName 27 = .ok (.istore 6, 2) := by decide +kernel
theorem d_By_putName_29 : decode b_By_putName 29 = .ok (.aload_n 0, 1) := by decide +kernel
theorem d_By_putName_30 : decode b_By_putName 30 = .ok (.bipush 48, 2) := by decide +kernel
theorem d_By_putName_32 : decode b_By_putName 32 = .ok (.aload_n 3, 1) := by decide +kernel
theorem d_By_putName_33 : decode b_By_putName 33 = .ok (.getfield 15, 3) := by decide +kernel
theorem d_By_putName_36 : decode b_By_putName 36 = .ok (.iconst 0, 1) := by decide +kernel
theorem d_By_putName_37 : decode b_By_putName 37 = .ok (.aload_n 3, 1) := by decide +kernel
theorem d_By_putName_38 : decode b_By_putName 38 = .ok (.getfield 21, 3) := by decide +kernel
theorem d_By_putName_41 : decode b_By_putName 41 = .ok (.invokevirtual 77, 3) := by decide +kernel
theorem d_By_putName_44 : decode b_By_putName 44 = .ok (.aload_n 0, 1) := by decide +kernel
theorem d_By_putName_45 : decode b_By_putName 45 = .ok (.iload 6, 2) := by decide +kernel
theorem d_By_putName_47 : decode b_By_putName 47 = .ok (.invokevirtual 43, 3) := by decide +kernel
theorem d_By_putName_50 : decode b_By_putName 50 = .ok (.aload_n 0, 1) := by decide +kernel
theorem d_By_putName_51 : decode b_By_putName 51 = .ok (.iload 5, 2) := by decide +kernel
theorem d_By_putName_53 : decode b_By_putName 53 = .ok (.invokevirtual 43, 3) := by decide +kernel
theorem d_By_putName_56 : decode b_By_putName 56 = .ok (.aload_n 0, 1) := by decide +kernel
theorem d_By_putName_57 : decode b_By_putName 57 = .ok (.iload 4, 2) := by decide +kernel
theorem d_By_putName_59 : decode b_By_putName 59 = .ok (.invokevirtual 43, 3) := by decide +kernel
theorem d_By_putName_62 : decode b_By_putName 62 = .ok (.return_, 1) := by decide +kernel
abbrev b_By_putDigits : ByteArray := prog_4_method_25_code
def y_By_putDigits : MethodName := ⟨R_By, "putDigits", "(I)V"⟩
abbrev k_By_putDigits : Cond := .code y_By_putDigits b_By_putDigits 2 none
theorem ki_By_putDigits : k_By_putDigits ∈ lw_tg := in_t 1315 (by decide +kernel)
theorem ks_By_putDigits : Cond.instanceMethod y_By_putDigits ∈ lw_tg := in_t 1314 (by decide +kernel)
theorem kx_By_putDigits : Cond.selects R_By y_By_putDigits y_By_putDigits ∈ lw_tg := List.mem_filter.mpr ⟨List.mem_append_left _ (List.mem_of_getElem? (i := 46) (by decide +kernel)), rfl⟩
theorem kl_By_By_putDigits : Cond.methodLink R_By 105 y_By_putDigits ∈ lw_tg := in_t 1312 (by decide +kernel)
theorem hd_By_putDigits : y_By_putDigits.cls = R_By ∧ y_By_putDigits.cls ≠ "java/lang/invoke/MethodHandle" ∧ y_By_putDigits.cls ≠ "java/lang/invoke/VarHandle" ∧ (parseMethodDescriptor y_By_putDigits.desc).map (fun d => d.parameters.length) = some 1 := by decide +kernel
theorem d_By_putDigits_0 : decode b_By_putDigits 0 = .ok (.aload_n 0, 1) := by decide +kernel
theorem d_By_putDigits_1 : decode b_By_putDigits 1 = .ok (.bipush 48, 2) := by decide +kernel
theorem d_By_putDigits_3 : decode b_By_putDigits 3 = .ok (.iload_n 1, 1) := by decide +kernel
theorem d_By_putDigits_4 : decode b_By_putDigits 4 = .ok (.bipush 10, 2) := by decide +kernel
theorem d_By_putDigits_6 : decode b_By_putDigits 6 = .ok (.idiv, 1) := by decide +kernel
theorem d_By_putDigits_7 : decode b_By_putDigits 7 = .ok (.bipush 10, 2) := by decide +kernel
theorem d_By_putDigits_9 : decode b_By_putDigits 9 = .ok (.irem, 1) := by decide +kernel
theorem d_By_putDigits_10 : decode b_By_putDigits 10 = .ok (.iadd, 1) := by decide +kernel
theorem d_By_putDigits_11 : decode b_By_putDigits 11 = .ok (.invokevirtual 25, 3) := by decide +kernel
theorem d_By_putDigits_14 : decode b_By_putDigits 14 = .ok (.aload_n 0, 1) := by decide +kernel
theorem d_By_putDigits_15 : decode b_By_putDigits 15 = .ok (.bipush 48, 2) := by decide +kernel
theorem d_By_putDigits_17 : decode b_By_putDigits 17 = .ok (.iload_n 1, 1) := by decide +kernel
theorem d_By_putDigits_18 : decode b_By_putDigits 18 = .ok (.bipush 10, 2) := by decide +kernel
theorem d_By_putDigits_20 : decode b_By_putDigits 20 = .ok (.irem, 1) := by decide +kernel
theorem d_By_putDigits_21 : decode b_By_putDigits 21 = .ok (.iadd, 1) := by decide +kernel
theorem d_By_putDigits_22 : decode b_By_putDigits 22 = .ok (.invokevirtual 25, 3) := by decide +kernel
theorem d_By_putDigits_25 : decode b_By_putDigits 25 = .ok (.return_, 1) := by decide +kernel
abbrev b_By_daysBefore : ByteArray := prog_4_method_27_code
def y_By_daysBefore : MethodName := ⟨R_By, "daysBefore", "(II)I"⟩
abbrev k_By_daysBefore : Cond := .code y_By_daysBefore b_By_daysBefore 4 (some .int)
theorem ki_By_daysBefore : k_By_daysBefore ∈ lw_tg := in_t 876 (by decide +kernel)
theorem ks_By_daysBefore : Cond.static y_By_daysBefore ∈ lw_tg := in_t 875 (by decide +kernel)
theorem kl_By_By_daysBefore : Cond.methodLink R_By 102 y_By_daysBefore ∈ lw_tg := in_t 874 (by decide +kernel)
theorem hd_By_daysBefore : y_By_daysBefore.cls = R_By ∧ y_By_daysBefore.cls ≠ "java/lang/invoke/MethodHandle" ∧ y_By_daysBefore.cls ≠ "java/lang/invoke/VarHandle" ∧ (parseMethodDescriptor y_By_daysBefore.desc).map (fun d => d.parameters.length) = some 2 := by decide +kernel
theorem d_By_daysBefore_0 : decode b_By_daysBefore 0 = .ok (.iconst 1, 1) := by decide +kernel
theorem d_By_daysBefore_1 : decode b_By_daysBefore 1 = .ok (.bipush 13, 2) := by decide +kernel
theorem d_By_daysBefore_3 : decode b_By_daysBefore 3 = .ok (.iload_n 1, 1) := by decide +kernel
theorem d_By_daysBefore_4 : decode b_By_daysBefore 4 = .ok (.invokestatic 116, 3) := by decide +kernel
theorem d_By_daysBefore_7 : decode b_By_daysBefore 7 = .ok (.invokestatic 9, 3) := by decide +kernel
theorem d_By_daysBefore_10 : decode b_By_daysBefore 10 = .ok (.istore_n 2, 1) := by decide +kernel
theorem d_By_daysBefore_11 : decode b_By_daysBefore 11 = .ok (.iload_n 0, 1) := by decide +kernel
theorem d_By_daysBefore_12 : decode b_By_daysBefore 12 = .ok (.iconst 4, 1) := by decide +kernel
theorem d_By_daysBefore_13 : decode b_By_daysBefore 13 = .ok (.irem, 1) := by decide +kernel
theorem d_By_daysBefore_14 : decode b_By_daysBefore 14 = .ok (.ifCond .ne 12, 3) := by decide +kernel
theorem d_By_daysBefore_17 : decode b_By_daysBefore 17 = .ok (.iload_n 2, 1) := by decide +kernel
theorem d_By_daysBefore_18 : decode b_By_daysBefore 18 = .ok (.iconst 2, 1) := by decide +kernel
theorem d_By_daysBefore_19 : decode b_By_daysBefore 19 = .ok (.if_icmp .le 7, 3) := by decide +kernel
theorem d_By_daysBefore_22 : decode b_By_daysBefore 22 = .ok (.iconst 1, 1) := by decide +kernel
theorem d_By_daysBefore_23 : decode b_By_daysBefore 23 = .ok (.goto 4, 3) := by decide +kernel
theorem d_By_daysBefore_26 : decode b_By_daysBefore 26 = .ok (.iconst 0, 1) := by decide +kernel
theorem d_By_daysBefore_27 : decode b_By_daysBefore 27 = .ok (.istore_n 3, 1) := by decide +kernel
theorem d_By_daysBefore_28 : decode b_By_daysBefore 28 = .ok (.iload_n 0, 1) := by decide +kernel
theorem d_By_daysBefore_29 : decode b_By_daysBefore 29 = .ok (.sipush 1970, 3) := by decide +kernel
theorem d_By_daysBefore_32 : decode b_By_daysBefore 32 = .ok (.isub, 1) := by decide +kernel
theorem d_By_daysBefore_33 : decode b_By_daysBefore 33 = .ok (.sipush 365, 3) := by decide +kernel
theorem d_By_daysBefore_36 : decode b_By_daysBefore 36 = .ok (.imul, 1) := by decide +kernel
theorem d_By_daysBefore_37 : decode b_By_daysBefore 37 = .ok (.iload_n 0, 1) := by decide +kernel
theorem d_By_daysBefore_38 : decode b_By_daysBefore 38 = .ok (.sipush 1969, 3) := by decide +kernel
theorem d_By_daysBefore_41 : decode b_By_daysBefore 41 = .ok (.isub, 1) := by decide +kernel
theorem d_By_daysBefore_42 : decode b_By_daysBefore 42 = .ok (.iconst 4, 1) := by decide +kernel
theorem d_By_daysBefore_43 : decode b_By_daysBefore 43 = .ok (.idiv, 1) := by decide +kernel
theorem d_By_daysBefore_44 : decode b_By_daysBefore 44 = .ok (.iadd, 1) := by decide +kernel
theorem d_By_daysBefore_45 : decode b_By_daysBefore 45 = .ok (.getstatic 119, 3) := by decide +kernel
theorem d_By_daysBefore_48 : decode b_By_daysBefore 48 = .ok (.iload_n 2, 1) := by decide +kernel
theorem d_By_daysBefore_49 : decode b_By_daysBefore 49 = .ok (.iconst 1, 1) := by decide +kernel
theorem d_By_daysBefore_50 : decode b_By_daysBefore 50 = .ok (.isub, 1) := by decide +kernel
theorem d_By_daysBefore_51 : decode b_By_daysBefore 51 = .ok (.iaload, 1) := by decide +kernel
theorem d_By_daysBefore_52 : decode b_By_daysBefore 52 = .ok (.iadd, 1) := by decide +kernel
theorem d_By_daysBefore_53 : decode b_By_daysBefore 53 = .ok (.iload_n 3, 1) := by decide +kernel
theorem d_By_daysBefore_54 : decode b_By_daysBefore 54 = .ok (.iadd, 1) := by decide +kernel
theorem d_By_daysBefore_55 : decode b_By_daysBefore 55 = .ok (.ireturn, 1) := by decide +kernel
abbrev b_By_putTime : ByteArray := prog_4_method_24_code
def y_By_putTime : MethodName := ⟨R_By, "putTime", "(II)V"⟩
abbrev k_By_putTime : Cond := .code y_By_putTime b_By_putTime 8 none
theorem ki_By_putTime : k_By_putTime ∈ lw_tg := in_t 1311 (by decide +kernel)
theorem ks_By_putTime : Cond.instanceMethod y_By_putTime ∈ lw_tg := in_t 1309 (by decide +kernel)
theorem kx_By_putTime : Cond.selects R_By y_By_putTime y_By_putTime ∈ lw_tg := in_t 1310 (by decide +kernel)
theorem kl_Ce_By_putTime : Cond.methodLink R_Ce 306 y_By_putTime ∈ lw_tg := in_t 1308 (by decide +kernel)
theorem kl_By_By_putTime : Cond.methodLink R_By 112 y_By_putTime ∈ lw_tg := in_t 1353 (by decide +kernel)
theorem kl_Ag_By_putTime : Cond.methodLink R_Ag 162 y_By_putTime ∈ lw_tg := in_t 1436 (by decide +kernel)
theorem kl_So_By_putTime : Cond.methodLink R_So 100 y_By_putTime ∈ lw_tg := in_t 1596 (by decide +kernel)
theorem kl_Ti_By_putTime : Cond.methodLink R_Ti 111 y_By_putTime ∈ lw_tg := in_t 1722 (by decide +kernel)
theorem hd_By_putTime : y_By_putTime.cls = R_By ∧ y_By_putTime.cls ≠ "java/lang/invoke/MethodHandle" ∧ y_By_putTime.cls ≠ "java/lang/invoke/VarHandle" ∧ (parseMethodDescriptor y_By_putTime.desc).map (fun d => d.parameters.length) = some 2 := by decide +kernel
theorem d_By_putTime_0 : decode b_By_putTime 0 = .ok (.aload_n 0, 1) := by decide +kernel
theorem d_By_putTime_1 : decode b_By_putTime 1 = .ok (.iload_n 1, 1) := by decide +kernel
theorem d_By_putTime_2 : decode b_By_putTime 2 = .ok (.invokevirtual 46, 3) := by decide +kernel
theorem d_By_putTime_5 : decode b_By_putTime 5 = .ok (.istore_n 3, 1) := by decide +kernel
theorem d_By_putTime_6 : decode b_By_putTime 6 = .ok (.aload_n 0, 1) := by decide +kernel
theorem d_By_putTime_7 : decode b_By_putTime 7 = .ok (.bipush 24, 2) := by decide +kernel
theorem d_By_putTime_9 : decode b_By_putTime 9 = .ok (.invokevirtual 25, 3) := by decide +kernel
theorem d_By_putTime_12 : decode b_By_putTime 12 = .ok (.aload_n 0, 1) := by decide +kernel
theorem d_By_putTime_13 : decode b_By_putTime 13 = .ok (.bipush 15, 2) := by decide +kernel
theorem d_By_putTime_15 : decode b_By_putTime 15 = .ok (.invokevirtual 25, 3) := by decide +kernel
theorem d_By_putTime_18 : decode b_By_putTime 18 = .ok (.iload_n 2, 1) := by decide +kernel
theorem d_By_putTime_19 : decode b_By_putTime 19 = .ok (.ldc 101, 2) := by decide +kernel
theorem cn_By_101 : Cond.constant R_By 101 (86400) ∈ lw_tg := in_t 1069 (by decide +kernel)
theorem d_By_putTime_21 : decode b_By_putTime 21 = .ok (.idiv, 1) := by decide +kernel
theorem d_By_putTime_22 : decode b_By_putTime 22 = .ok (.istore 4, 2) := by decide +kernel
theorem d_By_putTime_24 : decode b_By_putTime 24 = .ok (.iload_n 2, 1) := by decide +kernel
theorem d_By_putTime_25 : decode b_By_putTime 25 = .ok (.ldc 101, 2) := by decide +kernel
theorem d_By_putTime_27 : decode b_By_putTime 27 = .ok (.irem, 1) := by decide +kernel
theorem d_By_putTime_28 : decode b_By_putTime 28 = .ok (.istore 5, 2) := by decide +kernel
theorem d_By_putTime_30 : decode b_By_putTime 30 = .ok (.sipush 1970, 3) := by decide +kernel
theorem d_By_putTime_33 : decode b_By_putTime 33 = .ok (.istore 6, 2) := by decide +kernel
theorem d_By_putTime_35 : decode b_By_putTime 35 = .ok (.iload 6, 2) := by decide +kernel
theorem d_By_putTime_37 : decode b_By_putTime 37 = .ok (.sipush 2037, 3) := by decide +kernel
theorem d_By_putTime_40 : decode b_By_putTime 40 = .ok (.if_icmp .ge 22, 3) := by decide +kernel
theorem d_By_putTime_43 : decode b_By_putTime 43 = .ok (.iload 6, 2) := by decide +kernel
theorem d_By_putTime_45 : decode b_By_putTime 45 = .ok (.iconst 1, 1) := by decide +kernel
theorem d_By_putTime_46 : decode b_By_putTime 46 = .ok (.iadd, 1) := by decide +kernel
theorem d_By_putTime_47 : decode b_By_putTime 47 = .ok (.iconst 1, 1) := by decide +kernel
theorem d_By_putTime_48 : decode b_By_putTime 48 = .ok (.invokestatic 102, 3) := by decide +kernel
theorem d_By_putTime_51 : decode b_By_putTime 51 = .ok (.iload 4, 2) := by decide +kernel
theorem d_By_putTime_53 : decode b_By_putTime 53 = .ok (.if_icmp .gt 9, 3) := by decide +kernel
theorem d_By_putTime_56 : decode b_By_putTime 56 = .ok (.iinc 6 1, 3) := by decide +kernel
theorem d_By_putTime_59 : decode b_By_putTime 59 = .ok (.goto (-24), 3) := by decide +kernel
theorem d_By_putTime_62 : decode b_By_putTime 62 = .ok (.iconst 1, 1) := by decide +kernel
theorem d_By_putTime_63 : decode b_By_putTime 63 = .ok (.istore 7, 2) := by decide +kernel
theorem d_By_putTime_65 : decode b_By_putTime 65 = .ok (.iload 7, 2) := by decide +kernel
theorem d_By_putTime_67 : decode b_By_putTime 67 = .ok (.bipush 12, 2) := by decide +kernel
theorem d_By_putTime_69 : decode b_By_putTime 69 = .ok (.if_icmp .ge 23, 3) := by decide +kernel
theorem d_By_putTime_72 : decode b_By_putTime 72 = .ok (.iload 6, 2) := by decide +kernel
theorem d_By_putTime_74 : decode b_By_putTime 74 = .ok (.iload 7, 2) := by decide +kernel
theorem d_By_putTime_76 : decode b_By_putTime 76 = .ok (.iconst 1, 1) := by decide +kernel
theorem d_By_putTime_77 : decode b_By_putTime 77 = .ok (.iadd, 1) := by decide +kernel
theorem d_By_putTime_78 : decode b_By_putTime 78 = .ok (.invokestatic 102, 3) := by decide +kernel
theorem d_By_putTime_81 : decode b_By_putTime 81 = .ok (.iload 4, 2) := by decide +kernel
theorem d_By_putTime_83 : decode b_By_putTime 83 = .ok (.if_icmp .gt 9, 3) := by decide +kernel
theorem d_By_putTime_86 : decode b_By_putTime 86 = .ok (.iinc 7 1, 3) := by decide +kernel
theorem d_By_putTime_89 : decode b_By_putTime 89 = .ok (.goto (-24), 3) := by decide +kernel
theorem d_By_putTime_92 : decode b_By_putTime 92 = .ok (.aload_n 0, 1) := by decide +kernel
theorem d_By_putTime_93 : decode b_By_putTime 93 = .ok (.iload 6, 2) := by decide +kernel
theorem d_By_putTime_95 : decode b_By_putTime 95 = .ok (.bipush 100, 2) := by decide +kernel
theorem d_By_putTime_97 : decode b_By_putTime 97 = .ok (.idiv, 1) := by decide +kernel
theorem d_By_putTime_98 : decode b_By_putTime 98 = .ok (.invokevirtual 105, 3) := by decide +kernel
theorem d_By_putTime_101 : decode b_By_putTime 101 = .ok (.aload_n 0, 1) := by decide +kernel
theorem d_By_putTime_102 : decode b_By_putTime 102 = .ok (.iload 6, 2) := by decide +kernel
theorem d_By_putTime_104 : decode b_By_putTime 104 = .ok (.bipush 100, 2) := by decide +kernel
theorem d_By_putTime_106 : decode b_By_putTime 106 = .ok (.irem, 1) := by decide +kernel
theorem d_By_putTime_107 : decode b_By_putTime 107 = .ok (.invokevirtual 105, 3) := by decide +kernel
theorem d_By_putTime_110 : decode b_By_putTime 110 = .ok (.aload_n 0, 1) := by decide +kernel
theorem d_By_putTime_111 : decode b_By_putTime 111 = .ok (.iload 7, 2) := by decide +kernel
theorem d_By_putTime_113 : decode b_By_putTime 113 = .ok (.invokevirtual 105, 3) := by decide +kernel
theorem d_By_putTime_116 : decode b_By_putTime 116 = .ok (.aload_n 0, 1) := by decide +kernel
theorem d_By_putTime_117 : decode b_By_putTime 117 = .ok (.iload 4, 2) := by decide +kernel
theorem d_By_putTime_119 : decode b_By_putTime 119 = .ok (.iload 6, 2) := by decide +kernel
theorem d_By_putTime_121 : decode b_By_putTime 121 = .ok (.iload 7, 2) := by decide +kernel
theorem d_By_putTime_123 : decode b_By_putTime 123 = .ok (.invokestatic 102, 3) := by decide +kernel
theorem d_By_putTime_126 : decode b_By_putTime 126 = .ok (.isub, 1) := by decide +kernel
theorem d_By_putTime_127 : decode b_By_putTime 127 = .ok (.iconst 1, 1) := by decide +kernel
theorem d_By_putTime_128 : decode b_By_putTime 128 = .ok (.iadd, 1) := by decide +kernel
theorem d_By_putTime_129 : decode b_By_putTime 129 = .ok (.invokevirtual 105, 3) := by decide +kernel
theorem d_By_putTime_132 : decode b_By_putTime 132 = .ok (.aload_n 0, 1) := by decide +kernel
theorem d_By_putTime_133 : decode b_By_putTime 133 = .ok (.iload 5, 2) := by decide +kernel
theorem d_By_putTime_135 : decode b_By_putTime 135 = .ok (.sipush 3600, 3) := by decide +kernel
theorem d_By_putTime_138 : decode b_By_putTime 138 = .ok (.idiv, 1) := by decide +kernel
theorem d_By_putTime_139 : decode b_By_putTime 139 = .ok (.invokevirtual 105, 3) := by decide +kernel
theorem d_By_putTime_142 : decode b_By_putTime 142 = .ok (.aload_n 0, 1) := by decide +kernel
theorem d_By_putTime_143 : decode b_By_putTime 143 = .ok (.iload 5, 2) := by decide +kernel
theorem d_By_putTime_145 : decode b_By_putTime 145 = .ok (.bipush 60, 2) := by decide +kernel
theorem d_By_putTime_147 : decode b_By_putTime 147 = .ok (.idiv, 1) := by decide +kernel
theorem d_By_putTime_148 : decode b_By_putTime 148 = .ok (.bipush 60, 2) := by decide +kernel
theorem d_By_putTime_150 : decode b_By_putTime 150 = .ok (.irem, 1) := by decide +kernel
theorem d_By_putTime_151 : decode b_By_putTime 151 = .ok (.invokevirtual 105, 3) := by decide +kernel
theorem d_By_putTime_154 : decode b_By_putTime 154 = .ok (.aload_n 0, 1) := by decide +kernel
theorem d_By_putTime_155 : decode b_By_putTime 155 = .ok (.iload 5, 2) := by decide +kernel
theorem d_By_putTime_157 : decode b_By_putTime 157 = .ok (.bipush 60, 2) := by decide +kernel
theorem d_By_putTime_159 : decode b_By_putTime 159 = .ok (.irem, 1) := by decide +kernel
theorem d_By_putTime_160 : decode b_By_putTime 160 = .ok (.invokevirtual 105, 3) := by decide +kernel
theorem d_By_putTime_163 : decode b_By_putTime 163 = .ok (.aload_n 0, 1) := by decide +kernel
theorem d_By_putTime_164 : decode b_By_putTime 164 = .ok (.bipush 90, 2) := by decide +kernel
theorem d_By_putTime_166 : decode b_By_putTime 166 = .ok (.invokevirtual 25, 3) := by decide +kernel
theorem d_By_putTime_169 : decode b_By_putTime 169 = .ok (.aload_n 0, 1) := by decide +kernel
theorem d_By_putTime_170 : decode b_By_putTime 170 = .ok (.iload_n 3, 1) := by decide +kernel
theorem d_By_putTime_171 : decode b_By_putTime 171 = .ok (.invokevirtual 43, 3) := by decide +kernel
theorem d_By_putTime_174 : decode b_By_putTime 174 = .ok (.return_, 1) := by decide +kernel
abbrev b_By_putErrorHead : ByteArray := prog_4_method_26_code
def y_By_putErrorHead : MethodName := ⟨R_By, "putErrorHead", "(II)V"⟩
abbrev k_By_putErrorHead : Cond := .code y_By_putErrorHead b_By_putErrorHead 3 none
theorem ki_By_putErrorHead : k_By_putErrorHead ∈ lw_tg := in_t 1350 (by decide +kernel)
theorem ks_By_putErrorHead : Cond.instanceMethod y_By_putErrorHead ∈ lw_tg := in_t 1348 (by decide +kernel)
theorem kx_By_putErrorHead : Cond.selects R_By y_By_putErrorHead y_By_putErrorHead ∈ lw_tg := in_t 1349 (by decide +kernel)
theorem kl_Ce_By_putErrorHead : Cond.methodLink R_Ce 363 y_By_putErrorHead ∈ lw_tg := in_t 1347 (by decide +kernel)
theorem kl_H_By_putErrorHead : Cond.methodLink R_H 333 y_By_putErrorHead ∈ lw_tg := in_t 1572 (by decide +kernel)
theorem hd_By_putErrorHead : y_By_putErrorHead.cls = R_By ∧ y_By_putErrorHead.cls ≠ "java/lang/invoke/MethodHandle" ∧ y_By_putErrorHead.cls ≠ "java/lang/invoke/VarHandle" ∧ (parseMethodDescriptor y_By_putErrorHead.desc).map (fun d => d.parameters.length) = some 2 := by decide +kernel
theorem d_By_putErrorHead_0 : decode b_By_putErrorHead 0 = .ok (.aload_n 0, 1) := by decide +kernel
theorem d_By_putErrorHead_1 : decode b_By_putErrorHead 1 = .ok (.iconst 0, 1) := by decide +kernel
theorem d_By_putErrorHead_2 : decode b_By_putErrorHead 2 = .ok (.ldc2_w 108, 3) := by decide +kernel
theorem cl_By_108 : Cond.constantLong R_By 108 (5) ∈ lw_tg := in_t 1351 (by decide +kernel)
theorem d_By_putErrorHead_5 : decode b_By_putErrorHead 5 = .ok (.invokevirtual 81, 3) := by decide +kernel
theorem d_By_putErrorHead_8 : decode b_By_putErrorHead 8 = .ok (.aload_n 0, 1) := by decide +kernel
theorem d_By_putErrorHead_9 : decode b_By_putErrorHead 9 = .ok (.iconst 1, 1) := by decide +kernel
theorem d_By_putErrorHead_10 : decode b_By_putErrorHead 10 = .ok (.ldc2_w 110, 3) := by decide +kernel
theorem cl_By_110 : Cond.constantLong R_By 110 (30) ∈ lw_tg := in_t 1352 (by decide +kernel)
theorem d_By_putErrorHead_13 : decode b_By_putErrorHead 13 = .ok (.invokevirtual 81, 3) := by decide +kernel
theorem d_By_putErrorHead_16 : decode b_By_putErrorHead 16 = .ok (.aload_n 0, 1) := by decide +kernel
theorem d_By_putErrorHead_17 : decode b_By_putErrorHead 17 = .ok (.iconst 4, 1) := by decide +kernel
theorem d_By_putErrorHead_18 : decode b_By_putErrorHead 18 = .ok (.iload_n 1, 1) := by decide +kernel
theorem d_By_putErrorHead_19 : decode b_By_putErrorHead 19 = .ok (.invokevirtual 112, 3) := by decide +kernel
theorem d_By_putErrorHead_22 : decode b_By_putErrorHead 22 = .ok (.aload_n 0, 1) := by decide +kernel
theorem d_By_putErrorHead_23 : decode b_By_putErrorHead 23 = .ok (.iconst 5, 1) := by decide +kernel
theorem d_By_putErrorHead_24 : decode b_By_putErrorHead 24 = .ok (.lconst 0, 1) := by decide +kernel
theorem d_By_putErrorHead_25 : decode b_By_putErrorHead 25 = .ok (.invokevirtual 81, 3) := by decide +kernel
theorem d_By_putErrorHead_28 : decode b_By_putErrorHead 28 = .ok (.aload_n 0, 1) := by decide +kernel
theorem d_By_putErrorHead_29 : decode b_By_putErrorHead 29 = .ok (.bipush 6, 2) := by decide +kernel
theorem d_By_putErrorHead_31 : decode b_By_putErrorHead 31 = .ok (.iload_n 2, 1) := by decide +kernel
theorem d_By_putErrorHead_32 : decode b_By_putErrorHead 32 = .ok (.i2l, 1) := by decide +kernel
theorem d_By_putErrorHead_33 : decode b_By_putErrorHead 33 = .ok (.invokevirtual 81, 3) := by decide +kernel
theorem d_By_putErrorHead_36 : decode b_By_putErrorHead 36 = .ok (.return_, 1) := by decide +kernel
abbrev b_By_isText : ByteArray := prog_4_method_28_code
def y_By_isText : MethodName := ⟨R_By, "isText", "(IILjava/lang/String;)Z"⟩
abbrev k_By_isText : Cond := .code y_By_isText b_By_isText 5 (some .boolean)
theorem ki_By_isText : k_By_isText ∈ lw_tg := in_t 946 (by decide +kernel)
theorem ks_By_isText : Cond.instanceMethod y_By_isText ∈ lw_tg := in_t 944 (by decide +kernel)
theorem kx_By_isText : Cond.selects R_By y_By_isText y_By_isText ∈ lw_tg := in_t 945 (by decide +kernel)
theorem kl_By_By_isText : Cond.methodLink R_By 136 y_By_isText ∈ lw_tg := in_t 943 (by decide +kernel)
theorem kl_H_By_isText : Cond.methodLink R_H 314 y_By_isText ∈ lw_tg := in_t 1406 (by decide +kernel)
theorem hd_By_isText : y_By_isText.cls = R_By ∧ y_By_isText.cls ≠ "java/lang/invoke/MethodHandle" ∧ y_By_isText.cls ≠ "java/lang/invoke/VarHandle" ∧ (parseMethodDescriptor y_By_isText.desc).map (fun d => d.parameters.length) = some 3 := by decide +kernel
theorem d_By_isText_0 : decode b_By_isText 0 = .ok (.iload_n 2, 1) := by decide +kernel
theorem d_By_isText_1 : decode b_By_isText 1 = .ok (.iload_n 1, 1) := by decide +kernel
theorem d_By_isText_2 : decode b_By_isText 2 = .ok (.isub, 1) := by decide +kernel
theorem d_By_isText_3 : decode b_By_isText 3 = .ok (.aload_n 3, 1) := by decide +kernel
theorem d_By_isText_4 : decode b_By_isText 4 = .ok (.invokevirtual 55, 3) := by decide +kernel
theorem d_By_isText_7 : decode b_By_isText 7 = .ok (.if_icmp .eq 5, 3) := by decide +kernel
theorem d_By_isText_10 : decode b_By_isText 10 = .ok (.iconst 0, 1) := by decide +kernel
theorem d_By_isText_11 : decode b_By_isText 11 = .ok (.ireturn, 1) := by decide +kernel
theorem d_By_isText_12 : decode b_By_isText 12 = .ok (.iconst 0, 1) := by decide +kernel
theorem d_By_isText_13 : decode b_By_isText 13 = .ok (.istore 4, 2) := by decide +kernel
theorem d_By_isText_15 : decode b_By_isText 15 = .ok (.iload 4, 2) := by decide +kernel
theorem d_By_isText_17 : decode b_By_isText 17 = .ok (.aload_n 3, 1) := by decide +kernel
theorem d_By_isText_18 : decode b_By_isText 18 = .ok (.invokevirtual 55, 3) := by decide +kernel
theorem d_By_isText_21 : decode b_By_isText 21 = .ok (.if_icmp .ge 28, 3) := by decide +kernel
theorem d_By_isText_24 : decode b_By_isText 24 = .ok (.aload_n 0, 1) := by decide +kernel
theorem d_By_isText_25 : decode b_By_isText 25 = .ok (.iload_n 1, 1) := by decide +kernel
theorem d_By_isText_26 : decode b_By_isText 26 = .ok (.iload 4, 2) := by decide +kernel
theorem d_By_isText_28 : decode b_By_isText 28 = .ok (.iadd, 1) := by decide +kernel
theorem d_By_isText_29 : decode b_By_isText 29 = .ok (.invokevirtual 123, 3) := by decide +kernel
theorem d_By_isText_32 : decode b_By_isText 32 = .ok (.aload_n 3, 1) := by decide +kernel
theorem d_By_isText_33 : decode b_By_isText 33 = .ok (.iload 4, 2) := by decide +kernel
theorem d_By_isText_35 : decode b_By_isText 35 = .ok (.invokevirtual 61, 3) := by decide +kernel
theorem d_By_isText_38 : decode b_By_isText 38 = .ok (.if_icmp .eq 5, 3) := by decide +kernel
theorem d_By_isText_41 : decode b_By_isText 41 = .ok (.iconst 0, 1) := by decide +kernel
theorem d_By_isText_42 : decode b_By_isText 42 = .ok (.ireturn, 1) := by decide +kernel
theorem d_By_isText_43 : decode b_By_isText 43 = .ok (.iinc 4 1, 3) := by decide +kernel
theorem d_By_isText_46 : decode b_By_isText 46 = .ok (.goto (-31), 3) := by decide +kernel
theorem d_By_isText_49 : decode b_By_isText 49 = .ok (.iconst 1, 1) := by decide +kernel
theorem d_By_isText_50 : decode b_By_isText 50 = .ok (.ireturn, 1) := by decide +kernel
theorem ol_By : Cond.methodLink R_By 3 Lib.objectInit ∈ lw_tg := in_t 40 (by decide +kernel)
theorem kl_By_mmax : Cond.methodLink R_By 9 Lib.Math.max.name ∈ lw_tg := in_t 41 (by decide +kernel)
theorem kl_By_mmin : Cond.methodLink R_By 116 Lib.Math.min.name ∈ lw_tg := in_t 877 (by decide +kernel)
theorem sk_By_119 : Cond.fieldLink R_By 119 (sG 3).1 (sG 3).2.1 (sG 3).2.2.1 ∈ lw_tg := in_t 878 (by decide +kernel)
set_option maxHeartbeats 4000000 in
set_option maxRecDepth 100000 in
theorem c_By_init (l : Launch) (D : va_G) (E : cE) (T : cT) (L : List Nat) (f : pF) (sz : Nat) (N : Nat) (b : Nat) (m_b : b ∈ L) (e_b : f b = .inr (3, [.null, .int (nI 0)])) (hh0 : N < 100000) : Met l y_By_init (k_By_init :: lw_tg) (kRm 1 20 1 (N)) (va_Pc [.ref b, .int (nI N)] (kPre D E T L f sz)) (va_Qv (fun (u : cU) => (∀ x, x ∈ L → x ∈ u.1) ∧ (∀ x, x ∈ L → x ≠ b → u.2 x = f x) ∧ ∃ (r : Nat) (k_r : Nat → Int32), r ∈ u.1 ∧ r ∉ L ∧ fB k_r ∧ u.2 b = .inr (3, [.ref r, .int (nI 0)]) ∧ u.2 r = .inl (E.1, N, .inl k_r)) (cPost D E (pA L sz)) (pA L sz)) 1 (N) (pA L sz) := by
  refine k_enter (own := R_By) (by decide) rfl (Nat.le_of_ble_eq_true rfl) (fun p e s m below meth c ls AV QQ H locs hQQ X Y hA hin hr hlk hml hl KS KR => ?_)
  have hl : lv_has ls 2 [(0, .ref b), (1, .int (nI N))] := hl
  refine lv_aload_n X.1 X.2.1 d_By_init_0 rfl (lv_at hl 0 rfl) ?_
  refine W.objInit X.1 X.2.1 X.2.2.2.1 (X.2.2.1 _ ol_By) (X.2.2.1 _ o_inst) (X.2.2.1 _ o_code) rfl (by rw [hml]; exact hl.1) rfl d_By_init_1 (Nat.le_of_ble_eq_true rfl) (Nat.le_of_ble_eq_true rfl) ?_
  refine W.eq (g2 := F0 m 4 ls []) rfl ?_
  refine lv_aload_n X.1 X.2.1 d_By_init_4 rfl (lv_at hl 0 rfl) ?_
  refine lv_iconst (v := (nI 0)) X.1 X.2.1 d_By_init_5 (by decide) ?_
  refine lv_iload_n X.1 X.2.1 d_By_init_6 rfl (lv_at hl 1 rfl) ?_
  refine va_mmax X.1 X.2.1 (hml.trans hl.1.symm) X.2.2.2.1 (X.2.2.1 _ kl_By_mmax) (X.2.2.1 _ ks_mmax) (X.2.2.1 _ ini_Math) (X.2.2.1 _ ki_mmax) (Nat.le_of_ble_eq_true rfl) (Nat.le_of_ble_eq_true rfl) (show 0 ≤ 1 by omega) (show 0 ≤ (N) by omega) d_By_init_7 ?_
  refine t_eq (y := nI N) (mx0 (by omega)) ?_
  refine q_newa X.1 X.2.1 (atype := .byte) (ty := .byte) rfl ra_byte (X.2.2.1 _ ar_byte) X.2.2.2.2 0 (cE := E.1) rfl Y hA (N := (N)) (a0 := (N, .inl (fun _ => 0))) (fun cA => vz_byte cA (N)) (nI_pos (by omega)) (nI_clamp (by omega)) (show N * 1 ≤ 536870912 by omega) (show 0 + 1 ≤ 1 by omega) (show 0 + (N) ≤ (N) by omega) d_By_init_10 (fun q1 H hqq1 Y => ?_)
  have Y : pH D cCl (pA L sz) s.heap (L ++ [q1]) (va_up f q1 (.inl (E.1, N, .inl (fun _ => 0)))) H locs := Y
  have e8 : (va_up f q1 (.inl (E.1, N, .inl (fun _ => 0)))) q1 = .inl (E.1, N, .inl (fun _ => 0)) := q_up
  have e9 : (va_up f q1 (.inl (E.1, N, .inl (fun _ => 0)))) b = .inr (3, [.null, .int (nI 0)]) := (q_ne (ne_mem hqq1 m_b)).trans e_b
  have nl6 : q1 ∉ L := fun h9 => hqq1 h9
  have hF10 : ∀ x, x ∈ L → x ≠ b → (va_up f q1 (.inl (E.1, N, .inl (fun _ => 0)))) x = f x := fun x hx h0 => (q_ne (ne_mem nl6 hx)).trans rfl
  generalize (va_up f q1 (.inl (E.1, N, .inl (fun _ => 0)))) = f7 at Y e8 e9 hF10
  have s4 : ∀ x, x ∈ L → x ∈ L ++ [q1] := fun x hx => List.mem_append_left _ hx
  have m11 : b ∈ L ++ [q1] := List.mem_append_left _ m_b
  have m5 : q1 ∈ L ++ [q1] := List.mem_append_right _ (List.mem_singleton.mpr rfl)
  generalize L ++ [q1] = L2 at Y s4 m11 m5
  refine q_putF X.1 X.2.1 X.2.2.1 i_By t_By t_By_ok n_By X.2.2.2.1 X.2.2.2.2 Y m11 e9 rfl 0 (by decide) (X.2.2.1 _ lk_By_15) (fun _ h9 => h9) rfl hin rfl (t_By_ok 0 (by decide)) rfl rfl (Nat.le_of_ble_eq_true rfl) d_By_init_12 (fun H locs Y => ?_)
  have e13 : (va_up f7 b (.inr (3, [.ref q1, .int (nI 0)]))) b = .inr (3, [.ref q1, .int (nI 0)]) := q_up
  have e14 : (va_up f7 b (.inr (3, [.ref q1, .int (nI 0)]))) q1 = .inl (E.1, N, .inl (fun _ => 0)) := (q_ne (q_tag e8 e9 (show (1000 : Nat) ≠ 3 by decide))).trans e8
  have hF15 : ∀ x, x ∈ L → x ≠ b → (va_up f7 b (.inr (3, [.ref q1, .int (nI 0)]))) x = f x := fun x hx h0 => (q_ne h0).trans (hF10 x hx h0)
  have Y : pH D cCl (pA L sz) s.heap L2 (va_up f7 b (.inr (3, [.ref q1, .int (nI 0)]))) H locs := Y
  generalize (va_up f7 b (.inr (3, [.ref q1, .int (nI 0)]))) = f12 at Y e13 e14 hF15
  refine W.cs (cells' := 1) (slots' := N) (by omega) (by omega) ?_
  exact c_retv hQQ X Y hr hlk ⟨s4, hF15, q1, (fun _ => 0), m5, nl6, fB_0, e13, e14⟩ d_By_init_15
set_option maxHeartbeats 4000000 in
set_option maxRecDepth 100000 in
theorem c_By_putLetters (l : Launch) (D : va_G) (E : cE) (T : cT) (L : List Nat) (f : pF) (sz : Nat) (yi : Nat) (hy_yi : yi < nY) (N b r n : Nat) (g_r : Nat → Int32) (m_b : b ∈ L) (m_r : r ∈ L) (e_b : f b = .inr (3, [.ref r, .int (nI n)])) (e_r : f r = .inl (E.1, N, .inl g_r)) (f_r : fB g_r) (hh0 : n ≤ N) (hh1 : N < 100000) : Met l y_By_putLetters (k_By_putLetters :: lw_tg) (kRm 4 90 0 (0)) (va_Pc [.ref b, .ref (T.2.1 yi)] (kPre D E T L f sz)) (va_Qv (fun (u : cU) => u.1 = L ∧ (∀ x, x ≠ b → x ≠ r → u.2 x = f x) ∧ ∃ (n2 : Nat) (k_r : Nat → Int32), fB k_r ∧ (n ≤ n2) ∧ (n2 ≤ N) ∧ u.2 b = .inr (3, [.ref r, .int (nI n2)]) ∧ u.2 r = .inl (E.1, N, .inl k_r)) (cPost D E (pA L sz)) (pA L sz)) 0 (0) (pA L sz) := by
  refine k_enter (own := R_By) (by decide) rfl (Nat.le_of_ble_eq_true rfl) (fun p e s m below meth c ls AV QQ H locs hQQ X Y hA hin hr hlk hml hl KS KR => ?_)
  have hl : lv_has ls 3 [(0, .ref b), (1, .ref (T.2.1 yi))] := hl
  have hyn := yn_small yi hy_yi
  refine lv_iconst (v := (nI 0)) X.1 X.2.1 d_By_putLetters_0 (by decide) ?_
  refine lv_istore_n (lv' := [(2, .int (nI 0)), (0, .ref b), (1, .ref (T.2.1 yi))]) X.1 X.2.1 d_By_putLetters_1 rfl hl (by decide) rfl (fun ls hl => ?_)
  have lp1 : ∀ (n2 i n7 : Nat) (g9 : Nat → Int32) (f4 : pF) (H : Heap) (locs : List Loc) (ls : Array Slot), yn yi - i = n2 → (i ≤ yn yi) → ((n7) ≤ N) → (n ≤ (n7)) → fB g9 → f4 b = .inr (3, [.ref r, .int (nI n7)]) → f4 r = .inl (E.1, N, .inl g9) → (∀ x, x ≠ b → x ≠ r → f4 x = f x) → pH D cCl (pA L sz) s.heap L f4 H locs → lv_has ls 3 [(2, .int (nI i)), (0, .ref b), (1, .ref (T.2.1 yi))] → W p l e (kRm 4 90 0 (0)) s m AV below meth c H locs 0 0 QQ (F0 m 2 ls []) := by
    intro n2
    induction n2 with
    | zero =>
      intro i n7 g9 f4 H locs ls hm14 hc11 hc12 hc13 hg10 e6 e8 hF5 Y hl
      refine lv_iload_n X.1 X.2.1 d_By_putLetters_2 rfl (lv_at hl 0 rfl) ?_
      refine lv_aload_n X.1 X.2.1 d_By_putLetters_3 rfl (lv_at hl 2 rfl) ?_
      refine k_length (i := yi) X Y KS (hy_yi) hml hl.1 kl_By_length ⟨by decide, by decide⟩ (Nat.le_of_ble_eq_true rfl) d_By_putLetters_4 ⟨show 0 ≤ 0 by omega, show 0 ≤ (0) by omega⟩ (fun H locs Y => ?_)
      have hyn := yn_small yi (hy_yi)
      refine lv_icmp_ge (tgt := 25) X.1 X.2.1 d_By_putLetters_7 (by decide) (fun c15 => ?_) (fun c15 => absurd ?_ c15)
      rotate_left
      · (rw [nI_leI (by omega) (by omega)] <;> omega)
      rw [nI_leI (by omega) (by omega)] at c15
      exact c_retv hQQ X Y hr hlk ⟨rfl, hF5, (n7), g9, hg10, (by omega), (by omega), e6, e8⟩ d_By_putLetters_25
    | succ n2 ih3 =>
      intro i n7 g9 f4 H locs ls hm14 hc11 hc12 hc13 hg10 e6 e8 hF5 Y hl
      refine lv_iload_n X.1 X.2.1 d_By_putLetters_2 rfl (lv_at hl 0 rfl) ?_
      refine lv_aload_n X.1 X.2.1 d_By_putLetters_3 rfl (lv_at hl 2 rfl) ?_
      refine k_length (i := yi) X Y KS (hy_yi) hml hl.1 kl_By_length ⟨by decide, by decide⟩ (Nat.le_of_ble_eq_true rfl) d_By_putLetters_4 ⟨show 0 ≤ 0 by omega, show 0 ≤ (0) by omega⟩ (fun H locs Y => ?_)
      have hyn := yn_small yi (hy_yi)
      refine lv_icmp_ge (tgt := 25) X.1 X.2.1 d_By_putLetters_7 (by decide) (fun c16 => absurd c16 ?_) (fun c16 => ?_)
      · (rw [nI_leI (by omega) (by omega)] <;> omega)
      rw [nI_leI (by omega) (by omega)] at c16
      refine lv_aload_n X.1 X.2.1 d_By_putLetters_10 rfl (lv_at hl 1 rfl) ?_
      refine lv_aload_n X.1 X.2.1 d_By_putLetters_11 rfl (lv_at hl 2 rfl) ?_
      refine lv_iload_n X.1 X.2.1 d_By_putLetters_12 rfl (lv_at hl 0 rfl) ?_
      refine k_charAt (i := yi) (k := i) X Y KS (hy_yi) (show i < yn yi by omega) hml hl.1 kl_By_charAt ⟨by decide, by decide⟩ (Nat.le_of_ble_eq_true rfl) d_By_putLetters_13 ⟨show 0 ≤ 0 by omega, show 0 ≤ (0) by omega⟩ (fun H locs Y => ?_)
      refine t_any (fun v17 => ?_)
      refine x_v (x_runV (As := [.int v17]) (rest := []) (n := 1) X Y hml hl.1 (c_By_put l D E L f4 H.size (v17) b r (N) (n7) g9 m_b e6 m_r e8 (by omega) (by omega) hg10) (ok_c X Y) m_b e6 rfl kl_By_By_put ks_By_put kx_By_put ki_By_put ini_By ⟨rfl, rfl⟩ hd_By_put ⟨by decide, by decide⟩ rfl (Nat.le_of_ble_eq_true rfl) d_By_putLetters_16 ⟨(show 0 + 0 ≤ 0 by omega), (show 0 + (0) ≤ (0) by omega)⟩) X Y hA (fun u H locs hp Y => ?_)
      obtain ⟨L19, f18⟩ := u
      obtain ⟨eL30, hF20, n21, g22, h24, h25, h26, h27, e28, e29⟩ := hp
      dsimp only at eL30 hF20 e28 e29 Y
      rw [eL30] at Y
      have hF32 : ∀ x, x ≠ b → x ≠ r → f18 x = f x := fun x h0 h1 => (hF20 x h0 h1).trans (hF5 x h0 h1)
      refine lv_iinc (v := (nI (i + 1))) (lv' := [(2, .int (nI (i + 1))), (0, .ref b), (1, .ref (T.2.1 yi))]) X.1 X.2.1 d_By_putLetters_19 hl (k := 0) rfl (nI_add _ 1) (by decide) rfl (fun ls hl => ?_)
      refine lv_goto (tgt := 2) X.1 X.2.1 d_By_putLetters_22 (by decide) ?_
      exact ih3  (i + 1) (n21)   g22 f18 _ _ _ (by omega) (by omega) (by omega) (by omega) h25 e28 e29 hF32 Y (lv_sub hl [0, 1, 2] rfl)
  exact lp1 (yn yi) (0) (n)   g_r f _ _ _ (by omega) (by omega) (by omega) (by omega) f_r e_b e_r (fun _ _ _ => rfl) Y (lv_sub hl [0, 1, 2] rfl)
set_option maxHeartbeats 4000000 in
set_option maxRecDepth 100000 in
theorem c_By_putText (l : Launch) (D : va_G) (E : cE) (T : cT) (L : List Nat) (f : pF) (sz : Nat) (yi : Nat) (hy_yi : yi < nY) (N b r n : Nat) (g_r : Nat → Int32) (m_b : b ∈ L) (m_r : r ∈ L) (e_b : f b = .inr (3, [.ref r, .int (nI n)])) (e_r : f r = .inl (E.1, N, .inl g_r)) (f_r : fB g_r) (hh0 : n ≤ N) (hh1 : N < 100000) : Met l y_By_putText (k_By_putText :: lw_tg) (kRm 5 112 0 (0)) (va_Pc [.ref b, .ref (T.2.1 yi)] (kPre D E T L f sz)) (va_Qv (fun (u : cU) => u.1 = L ∧ (∀ x, x ≠ b → x ≠ r → u.2 x = f x) ∧ ∃ (n2 : Nat) (k_r : Nat → Int32), fB k_r ∧ (n ≤ n2) ∧ (n2 ≤ N) ∧ u.2 b = .inr (3, [.ref r, .int (nI n2)]) ∧ u.2 r = .inl (E.1, N, .inl k_r)) (cPost D E (pA L sz)) (pA L sz)) 0 (0) (pA L sz) := by
  refine k_enter (own := R_By) (by decide) rfl (Nat.le_of_ble_eq_true rfl) (fun p e s m below meth c ls AV QQ H locs hQQ X Y hA hin hr hlk hml hl KS KR => ?_)
  have hl : lv_has ls 3 [(0, .ref b), (1, .ref (T.2.1 yi))] := hl
  refine lv_aload_n X.1 X.2.1 d_By_putText_0 rfl (lv_at hl 0 rfl) ?_
  refine lv_bipush (v := (nI 27)) X.1 X.2.1 d_By_putText_1 (by decide) ?_
  refine x_i (x_runV (As := [.int (nI 27)]) (rest := []) (n := 1) X Y hml hl.1 (c_By_open l D E L f H.size ((nI 27)) b r (N) (n) g_r m_b e_b m_r e_r (by omega) (by omega) f_r) (ok_c X Y) m_b e_b rfl kl_By_By_open ks_By_open kx_By_open ki_By_open ini_By ⟨rfl, rfl⟩ hd_By_open ⟨by decide, by decide⟩ rfl (Nat.le_of_ble_eq_true rfl) d_By_putText_3 ⟨(show 0 + 0 ≤ 0 by omega), (show 0 + (0) ≤ (0) by omega)⟩) X Y hA (fun r6 u H locs hp Y => ?_)
  obtain ⟨L2, f1⟩ := u
  obtain ⟨eL13, hF3, n4, g5, h7, h8, h9, h10, e11, e12, pr14⟩ := hp
  dsimp only at eL13 hF3 e11 e12 Y pr14
  rw [eL13] at Y
  have hF15 : ∀ x, x ≠ b → x ≠ r → f1 x = f x := fun x h0 h1 => (hF3 x h0 h1).trans rfl
  refine lv_istore_n (lv' := [(2, .int r6), (0, .ref b), (1, .ref (T.2.1 yi))]) X.1 X.2.1 d_By_putText_6 rfl hl (by decide) rfl (fun ls hl => ?_)
  refine lv_aload_n X.1 X.2.1 d_By_putText_7 rfl (lv_at hl 1 rfl) ?_
  refine lv_aload_n X.1 X.2.1 d_By_putText_8 rfl (lv_at hl 2 rfl) ?_
  refine x_v (x_runV (As := [.ref (T.2.1 yi)]) (rest := []) (n := 1) X Y hml hl.1 (c_By_putLetters l D E T L f1 H.size yi (hy_yi) (N) b r (n4) g5 m_b m_r e11 e12 h8 (by omega) (by omega)) (ok_k X Y hA KS KR) m_b e11 rfl kl_By_By_putLetters ks_By_putLetters kx_By_putLetters ki_By_putLetters ini_By ⟨rfl, rfl⟩ hd_By_putLetters ⟨by decide, by decide⟩ rfl (Nat.le_of_ble_eq_true rfl) d_By_putText_9 ⟨(show 0 + 0 ≤ 0 by omega), (show 0 + (0) ≤ (0) by omega)⟩) X Y hA (fun u H locs hp Y => ?_)
  obtain ⟨L18, f17⟩ := u
  obtain ⟨eL20, hF19, n22, g23, hg24, h25, h26, e27, e28⟩ := hp
  dsimp only at eL20 hF19 e27 e28 Y
  rw [eL20] at Y
  have hF29 : ∀ x, x ≠ b → x ≠ r → f17 x = f x := fun x h0 h1 => (hF19 x h0 h1).trans (hF15 x h0 h1)
  refine lv_aload_n X.1 X.2.1 d_By_putText_12 rfl (lv_at hl 1 rfl) ?_
  refine lv_iload_n X.1 X.2.1 d_By_putText_13 rfl (lv_at hl 0 rfl) ?_
  refine x_v (x_runV (As := [.int r6]) (rest := []) (n := 1) X Y hml hl.1 (c_By_close l D E L f17 H.size (r6) b r (N) (n22) g23 m_b e27 m_r e28 (by omega) (by omega) hg24) (ok_c X Y) m_b e27 rfl kl_By_By_close ks_By_close kx_By_close ki_By_close ini_By ⟨rfl, rfl⟩ hd_By_close ⟨by decide, by decide⟩ rfl (Nat.le_of_ble_eq_true rfl) d_By_putText_14 ⟨(show 0 + 0 ≤ 0 by omega), (show 0 + (0) ≤ (0) by omega)⟩) X Y hA (fun u H locs hp Y => ?_)
  obtain ⟨L31, f30⟩ := u
  obtain ⟨eL42, hF32, n33, g34, h36, h37, h38, h39, e40, e41⟩ := hp
  dsimp only at eL42 hF32 e40 e41 Y
  rw [eL42] at Y
  have hF44 : ∀ x, x ≠ b → x ≠ r → f30 x = f x := fun x h0 h1 => (hF32 x h0 h1).trans (hF29 x h0 h1)
  exact c_retv hQQ X Y hr hlk ⟨rfl, hF44, (n33), g34, h37, (by omega), (by omega), e40, e41⟩ d_By_putText_17
set_option maxHeartbeats 4000000 in
set_option maxRecDepth 100000 in
theorem c_By_putRealm (l : Launch) (D : va_G) (E : cE) (T : cT) (L : List Nat) (f : pF) (sz : Nat) (a1 : Int32) (N b r n : Nat) (g_r : Nat → Int32) (m_b : b ∈ L) (m_r : r ∈ L) (e_b : f b = .inr (3, [.ref r, .int (nI n)])) (e_r : f r = .inl (E.1, N, .inl g_r)) (f_r : fB g_r) (hh0 : n ≤ N) (hh1 : N < 100000) : Met l y_By_putRealm (k_By_putRealm :: lw_tg) (kRm 6 134 0 (0)) (va_Pc [.ref b, .int a1] (kPre D E T L f sz)) (va_Qv (fun (u : cU) => u.1 = L ∧ (∀ x, x ≠ b → x ≠ r → u.2 x = f x) ∧ ∃ (n2 : Nat) (k_r : Nat → Int32), fB k_r ∧ (n ≤ n2) ∧ (n2 ≤ N) ∧ u.2 b = .inr (3, [.ref r, .int (nI n2)]) ∧ u.2 r = .inl (E.1, N, .inl k_r)) (cPost D E (pA L sz)) (pA L sz)) 0 (0) (pA L sz) := by
  refine k_enter (own := R_By) (by decide) rfl (Nat.le_of_ble_eq_true rfl) (fun p e s m below meth c ls AV QQ H locs hQQ X Y hA hin hr hlk hml hl KS KR => ?_)
  have hl : lv_has ls 3 [(0, .ref b), (1, .int a1)] := hl
  refine lv_aload_n X.1 X.2.1 d_By_putRealm_0 rfl (lv_at hl 0 rfl) ?_
  refine lv_iload_n X.1 X.2.1 d_By_putRealm_1 rfl (lv_at hl 1 rfl) ?_
  refine x_i (x_runV (As := [.int a1]) (rest := []) (n := 1) X Y hml hl.1 (c_By_openField l D E L f H.size (a1) b r (N) (n) g_r m_b e_b m_r e_r (by omega) (by omega) f_r) (ok_c X Y) m_b e_b rfl kl_By_By_openField ks_By_openField kx_By_openField ki_By_openField ini_By ⟨rfl, rfl⟩ hd_By_openField ⟨by decide, by decide⟩ rfl (Nat.le_of_ble_eq_true rfl) d_By_putRealm_2 ⟨(show 0 + 0 ≤ 0 by omega), (show 0 + (0) ≤ (0) by omega)⟩) X Y hA (fun r6 u H locs hp Y => ?_)
  obtain ⟨L2, f1⟩ := u
  obtain ⟨eL13, hF3, n4, g5, h7, h8, h9, h10, e11, e12, pr14⟩ := hp
  dsimp only at eL13 hF3 e11 e12 Y pr14
  rw [eL13] at Y
  have hF15 : ∀ x, x ≠ b → x ≠ r → f1 x = f x := fun x h0 h1 => (hF3 x h0 h1).trans rfl
  refine lv_istore_n (lv' := [(2, .int r6), (0, .ref b), (1, .int a1)]) X.1 X.2.1 d_By_putRealm_5 rfl hl (by decide) rfl (fun ls hl => ?_)
  refine lv_aload_n X.1 X.2.1 d_By_putRealm_6 rfl (lv_at hl 1 rfl) ?_
  refine k_ldcS (i := 27) X KR (by decide) ⟨by decide, by decide⟩ d_By_putRealm_7 ?_
  refine x_v (x_runV (As := [.ref (T.2.1 27)]) (rest := []) (n := 1) X Y hml hl.1 (c_By_putText l D E T L f1 H.size 27 (by decide) (N) b r (n4) g5 m_b m_r e11 e12 h8 (by omega) (by omega)) (ok_k X Y hA KS KR) m_b e11 rfl kl_By_By_putText ks_By_putText kx_By_putText ki_By_putText ini_By ⟨rfl, rfl⟩ hd_By_putText ⟨by decide, by decide⟩ rfl (Nat.le_of_ble_eq_true rfl) d_By_putRealm_9 ⟨(show 0 + 0 ≤ 0 by omega), (show 0 + (0) ≤ (0) by omega)⟩) X Y hA (fun u H locs hp Y => ?_)
  obtain ⟨L18, f17⟩ := u
  obtain ⟨eL20, hF19, n22, g23, hg24, h25, h26, e27, e28⟩ := hp
  dsimp only at eL20 hF19 e27 e28 Y
  rw [eL20] at Y
  have hF29 : ∀ x, x ≠ b → x ≠ r → f17 x = f x := fun x h0 h1 => (hF19 x h0 h1).trans (hF15 x h0 h1)
  refine lv_aload_n X.1 X.2.1 d_By_putRealm_12 rfl (lv_at hl 1 rfl) ?_
  refine lv_iload_n X.1 X.2.1 d_By_putRealm_13 rfl (lv_at hl 0 rfl) ?_
  refine x_v (x_runV (As := [.int r6]) (rest := []) (n := 1) X Y hml hl.1 (c_By_close l D E L f17 H.size (r6) b r (N) (n22) g23 m_b e27 m_r e28 (by omega) (by omega) hg24) (ok_c X Y) m_b e27 rfl kl_By_By_close ks_By_close kx_By_close ki_By_close ini_By ⟨rfl, rfl⟩ hd_By_close ⟨by decide, by decide⟩ rfl (Nat.le_of_ble_eq_true rfl) d_By_putRealm_14 ⟨(show 0 + 0 ≤ 0 by omega), (show 0 + (0) ≤ (0) by omega)⟩) X Y hA (fun u H locs hp Y => ?_)
  obtain ⟨L31, f30⟩ := u
  obtain ⟨eL42, hF32, n33, g34, h36, h37, h38, h39, e40, e41⟩ := hp
  dsimp only at eL42 hF32 e40 e41 Y
  rw [eL42] at Y
  have hF44 : ∀ x, x ≠ b → x ≠ r → f30 x = f x := fun x h0 h1 => (hF32 x h0 h1).trans (hF29 x h0 h1)
  exact c_retv hQQ X Y hr hlk ⟨rfl, hF44, (n33), g34, h37, (by omega), (by omega), e40, e41⟩ d_By_putRealm_17
set_option maxHeartbeats 4000000 in
set_option maxRecDepth 100000 in
theorem c_By_putName (l : Launch) (D : va_G) (E : cE) (T : cT) (L : List Nat) (f : pF) (sz : Nat) (a1 : Int32) (a2 : Int32) (N M b r b2 r2 n n3 : Nat) (g_r g_r2 : Nat → Int32) (m_b : b ∈ L) (m_r : r ∈ L) (m_b2 : b2 ∈ L) (m_r2 : r2 ∈ L) (e_b : f b = .inr (3, [.ref r, .int (nI n)])) (e_r : f r = .inl (E.1, N, .inl g_r)) (e_b2 : f b2 = .inr (3, [.ref r2, .int (nI n3)])) (e_r2 : f r2 = .inl (E.1, M, .inl g_r2)) (f_r : fB g_r) (f_r2 : fB g_r2) (ap_b_b2 : b ≠ b2) (ap_r_r2 : r ≠ r2) (hh0 : n ≤ N) (hh1 : N < 100000) (hh2 : n3 ≤ M) (hh3 : M < 100000) : Met l y_By_putName (k_By_putName :: lw_tg) (kRm 3 108 0 (0)) (va_Pc [.ref b, .int a1, .int a2, .ref b2] (kPre D E T L f sz)) (va_Qv (fun (u : cU) => u.1 = L ∧ (∀ x, x ≠ b → x ≠ r → u.2 x = f x) ∧ ∃ (n2 : Nat) (k_r : Nat → Int32), fB k_r ∧ (n ≤ n2) ∧ (n2 ≤ N) ∧ u.2 b = .inr (3, [.ref r, .int (nI n2)]) ∧ u.2 r = .inl (E.1, N, .inl k_r)) (cPost D E (pA L sz)) (pA L sz)) 0 (0) (pA L sz) := by
  refine k_enter (own := R_By) (by decide) rfl (Nat.le_of_ble_eq_true rfl) (fun p e s m below meth c ls AV QQ H locs hQQ X Y hA hin hr hlk hml hl KS KR => ?_)
  have hl : lv_has ls 7 [(0, .ref b), (1, .int a1), (2, .int a2), (3, .ref b2)] := hl
  refine lv_aload_n X.1 X.2.1 d_By_putName_0 rfl (lv_at hl 0 rfl) ?_
  refine lv_iload_n X.1 X.2.1 d_By_putName_1 rfl (lv_at hl 1 rfl) ?_
  refine x_i (x_runV (As := [.int a1]) (rest := []) (n := 1) X Y hml hl.1 (c_By_openField l D E L f H.size (a1) b r (N) (n) g_r m_b e_b m_r e_r (by omega) (by omega) f_r) (ok_c X Y) m_b e_b rfl kl_By_By_openField ks_By_openField kx_By_openField ki_By_openField ini_By ⟨rfl, rfl⟩ hd_By_openField ⟨by decide, by decide⟩ rfl (Nat.le_of_ble_eq_true rfl) d_By_putName_2 ⟨(show 0 + 0 ≤ 0 by omega), (show 0 + (0) ≤ (0) by omega)⟩) X Y hA (fun r6 u H locs hp Y => ?_)
  obtain ⟨L2, f1⟩ := u
  obtain ⟨eL13, hF3, n4, g5, h7, h8, h9, h10, e11, e12, pr14⟩ := hp
  dsimp only at eL13 hF3 e11 e12 Y pr14
  rw [eL13] at Y
  have e15 : f1 b2 = .inr (3, [.ref r2, .int (nI n3)]) := (hF3 b2 ap_b_b2.symm (q_tag e_b2 e_r (show (3 : Nat) ≠ 1000 by decide))).trans e_b2
  have e16 : f1 r2 = .inl (E.1, M, .inl g_r2) := (hF3 r2 (q_tag e_r2 e_b (show (1000 : Nat) ≠ 3 by decide)) ap_r_r2.symm).trans e_r2
  have hF17 : ∀ x, x ≠ b → x ≠ r → f1 x = f x := fun x h0 h1 => (hF3 x h0 h1).trans rfl
  refine lv_istore (lv' := [(4, .int r6), (0, .ref b), (1, .int a1), (2, .int a2), (3, .ref b2)]) X.1 X.2.1 d_By_putName_5 hl (by decide) rfl (fun ls hl => ?_)
  refine lv_aload_n X.1 X.2.1 d_By_putName_7 rfl (lv_at hl 1 rfl) ?_
  refine lv_bipush (v := (nI 48)) X.1 X.2.1 d_By_putName_8 (by decide) ?_
  refine x_i (x_runV (As := [.int (nI 48)]) (rest := []) (n := 1) X Y hml hl.1 (c_By_open l D E L f1 H.size ((nI 48)) b r (N) (n4) g5 m_b e11 m_r e12 (by omega) (by omega) h8) (ok_c X Y) m_b e11 rfl kl_By_By_open ks_By_open kx_By_open ki_By_open ini_By ⟨rfl, rfl⟩ hd_By_open ⟨by decide, by decide⟩ rfl (Nat.le_of_ble_eq_true rfl) d_By_putName_10 ⟨(show 0 + 0 ≤ 0 by omega), (show 0 + (0) ≤ (0) by omega)⟩) X Y hA (fun r23 u H locs hp Y => ?_)
  obtain ⟨L19, f18⟩ := u
  obtain ⟨eL30, hF20, n21, g22, h24, h25, h26, h27, e28, e29, pr31⟩ := hp
  dsimp only at eL30 hF20 e28 e29 Y pr31
  rw [eL30] at Y
  have e32 : f18 b2 = .inr (3, [.ref r2, .int (nI n3)]) := (hF20 b2 ap_b_b2.symm (q_tag e15 e12 (show (3 : Nat) ≠ 1000 by decide))).trans e15
  have e33 : f18 r2 = .inl (E.1, M, .inl g_r2) := (hF20 r2 (q_tag e16 e11 (show (1000 : Nat) ≠ 3 by decide)) ap_r_r2.symm).trans e16
  have hF34 : ∀ x, x ≠ b → x ≠ r → f18 x = f x := fun x h0 h1 => (hF20 x h0 h1).trans (hF17 x h0 h1)
  refine lv_istore (lv' := [(5, .int r23), (4, .int r6), (0, .ref b), (1, .int a1), (2, .int a2), (3, .ref b2)]) X.1 X.2.1 d_By_putName_13 hl (by decide) rfl (fun ls hl => ?_)
  refine lv_aload_n X.1 X.2.1 d_By_putName_15 rfl (lv_at hl 2 rfl) ?_
  refine lv_iconst (v := (nI 0)) X.1 X.2.1 d_By_putName_16 (by decide) ?_
  refine lv_iload_n X.1 X.2.1 d_By_putName_17 rfl (lv_at hl 4 rfl) ?_
  obtain ⟨v35, ev35⟩ : ∃ z : Int64, (a2 : Int32).toInt64 = z := ⟨_, rfl⟩
  refine lv_i2l (v := v35) X.1 X.2.1 d_By_putName_18 ev35 ?_
  refine x_v (x_runV (As := [.int (nI 0), .long v35]) (rest := []) (n := 2) X Y hml hl.1 (c_By_putNumber l D E L f18 H.size ((nI 0)) (v35) b r (N) (n21) g22 m_b e28 m_r e29 (by omega) (by omega) h25) (ok_c X Y) m_b e28 rfl kl_By_By_putNumber ks_By_putNumber kx_By_putNumber ki_By_putNumber ini_By ⟨rfl, rfl⟩ hd_By_putNumber ⟨by decide, by decide⟩ rfl (Nat.le_of_ble_eq_true rfl) d_By_putName_19 ⟨(show 0 + 0 ≤ 0 by omega), (show 0 + (0) ≤ (0) by omega)⟩) X Y hA (fun u H locs hp Y => ?_)
  obtain ⟨L37, f36⟩ := u
  obtain ⟨eL48, hF38, n39, g40, h42, h43, h44, h45, e46, e47⟩ := hp
  dsimp only at eL48 hF38 e46 e47 Y
  rw [eL48] at Y
  have e50 : f36 b2 = .inr (3, [.ref r2, .int (nI n3)]) := (hF38 b2 ap_b_b2.symm (q_tag e32 e29 (show (3 : Nat) ≠ 1000 by decide))).trans e32
  have e51 : f36 r2 = .inl (E.1, M, .inl g_r2) := (hF38 r2 (q_tag e33 e28 (show (1000 : Nat) ≠ 3 by decide)) ap_r_r2.symm).trans e33
  have hF52 : ∀ x, x ≠ b → x ≠ r → f36 x = f x := fun x h0 h1 => (hF38 x h0 h1).trans (hF34 x h0 h1)
  refine lv_aload_n X.1 X.2.1 d_By_putName_22 rfl (lv_at hl 2 rfl) ?_
  refine lv_iconst (v := (nI 1)) X.1 X.2.1 d_By_putName_23 (by decide) ?_
  refine x_i (x_runV (As := [.int (nI 1)]) (rest := []) (n := 1) X Y hml hl.1 (c_By_openField l D E L f36 H.size ((nI 1)) b r (N) (n39) g40 m_b e46 m_r e47 (by omega) (by omega) h43) (ok_c X Y) m_b e46 rfl kl_By_By_openField ks_By_openField kx_By_openField ki_By_openField ini_By ⟨rfl, rfl⟩ hd_By_openField ⟨by decide, by decide⟩ rfl (Nat.le_of_ble_eq_true rfl) d_By_putName_24 ⟨(show 0 + 0 ≤ 0 by omega), (show 0 + (0) ≤ (0) by omega)⟩) X Y hA (fun r58 u H locs hp Y => ?_)
  obtain ⟨L54, f53⟩ := u
  obtain ⟨eL65, hF55, n56, g57, h59, h60, h61, h62, e63, e64, pr66⟩ := hp
  dsimp only at eL65 hF55 e63 e64 Y pr66
  rw [eL65] at Y
  have e67 : f53 b2 = .inr (3, [.ref r2, .int (nI n3)]) := (hF55 b2 ap_b_b2.symm (q_tag e50 e47 (show (3 : Nat) ≠ 1000 by decide))).trans e50
  have e68 : f53 r2 = .inl (E.1, M, .inl g_r2) := (hF55 r2 (q_tag e51 e46 (show (1000 : Nat) ≠ 3 by decide)) ap_r_r2.symm).trans e51
  have hF69 : ∀ x, x ≠ b → x ≠ r → f53 x = f x := fun x h0 h1 => (hF55 x h0 h1).trans (hF52 x h0 h1)
  refine lv_istore (lv' := [(6, .int r58), (5, .int r23), (4, .int r6), (0, .ref b), (1, .int a1), (2, .int a2), (3, .ref b2)]) X.1 X.2.1 d_By_putName_27 hl (by decide) rfl (fun ls hl => ?_)
  refine lv_aload_n X.1 X.2.1 d_By_putName_29 rfl (lv_at hl 3 rfl) ?_
  refine lv_bipush (v := (nI 48)) X.1 X.2.1 d_By_putName_30 (by decide) ?_
  refine lv_aload_n X.1 X.2.1 d_By_putName_32 rfl (lv_at hl 6 rfl) ?_
  refine q_get X.1 X.2.1 X.2.2.1 i_By X.2.2.2.1 X.2.2.2.2 Y m_b2 e67 rfl 0 (by decide) (X.2.2.1 _ lk_By_15) (fun _ h9 => h9) rfl d_By_putName_33 ?_
  refine lv_iconst (v := (nI 0)) X.1 X.2.1 d_By_putName_36 (by decide) ?_
  refine lv_aload_n X.1 X.2.1 d_By_putName_37 rfl (lv_at hl 6 rfl) ?_
  refine q_get X.1 X.2.1 X.2.2.1 i_By X.2.2.2.1 X.2.2.2.2 Y m_b2 e67 rfl 1 (by decide) (X.2.2.1 _ lk_By_21) (fun _ h9 => h9) rfl d_By_putName_38 ?_
  refine x_v (x_runV (As := [.int (nI 48), .ref r2, .int (nI 0), .int (nI n3)]) (rest := []) (n := 4) X Y hml hl.1 (c_By_putValue l D E L f53 H.size (nI 48) (nI 0) (nI n3) b r (N) (n56) g57 m_b e63 m_r e64 (by omega) (by omega) h60 r2 (M) g_r2 m_r2 e68 f_r2 (by omega) ap_r_r2.symm) (ok_c X Y) m_b e63 rfl kl_By_By_putValue ks_By_putValue kx_By_putValue ki_By_putValue ini_By ⟨rfl, rfl⟩ hd_By_putValue ⟨by decide, by decide⟩ rfl (Nat.le_of_ble_eq_true rfl) d_By_putName_41 ⟨(show 0 + 0 ≤ 0 by omega), (show 0 + (0) ≤ (0) by omega)⟩) X Y hA (fun u H locs hp Y => ?_)
  obtain ⟨L71, f70⟩ := u
  obtain ⟨eL81, hF72, n73, g74, h76, h77, h78, e79, e80⟩ := hp
  dsimp only at eL81 hF72 e79 e80 Y
  rw [eL81] at Y
  have e83 : f70 b2 = .inr (3, [.ref r2, .int (nI n3)]) := (hF72 b2 ap_b_b2.symm (q_tag e67 e64 (show (3 : Nat) ≠ 1000 by decide))).trans e67
  have e84 : f70 r2 = .inl (E.1, M, .inl g_r2) := (hF72 r2 (q_tag e68 e63 (show (1000 : Nat) ≠ 3 by decide)) ap_r_r2.symm).trans e68
  have hF85 : ∀ x, x ≠ b → x ≠ r → f70 x = f x := fun x h0 h1 => (hF72 x h0 h1).trans (hF69 x h0 h1)
  refine lv_aload_n X.1 X.2.1 d_By_putName_44 rfl (lv_at hl 3 rfl) ?_
  refine lv_iload X.1 X.2.1 d_By_putName_45 (lv_at hl 0 rfl) ?_
  refine x_v (x_runV (As := [.int r58]) (rest := []) (n := 1) X Y hml hl.1 (c_By_close l D E L f70 H.size (r58) b r (N) (n73) g74 m_b e79 m_r e80 (by omega) (by omega) h77) (ok_c X Y) m_b e79 rfl kl_By_By_close ks_By_close kx_By_close ki_By_close ini_By ⟨rfl, rfl⟩ hd_By_close ⟨by decide, by decide⟩ rfl (Nat.le_of_ble_eq_true rfl) d_By_putName_47 ⟨(show 0 + 0 ≤ 0 by omega), (show 0 + (0) ≤ (0) by omega)⟩) X Y hA (fun u H locs hp Y => ?_)
  obtain ⟨L87, f86⟩ := u
  obtain ⟨eL98, hF88, n89, g90, h92, h93, h94, h95, e96, e97⟩ := hp
  dsimp only at eL98 hF88 e96 e97 Y
  rw [eL98] at Y
  have e100 : f86 b2 = .inr (3, [.ref r2, .int (nI n3)]) := (hF88 b2 ap_b_b2.symm (q_tag e83 e80 (show (3 : Nat) ≠ 1000 by decide))).trans e83
  have e101 : f86 r2 = .inl (E.1, M, .inl g_r2) := (hF88 r2 (q_tag e84 e79 (show (1000 : Nat) ≠ 3 by decide)) ap_r_r2.symm).trans e84
  have hF102 : ∀ x, x ≠ b → x ≠ r → f86 x = f x := fun x h0 h1 => (hF88 x h0 h1).trans (hF85 x h0 h1)
  refine lv_aload_n X.1 X.2.1 d_By_putName_50 rfl (lv_at hl 3 rfl) ?_
  refine lv_iload X.1 X.2.1 d_By_putName_51 (lv_at hl 1 rfl) ?_
  refine x_v (x_runV (As := [.int r23]) (rest := []) (n := 1) X Y hml hl.1 (c_By_close l D E L f86 H.size (r23) b r (N) (n89) g90 m_b e96 m_r e97 (by omega) (by omega) h93) (ok_c X Y) m_b e96 rfl kl_By_By_close ks_By_close kx_By_close ki_By_close ini_By ⟨rfl, rfl⟩ hd_By_close ⟨by decide, by decide⟩ rfl (Nat.le_of_ble_eq_true rfl) d_By_putName_53 ⟨(show 0 + 0 ≤ 0 by omega), (show 0 + (0) ≤ (0) by omega)⟩) X Y hA (fun u H locs hp Y => ?_)
  obtain ⟨L104, f103⟩ := u
  obtain ⟨eL115, hF105, n106, g107, h109, h110, h111, h112, e113, e114⟩ := hp
  dsimp only at eL115 hF105 e113 e114 Y
  rw [eL115] at Y
  have e117 : f103 b2 = .inr (3, [.ref r2, .int (nI n3)]) := (hF105 b2 ap_b_b2.symm (q_tag e100 e97 (show (3 : Nat) ≠ 1000 by decide))).trans e100
  have e118 : f103 r2 = .inl (E.1, M, .inl g_r2) := (hF105 r2 (q_tag e101 e96 (show (1000 : Nat) ≠ 3 by decide)) ap_r_r2.symm).trans e101
  have hF119 : ∀ x, x ≠ b → x ≠ r → f103 x = f x := fun x h0 h1 => (hF105 x h0 h1).trans (hF102 x h0 h1)
  refine lv_aload_n X.1 X.2.1 d_By_putName_56 rfl (lv_at hl 3 rfl) ?_
  refine lv_iload X.1 X.2.1 d_By_putName_57 (lv_at hl 2 rfl) ?_
  refine x_v (x_runV (As := [.int r6]) (rest := []) (n := 1) X Y hml hl.1 (c_By_close l D E L f103 H.size (r6) b r (N) (n106) g107 m_b e113 m_r e114 (by omega) (by omega) h110) (ok_c X Y) m_b e113 rfl kl_By_By_close ks_By_close kx_By_close ki_By_close ini_By ⟨rfl, rfl⟩ hd_By_close ⟨by decide, by decide⟩ rfl (Nat.le_of_ble_eq_true rfl) d_By_putName_59 ⟨(show 0 + 0 ≤ 0 by omega), (show 0 + (0) ≤ (0) by omega)⟩) X Y hA (fun u H locs hp Y => ?_)
  obtain ⟨L121, f120⟩ := u
  obtain ⟨eL132, hF122, n123, g124, h126, h127, h128, h129, e130, e131⟩ := hp
  dsimp only at eL132 hF122 e130 e131 Y
  rw [eL132] at Y
  have e134 : f120 b2 = .inr (3, [.ref r2, .int (nI n3)]) := (hF122 b2 ap_b_b2.symm (q_tag e117 e114 (show (3 : Nat) ≠ 1000 by decide))).trans e117
  have e135 : f120 r2 = .inl (E.1, M, .inl g_r2) := (hF122 r2 (q_tag e118 e113 (show (1000 : Nat) ≠ 3 by decide)) ap_r_r2.symm).trans e118
  have hF136 : ∀ x, x ≠ b → x ≠ r → f120 x = f x := fun x h0 h1 => (hF122 x h0 h1).trans (hF119 x h0 h1)
  exact c_retv hQQ X Y hr hlk ⟨rfl, hF136, (n123), g124, h127, (by omega), (by omega), e130, e131⟩ d_By_putName_62
set_option maxHeartbeats 4000000 in
set_option maxRecDepth 100000 in
theorem c_By_putDigits (l : Launch) (D : va_G) (E : cE) (T : cT) (L : List Nat) (f : pF) (sz : Nat) (a1 : Int32) (N b r n : Nat) (g_r : Nat → Int32) (m_b : b ∈ L) (m_r : r ∈ L) (e_b : f b = .inr (3, [.ref r, .int (nI n)])) (e_r : f r = .inl (E.1, N, .inl g_r)) (f_r : fB g_r) (hh0 : n ≤ N) (hh1 : N < 100000) : Met l y_By_putDigits (k_By_putDigits :: lw_tg) (kRm 1 21 0 (0)) (va_Pc [.ref b, .int a1] (kPre D E T L f sz)) (va_Qv (fun (u : cU) => u.1 = L ∧ (∀ x, x ≠ b → x ≠ r → u.2 x = f x) ∧ ∃ (n2 : Nat) (k_r : Nat → Int32), fB k_r ∧ (n ≤ n2) ∧ (n2 ≤ N) ∧ u.2 b = .inr (3, [.ref r, .int (nI n2)]) ∧ u.2 r = .inl (E.1, N, .inl k_r)) (cPost D E (pA L sz)) (pA L sz)) 0 (0) (pA L sz) := by
  refine k_enter (own := R_By) (by decide) rfl (Nat.le_of_ble_eq_true rfl) (fun p e s m below meth c ls AV QQ H locs hQQ X Y hA hin hr hlk hml hl KS KR => ?_)
  have hl : lv_has ls 2 [(0, .ref b), (1, .int a1)] := hl
  refine lv_aload_n X.1 X.2.1 d_By_putDigits_0 rfl (lv_at hl 0 rfl) ?_
  refine lv_bipush (v := (nI 48)) X.1 X.2.1 d_By_putDigits_1 (by decide) ?_
  refine lv_iload_n X.1 X.2.1 d_By_putDigits_3 rfl (lv_at hl 1 rfl) ?_
  refine lv_bipush (v := (nI 10)) X.1 X.2.1 d_By_putDigits_4 (by decide) ?_
  refine lv_idiv X.1 X.2.1 d_By_putDigits_6 (nI_ne0 (by omega) (by omega)) ?_
  refine t_any (fun v1 => ?_)
  refine lv_bipush (v := (nI 10)) X.1 X.2.1 d_By_putDigits_7 (by decide) ?_
  refine lv_irem X.1 X.2.1 d_By_putDigits_9 (nI_ne0 (by omega) (by omega)) ?_
  refine t_any (fun v2 => ?_)
  refine lv_iadd X.1 X.2.1 d_By_putDigits_10 ?_
  refine t_any (fun v3 => ?_)
  refine x_v (x_runV (As := [.int v3]) (rest := []) (n := 1) X Y hml hl.1 (c_By_put l D E L f H.size (v3) b r (N) (n) g_r m_b e_b m_r e_r (by omega) (by omega) f_r) (ok_c X Y) m_b e_b rfl kl_By_By_put ks_By_put kx_By_put ki_By_put ini_By ⟨rfl, rfl⟩ hd_By_put ⟨by decide, by decide⟩ rfl (Nat.le_of_ble_eq_true rfl) d_By_putDigits_11 ⟨(show 0 + 0 ≤ 0 by omega), (show 0 + (0) ≤ (0) by omega)⟩) X Y hA (fun u H locs hp Y => ?_)
  obtain ⟨L5, f4⟩ := u
  obtain ⟨eL16, hF6, n7, g8, h10, h11, h12, h13, e14, e15⟩ := hp
  dsimp only at eL16 hF6 e14 e15 Y
  rw [eL16] at Y
  have hF18 : ∀ x, x ≠ b → x ≠ r → f4 x = f x := fun x h0 h1 => (hF6 x h0 h1).trans rfl
  refine lv_aload_n X.1 X.2.1 d_By_putDigits_14 rfl (lv_at hl 0 rfl) ?_
  refine lv_bipush (v := (nI 48)) X.1 X.2.1 d_By_putDigits_15 (by decide) ?_
  refine lv_iload_n X.1 X.2.1 d_By_putDigits_17 rfl (lv_at hl 1 rfl) ?_
  refine lv_bipush (v := (nI 10)) X.1 X.2.1 d_By_putDigits_18 (by decide) ?_
  refine lv_irem X.1 X.2.1 d_By_putDigits_20 (nI_ne0 (by omega) (by omega)) ?_
  refine t_any (fun v19 => ?_)
  refine lv_iadd X.1 X.2.1 d_By_putDigits_21 ?_
  refine t_any (fun v20 => ?_)
  refine x_v (x_runV (As := [.int v20]) (rest := []) (n := 1) X Y hml hl.1 (c_By_put l D E L f4 H.size (v20) b r (N) (n7) g8 m_b e14 m_r e15 (by omega) (by omega) h11) (ok_c X Y) m_b e14 rfl kl_By_By_put ks_By_put kx_By_put ki_By_put ini_By ⟨rfl, rfl⟩ hd_By_put ⟨by decide, by decide⟩ rfl (Nat.le_of_ble_eq_true rfl) d_By_putDigits_22 ⟨(show 0 + 0 ≤ 0 by omega), (show 0 + (0) ≤ (0) by omega)⟩) X Y hA (fun u H locs hp Y => ?_)
  obtain ⟨L22, f21⟩ := u
  obtain ⟨eL33, hF23, n24, g25, h27, h28, h29, h30, e31, e32⟩ := hp
  dsimp only at eL33 hF23 e31 e32 Y
  rw [eL33] at Y
  have hF35 : ∀ x, x ≠ b → x ≠ r → f21 x = f x := fun x h0 h1 => (hF23 x h0 h1).trans (hF18 x h0 h1)
  exact c_retv hQQ X Y hr hlk ⟨rfl, hF35, (n24), g25, h28, (by omega), (by omega), e31, e32⟩ d_By_putDigits_25
set_option maxHeartbeats 4000000 in
set_option maxRecDepth 100000 in
theorem c_By_daysBefore (l : Launch) (D : va_G) (E : cE) (T : cT) (L : List Nat) (f : pF) (sz : Nat) (a1 : Int32) (a2 : Int32) : Met l y_By_daysBefore (k_By_daysBefore :: lw_tg) (kRm 1 40 0 (0)) (va_Pc [.int a1, .int a2] (kPre D E T L f sz)) (va_Qi (fun (r0 : Int32) (u : cU) => u.1 = L ∧ (∀ x, u.2 x = f x) ∧ (True)) (cPost D E (pA L sz)) (pA L sz)) 0 (0) (pA L sz) := by
  refine k_enter (own := R_By) (by decide) rfl (Nat.le_of_ble_eq_true rfl) (fun p e s m below meth c ls AV QQ H locs hQQ X Y hA hin hr hlk hml hl KS KR => ?_)
  have hl : lv_has ls 4 [(0, .int a1), (1, .int a2)] := hl
  refine lv_iconst (v := (nI 1)) X.1 X.2.1 d_By_daysBefore_0 (by decide) ?_
  refine lv_bipush (v := (nI 13)) X.1 X.2.1 d_By_daysBefore_1 (by decide) ?_
  refine lv_iload_n X.1 X.2.1 d_By_daysBefore_3 rfl (lv_at hl 1 rfl) ?_
  refine va_mmin X.1 X.2.1 (hml.trans hl.1.symm) X.2.2.2.1 (X.2.2.1 _ kl_By_mmin) (X.2.2.1 _ ks_mmin) (X.2.2.1 _ ini_Math) (X.2.2.1 _ ki_mmin) (Nat.le_of_ble_eq_true rfl) (Nat.le_of_ble_eq_true rfl) (show 0 ≤ 0 by omega) (show 0 ≤ (0) by omega) d_By_daysBefore_4 ?_
  refine va_mmax X.1 X.2.1 (hml.trans hl.1.symm) X.2.2.2.1 (X.2.2.1 _ kl_By_mmax) (X.2.2.1 _ ks_mmax) (X.2.2.1 _ ini_Math) (X.2.2.1 _ ki_mmax) (Nat.le_of_ble_eq_true rfl) (Nat.le_of_ble_eq_true rfl) (show 0 ≤ 0 by omega) (show 0 ≤ (0) by omega) d_By_daysBefore_7 ?_
  obtain ⟨k9, hk1, hk2, ek9⟩ := mo_rng a2
  refine t_eq ek9 ?_
  refine lv_istore_n (lv' := [(2, .int (nI k9)), (0, .int a1), (1, .int a2)]) X.1 X.2.1 d_By_daysBefore_10 rfl hl (by decide) rfl (fun ls hl => ?_)
  refine lv_iload_n X.1 X.2.1 d_By_daysBefore_11 rfl (lv_at hl 1 rfl) ?_
  refine lv_iconst (v := (nI 4)) X.1 X.2.1 d_By_daysBefore_12 (by decide) ?_
  refine lv_irem X.1 X.2.1 d_By_daysBefore_13 (nI_ne0 (by omega) (by omega)) ?_
  refine t_any (fun v1 => ?_)
  refine lv_if_ne (tgt := 26) X.1 X.2.1 d_By_daysBefore_14 (by decide) (fun c2 => ?_) (fun c2 => ?_)
  · skip
    refine lv_iconst (v := (nI 0)) X.1 X.2.1 d_By_daysBefore_26 (by decide) ?_
    refine lv_istore_n (lv' := [(3, .int (nI 0)), (2, .int (nI k9)), (0, .int a1), (1, .int a2)]) X.1 X.2.1 d_By_daysBefore_27 rfl hl (by decide) rfl (fun ls hl => ?_)
    refine lv_iload_n X.1 X.2.1 d_By_daysBefore_28 rfl (lv_at hl 2 rfl) ?_
    refine lv_sipush (v := (nI 1970)) X.1 X.2.1 d_By_daysBefore_29 (by decide) ?_
    refine lv_isub X.1 X.2.1 d_By_daysBefore_32 ?_
    refine t_any (fun v3 => ?_)
    refine lv_sipush (v := (nI 365)) X.1 X.2.1 d_By_daysBefore_33 (by decide) ?_
    refine lv_imul X.1 X.2.1 d_By_daysBefore_36 ?_
    refine t_any (fun v4 => ?_)
    refine lv_iload_n X.1 X.2.1 d_By_daysBefore_37 rfl (lv_at hl 2 rfl) ?_
    refine lv_sipush (v := (nI 1969)) X.1 X.2.1 d_By_daysBefore_38 (by decide) ?_
    refine lv_isub X.1 X.2.1 d_By_daysBefore_41 ?_
    refine t_any (fun v5 => ?_)
    refine lv_iconst (v := (nI 4)) X.1 X.2.1 d_By_daysBefore_42 (by decide) ?_
    refine lv_idiv X.1 X.2.1 d_By_daysBefore_43 (nI_ne0 (by omega) (by omega)) ?_
    refine t_any (fun v6 => ?_)
    refine lv_iadd X.1 X.2.1 d_By_daysBefore_44 ?_
    refine t_any (fun v7 => ?_)
    refine k_gets 3 (by decide) X Y KS sk_By_119 d_By_daysBefore_45 ?_
    refine lv_iload_n X.1 X.2.1 d_By_daysBefore_48 rfl (lv_at hl 1 rfl) ?_
    refine lv_iconst (v := (nI 1)) X.1 X.2.1 d_By_daysBefore_49 (by decide) ?_
    refine lv_isub X.1 X.2.1 d_By_daysBefore_50 ?_
    refine t_eq (y := nI (k9 - (1))) (pk_sub (by omega)) ?_
    refine k_iald 3 (by decide) rfl X Y KS (vp_in_nI (show k9 - (1) < sL 3 by first | decide | exact (by omega : k9 - (1) < 13)) (by decide)) d_By_daysBefore_51 ?_
    refine t_any (fun v8 => ?_)
    refine lv_iadd X.1 X.2.1 d_By_daysBefore_52 ?_
    refine t_any (fun v9 => ?_)
    refine lv_iload_n X.1 X.2.1 d_By_daysBefore_53 rfl (lv_at hl 0 rfl) ?_
    refine lv_iadd X.1 X.2.1 d_By_daysBefore_54 ?_
    refine t_any (fun v10 => ?_)
    exact c_reti hQQ X Y hr hlk ⟨rfl, (fun _ => rfl), trivial⟩ d_By_daysBefore_55
  · skip
    refine lv_iload_n X.1 X.2.1 d_By_daysBefore_17 rfl (lv_at hl 0 rfl) ?_
    refine lv_iconst (v := (nI 2)) X.1 X.2.1 d_By_daysBefore_18 (by decide) ?_
    refine lv_icmp_le (tgt := 26) X.1 X.2.1 d_By_daysBefore_19 (by decide) (fun c11 => ?_) (fun c11 => ?_)
    · skip
      rw [nI_leI (by omega) (by omega)] at c11
      refine lv_iconst (v := (nI 0)) X.1 X.2.1 d_By_daysBefore_26 (by decide) ?_
      refine lv_istore_n (lv' := [(3, .int (nI 0)), (2, .int (nI k9)), (0, .int a1), (1, .int a2)]) X.1 X.2.1 d_By_daysBefore_27 rfl hl (by decide) rfl (fun ls hl => ?_)
      refine lv_iload_n X.1 X.2.1 d_By_daysBefore_28 rfl (lv_at hl 2 rfl) ?_
      refine lv_sipush (v := (nI 1970)) X.1 X.2.1 d_By_daysBefore_29 (by decide) ?_
      refine lv_isub X.1 X.2.1 d_By_daysBefore_32 ?_
      refine t_any (fun v12 => ?_)
      refine lv_sipush (v := (nI 365)) X.1 X.2.1 d_By_daysBefore_33 (by decide) ?_
      refine lv_imul X.1 X.2.1 d_By_daysBefore_36 ?_
      refine t_any (fun v13 => ?_)
      refine lv_iload_n X.1 X.2.1 d_By_daysBefore_37 rfl (lv_at hl 2 rfl) ?_
      refine lv_sipush (v := (nI 1969)) X.1 X.2.1 d_By_daysBefore_38 (by decide) ?_
      refine lv_isub X.1 X.2.1 d_By_daysBefore_41 ?_
      refine t_any (fun v14 => ?_)
      refine lv_iconst (v := (nI 4)) X.1 X.2.1 d_By_daysBefore_42 (by decide) ?_
      refine lv_idiv X.1 X.2.1 d_By_daysBefore_43 (nI_ne0 (by omega) (by omega)) ?_
      refine t_any (fun v15 => ?_)
      refine lv_iadd X.1 X.2.1 d_By_daysBefore_44 ?_
      refine t_any (fun v16 => ?_)
      refine k_gets 3 (by decide) X Y KS sk_By_119 d_By_daysBefore_45 ?_
      refine lv_iload_n X.1 X.2.1 d_By_daysBefore_48 rfl (lv_at hl 1 rfl) ?_
      refine lv_iconst (v := (nI 1)) X.1 X.2.1 d_By_daysBefore_49 (by decide) ?_
      refine lv_isub X.1 X.2.1 d_By_daysBefore_50 ?_
      refine t_eq (y := nI (k9 - (1))) (pk_sub (by omega)) ?_
      refine k_iald 3 (by decide) rfl X Y KS (vp_in_nI (show k9 - (1) < sL 3 by first | decide | exact (by omega : k9 - (1) < 13)) (by decide)) d_By_daysBefore_51 ?_
      refine t_any (fun v17 => ?_)
      refine lv_iadd X.1 X.2.1 d_By_daysBefore_52 ?_
      refine t_any (fun v18 => ?_)
      refine lv_iload_n X.1 X.2.1 d_By_daysBefore_53 rfl (lv_at hl 0 rfl) ?_
      refine lv_iadd X.1 X.2.1 d_By_daysBefore_54 ?_
      refine t_any (fun v19 => ?_)
      exact c_reti hQQ X Y hr hlk ⟨rfl, (fun _ => rfl), trivial⟩ d_By_daysBefore_55
    · skip
      rw [nI_leI (by omega) (by omega)] at c11
      refine lv_iconst (v := (nI 1)) X.1 X.2.1 d_By_daysBefore_22 (by decide) ?_
      refine lv_goto (tgt := 27) X.1 X.2.1 d_By_daysBefore_23 (by decide) ?_
      refine lv_istore_n (lv' := [(3, .int (nI 1)), (2, .int (nI k9)), (0, .int a1), (1, .int a2)]) X.1 X.2.1 d_By_daysBefore_27 rfl hl (by decide) rfl (fun ls hl => ?_)
      refine lv_iload_n X.1 X.2.1 d_By_daysBefore_28 rfl (lv_at hl 2 rfl) ?_
      refine lv_sipush (v := (nI 1970)) X.1 X.2.1 d_By_daysBefore_29 (by decide) ?_
      refine lv_isub X.1 X.2.1 d_By_daysBefore_32 ?_
      refine t_any (fun v20 => ?_)
      refine lv_sipush (v := (nI 365)) X.1 X.2.1 d_By_daysBefore_33 (by decide) ?_
      refine lv_imul X.1 X.2.1 d_By_daysBefore_36 ?_
      refine t_any (fun v21 => ?_)
      refine lv_iload_n X.1 X.2.1 d_By_daysBefore_37 rfl (lv_at hl 2 rfl) ?_
      refine lv_sipush (v := (nI 1969)) X.1 X.2.1 d_By_daysBefore_38 (by decide) ?_
      refine lv_isub X.1 X.2.1 d_By_daysBefore_41 ?_
      refine t_any (fun v22 => ?_)
      refine lv_iconst (v := (nI 4)) X.1 X.2.1 d_By_daysBefore_42 (by decide) ?_
      refine lv_idiv X.1 X.2.1 d_By_daysBefore_43 (nI_ne0 (by omega) (by omega)) ?_
      refine t_any (fun v23 => ?_)
      refine lv_iadd X.1 X.2.1 d_By_daysBefore_44 ?_
      refine t_any (fun v24 => ?_)
      refine k_gets 3 (by decide) X Y KS sk_By_119 d_By_daysBefore_45 ?_
      refine lv_iload_n X.1 X.2.1 d_By_daysBefore_48 rfl (lv_at hl 1 rfl) ?_
      refine lv_iconst (v := (nI 1)) X.1 X.2.1 d_By_daysBefore_49 (by decide) ?_
      refine lv_isub X.1 X.2.1 d_By_daysBefore_50 ?_
      refine t_eq (y := nI (k9 - (1))) (pk_sub (by omega)) ?_
      refine k_iald 3 (by decide) rfl X Y KS (vp_in_nI (show k9 - (1) < sL 3 by first | decide | exact (by omega : k9 - (1) < 13)) (by decide)) d_By_daysBefore_51 ?_
      refine t_any (fun v25 => ?_)
      refine lv_iadd X.1 X.2.1 d_By_daysBefore_52 ?_
      refine t_any (fun v26 => ?_)
      refine lv_iload_n X.1 X.2.1 d_By_daysBefore_53 rfl (lv_at hl 0 rfl) ?_
      refine lv_iadd X.1 X.2.1 d_By_daysBefore_54 ?_
      refine t_any (fun v27 => ?_)
      exact c_reti hQQ X Y hr hlk ⟨rfl, (fun _ => rfl), trivial⟩ d_By_daysBefore_55
set_option maxHeartbeats 4000000 in
set_option maxRecDepth 100000 in
theorem c_By_putTime (l : Launch) (D : va_G) (E : cE) (T : cT) (L : List Nat) (f : pF) (sz : Nat) (a1 : Int32) (a2 : Int32) (N b r n : Nat) (g_r : Nat → Int32) (m_b : b ∈ L) (m_r : r ∈ L) (e_b : f b = .inr (3, [.ref r, .int (nI n)])) (e_r : f r = .inl (E.1, N, .inl g_r)) (f_r : fB g_r) (hh0 : n ≤ N) (hh1 : N < 100000) : Met l y_By_putTime (k_By_putTime :: lw_tg) (kRm 2 83 0 (0)) (va_Pc [.ref b, .int a1, .int a2] (kPre D E T L f sz)) (va_Qv (fun (u : cU) => u.1 = L ∧ (∀ x, x ≠ b → x ≠ r → u.2 x = f x) ∧ ∃ (n2 : Nat) (k_r : Nat → Int32), fB k_r ∧ (n ≤ n2) ∧ (n2 ≤ N) ∧ u.2 b = .inr (3, [.ref r, .int (nI n2)]) ∧ u.2 r = .inl (E.1, N, .inl k_r)) (cPost D E (pA L sz)) (pA L sz)) 0 (0) (pA L sz) := by
  refine k_enter (own := R_By) (by decide) rfl (Nat.le_of_ble_eq_true rfl) (fun p e s m below meth c ls AV QQ H locs hQQ X Y hA hin hr hlk hml hl KS KR => ?_)
  have hl : lv_has ls 8 [(0, .ref b), (1, .int a1), (2, .int a2)] := hl
  refine lv_aload_n X.1 X.2.1 d_By_putTime_0 rfl (lv_at hl 0 rfl) ?_
  refine lv_iload_n X.1 X.2.1 d_By_putTime_1 rfl (lv_at hl 1 rfl) ?_
  refine x_i (x_runV (As := [.int a1]) (rest := []) (n := 1) X Y hml hl.1 (c_By_openField l D E L f H.size (a1) b r (N) (n) g_r m_b e_b m_r e_r (by omega) (by omega) f_r) (ok_c X Y) m_b e_b rfl kl_By_By_openField ks_By_openField kx_By_openField ki_By_openField ini_By ⟨rfl, rfl⟩ hd_By_openField ⟨by decide, by decide⟩ rfl (Nat.le_of_ble_eq_true rfl) d_By_putTime_2 ⟨(show 0 + 0 ≤ 0 by omega), (show 0 + (0) ≤ (0) by omega)⟩) X Y hA (fun r6 u H locs hp Y => ?_)
  obtain ⟨L2, f1⟩ := u
  obtain ⟨eL13, hF3, n4, g5, h7, h8, h9, h10, e11, e12, pr14⟩ := hp
  dsimp only at eL13 hF3 e11 e12 Y pr14
  rw [eL13] at Y
  have hF15 : ∀ x, x ≠ b → x ≠ r → f1 x = f x := fun x h0 h1 => (hF3 x h0 h1).trans rfl
  refine lv_istore_n (lv' := [(3, .int r6), (0, .ref b), (1, .int a1), (2, .int a2)]) X.1 X.2.1 d_By_putTime_5 rfl hl (by decide) rfl (fun ls hl => ?_)
  refine lv_aload_n X.1 X.2.1 d_By_putTime_6 rfl (lv_at hl 1 rfl) ?_
  refine lv_bipush (v := (nI 24)) X.1 X.2.1 d_By_putTime_7 (by decide) ?_
  refine x_v (x_runV (As := [.int (nI 24)]) (rest := []) (n := 1) X Y hml hl.1 (c_By_put l D E L f1 H.size ((nI 24)) b r (N) (n4) g5 m_b e11 m_r e12 (by omega) (by omega) h8) (ok_c X Y) m_b e11 rfl kl_By_By_put ks_By_put kx_By_put ki_By_put ini_By ⟨rfl, rfl⟩ hd_By_put ⟨by decide, by decide⟩ rfl (Nat.le_of_ble_eq_true rfl) d_By_putTime_9 ⟨(show 0 + 0 ≤ 0 by omega), (show 0 + (0) ≤ (0) by omega)⟩) X Y hA (fun u H locs hp Y => ?_)
  obtain ⟨L17, f16⟩ := u
  obtain ⟨eL28, hF18, n19, g20, h22, h23, h24, h25, e26, e27⟩ := hp
  dsimp only at eL28 hF18 e26 e27 Y
  rw [eL28] at Y
  have hF30 : ∀ x, x ≠ b → x ≠ r → f16 x = f x := fun x h0 h1 => (hF18 x h0 h1).trans (hF15 x h0 h1)
  refine lv_aload_n X.1 X.2.1 d_By_putTime_12 rfl (lv_at hl 1 rfl) ?_
  refine lv_bipush (v := (nI 15)) X.1 X.2.1 d_By_putTime_13 (by decide) ?_
  refine x_v (x_runV (As := [.int (nI 15)]) (rest := []) (n := 1) X Y hml hl.1 (c_By_put l D E L f16 H.size ((nI 15)) b r (N) (n19) g20 m_b e26 m_r e27 (by omega) (by omega) h23) (ok_c X Y) m_b e26 rfl kl_By_By_put ks_By_put kx_By_put ki_By_put ini_By ⟨rfl, rfl⟩ hd_By_put ⟨by decide, by decide⟩ rfl (Nat.le_of_ble_eq_true rfl) d_By_putTime_15 ⟨(show 0 + 0 ≤ 0 by omega), (show 0 + (0) ≤ (0) by omega)⟩) X Y hA (fun u H locs hp Y => ?_)
  obtain ⟨L32, f31⟩ := u
  obtain ⟨eL43, hF33, n34, g35, h37, h38, h39, h40, e41, e42⟩ := hp
  dsimp only at eL43 hF33 e41 e42 Y
  rw [eL43] at Y
  have hF45 : ∀ x, x ≠ b → x ≠ r → f31 x = f x := fun x h0 h1 => (hF33 x h0 h1).trans (hF30 x h0 h1)
  refine lv_iload_n X.1 X.2.1 d_By_putTime_18 rfl (lv_at hl 3 rfl) ?_
  refine lv_ldc (v := (86400)) X.1 X.2.1 X.2.2.2.1 (X.2.2.1 _ cn_By_101) d_By_putTime_19 ?_
  refine t_eq (y := nI 86400) (by decide) ?_
  refine lv_idiv X.1 X.2.1 d_By_putTime_21 (nI_ne0 (by omega) (by omega)) ?_
  refine t_any (fun v46 => ?_)
  refine lv_istore (lv' := [(4, .int v46), (3, .int r6), (0, .ref b), (1, .int a1), (2, .int a2)]) X.1 X.2.1 d_By_putTime_22 hl (by decide) rfl (fun ls hl => ?_)
  refine lv_iload_n X.1 X.2.1 d_By_putTime_24 rfl (lv_at hl 4 rfl) ?_
  refine lv_ldc (v := (86400)) X.1 X.2.1 X.2.2.2.1 (X.2.2.1 _ cn_By_101) d_By_putTime_25 ?_
  refine t_eq (y := nI 86400) (by decide) ?_
  refine lv_irem X.1 X.2.1 d_By_putTime_27 (nI_ne0 (by omega) (by omega)) ?_
  refine t_any (fun v47 => ?_)
  refine lv_istore (lv' := [(5, .int v47), (4, .int v46), (3, .int r6), (0, .ref b), (1, .int a1), (2, .int a2)]) X.1 X.2.1 d_By_putTime_28 hl (by decide) rfl (fun ls hl => ?_)
  refine lv_sipush (v := (nI 1970)) X.1 X.2.1 d_By_putTime_30 (by decide) ?_
  refine lv_istore (lv' := [(6, .int (nI 1970)), (5, .int v47), (4, .int v46), (3, .int r6), (0, .ref b), (1, .int a1), (2, .int a2)]) X.1 X.2.1 d_By_putTime_33 hl (by decide) rfl (fun ls hl => ?_)
  have ct48 : ∀ (yr : Nat) (H : Heap) (locs : List Loc) (ls : Array Slot), (yr ≤ 2037) → pH D cCl (pA L sz) s.heap L f31 H locs → lv_has ls 8 [(6, .int (nI yr)), (5, .int v47), (4, .int v46), (3, .int r6), (0, .ref b), (1, .int a1), (2, .int a2)] → W p l e (kRm 2 83 0 (0)) s m AV below meth c H locs 0 0 QQ (F0 m 62 ls []) := by
    intro yr H locs ls hc49 Y hl
    refine lv_iconst (v := (nI 1)) X.1 X.2.1 d_By_putTime_62 (by decide) ?_
    refine lv_istore (lv' := [(7, .int (nI 1)), (6, .int (nI yr)), (5, .int v47), (4, .int v46), (3, .int r6), (0, .ref b), (1, .int a1), (2, .int a2)]) X.1 X.2.1 d_By_putTime_63 hl (by decide) rfl (fun ls hl => ?_)
    have ct50 : ∀ (mo : Nat) (H : Heap) (locs : List Loc) (ls : Array Slot), (mo ≤ 12) → pH D cCl (pA L sz) s.heap L f31 H locs → lv_has ls 8 [(7, .int (nI mo)), (6, .int (nI yr)), (5, .int v47), (4, .int v46), (3, .int r6), (0, .ref b), (1, .int a1), (2, .int a2)] → W p l e (kRm 2 83 0 (0)) s m AV below meth c H locs 0 0 QQ (F0 m 92 ls []) := by
      intro mo H locs ls hc51 Y hl
      refine lv_aload_n X.1 X.2.1 d_By_putTime_92 rfl (lv_at hl 5 rfl) ?_
      refine lv_iload X.1 X.2.1 d_By_putTime_93 (lv_at hl 1 rfl) ?_
      refine lv_bipush (v := (nI 100)) X.1 X.2.1 d_By_putTime_95 (by decide) ?_
      refine lv_idiv X.1 X.2.1 d_By_putTime_97 (nI_ne0 (by omega) (by omega)) ?_
      refine t_eq (y := nI ((yr) / (100))) (pk_div (by omega) (by omega) (by omega)) ?_
      refine x_v (x_runV (As := [.int (nI ((yr) / (100)))]) (rest := []) (n := 1) X Y hml hl.1 (c_By_putDigits l D E T L f31 H.size ((nI ((yr) / (100)))) (N) b r (n34) g35 m_b m_r e41 e42 h38 (by omega) (by omega)) (ok_k X Y hA KS KR) m_b e41 rfl kl_By_By_putDigits ks_By_putDigits kx_By_putDigits ki_By_putDigits ini_By ⟨rfl, rfl⟩ hd_By_putDigits ⟨by decide, by decide⟩ rfl (Nat.le_of_ble_eq_true rfl) d_By_putTime_98 ⟨(show 0 + 0 ≤ 0 by omega), (show 0 + (0) ≤ (0) by omega)⟩) X Y hA (fun u H locs hp Y => ?_)
      obtain ⟨L54, f53⟩ := u
      obtain ⟨eL56, hF55, n58, g59, hg60, h61, h62, e63, e64⟩ := hp
      dsimp only at eL56 hF55 e63 e64 Y
      rw [eL56] at Y
      have hF65 : ∀ x, x ≠ b → x ≠ r → f53 x = f x := fun x h0 h1 => (hF55 x h0 h1).trans (hF45 x h0 h1)
      refine lv_aload_n X.1 X.2.1 d_By_putTime_101 rfl (lv_at hl 5 rfl) ?_
      refine lv_iload X.1 X.2.1 d_By_putTime_102 (lv_at hl 1 rfl) ?_
      refine lv_bipush (v := (nI 100)) X.1 X.2.1 d_By_putTime_104 (by decide) ?_
      refine lv_irem X.1 X.2.1 d_By_putTime_106 (nI_ne0 (by omega) (by omega)) ?_
      refine t_eq (y := nI ((yr) % (100))) (pk_rem (by omega) (by omega) (by omega)) ?_
      refine x_v (x_runV (As := [.int (nI ((yr) % (100)))]) (rest := []) (n := 1) X Y hml hl.1 (c_By_putDigits l D E T L f53 H.size ((nI ((yr) % (100)))) (N) b r (n58) g59 m_b m_r e63 e64 hg60 (by omega) (by omega)) (ok_k X Y hA KS KR) m_b e63 rfl kl_By_By_putDigits ks_By_putDigits kx_By_putDigits ki_By_putDigits ini_By ⟨rfl, rfl⟩ hd_By_putDigits ⟨by decide, by decide⟩ rfl (Nat.le_of_ble_eq_true rfl) d_By_putTime_107 ⟨(show 0 + 0 ≤ 0 by omega), (show 0 + (0) ≤ (0) by omega)⟩) X Y hA (fun u H locs hp Y => ?_)
      obtain ⟨L68, f67⟩ := u
      obtain ⟨eL70, hF69, n72, g73, hg74, h75, h76, e77, e78⟩ := hp
      dsimp only at eL70 hF69 e77 e78 Y
      rw [eL70] at Y
      have hF79 : ∀ x, x ≠ b → x ≠ r → f67 x = f x := fun x h0 h1 => (hF69 x h0 h1).trans (hF65 x h0 h1)
      refine lv_aload_n X.1 X.2.1 d_By_putTime_110 rfl (lv_at hl 5 rfl) ?_
      refine lv_iload X.1 X.2.1 d_By_putTime_111 (lv_at hl 0 rfl) ?_
      refine x_v (x_runV (As := [.int (nI mo)]) (rest := []) (n := 1) X Y hml hl.1 (c_By_putDigits l D E T L f67 H.size ((nI mo)) (N) b r (n72) g73 m_b m_r e77 e78 hg74 (by omega) (by omega)) (ok_k X Y hA KS KR) m_b e77 rfl kl_By_By_putDigits ks_By_putDigits kx_By_putDigits ki_By_putDigits ini_By ⟨rfl, rfl⟩ hd_By_putDigits ⟨by decide, by decide⟩ rfl (Nat.le_of_ble_eq_true rfl) d_By_putTime_113 ⟨(show 0 + 0 ≤ 0 by omega), (show 0 + (0) ≤ (0) by omega)⟩) X Y hA (fun u H locs hp Y => ?_)
      obtain ⟨L82, f81⟩ := u
      obtain ⟨eL84, hF83, n86, g87, hg88, h89, h90, e91, e92⟩ := hp
      dsimp only at eL84 hF83 e91 e92 Y
      rw [eL84] at Y
      have hF93 : ∀ x, x ≠ b → x ≠ r → f81 x = f x := fun x h0 h1 => (hF83 x h0 h1).trans (hF79 x h0 h1)
      refine lv_aload_n X.1 X.2.1 d_By_putTime_116 rfl (lv_at hl 5 rfl) ?_
      refine lv_iload X.1 X.2.1 d_By_putTime_117 (lv_at hl 3 rfl) ?_
      refine lv_iload X.1 X.2.1 d_By_putTime_119 (lv_at hl 1 rfl) ?_
      refine lv_iload X.1 X.2.1 d_By_putTime_121 (lv_at hl 0 rfl) ?_
      refine x_i (x_runS (As := [.int (nI yr), .int (nI mo)]) (rest := [.int v46, .ref b]) (n := 2) X hml hl.1 (c_By_daysBefore l D E T L f81 H.size ((nI yr)) ((nI mo))) (ok_k X Y hA KS KR) kl_By_By_daysBefore ks_By_daysBefore ki_By_daysBefore ini_By ⟨rfl, rfl⟩ hd_By_daysBefore.2 ⟨by decide, by decide⟩ rfl (Nat.le_of_ble_eq_true rfl) d_By_putTime_123 ⟨(show 0 + 0 ≤ 0 by omega), (show 0 + (0) ≤ (0) by omega)⟩) X Y hA (fun r94 u H locs hp Y => ?_)
      obtain ⟨L96, f95⟩ := u
      obtain ⟨eL98, hF97, pr99⟩ := hp
      dsimp only at eL98 hF97 pr99 Y
      rw [eL98] at Y
      rw [show f95 = f81 from funext hF97] at Y
      refine lv_isub X.1 X.2.1 d_By_putTime_126 ?_
      refine t_any (fun v100 => ?_)
      refine lv_iconst (v := (nI 1)) X.1 X.2.1 d_By_putTime_127 (by decide) ?_
      refine lv_iadd X.1 X.2.1 d_By_putTime_128 ?_
      refine t_any (fun v101 => ?_)
      refine x_v (x_runV (As := [.int v101]) (rest := []) (n := 1) X Y hml hl.1 (c_By_putDigits l D E T L f81 H.size (v101) (N) b r (n86) g87 m_b m_r e91 e92 hg88 (by omega) (by omega)) (ok_k X Y hA KS KR) m_b e91 rfl kl_By_By_putDigits ks_By_putDigits kx_By_putDigits ki_By_putDigits ini_By ⟨rfl, rfl⟩ hd_By_putDigits ⟨by decide, by decide⟩ rfl (Nat.le_of_ble_eq_true rfl) d_By_putTime_129 ⟨(show 0 + 0 ≤ 0 by omega), (show 0 + (0) ≤ (0) by omega)⟩) X Y hA (fun u H locs hp Y => ?_)
      obtain ⟨L104, f103⟩ := u
      obtain ⟨eL106, hF105, n108, g109, hg110, h111, h112, e113, e114⟩ := hp
      dsimp only at eL106 hF105 e113 e114 Y
      rw [eL106] at Y
      have hF115 : ∀ x, x ≠ b → x ≠ r → f103 x = f x := fun x h0 h1 => (hF105 x h0 h1).trans (hF93 x h0 h1)
      refine lv_aload_n X.1 X.2.1 d_By_putTime_132 rfl (lv_at hl 5 rfl) ?_
      refine lv_iload X.1 X.2.1 d_By_putTime_133 (lv_at hl 2 rfl) ?_
      refine lv_sipush (v := (nI 3600)) X.1 X.2.1 d_By_putTime_135 (by decide) ?_
      refine lv_idiv X.1 X.2.1 d_By_putTime_138 (nI_ne0 (by omega) (by omega)) ?_
      refine t_any (fun v116 => ?_)
      refine x_v (x_runV (As := [.int v116]) (rest := []) (n := 1) X Y hml hl.1 (c_By_putDigits l D E T L f103 H.size (v116) (N) b r (n108) g109 m_b m_r e113 e114 hg110 (by omega) (by omega)) (ok_k X Y hA KS KR) m_b e113 rfl kl_By_By_putDigits ks_By_putDigits kx_By_putDigits ki_By_putDigits ini_By ⟨rfl, rfl⟩ hd_By_putDigits ⟨by decide, by decide⟩ rfl (Nat.le_of_ble_eq_true rfl) d_By_putTime_139 ⟨(show 0 + 0 ≤ 0 by omega), (show 0 + (0) ≤ (0) by omega)⟩) X Y hA (fun u H locs hp Y => ?_)
      obtain ⟨L119, f118⟩ := u
      obtain ⟨eL121, hF120, n123, g124, hg125, h126, h127, e128, e129⟩ := hp
      dsimp only at eL121 hF120 e128 e129 Y
      rw [eL121] at Y
      have hF130 : ∀ x, x ≠ b → x ≠ r → f118 x = f x := fun x h0 h1 => (hF120 x h0 h1).trans (hF115 x h0 h1)
      refine lv_aload_n X.1 X.2.1 d_By_putTime_142 rfl (lv_at hl 5 rfl) ?_
      refine lv_iload X.1 X.2.1 d_By_putTime_143 (lv_at hl 2 rfl) ?_
      refine lv_bipush (v := (nI 60)) X.1 X.2.1 d_By_putTime_145 (by decide) ?_
      refine lv_idiv X.1 X.2.1 d_By_putTime_147 (nI_ne0 (by omega) (by omega)) ?_
      refine t_any (fun v131 => ?_)
      refine lv_bipush (v := (nI 60)) X.1 X.2.1 d_By_putTime_148 (by decide) ?_
      refine lv_irem X.1 X.2.1 d_By_putTime_150 (nI_ne0 (by omega) (by omega)) ?_
      refine t_any (fun v132 => ?_)
      refine x_v (x_runV (As := [.int v132]) (rest := []) (n := 1) X Y hml hl.1 (c_By_putDigits l D E T L f118 H.size (v132) (N) b r (n123) g124 m_b m_r e128 e129 hg125 (by omega) (by omega)) (ok_k X Y hA KS KR) m_b e128 rfl kl_By_By_putDigits ks_By_putDigits kx_By_putDigits ki_By_putDigits ini_By ⟨rfl, rfl⟩ hd_By_putDigits ⟨by decide, by decide⟩ rfl (Nat.le_of_ble_eq_true rfl) d_By_putTime_151 ⟨(show 0 + 0 ≤ 0 by omega), (show 0 + (0) ≤ (0) by omega)⟩) X Y hA (fun u H locs hp Y => ?_)
      obtain ⟨L135, f134⟩ := u
      obtain ⟨eL137, hF136, n139, g140, hg141, h142, h143, e144, e145⟩ := hp
      dsimp only at eL137 hF136 e144 e145 Y
      rw [eL137] at Y
      have hF146 : ∀ x, x ≠ b → x ≠ r → f134 x = f x := fun x h0 h1 => (hF136 x h0 h1).trans (hF130 x h0 h1)
      refine lv_aload_n X.1 X.2.1 d_By_putTime_154 rfl (lv_at hl 5 rfl) ?_
      refine lv_iload X.1 X.2.1 d_By_putTime_155 (lv_at hl 2 rfl) ?_
      refine lv_bipush (v := (nI 60)) X.1 X.2.1 d_By_putTime_157 (by decide) ?_
      refine lv_irem X.1 X.2.1 d_By_putTime_159 (nI_ne0 (by omega) (by omega)) ?_
      refine t_any (fun v147 => ?_)
      refine x_v (x_runV (As := [.int v147]) (rest := []) (n := 1) X Y hml hl.1 (c_By_putDigits l D E T L f134 H.size (v147) (N) b r (n139) g140 m_b m_r e144 e145 hg141 (by omega) (by omega)) (ok_k X Y hA KS KR) m_b e144 rfl kl_By_By_putDigits ks_By_putDigits kx_By_putDigits ki_By_putDigits ini_By ⟨rfl, rfl⟩ hd_By_putDigits ⟨by decide, by decide⟩ rfl (Nat.le_of_ble_eq_true rfl) d_By_putTime_160 ⟨(show 0 + 0 ≤ 0 by omega), (show 0 + (0) ≤ (0) by omega)⟩) X Y hA (fun u H locs hp Y => ?_)
      obtain ⟨L150, f149⟩ := u
      obtain ⟨eL152, hF151, n154, g155, hg156, h157, h158, e159, e160⟩ := hp
      dsimp only at eL152 hF151 e159 e160 Y
      rw [eL152] at Y
      have hF161 : ∀ x, x ≠ b → x ≠ r → f149 x = f x := fun x h0 h1 => (hF151 x h0 h1).trans (hF146 x h0 h1)
      refine lv_aload_n X.1 X.2.1 d_By_putTime_163 rfl (lv_at hl 5 rfl) ?_
      refine lv_bipush (v := (nI 90)) X.1 X.2.1 d_By_putTime_164 (by decide) ?_
      refine x_v (x_runV (As := [.int (nI 90)]) (rest := []) (n := 1) X Y hml hl.1 (c_By_put l D E L f149 H.size ((nI 90)) b r (N) (n154) g155 m_b e159 m_r e160 (by omega) (by omega) hg156) (ok_c X Y) m_b e159 rfl kl_By_By_put ks_By_put kx_By_put ki_By_put ini_By ⟨rfl, rfl⟩ hd_By_put ⟨by decide, by decide⟩ rfl (Nat.le_of_ble_eq_true rfl) d_By_putTime_166 ⟨(show 0 + 0 ≤ 0 by omega), (show 0 + (0) ≤ (0) by omega)⟩) X Y hA (fun u H locs hp Y => ?_)
      obtain ⟨L163, f162⟩ := u
      obtain ⟨eL174, hF164, n165, g166, h168, h169, h170, h171, e172, e173⟩ := hp
      dsimp only at eL174 hF164 e172 e173 Y
      rw [eL174] at Y
      have hF176 : ∀ x, x ≠ b → x ≠ r → f162 x = f x := fun x h0 h1 => (hF164 x h0 h1).trans (hF161 x h0 h1)
      refine lv_aload_n X.1 X.2.1 d_By_putTime_169 rfl (lv_at hl 5 rfl) ?_
      refine lv_iload_n X.1 X.2.1 d_By_putTime_170 rfl (lv_at hl 4 rfl) ?_
      refine x_v (x_runV (As := [.int r6]) (rest := []) (n := 1) X Y hml hl.1 (c_By_close l D E L f162 H.size (r6) b r (N) (n165) g166 m_b e172 m_r e173 (by omega) (by omega) h169) (ok_c X Y) m_b e172 rfl kl_By_By_close ks_By_close kx_By_close ki_By_close ini_By ⟨rfl, rfl⟩ hd_By_close ⟨by decide, by decide⟩ rfl (Nat.le_of_ble_eq_true rfl) d_By_putTime_171 ⟨(show 0 + 0 ≤ 0 by omega), (show 0 + (0) ≤ (0) by omega)⟩) X Y hA (fun u H locs hp Y => ?_)
      obtain ⟨L178, f177⟩ := u
      obtain ⟨eL189, hF179, n180, g181, h183, h184, h185, h186, e187, e188⟩ := hp
      dsimp only at eL189 hF179 e187 e188 Y
      rw [eL189] at Y
      have hF191 : ∀ x, x ≠ b → x ≠ r → f177 x = f x := fun x h0 h1 => (hF179 x h0 h1).trans (hF176 x h0 h1)
      exact c_retv hQQ X Y hr hlk ⟨rfl, hF191, (n180), g181, h184, (by omega), (by omega), e187, e188⟩ d_By_putTime_174
    have lp192 : ∀ (n193 mo : Nat) (H : Heap) (locs : List Loc) (ls : Array Slot), 12 - mo ≤ n193 → (mo ≤ 12) → pH D cCl (pA L sz) s.heap L f31 H locs → lv_has ls 8 [(7, .int (nI mo)), (6, .int (nI yr)), (5, .int v47), (4, .int v46), (3, .int r6), (0, .ref b), (1, .int a1), (2, .int a2)] → W p l e (kRm 2 83 0 (0)) s m AV below meth c H locs 0 0 QQ (F0 m 65 ls []) := by
      intro n193
      induction n193 with
      | zero =>
        intro mo H locs ls hm195 hc196 Y hl
        refine lv_iload X.1 X.2.1 d_By_putTime_65 (lv_at hl 0 rfl) ?_
        refine lv_bipush (v := (nI 12)) X.1 X.2.1 d_By_putTime_67 (by decide) ?_
        refine lv_icmp_ge (tgt := 92) X.1 X.2.1 d_By_putTime_69 (by decide) (fun c197 => ?_) (fun c197 => ?_)
        · skip
          rw [nI_leI (by omega) (by omega)] at c197
          exact ct50 (mo) _ _ _ (by omega) Y (lv_sub hl [0, 1, 2, 3, 4, 5, 6, 7] rfl)
        · skip
          rw [nI_leI (by omega) (by omega)] at c197
          refine lv_iload X.1 X.2.1 d_By_putTime_72 (lv_at hl 1 rfl) ?_
          refine lv_iload X.1 X.2.1 d_By_putTime_74 (lv_at hl 0 rfl) ?_
          refine lv_iconst (v := (nI 1)) X.1 X.2.1 d_By_putTime_76 (by decide) ?_
          refine lv_iadd X.1 X.2.1 d_By_putTime_77 ?_
          refine t_eq (y := nI (mo + 1)) (nI_add _ _) ?_
          refine x_i (x_runS (As := [.int (nI yr), .int (nI (mo + 1))]) (rest := []) (n := 2) X hml hl.1 (c_By_daysBefore l D E T L f31 H.size ((nI yr)) ((nI (mo + 1)))) (ok_k X Y hA KS KR) kl_By_By_daysBefore ks_By_daysBefore ki_By_daysBefore ini_By ⟨rfl, rfl⟩ hd_By_daysBefore.2 ⟨by decide, by decide⟩ rfl (Nat.le_of_ble_eq_true rfl) d_By_putTime_78 ⟨(show 0 + 0 ≤ 0 by omega), (show 0 + (0) ≤ (0) by omega)⟩) X Y hA (fun r198 u H locs hp Y => ?_)
          obtain ⟨L200, f199⟩ := u
          obtain ⟨eL202, hF201, pr203⟩ := hp
          dsimp only at eL202 hF201 pr203 Y
          rw [eL202] at Y
          rw [show f199 = f31 from funext hF201] at Y
          refine lv_iload X.1 X.2.1 d_By_putTime_81 (lv_at hl 3 rfl) ?_
          refine lv_icmp_gt (tgt := 92) X.1 X.2.1 d_By_putTime_83 (by decide) (fun c204 => ?_) (fun c204 => ?_)
          · skip
            exact ct50 (mo) _ _ _ (by omega) Y (lv_sub hl [0, 1, 2, 3, 4, 5, 6, 7] rfl)
          · skip
            refine lv_iinc (v := (nI (mo + 1))) (lv' := [(7, .int (nI (mo + 1))), (6, .int (nI yr)), (5, .int v47), (4, .int v46), (3, .int r6), (0, .ref b), (1, .int a1), (2, .int a2)]) X.1 X.2.1 d_By_putTime_86 hl (k := 0) rfl (nI_add _ 1) (by decide) rfl (fun ls hl => ?_)
            refine lv_goto (tgt := 65) X.1 X.2.1 d_By_putTime_89 (by decide) ?_
            exact False.elim (by omega)
      | succ n193 ih194 =>
        intro mo H locs ls hm195 hc196 Y hl
        refine lv_iload X.1 X.2.1 d_By_putTime_65 (lv_at hl 0 rfl) ?_
        refine lv_bipush (v := (nI 12)) X.1 X.2.1 d_By_putTime_67 (by decide) ?_
        refine lv_icmp_ge (tgt := 92) X.1 X.2.1 d_By_putTime_69 (by decide) (fun c205 => ?_) (fun c205 => ?_)
        · skip
          rw [nI_leI (by omega) (by omega)] at c205
          exact ct50 (mo) _ _ _ (by omega) Y (lv_sub hl [0, 1, 2, 3, 4, 5, 6, 7] rfl)
        · skip
          rw [nI_leI (by omega) (by omega)] at c205
          refine lv_iload X.1 X.2.1 d_By_putTime_72 (lv_at hl 1 rfl) ?_
          refine lv_iload X.1 X.2.1 d_By_putTime_74 (lv_at hl 0 rfl) ?_
          refine lv_iconst (v := (nI 1)) X.1 X.2.1 d_By_putTime_76 (by decide) ?_
          refine lv_iadd X.1 X.2.1 d_By_putTime_77 ?_
          refine t_eq (y := nI (mo + 1)) (nI_add _ _) ?_
          refine x_i (x_runS (As := [.int (nI yr), .int (nI (mo + 1))]) (rest := []) (n := 2) X hml hl.1 (c_By_daysBefore l D E T L f31 H.size ((nI yr)) ((nI (mo + 1)))) (ok_k X Y hA KS KR) kl_By_By_daysBefore ks_By_daysBefore ki_By_daysBefore ini_By ⟨rfl, rfl⟩ hd_By_daysBefore.2 ⟨by decide, by decide⟩ rfl (Nat.le_of_ble_eq_true rfl) d_By_putTime_78 ⟨(show 0 + 0 ≤ 0 by omega), (show 0 + (0) ≤ (0) by omega)⟩) X Y hA (fun r206 u H locs hp Y => ?_)
          obtain ⟨L208, f207⟩ := u
          obtain ⟨eL210, hF209, pr211⟩ := hp
          dsimp only at eL210 hF209 pr211 Y
          rw [eL210] at Y
          rw [show f207 = f31 from funext hF209] at Y
          refine lv_iload X.1 X.2.1 d_By_putTime_81 (lv_at hl 3 rfl) ?_
          refine lv_icmp_gt (tgt := 92) X.1 X.2.1 d_By_putTime_83 (by decide) (fun c212 => ?_) (fun c212 => ?_)
          · skip
            exact ct50 (mo) _ _ _ (by omega) Y (lv_sub hl [0, 1, 2, 3, 4, 5, 6, 7] rfl)
          · skip
            refine lv_iinc (v := (nI (mo + 1))) (lv' := [(7, .int (nI (mo + 1))), (6, .int (nI yr)), (5, .int v47), (4, .int v46), (3, .int r6), (0, .ref b), (1, .int a1), (2, .int a2)]) X.1 X.2.1 d_By_putTime_86 hl (k := 0) rfl (nI_add _ 1) (by decide) rfl (fun ls hl => ?_)
            refine lv_goto (tgt := 65) X.1 X.2.1 d_By_putTime_89 (by decide) ?_
            exact ih194  (mo + 1) _ _ _ (by omega) (by omega) Y (lv_sub hl [0, 1, 2, 3, 4, 5, 6, 7] rfl)
    exact lp192 (12) (1) _ _ _ (by omega) (by omega) Y (lv_sub hl [0, 1, 2, 3, 4, 5, 6, 7] rfl)
  have lp213 : ∀ (n214 yr : Nat) (H : Heap) (locs : List Loc) (ls : Array Slot), 2037 - yr ≤ n214 → (yr ≤ 2037) → pH D cCl (pA L sz) s.heap L f31 H locs → lv_has ls 8 [(6, .int (nI yr)), (5, .int v47), (4, .int v46), (3, .int r6), (0, .ref b), (1, .int a1), (2, .int a2)] → W p l e (kRm 2 83 0 (0)) s m AV below meth c H locs 0 0 QQ (F0 m 35 ls []) := by
    intro n214
    induction n214 with
    | zero =>
      intro yr H locs ls hm216 hc217 Y hl
      refine lv_iload X.1 X.2.1 d_By_putTime_35 (lv_at hl 0 rfl) ?_
      refine lv_sipush (v := (nI 2037)) X.1 X.2.1 d_By_putTime_37 (by decide) ?_
      refine lv_icmp_ge (tgt := 62) X.1 X.2.1 d_By_putTime_40 (by decide) (fun c218 => ?_) (fun c218 => ?_)
      · skip
        rw [nI_leI (by omega) (by omega)] at c218
        exact ct48 (yr) _ _ _ (by omega) Y (lv_sub hl [0, 1, 2, 3, 4, 5, 6] rfl)
      · skip
        rw [nI_leI (by omega) (by omega)] at c218
        refine lv_iload X.1 X.2.1 d_By_putTime_43 (lv_at hl 0 rfl) ?_
        refine lv_iconst (v := (nI 1)) X.1 X.2.1 d_By_putTime_45 (by decide) ?_
        refine lv_iadd X.1 X.2.1 d_By_putTime_46 ?_
        refine t_eq (y := nI (yr + 1)) (nI_add _ _) ?_
        refine lv_iconst (v := (nI 1)) X.1 X.2.1 d_By_putTime_47 (by decide) ?_
        refine x_i (x_runS (As := [.int (nI (yr + 1)), .int (nI 1)]) (rest := []) (n := 2) X hml hl.1 (c_By_daysBefore l D E T L f31 H.size ((nI (yr + 1))) ((nI 1))) (ok_k X Y hA KS KR) kl_By_By_daysBefore ks_By_daysBefore ki_By_daysBefore ini_By ⟨rfl, rfl⟩ hd_By_daysBefore.2 ⟨by decide, by decide⟩ rfl (Nat.le_of_ble_eq_true rfl) d_By_putTime_48 ⟨(show 0 + 0 ≤ 0 by omega), (show 0 + (0) ≤ (0) by omega)⟩) X Y hA (fun r219 u H locs hp Y => ?_)
        obtain ⟨L221, f220⟩ := u
        obtain ⟨eL223, hF222, pr224⟩ := hp
        dsimp only at eL223 hF222 pr224 Y
        rw [eL223] at Y
        rw [show f220 = f31 from funext hF222] at Y
        refine lv_iload X.1 X.2.1 d_By_putTime_51 (lv_at hl 2 rfl) ?_
        refine lv_icmp_gt (tgt := 62) X.1 X.2.1 d_By_putTime_53 (by decide) (fun c225 => ?_) (fun c225 => ?_)
        · skip
          exact ct48 (yr) _ _ _ (by omega) Y (lv_sub hl [0, 1, 2, 3, 4, 5, 6] rfl)
        · skip
          refine lv_iinc (v := (nI (yr + 1))) (lv' := [(6, .int (nI (yr + 1))), (5, .int v47), (4, .int v46), (3, .int r6), (0, .ref b), (1, .int a1), (2, .int a2)]) X.1 X.2.1 d_By_putTime_56 hl (k := 0) rfl (nI_add _ 1) (by decide) rfl (fun ls hl => ?_)
          refine lv_goto (tgt := 35) X.1 X.2.1 d_By_putTime_59 (by decide) ?_
          exact False.elim (by omega)
    | succ n214 ih215 =>
      intro yr H locs ls hm216 hc217 Y hl
      refine lv_iload X.1 X.2.1 d_By_putTime_35 (lv_at hl 0 rfl) ?_
      refine lv_sipush (v := (nI 2037)) X.1 X.2.1 d_By_putTime_37 (by decide) ?_
      refine lv_icmp_ge (tgt := 62) X.1 X.2.1 d_By_putTime_40 (by decide) (fun c226 => ?_) (fun c226 => ?_)
      · skip
        rw [nI_leI (by omega) (by omega)] at c226
        exact ct48 (yr) _ _ _ (by omega) Y (lv_sub hl [0, 1, 2, 3, 4, 5, 6] rfl)
      · skip
        rw [nI_leI (by omega) (by omega)] at c226
        refine lv_iload X.1 X.2.1 d_By_putTime_43 (lv_at hl 0 rfl) ?_
        refine lv_iconst (v := (nI 1)) X.1 X.2.1 d_By_putTime_45 (by decide) ?_
        refine lv_iadd X.1 X.2.1 d_By_putTime_46 ?_
        refine t_eq (y := nI (yr + 1)) (nI_add _ _) ?_
        refine lv_iconst (v := (nI 1)) X.1 X.2.1 d_By_putTime_47 (by decide) ?_
        refine x_i (x_runS (As := [.int (nI (yr + 1)), .int (nI 1)]) (rest := []) (n := 2) X hml hl.1 (c_By_daysBefore l D E T L f31 H.size ((nI (yr + 1))) ((nI 1))) (ok_k X Y hA KS KR) kl_By_By_daysBefore ks_By_daysBefore ki_By_daysBefore ini_By ⟨rfl, rfl⟩ hd_By_daysBefore.2 ⟨by decide, by decide⟩ rfl (Nat.le_of_ble_eq_true rfl) d_By_putTime_48 ⟨(show 0 + 0 ≤ 0 by omega), (show 0 + (0) ≤ (0) by omega)⟩) X Y hA (fun r227 u H locs hp Y => ?_)
        obtain ⟨L229, f228⟩ := u
        obtain ⟨eL231, hF230, pr232⟩ := hp
        dsimp only at eL231 hF230 pr232 Y
        rw [eL231] at Y
        rw [show f228 = f31 from funext hF230] at Y
        refine lv_iload X.1 X.2.1 d_By_putTime_51 (lv_at hl 2 rfl) ?_
        refine lv_icmp_gt (tgt := 62) X.1 X.2.1 d_By_putTime_53 (by decide) (fun c233 => ?_) (fun c233 => ?_)
        · skip
          exact ct48 (yr) _ _ _ (by omega) Y (lv_sub hl [0, 1, 2, 3, 4, 5, 6] rfl)
        · skip
          refine lv_iinc (v := (nI (yr + 1))) (lv' := [(6, .int (nI (yr + 1))), (5, .int v47), (4, .int v46), (3, .int r6), (0, .ref b), (1, .int a1), (2, .int a2)]) X.1 X.2.1 d_By_putTime_56 hl (k := 0) rfl (nI_add _ 1) (by decide) rfl (fun ls hl => ?_)
          refine lv_goto (tgt := 35) X.1 X.2.1 d_By_putTime_59 (by decide) ?_
          exact ih215  (yr + 1) _ _ _ (by omega) (by omega) Y (lv_sub hl [0, 1, 2, 3, 4, 5, 6] rfl)
  exact lp213 (2037) (1970) _ _ _ (by omega) (by omega) Y (lv_sub hl [0, 1, 2, 3, 4, 5, 6] rfl)
set_option maxHeartbeats 4000000 in
set_option maxRecDepth 100000 in
theorem c_By_putErrorHead (l : Launch) (D : va_G) (E : cE) (T : cT) (L : List Nat) (f : pF) (sz : Nat) (a1 : Int32) (a2 : Int32) (N b r n : Nat) (g_r : Nat → Int32) (m_b : b ∈ L) (m_r : r ∈ L) (e_b : f b = .inr (3, [.ref r, .int (nI n)])) (e_r : f r = .inl (E.1, N, .inl g_r)) (f_r : fB g_r) (hh0 : n ≤ N) (hh1 : N < 100000) : Met l y_By_putErrorHead (k_By_putErrorHead :: lw_tg) (kRm 3 110 0 (0)) (va_Pc [.ref b, .int a1, .int a2] (kPre D E T L f sz)) (va_Qv (fun (u : cU) => u.1 = L ∧ (∀ x, x ≠ b → x ≠ r → u.2 x = f x) ∧ ∃ (n2 : Nat) (k_r : Nat → Int32), fB k_r ∧ (n ≤ n2) ∧ (n2 ≤ N) ∧ u.2 b = .inr (3, [.ref r, .int (nI n2)]) ∧ u.2 r = .inl (E.1, N, .inl k_r)) (cPost D E (pA L sz)) (pA L sz)) 0 (0) (pA L sz) := by
  refine k_enter (own := R_By) (by decide) rfl (Nat.le_of_ble_eq_true rfl) (fun p e s m below meth c ls AV QQ H locs hQQ X Y hA hin hr hlk hml hl KS KR => ?_)
  have hl : lv_has ls 3 [(0, .ref b), (1, .int a1), (2, .int a2)] := hl
  refine lv_aload_n X.1 X.2.1 d_By_putErrorHead_0 rfl (lv_at hl 0 rfl) ?_
  refine lv_iconst (v := (nI 0)) X.1 X.2.1 d_By_putErrorHead_1 (by decide) ?_
  refine lv_ldc2 (v := (5)) X.1 X.2.1 X.2.2.2.1 (X.2.2.1 _ cl_By_108) d_By_putErrorHead_2 ?_
  refine x_v (x_runV (As := [.int (nI 0), .long (5)]) (rest := []) (n := 2) X Y hml hl.1 (c_By_putNumber l D E L f H.size ((nI 0)) ((5)) b r (N) (n) g_r m_b e_b m_r e_r (by omega) (by omega) f_r) (ok_c X Y) m_b e_b rfl kl_By_By_putNumber ks_By_putNumber kx_By_putNumber ki_By_putNumber ini_By ⟨rfl, rfl⟩ hd_By_putNumber ⟨by decide, by decide⟩ rfl (Nat.le_of_ble_eq_true rfl) d_By_putErrorHead_5 ⟨(show 0 + 0 ≤ 0 by omega), (show 0 + (0) ≤ (0) by omega)⟩) X Y hA (fun u H locs hp Y => ?_)
  obtain ⟨L2, f1⟩ := u
  obtain ⟨eL13, hF3, n4, g5, h7, h8, h9, h10, e11, e12⟩ := hp
  dsimp only at eL13 hF3 e11 e12 Y
  rw [eL13] at Y
  have hF15 : ∀ x, x ≠ b → x ≠ r → f1 x = f x := fun x h0 h1 => (hF3 x h0 h1).trans rfl
  refine lv_aload_n X.1 X.2.1 d_By_putErrorHead_8 rfl (lv_at hl 0 rfl) ?_
  refine lv_iconst (v := (nI 1)) X.1 X.2.1 d_By_putErrorHead_9 (by decide) ?_
  refine lv_ldc2 (v := (30)) X.1 X.2.1 X.2.2.2.1 (X.2.2.1 _ cl_By_110) d_By_putErrorHead_10 ?_
  refine x_v (x_runV (As := [.int (nI 1), .long (30)]) (rest := []) (n := 2) X Y hml hl.1 (c_By_putNumber l D E L f1 H.size ((nI 1)) ((30)) b r (N) (n4) g5 m_b e11 m_r e12 (by omega) (by omega) h8) (ok_c X Y) m_b e11 rfl kl_By_By_putNumber ks_By_putNumber kx_By_putNumber ki_By_putNumber ini_By ⟨rfl, rfl⟩ hd_By_putNumber ⟨by decide, by decide⟩ rfl (Nat.le_of_ble_eq_true rfl) d_By_putErrorHead_13 ⟨(show 0 + 0 ≤ 0 by omega), (show 0 + (0) ≤ (0) by omega)⟩) X Y hA (fun u H locs hp Y => ?_)
  obtain ⟨L17, f16⟩ := u
  obtain ⟨eL28, hF18, n19, g20, h22, h23, h24, h25, e26, e27⟩ := hp
  dsimp only at eL28 hF18 e26 e27 Y
  rw [eL28] at Y
  have hF30 : ∀ x, x ≠ b → x ≠ r → f16 x = f x := fun x h0 h1 => (hF18 x h0 h1).trans (hF15 x h0 h1)
  refine lv_aload_n X.1 X.2.1 d_By_putErrorHead_16 rfl (lv_at hl 0 rfl) ?_
  refine lv_iconst (v := (nI 4)) X.1 X.2.1 d_By_putErrorHead_17 (by decide) ?_
  refine lv_iload_n X.1 X.2.1 d_By_putErrorHead_18 rfl (lv_at hl 1 rfl) ?_
  refine x_v (x_runV (As := [.int (nI 4), .int a1]) (rest := []) (n := 2) X Y hml hl.1 (c_By_putTime l D E T L f16 H.size ((nI 4)) (a1) (N) b r (n19) g20 m_b m_r e26 e27 h23 (by omega) (by omega)) (ok_k X Y hA KS KR) m_b e26 rfl kl_By_By_putTime ks_By_putTime kx_By_putTime ki_By_putTime ini_By ⟨rfl, rfl⟩ hd_By_putTime ⟨by decide, by decide⟩ rfl (Nat.le_of_ble_eq_true rfl) d_By_putErrorHead_19 ⟨(show 0 + 0 ≤ 0 by omega), (show 0 + (0) ≤ (0) by omega)⟩) X Y hA (fun u H locs hp Y => ?_)
  obtain ⟨L33, f32⟩ := u
  obtain ⟨eL35, hF34, n37, g38, hg39, h40, h41, e42, e43⟩ := hp
  dsimp only at eL35 hF34 e42 e43 Y
  rw [eL35] at Y
  have hF44 : ∀ x, x ≠ b → x ≠ r → f32 x = f x := fun x h0 h1 => (hF34 x h0 h1).trans (hF30 x h0 h1)
  refine lv_aload_n X.1 X.2.1 d_By_putErrorHead_22 rfl (lv_at hl 0 rfl) ?_
  refine lv_iconst (v := (nI 5)) X.1 X.2.1 d_By_putErrorHead_23 (by decide) ?_
  refine lv_lconst (v := 0) X.1 X.2.1 d_By_putErrorHead_24 rfl ?_
  refine x_v (x_runV (As := [.int (nI 5), .long 0]) (rest := []) (n := 2) X Y hml hl.1 (c_By_putNumber l D E L f32 H.size ((nI 5)) (0) b r (N) (n37) g38 m_b e42 m_r e43 (by omega) (by omega) hg39) (ok_c X Y) m_b e42 rfl kl_By_By_putNumber ks_By_putNumber kx_By_putNumber ki_By_putNumber ini_By ⟨rfl, rfl⟩ hd_By_putNumber ⟨by decide, by decide⟩ rfl (Nat.le_of_ble_eq_true rfl) d_By_putErrorHead_25 ⟨(show 0 + 0 ≤ 0 by omega), (show 0 + (0) ≤ (0) by omega)⟩) X Y hA (fun u H locs hp Y => ?_)
  obtain ⟨L46, f45⟩ := u
  obtain ⟨eL57, hF47, n48, g49, h51, h52, h53, h54, e55, e56⟩ := hp
  dsimp only at eL57 hF47 e55 e56 Y
  rw [eL57] at Y
  have hF59 : ∀ x, x ≠ b → x ≠ r → f45 x = f x := fun x h0 h1 => (hF47 x h0 h1).trans (hF44 x h0 h1)
  refine lv_aload_n X.1 X.2.1 d_By_putErrorHead_28 rfl (lv_at hl 0 rfl) ?_
  refine lv_bipush (v := (nI 6)) X.1 X.2.1 d_By_putErrorHead_29 (by decide) ?_
  refine lv_iload_n X.1 X.2.1 d_By_putErrorHead_31 rfl (lv_at hl 2 rfl) ?_
  obtain ⟨v60, ev60⟩ : ∃ z : Int64, (a2 : Int32).toInt64 = z := ⟨_, rfl⟩
  refine lv_i2l (v := v60) X.1 X.2.1 d_By_putErrorHead_32 ev60 ?_
  refine x_v (x_runV (As := [.int (nI 6), .long v60]) (rest := []) (n := 2) X Y hml hl.1 (c_By_putNumber l D E L f45 H.size ((nI 6)) (v60) b r (N) (n48) g49 m_b e55 m_r e56 (by omega) (by omega) h52) (ok_c X Y) m_b e55 rfl kl_By_By_putNumber ks_By_putNumber kx_By_putNumber ki_By_putNumber ini_By ⟨rfl, rfl⟩ hd_By_putNumber ⟨by decide, by decide⟩ rfl (Nat.le_of_ble_eq_true rfl) d_By_putErrorHead_33 ⟨(show 0 + 0 ≤ 0 by omega), (show 0 + (0) ≤ (0) by omega)⟩) X Y hA (fun u H locs hp Y => ?_)
  obtain ⟨L62, f61⟩ := u
  obtain ⟨eL73, hF63, n64, g65, h67, h68, h69, h70, e71, e72⟩ := hp
  dsimp only at eL73 hF63 e71 e72 Y
  rw [eL73] at Y
  have hF75 : ∀ x, x ≠ b → x ≠ r → f61 x = f x := fun x h0 h1 => (hF63 x h0 h1).trans (hF59 x h0 h1)
  exact c_retv hQQ X Y hr hlk ⟨rfl, hF75, (n64), g65, h68, (by omega), (by omega), e71, e72⟩ d_By_putErrorHead_36
set_option maxHeartbeats 4000000 in
set_option maxRecDepth 100000 in
theorem c_By_isText_empty (l : Launch) (D : va_G) (E : cE) (T : cT) (L : List Nat) (f : pF) (sz : Nat) (yi : Nat) (hy_yi : yi < nY) (N b r n : Nat) (g_r : Nat → Int32) (m_b : b ∈ L) (m_r : r ∈ L) (e_b : f b = .inr (3, [.ref r, .int (nI n)])) (e_r : f r = .inl (E.1, N, .inl g_r)) (f_r : fB g_r) (hh0 : 1 ≤ yn yi) : Met l y_By_isText (k_By_isText :: lw_tg) (kRm 2 60 0 (0)) (va_Pc [.ref b, .int (nI 0), .int (nI 0), .ref (T.2.1 yi)] (kPre D E T L f sz)) (va_Qi (fun (r0 : Int32) (u : cU) => u.1 = L ∧ (∀ x, u.2 x = f x) ∧ (r0 = nI 0)) (cPost D E (pA L sz)) (pA L sz)) 0 (0) (pA L sz) := by
  refine k_enter (own := R_By) (by decide) rfl (Nat.le_of_ble_eq_true rfl) (fun p e s m below meth c ls AV QQ H locs hQQ X Y hA hin hr hlk hml hl KS KR => ?_)
  have hl : lv_has ls 5 [(0, .ref b), (1, .int (nI 0)), (2, .int (nI 0)), (3, .ref (T.2.1 yi))] := hl
  have hyn := yn_small yi hy_yi
  refine lv_iload_n X.1 X.2.1 d_By_isText_0 rfl (lv_at hl 2 rfl) ?_
  refine lv_iload_n X.1 X.2.1 d_By_isText_1 rfl (lv_at hl 1 rfl) ?_
  refine lv_isub X.1 X.2.1 d_By_isText_2 ?_
  refine t_eq (y := nI 0) (by decide) ?_
  refine lv_aload_n X.1 X.2.1 d_By_isText_3 rfl (lv_at hl 3 rfl) ?_
  refine k_length (i := yi) X Y KS (hy_yi) hml hl.1 kl_By_length ⟨by decide, by decide⟩ (Nat.le_of_ble_eq_true rfl) d_By_isText_4 ⟨show 0 ≤ 0 by omega, show 0 ≤ (0) by omega⟩ (fun H locs Y => ?_)
  have hyn := yn_small yi (hy_yi)
  refine lv_icmp_eq (tgt := 12) X.1 X.2.1 d_By_isText_7 (by decide) (fun c1 => absurd c1 ?_) (fun c1 => ?_)
  · (rw [nI_eq (by omega) (by omega)] <;> omega)
  rw [nI_eq (by omega) (by omega)] at c1
  refine lv_iconst (v := (nI 0)) X.1 X.2.1 d_By_isText_10 (by decide) ?_
  exact c_retz hQQ X Y hr hlk rfl ⟨rfl, (fun _ => rfl), rfl⟩ d_By_isText_11
