section MLDCW
variable {p : Program} {l : Launch} {e : Env} {R : Room} {s : State} {m : MethodId} {args : Array Value} {below : List Frame} {meth : Method} {c : Code} {H : Heap} {locs : List Loc} {cells slots : Nat} {Q : State → Prop} {cc : ByteArray} {pc : Nat} {ls : Array Slot} {rest : List Value} {D : mD} {E : mE}
theorem m_ldcSW {i : Nat} (X : mX p c cc args s m D E) (hi : i < nZ) {ix : Nat} (hix : zX.getD i 0 = ix) (hdg : decode cc pc = .ok (.ldc_w ix, 3)) (k : W p l e R s m args below meth c H locs cells slots Q (F0 m (pc + 3) ls (.ref (D.2.1 i) :: rest))) : W p l e R s m args below meth c H locs cells slots Q (F0 m pc ls rest) := by
  intro T hT XX
  obtain ⟨t, a1, b1⟩ := k T hT XX
  have hz := X.2.2.2.2.2 i hi
  rw [hix] at hz
  exact ⟨t, XX.ldcStringW X.1 X.2.2.2.1 (text := zT.getD i "") (a := D.2.1 i) hz.1 hz.2 (g := F0 m pc ls rest) rfl (by rw [X.2.1]; exact hdg) t a1, b1⟩
end MLDCW
abbrev b_saltOf : ByteArray := prog_14_method_86_code
def y_saltOf : MethodName := ⟨R_M, "saltOf", "([BII)V"⟩
abbrev k_saltOf : Cond := .code y_saltOf b_saltOf 6 none
theorem ki_saltOf : k_saltOf ∈ lw_tg := in_t 1795 (by decide +kernel)
theorem ks_saltOf : Cond.instanceMethod y_saltOf ∈ lw_tg := in_t 1794 (by decide +kernel)
theorem kl_saltOf : Cond.methodLink R_M 623 y_saltOf ∈ lw_tg := in_t 1792 (by decide +kernel)
theorem d_saltOf_0 : decode b_saltOf 0 = .ok (.ldc_w 621, 3) := by decide +kernel
theorem d_saltOf_3 : decode b_saltOf 3 = .ok (.astore 4, 2) := by decide +kernel
theorem d_saltOf_5 : decode b_saltOf 5 = .ok (.aload_n 0, 1) := by decide +kernel
theorem d_saltOf_6 : decode b_saltOf 6 = .ok (.iconst 0, 1) := by decide +kernel
theorem d_saltOf_7 : decode b_saltOf 7 = .ok (.putfield 426, 3) := by decide +kernel
theorem d_saltOf_10 : decode b_saltOf 10 = .ok (.iconst 0, 1) := by decide +kernel
theorem d_saltOf_11 : decode b_saltOf 11 = .ok (.istore 5, 2) := by decide +kernel
theorem d_saltOf_13 : decode b_saltOf 13 = .ok (.iload 5, 2) := by decide +kernel
theorem d_saltOf_15 : decode b_saltOf 15 = .ok (.iconst 5, 1) := by decide +kernel
theorem d_saltOf_16 : decode b_saltOf 16 = .ok (.if_icmp .ge 24, 3) := by decide +kernel
theorem d_saltOf_19 : decode b_saltOf 19 = .ok (.aload_n 0, 1) := by decide +kernel
theorem d_saltOf_20 : decode b_saltOf 20 = .ok (.getfield 71, 3) := by decide +kernel
theorem d_saltOf_23 : decode b_saltOf 23 = .ok (.iload 5, 2) := by decide +kernel
theorem d_saltOf_25 : decode b_saltOf 25 = .ok (.aload 4, 2) := by decide +kernel
theorem d_saltOf_27 : decode b_saltOf 27 = .ok (.iload 5, 2) := by decide +kernel
theorem d_saltOf_29 : decode b_saltOf 29 = .ok (.invokevirtual 344, 3) := by decide +kernel
theorem d_saltOf_32 : decode b_saltOf 32 = .ok (.i2b, 1) := by decide +kernel
theorem d_saltOf_33 : decode b_saltOf 33 = .ok (.bastore, 1) := by decide +kernel
theorem d_saltOf_34 : decode b_saltOf 34 = .ok (.iinc 5 1, 3) := by decide +kernel
theorem d_saltOf_37 : decode b_saltOf 37 = .ok (.goto (-24), 3) := by decide +kernel
theorem d_saltOf_40 : decode b_saltOf 40 = .ok (.aload_n 0, 1) := by decide +kernel
theorem d_saltOf_41 : decode b_saltOf 41 = .ok (.iconst 5, 1) := by decide +kernel
theorem d_saltOf_42 : decode b_saltOf 42 = .ok (.putfield 426, 3) := by decide +kernel
theorem d_saltOf_45 : decode b_saltOf 45 = .ok (.iconst 0, 1) := by decide +kernel
theorem d_saltOf_46 : decode b_saltOf 46 = .ok (.istore 5, 2) := by decide +kernel
theorem d_saltOf_48 : decode b_saltOf 48 = .ok (.iload 5, 2) := by decide +kernel
theorem d_saltOf_50 : decode b_saltOf 50 = .ok (.iload_n 3, 1) := by decide +kernel
theorem d_saltOf_51 : decode b_saltOf 51 = .ok (.if_icmp .ge 48, 3) := by decide +kernel
theorem d_saltOf_54 : decode b_saltOf 54 = .ok (.aload_n 1, 1) := by decide +kernel
theorem d_saltOf_55 : decode b_saltOf 55 = .ok (.iload_n 2, 1) := by decide +kernel
theorem d_saltOf_56 : decode b_saltOf 56 = .ok (.iload 5, 2) := by decide +kernel
theorem d_saltOf_58 : decode b_saltOf 58 = .ok (.iadd, 1) := by decide +kernel
theorem d_saltOf_59 : decode b_saltOf 59 = .ok (.baload, 1) := by decide +kernel
theorem d_saltOf_60 : decode b_saltOf 60 = .ok (.bipush 47, 2) := by decide +kernel
theorem d_saltOf_62 : decode b_saltOf 62 = .ok (.if_icmp .ne 6, 3) := by decide +kernel
theorem d_saltOf_65 : decode b_saltOf 65 = .ok (.goto 28, 3) := by decide +kernel
theorem d_saltOf_68 : decode b_saltOf 68 = .ok (.aload_n 0, 1) := by decide +kernel
theorem d_saltOf_69 : decode b_saltOf 69 = .ok (.getfield 71, 3) := by decide +kernel
theorem d_saltOf_72 : decode b_saltOf 72 = .ok (.aload_n 0, 1) := by decide +kernel
theorem d_saltOf_73 : decode b_saltOf 73 = .ok (.getfield 426, 3) := by decide +kernel
theorem d_saltOf_76 : decode b_saltOf 76 = .ok (.aload_n 1, 1) := by decide +kernel
theorem d_saltOf_77 : decode b_saltOf 77 = .ok (.iload_n 2, 1) := by decide +kernel
theorem d_saltOf_78 : decode b_saltOf 78 = .ok (.iload 5, 2) := by decide +kernel
theorem d_saltOf_80 : decode b_saltOf 80 = .ok (.iadd, 1) := by decide +kernel
theorem d_saltOf_81 : decode b_saltOf 81 = .ok (.baload, 1) := by decide +kernel
theorem d_saltOf_82 : decode b_saltOf 82 = .ok (.bastore, 1) := by decide +kernel
theorem d_saltOf_83 : decode b_saltOf 83 = .ok (.aload_n 0, 1) := by decide +kernel
theorem d_saltOf_84 : decode b_saltOf 84 = .ok (.dup, 1) := by decide +kernel
theorem d_saltOf_85 : decode b_saltOf 85 = .ok (.getfield 426, 3) := by decide +kernel
theorem d_saltOf_88 : decode b_saltOf 88 = .ok (.iconst 1, 1) := by decide +kernel
theorem d_saltOf_89 : decode b_saltOf 89 = .ok (.iadd, 1) := by decide +kernel
theorem d_saltOf_90 : decode b_saltOf 90 = .ok (.putfield 426, 3) := by decide +kernel
theorem d_saltOf_93 : decode b_saltOf 93 = .ok (.iinc 5 1, 3) := by decide +kernel
theorem d_saltOf_96 : decode b_saltOf 96 = .ok (.goto (-48), 3) := by decide +kernel
theorem d_saltOf_99 : decode b_saltOf 99 = .ok (.return_, 1) := by decide +kernel
abbrev b_passwordRead : ByteArray := prog_14_method_85_code
def y_passwordRead : MethodName := ⟨R_M, "passwordRead", "(II)Z"⟩
abbrev k_passwordRead : Cond := .code y_passwordRead b_passwordRead 4 (some .boolean)
theorem ki_passwordRead : k_passwordRead ∈ lw_tg := in_t 1781 (by decide +kernel)
theorem ks_passwordRead : Cond.instanceMethod y_passwordRead ∈ lw_tg := in_t 1780 (by decide +kernel)
theorem kl_passwordRead : Cond.methodLink R_M 617 y_passwordRead ∈ lw_tg := in_t 1778 (by decide +kernel)
theorem d_passwordRead_0 : decode b_passwordRead 0 = .ok (.aload_n 0, 1) := by decide +kernel
theorem d_passwordRead_1 : decode b_passwordRead 1 = .ok (.iload_n 2, 1) := by decide +kernel
theorem d_passwordRead_2 : decode b_passwordRead 2 = .ok (.iload_n 1, 1) := by decide +kernel
theorem d_passwordRead_3 : decode b_passwordRead 3 = .ok (.isub, 1) := by decide +kernel
theorem d_passwordRead_4 : decode b_passwordRead 4 = .ok (.putfield 418, 3) := by decide +kernel
theorem d_passwordRead_7 : decode b_passwordRead 7 = .ok (.aload_n 0, 1) := by decide +kernel
theorem d_passwordRead_8 : decode b_passwordRead 8 = .ok (.getfield 418, 3) := by decide +kernel
theorem d_passwordRead_11 : decode b_passwordRead 11 = .ok (.bipush 20, 2) := by decide +kernel
theorem d_passwordRead_13 : decode b_passwordRead 13 = .ok (.if_icmp .le 5, 3) := by decide +kernel
theorem d_passwordRead_16 : decode b_passwordRead 16 = .ok (.iconst 0, 1) := by decide +kernel
theorem d_passwordRead_17 : decode b_passwordRead 17 = .ok (.ireturn, 1) := by decide +kernel
theorem d_passwordRead_18 : decode b_passwordRead 18 = .ok (.iload_n 1, 1) := by decide +kernel
theorem d_passwordRead_19 : decode b_passwordRead 19 = .ok (.istore_n 3, 1) := by decide +kernel
theorem d_passwordRead_20 : decode b_passwordRead 20 = .ok (.iload_n 3, 1) := by decide +kernel
theorem d_passwordRead_21 : decode b_passwordRead 21 = .ok (.iload_n 2, 1) := by decide +kernel
theorem d_passwordRead_22 : decode b_passwordRead 22 = .ok (.if_icmp .ge 47, 3) := by decide +kernel
theorem d_passwordRead_25 : decode b_passwordRead 25 = .ok (.aload_n 0, 1) := by decide +kernel
theorem d_passwordRead_26 : decode b_passwordRead 26 = .ok (.getfield 10, 3) := by decide +kernel
theorem d_passwordRead_29 : decode b_passwordRead 29 = .ok (.iload_n 3, 1) := by decide +kernel
theorem d_passwordRead_30 : decode b_passwordRead 30 = .ok (.baload, 1) := by decide +kernel
theorem d_passwordRead_31 : decode b_passwordRead 31 = .ok (.bipush 32, 2) := by decide +kernel
theorem d_passwordRead_33 : decode b_passwordRead 33 = .ok (.if_icmp .lt 14, 3) := by decide +kernel
theorem d_passwordRead_36 : decode b_passwordRead 36 = .ok (.aload_n 0, 1) := by decide +kernel
theorem d_passwordRead_37 : decode b_passwordRead 37 = .ok (.getfield 10, 3) := by decide +kernel
theorem d_passwordRead_40 : decode b_passwordRead 40 = .ok (.iload_n 3, 1) := by decide +kernel
theorem d_passwordRead_41 : decode b_passwordRead 41 = .ok (.baload, 1) := by decide +kernel
theorem d_passwordRead_42 : decode b_passwordRead 42 = .ok (.bipush 126, 2) := by decide +kernel
theorem d_passwordRead_44 : decode b_passwordRead 44 = .ok (.if_icmp .le 5, 3) := by decide +kernel
theorem d_passwordRead_47 : decode b_passwordRead 47 = .ok (.iconst 0, 1) := by decide +kernel
theorem d_passwordRead_48 : decode b_passwordRead 48 = .ok (.ireturn, 1) := by decide +kernel
theorem d_passwordRead_49 : decode b_passwordRead 49 = .ok (.aload_n 0, 1) := by decide +kernel
theorem d_passwordRead_50 : decode b_passwordRead 50 = .ok (.getfield 74, 3) := by decide +kernel
theorem d_passwordRead_53 : decode b_passwordRead 53 = .ok (.iload_n 3, 1) := by decide +kernel
theorem d_passwordRead_54 : decode b_passwordRead 54 = .ok (.iload_n 1, 1) := by decide +kernel
theorem d_passwordRead_55 : decode b_passwordRead 55 = .ok (.isub, 1) := by decide +kernel
theorem d_passwordRead_56 : decode b_passwordRead 56 = .ok (.aload_n 0, 1) := by decide +kernel
theorem d_passwordRead_57 : decode b_passwordRead 57 = .ok (.getfield 10, 3) := by decide +kernel
theorem d_passwordRead_60 : decode b_passwordRead 60 = .ok (.iload_n 3, 1) := by decide +kernel
theorem d_passwordRead_61 : decode b_passwordRead 61 = .ok (.baload, 1) := by decide +kernel
theorem d_passwordRead_62 : decode b_passwordRead 62 = .ok (.bastore, 1) := by decide +kernel
theorem d_passwordRead_63 : decode b_passwordRead 63 = .ok (.iinc 3 1, 3) := by decide +kernel
theorem d_passwordRead_66 : decode b_passwordRead 66 = .ok (.goto (-46), 3) := by decide +kernel
theorem d_passwordRead_69 : decode b_passwordRead 69 = .ok (.iconst 1, 1) := by decide +kernel
theorem d_passwordRead_70 : decode b_passwordRead 70 = .ok (.ireturn, 1) := by decide +kernel
abbrev b_findName : ByteArray := prog_14_method_88_code
def y_findName : MethodName := ⟨R_M, "findName", "()I"⟩
abbrev k_findName : Cond := .code y_findName b_findName 4 (some .int)
theorem ki_findName : k_findName ∈ lw_tg := in_t 1785 (by decide +kernel)
theorem ks_findName : Cond.instanceMethod y_findName ∈ lw_tg := in_t 1784 (by decide +kernel)
theorem kl_findName : Cond.methodLink R_M 636 y_findName ∈ lw_tg := in_t 1782 (by decide +kernel)
theorem d_findName_0 : decode b_findName 0 = .ok (.iconst 0, 1) := by decide +kernel
theorem d_findName_1 : decode b_findName 1 = .ok (.istore_n 1, 1) := by decide +kernel
theorem d_findName_2 : decode b_findName 2 = .ok (.iload_n 1, 1) := by decide +kernel
theorem d_findName_3 : decode b_findName 3 = .ok (.aload_n 0, 1) := by decide +kernel
theorem d_findName_4 : decode b_findName 4 = .ok (.getfield 630, 3) := by decide +kernel
theorem d_findName_7 : decode b_findName 7 = .ok (.if_icmp .ge 80, 3) := by decide +kernel
theorem d_findName_10 : decode b_findName 10 = .ok (.aload_n 0, 1) := by decide +kernel
theorem d_findName_11 : decode b_findName 11 = .ok (.getfield 104, 3) := by decide +kernel
theorem d_findName_14 : decode b_findName 14 = .ok (.iload_n 1, 1) := by decide +kernel
theorem d_findName_15 : decode b_findName 15 = .ok (.iaload, 1) := by decide +kernel
theorem d_findName_16 : decode b_findName 16 = .ok (.aload_n 0, 1) := by decide +kernel
theorem d_findName_17 : decode b_findName 17 = .ok (.getfield 608, 3) := by decide +kernel
theorem d_findName_20 : decode b_findName 20 = .ok (.if_icmp .ne 7, 3) := by decide +kernel
theorem d_findName_23 : decode b_findName 23 = .ok (.iconst 1, 1) := by decide +kernel
theorem d_findName_24 : decode b_findName 24 = .ok (.goto 4, 3) := by decide +kernel
theorem d_findName_27 : decode b_findName 27 = .ok (.iconst 0, 1) := by decide +kernel
theorem d_findName_28 : decode b_findName 28 = .ok (.istore_n 2, 1) := by decide +kernel
theorem d_findName_29 : decode b_findName 29 = .ok (.iconst 0, 1) := by decide +kernel
theorem d_findName_30 : decode b_findName 30 = .ok (.istore_n 3, 1) := by decide +kernel
theorem d_findName_31 : decode b_findName 31 = .ok (.iload_n 3, 1) := by decide +kernel
theorem d_findName_32 : decode b_findName 32 = .ok (.aload_n 0, 1) := by decide +kernel
theorem d_findName_33 : decode b_findName 33 = .ok (.getfield 608, 3) := by decide +kernel
theorem d_findName_36 : decode b_findName 36 = .ok (.if_icmp .ge 39, 3) := by decide +kernel
theorem d_findName_39 : decode b_findName 39 = .ok (.iload_n 2, 1) := by decide +kernel
theorem d_findName_40 : decode b_findName 40 = .ok (.ifCond .eq 35, 3) := by decide +kernel
theorem d_findName_43 : decode b_findName 43 = .ok (.aload_n 0, 1) := by decide +kernel
theorem d_findName_44 : decode b_findName 44 = .ok (.getfield 101, 3) := by decide +kernel
theorem d_findName_47 : decode b_findName 47 = .ok (.bipush 40, 2) := by decide +kernel
theorem d_findName_49 : decode b_findName 49 = .ok (.iload_n 1, 1) := by decide +kernel
theorem d_findName_50 : decode b_findName 50 = .ok (.imul, 1) := by decide +kernel
theorem d_findName_51 : decode b_findName 51 = .ok (.iload_n 3, 1) := by decide +kernel
theorem d_findName_52 : decode b_findName 52 = .ok (.iadd, 1) := by decide +kernel
theorem d_findName_53 : decode b_findName 53 = .ok (.baload, 1) := by decide +kernel
theorem d_findName_54 : decode b_findName 54 = .ok (.aload_n 0, 1) := by decide +kernel
theorem d_findName_55 : decode b_findName 55 = .ok (.getfield 128, 3) := by decide +kernel
theorem d_findName_58 : decode b_findName 58 = .ok (.iload_n 3, 1) := by decide +kernel
theorem d_findName_59 : decode b_findName 59 = .ok (.baload, 1) := by decide +kernel
theorem d_findName_60 : decode b_findName 60 = .ok (.if_icmp .ne 7, 3) := by decide +kernel
theorem d_findName_63 : decode b_findName 63 = .ok (.iconst 1, 1) := by decide +kernel
theorem d_findName_64 : decode b_findName 64 = .ok (.goto 4, 3) := by decide +kernel
theorem d_findName_67 : decode b_findName 67 = .ok (.iconst 0, 1) := by decide +kernel
theorem d_findName_68 : decode b_findName 68 = .ok (.istore_n 2, 1) := by decide +kernel
theorem d_findName_69 : decode b_findName 69 = .ok (.iinc 3 1, 3) := by decide +kernel
theorem d_findName_72 : decode b_findName 72 = .ok (.goto (-41), 3) := by decide +kernel
theorem d_findName_75 : decode b_findName 75 = .ok (.iload_n 2, 1) := by decide +kernel
theorem d_findName_76 : decode b_findName 76 = .ok (.ifCond .eq 5, 3) := by decide +kernel
theorem d_findName_79 : decode b_findName 79 = .ok (.iload_n 1, 1) := by decide +kernel
theorem d_findName_80 : decode b_findName 80 = .ok (.ireturn, 1) := by decide +kernel
theorem d_findName_81 : decode b_findName 81 = .ok (.iinc 1 1, 3) := by decide +kernel
theorem d_findName_84 : decode b_findName 84 = .ok (.goto (-82), 3) := by decide +kernel
theorem d_findName_87 : decode b_findName 87 = .ok (.iconst (-1), 1) := by decide +kernel
theorem d_findName_88 : decode b_findName 88 = .ok (.ireturn, 1) := by decide +kernel
abbrev b_setKeys : ByteArray := prog_14_method_87_code
def y_setKeys : MethodName := ⟨R_M, "setKeys", "(II)V"⟩
abbrev k_setKeys : Cond := .code y_setKeys b_setKeys 5 none
theorem ki_setKeys : k_setKeys ∈ lw_tg := in_t 1791 (by decide +kernel)
theorem ks_setKeys : Cond.instanceMethod y_setKeys ∈ lw_tg := in_t 1790 (by decide +kernel)
theorem kl_setKeys : Cond.methodLink R_M 641 y_setKeys ∈ lw_tg := in_t 1788 (by decide +kernel)
theorem d_setKeys_0 : decode b_setKeys 0 = .ok (.aload_n 0, 1) := by decide +kernel
theorem d_setKeys_1 : decode b_setKeys 1 = .ok (.getfield 107, 3) := by decide +kernel
theorem d_setKeys_4 : decode b_setKeys 4 = .ok (.iload_n 1, 1) := by decide +kernel
theorem d_setKeys_5 : decode b_setKeys 5 = .ok (.dup2, 1) := by decide +kernel
theorem d_setKeys_6 : decode b_setKeys 6 = .ok (.iaload, 1) := by decide +kernel
theorem d_setKeys_7 : decode b_setKeys 7 = .ok (.iconst 1, 1) := by decide +kernel
theorem d_setKeys_8 : decode b_setKeys 8 = .ok (.iadd, 1) := by decide +kernel
theorem d_setKeys_9 : decode b_setKeys 9 = .ok (.iastore, 1) := by decide +kernel
theorem d_setKeys_10 : decode b_setKeys 10 = .ok (.aload_n 0, 1) := by decide +kernel
theorem d_setKeys_11 : decode b_setKeys 11 = .ok (.getfield 110, 3) := by decide +kernel
theorem d_setKeys_14 : decode b_setKeys 14 = .ok (.iload_n 1, 1) := by decide +kernel
theorem d_setKeys_15 : decode b_setKeys 15 = .ok (.iload_n 2, 1) := by decide +kernel
theorem d_setKeys_16 : decode b_setKeys 16 = .ok (.iastore, 1) := by decide +kernel
theorem d_setKeys_17 : decode b_setKeys 17 = .ok (.aload_n 0, 1) := by decide +kernel
theorem d_setKeys_18 : decode b_setKeys 18 = .ok (.aload_n 0, 1) := by decide +kernel
theorem d_setKeys_19 : decode b_setKeys 19 = .ok (.getfield 101, 3) := by decide +kernel
theorem d_setKeys_22 : decode b_setKeys 22 = .ok (.bipush 40, 2) := by decide +kernel
theorem d_setKeys_24 : decode b_setKeys 24 = .ok (.iload_n 1, 1) := by decide +kernel
theorem d_setKeys_25 : decode b_setKeys 25 = .ok (.imul, 1) := by decide +kernel
theorem d_setKeys_26 : decode b_setKeys 26 = .ok (.aload_n 0, 1) := by decide +kernel
theorem d_setKeys_27 : decode b_setKeys 27 = .ok (.getfield 104, 3) := by decide +kernel
theorem d_setKeys_30 : decode b_setKeys 30 = .ok (.iload_n 1, 1) := by decide +kernel
theorem d_setKeys_31 : decode b_setKeys 31 = .ok (.iaload, 1) := by decide +kernel
theorem d_setKeys_32 : decode b_setKeys 32 = .ok (.invokevirtual 623, 3) := by decide +kernel
theorem d_setKeys_35 : decode b_setKeys 35 = .ok (.iconst 0, 1) := by decide +kernel
theorem d_setKeys_36 : decode b_setKeys 36 = .ok (.istore_n 3, 1) := by decide +kernel
theorem d_setKeys_37 : decode b_setKeys 37 = .ok (.iload_n 3, 1) := by decide +kernel
theorem d_setKeys_38 : decode b_setKeys 38 = .ok (.iconst 2, 1) := by decide +kernel
theorem d_setKeys_39 : decode b_setKeys 39 = .ok (.if_icmp .ge 94, 3) := by decide +kernel
theorem d_setKeys_42 : decode b_setKeys 42 = .ok (.aload_n 0, 1) := by decide +kernel
theorem d_setKeys_43 : decode b_setKeys 43 = .ok (.iload_n 3, 1) := by decide +kernel
theorem d_setKeys_44 : decode b_setKeys 44 = .ok (.ifCond .ne 8, 3) := by decide +kernel
theorem d_setKeys_47 : decode b_setKeys 47 = .ok (.bipush 16, 2) := by decide +kernel
theorem d_setKeys_49 : decode b_setKeys 49 = .ok (.goto 5, 3) := by decide +kernel
theorem d_setKeys_52 : decode b_setKeys 52 = .ok (.bipush 32, 2) := by decide +kernel
theorem d_setKeys_54 : decode b_setKeys 54 = .ok (.iload_n 2, 1) := by decide +kernel
theorem d_setKeys_55 : decode b_setKeys 55 = .ok (.aload_n 0, 1) := by decide +kernel
theorem d_setKeys_56 : decode b_setKeys 56 = .ok (.getfield 131, 3) := by decide +kernel
theorem d_setKeys_59 : decode b_setKeys 59 = .ok (.invokevirtual 626, 3) := by decide +kernel
theorem d_setKeys_62 : decode b_setKeys 62 = .ok (.iconst 0, 1) := by decide +kernel
theorem d_setKeys_63 : decode b_setKeys 63 = .ok (.istore 4, 2) := by decide +kernel
theorem d_setKeys_65 : decode b_setKeys 65 = .ok (.iload 4, 2) := by decide +kernel
theorem d_setKeys_67 : decode b_setKeys 67 = .ok (.bipush 32, 2) := by decide +kernel
theorem d_setKeys_69 : decode b_setKeys 69 = .ok (.if_icmp .ge 58, 3) := by decide +kernel
theorem d_setKeys_72 : decode b_setKeys 72 = .ok (.aload_n 0, 1) := by decide +kernel
theorem d_setKeys_73 : decode b_setKeys 73 = .ok (.getfield 125, 3) := by decide +kernel
theorem d_setKeys_76 : decode b_setKeys 76 = .ok (.bipush 32, 2) := by decide +kernel
theorem d_setKeys_78 : decode b_setKeys 78 = .ok (.iconst 4, 1) := by decide +kernel
theorem d_setKeys_79 : decode b_setKeys 79 = .ok (.iload_n 1, 1) := by decide +kernel
theorem d_setKeys_80 : decode b_setKeys 80 = .ok (.imul, 1) := by decide +kernel
theorem d_setKeys_81 : decode b_setKeys 81 = .ok (.iconst 2, 1) := by decide +kernel
theorem d_setKeys_82 : decode b_setKeys 82 = .ok (.aload_n 0, 1) := by decide +kernel
theorem d_setKeys_83 : decode b_setKeys 83 = .ok (.getfield 107, 3) := by decide +kernel
theorem d_setKeys_86 : decode b_setKeys 86 = .ok (.iload_n 1, 1) := by decide +kernel
theorem d_setKeys_87 : decode b_setKeys 87 = .ok (.iaload, 1) := by decide +kernel
theorem d_setKeys_88 : decode b_setKeys 88 = .ok (.iconst 2, 1) := by decide +kernel
theorem d_setKeys_89 : decode b_setKeys 89 = .ok (.irem, 1) := by decide +kernel
theorem d_setKeys_90 : decode b_setKeys 90 = .ok (.imul, 1) := by decide +kernel
theorem d_setKeys_91 : decode b_setKeys 91 = .ok (.iadd, 1) := by decide +kernel
theorem d_setKeys_92 : decode b_setKeys 92 = .ok (.iload_n 3, 1) := by decide +kernel
theorem d_setKeys_93 : decode b_setKeys 93 = .ok (.iadd, 1) := by decide +kernel
theorem d_setKeys_94 : decode b_setKeys 94 = .ok (.imul, 1) := by decide +kernel
theorem d_setKeys_95 : decode b_setKeys 95 = .ok (.iload 4, 2) := by decide +kernel
theorem d_setKeys_97 : decode b_setKeys 97 = .ok (.iadd, 1) := by decide +kernel
theorem d_setKeys_98 : decode b_setKeys 98 = .ok (.iload_n 3, 1) := by decide +kernel
theorem d_setKeys_99 : decode b_setKeys 99 = .ok (.ifCond .ne 14, 3) := by decide +kernel
theorem d_setKeys_102 : decode b_setKeys 102 = .ok (.iload 4, 2) := by decide +kernel
theorem d_setKeys_104 : decode b_setKeys 104 = .ok (.bipush 15, 2) := by decide +kernel
theorem d_setKeys_106 : decode b_setKeys 106 = .ok (.if_icmp .le 7, 3) := by decide +kernel
theorem d_setKeys_109 : decode b_setKeys 109 = .ok (.iconst 0, 1) := by decide +kernel
theorem d_setKeys_110 : decode b_setKeys 110 = .ok (.goto 10, 3) := by decide +kernel
theorem d_setKeys_113 : decode b_setKeys 113 = .ok (.aload_n 0, 1) := by decide +kernel
theorem d_setKeys_114 : decode b_setKeys 114 = .ok (.getfield 131, 3) := by decide +kernel
theorem d_setKeys_117 : decode b_setKeys 117 = .ok (.iload 4, 2) := by decide +kernel
theorem d_setKeys_119 : decode b_setKeys 119 = .ok (.baload, 1) := by decide +kernel
theorem d_setKeys_120 : decode b_setKeys 120 = .ok (.bastore, 1) := by decide +kernel
theorem d_setKeys_121 : decode b_setKeys 121 = .ok (.iinc 4 1, 3) := by decide +kernel
theorem d_setKeys_124 : decode b_setKeys 124 = .ok (.goto (-59), 3) := by decide +kernel
theorem d_setKeys_127 : decode b_setKeys 127 = .ok (.iinc 3 1, 3) := by decide +kernel
theorem d_setKeys_130 : decode b_setKeys 130 = .ok (.goto (-93), 3) := by decide +kernel
theorem d_setKeys_133 : decode b_setKeys 133 = .ok (.return_, 1) := by decide +kernel
theorem kx_saltOf : Cond.selects R_M y_saltOf y_saltOf ∈ lw_tg := List.mem_filter.mpr ⟨List.mem_append_left _ (List.mem_of_getElem? (i := 78) (by decide +kernel)), rfl⟩
theorem hd_saltOf : y_saltOf.cls = R_M ∧ y_saltOf.cls ≠ "java/lang/invoke/MethodHandle" ∧ y_saltOf.cls ≠ "java/lang/invoke/VarHandle" ∧ (parseMethodDescriptor y_saltOf.desc).map (fun d => d.parameters.length) = some 3 := by decide +kernel
theorem kx_passwordRead : Cond.selects R_M y_passwordRead y_passwordRead ∈ lw_tg := List.mem_filter.mpr ⟨List.mem_append_left _ (List.mem_of_getElem? (i := 75) (by decide +kernel)), rfl⟩
theorem hd_passwordRead : y_passwordRead.cls = R_M ∧ y_passwordRead.cls ≠ "java/lang/invoke/MethodHandle" ∧ y_passwordRead.cls ≠ "java/lang/invoke/VarHandle" ∧ (parseMethodDescriptor y_passwordRead.desc).map (fun d => d.parameters.length) = some 2 := by decide +kernel
theorem kx_findName : Cond.selects R_M y_findName y_findName ∈ lw_tg := List.mem_filter.mpr ⟨List.mem_append_left _ (List.mem_of_getElem? (i := 76) (by decide +kernel)), rfl⟩
theorem hd_findName : y_findName.cls = R_M ∧ y_findName.cls ≠ "java/lang/invoke/MethodHandle" ∧ y_findName.cls ≠ "java/lang/invoke/VarHandle" ∧ (parseMethodDescriptor y_findName.desc).map (fun d => d.parameters.length) = some 0 := by decide +kernel
theorem kx_setKeys : Cond.selects R_M y_setKeys y_setKeys ∈ lw_tg := List.mem_filter.mpr ⟨List.mem_append_left _ (List.mem_of_getElem? (i := 77) (by decide +kernel)), rfl⟩
theorem hd_setKeys : y_setKeys.cls = R_M ∧ y_setKeys.cls ≠ "java/lang/invoke/MethodHandle" ∧ y_setKeys.cls ≠ "java/lang/invoke/VarHandle" ∧ (parseMethodDescriptor y_setKeys.desc).map (fun d => d.parameters.length) = some 2 := by decide +kernel
set_option maxHeartbeats 4000000 in
set_option maxRecDepth 100000 in
theorem c_saltOf_names (l : Launch) (D : mD) (E : mE) (h : Nat) (q : Nat → Nat) (sz : Nat) (I : Nat → Int32) (J : Nat → Int64) (B : Nat → Nat → Int32) (G : Nat → Nat → Int64) (a n : Nat) (han : a + n ≤ 480) (hn : n ≤ 40) : Met l y_saltOf (k_saltOf :: lw_tg) (mR 4 85) (va_Pc [.ref h, .ref (q 44), .int (nI a), .int (nI n)] (mPre D E h q (I, J, B, G) sz)) (va_Qv (fun (u : mS) => (∀ j, j ≠ 29 → u.1 j = I j) ∧ u.2.1 = J ∧ (∀ j, j ≠ 24 → u.2.2.1 j = B j) ∧ u.2.2.2 = G ∧ (∃ sm, sm ≤ 5 + n ∧ u.1 29 = nI sm)) (mPost D E h q (mA E h q sz)) (mA E h q sz)) 0 0 (mA E h q sz) := by
  refine m_enter (by decide) rfl (Nat.le_of_ble_eq_true rfl) (fun p e s m below meth c ls AV QQ H locs hQQ X Y hZ hA hr hlk hml hl => ?_)
  have Y : mH D E (mA E h q sz) s.heap h q I J B G H locs := Y
  have hl : lv_has ls 6 [(0, .ref h), (1, .ref (q 44)), (2, .int (nI a)), (3, .int (nI n))] := hl
  refine m_ldcSW (i := 2) X (by decide) (by decide) d_saltOf_0 ?_
  refine lv_astore (lv' := [(4, .ref (D.2.1 2)), (0, .ref h), (1, .ref (q 44)), (2, .int (nI a)), (3, .int (nI n))]) X.1 X.2.1 d_saltOf_3 hl (by decide) rfl (fun ls hl => ?_)
  refine lv_aload_n X.1 X.2.1 d_saltOf_5 rfl (lv_at hl 1 rfl) ?_
  refine lv_iconst (v := (nI 0)) X.1 X.2.1 d_saltOf_6 (by decide) ?_
  refine m_puti X Y 29 (by decide) lk_saltMany rfl rfl (t_M_ok 29 (by decide)) rfl rfl (sf_saltMany _ _ _ _) (Nat.le_of_ble_eq_true rfl) d_saltOf_7 (fun H locs Y => ?_)
  refine lv_iconst (v := (nI 0)) X.1 X.2.1 d_saltOf_10 (by decide) ?_
  refine lv_istore (lv' := [(5, .int (nI 0)), (4, .ref (D.2.1 2)), (0, .ref h), (1, .ref (q 44)), (2, .int (nI a)), (3, .int (nI n))]) X.1 X.2.1 d_saltOf_11 hl (by decide) rfl (fun ls hl => ?_)
  have lp4 : ∀ (n1 i2 : Nat) (B5 : Nat → Nat → Int32) (H : Heap) (locs : List Loc) (ls : Array Slot), i2 + n1 = 5 → 0 ≤ i2 → (∀ j, j ≠ 24 → B5 j = B j) → mH D E (mA E h q sz) s.heap h q (upd I 29 (nI 0)) J B5 G H locs → lv_has ls 6 [(5, .int (nI i2)), (4, .ref (D.2.1 2)), (0, .ref h), (1, .ref (q 44)), (2, .int (nI a)), (3, .int (nI n))] → W p l e (mR 4 85) s m AV below meth c H locs 0 0 QQ (F0 m 13 ls []) := by
    intro n1
    induction n1 with
    | zero =>
      intro i2 B5 H locs ls hii2 hsi2 hB6  Y hl
      refine lv_iload X.1 X.2.1 d_saltOf_13 (lv_at hl 0 rfl) ?_
      refine lv_iconst (v := (nI 5)) X.1 X.2.1 d_saltOf_15 (by decide) ?_
      refine lv_icmp_ge (tgt := 40) X.1 X.2.1 d_saltOf_16 (by decide) (fun c7 => ?_) (fun c7 => absurd ?_ c7)
      rotate_left
      · (rw [nI_leI (by omega) (by omega)] <;> omega)
      rw [nI_leI (by omega) (by omega)] at c7
      refine lv_aload_n X.1 X.2.1 d_saltOf_40 rfl (lv_at hl 2 rfl) ?_
      refine lv_iconst (v := (nI 5)) X.1 X.2.1 d_saltOf_41 (by decide) ?_
      refine m_puti X Y 29 (by decide) lk_saltMany rfl rfl (t_M_ok 29 (by decide)) rfl rfl (sf_saltMany _ _ _ _) (Nat.le_of_ble_eq_true rfl) d_saltOf_42 (fun H locs Y => ?_)
      refine lv_iconst (v := (nI 0)) X.1 X.2.1 d_saltOf_45 (by decide) ?_
      refine lv_istore (lv' := [(5, .int (nI 0)), (4, .ref (D.2.1 2)), (0, .ref h), (1, .ref (q 44)), (2, .int (nI a)), (3, .int (nI n))]) X.1 X.2.1 d_saltOf_46 hl (by decide) rfl (fun ls hl => ?_)
      have lp11 : ∀ (n8 i9 : Nat) (I12 : Nat → Int32) (B13 : Nat → Nat → Int32) (H : Heap) (locs : List Loc) (ls : Array Slot), i9 + n8 = n → 0 ≤ i9 → (∀ j, j ≠ 24 → B13 j = B j) → (∀ j, j ≠ 29 → I12 j = I j) → (∃ sm, sm ≤ 5 + i9 ∧ I12 29 = nI sm) → mH D E (mA E h q sz) s.heap h q I12 J B13 G H locs → lv_has ls 6 [(5, .int (nI i9)), (4, .ref (D.2.1 2)), (0, .ref h), (1, .ref (q 44)), (2, .int (nI a)), (3, .int (nI n))] → W p l e (mR 4 85) s m AV below meth c H locs 0 0 QQ (F0 m 48 ls []) := by
        intro n8
        induction n8 with
        | zero =>
          intro i9 I12 B13 H locs ls hii9 hsi9 hB14 hI15 hsm Y hl
          refine lv_iload X.1 X.2.1 d_saltOf_48 (lv_at hl 0 rfl) ?_
          refine lv_iload_n X.1 X.2.1 d_saltOf_50 rfl (lv_at hl 5 rfl) ?_
          refine lv_icmp_ge (tgt := 99) X.1 X.2.1 d_saltOf_51 (by decide) (fun c16 => ?_) (fun c16 => absurd ?_ c16)
          rotate_left
          · (rw [nI_leI (by omega) (by omega)] <;> omega)
          rw [nI_leI (by omega) (by omega)] at c16
          exact m_retv hQQ X Y hr hlk ⟨(fun j h29 => (hI15 j h29)), rfl, (fun j h24 => (hB14 j h24)), rfl, (by obtain ⟨sm, h1, h2⟩ := hsm; exact ⟨sm, by omega, h2⟩)⟩ d_saltOf_99
        | succ n8 ih10 =>
          intro i9 I12 B13 H locs ls hii9 hsi9 hB14 hI15 hsm Y hl
          refine lv_iload X.1 X.2.1 d_saltOf_48 (lv_at hl 0 rfl) ?_
          refine lv_iload_n X.1 X.2.1 d_saltOf_50 rfl (lv_at hl 5 rfl) ?_
          refine lv_icmp_ge (tgt := 99) X.1 X.2.1 d_saltOf_51 (by decide) (fun c17 => absurd c17 ?_) (fun c17 => ?_)
          · (rw [nI_leI (by omega) (by omega)] <;> omega)
          rw [nI_leI (by omega) (by omega)] at c17
          obtain ⟨sm, hsm1, hsm2⟩ := hsm
          refine lv_aload_n X.1 X.2.1 d_saltOf_54 rfl (lv_at hl 3 rfl) ?_
          refine lv_iload_n X.1 X.2.1 d_saltOf_55 rfl (lv_at hl 4 rfl) ?_
          refine lv_iload X.1 X.2.1 d_saltOf_56 (lv_at hl 0 rfl) ?_
          refine lv_iadd X.1 X.2.1 d_saltOf_58 ?_
          refine t_eq (y := nI (a + i9)) (nI_add _ _) ?_
          refine m_bald X Y (aw_names _ _ _ _ _ _ _) (vp_in_nI (by omega) (by decide)) d_saltOf_59 ?_
          refine t_any (fun v18 => ?_)
          refine lv_bipush (v := (nI 47)) X.1 X.2.1 d_saltOf_60 (by decide) ?_
          refine lv_icmp_ne (tgt := 68) X.1 X.2.1 d_saltOf_62 (by decide) (fun c19 => ?_) (fun c19 => ?_)
          · skip
            refine lv_aload_n X.1 X.2.1 d_saltOf_68 rfl (lv_at hl 2 rfl) ?_
            refine m_get X Y 24 (by decide) lk_salt (gf_salt _ _ _) rfl d_saltOf_69 ?_
            refine lv_aload_n X.1 X.2.1 d_saltOf_72 rfl (lv_at hl 2 rfl) ?_
            refine m_get X Y 29 (by decide) lk_saltMany (gf_saltMany _ _ _) rfl d_saltOf_73 ?_
            refine t_eq (show I12 29 = nI (sm) from hsm2) ?_
            refine lv_aload_n X.1 X.2.1 d_saltOf_76 rfl (lv_at hl 3 rfl) ?_
            refine lv_iload_n X.1 X.2.1 d_saltOf_77 rfl (lv_at hl 4 rfl) ?_
            refine lv_iload X.1 X.2.1 d_saltOf_78 (lv_at hl 0 rfl) ?_
            refine lv_iadd X.1 X.2.1 d_saltOf_80 ?_
            refine t_eq (y := nI (a + i9)) (nI_add _ _) ?_
            refine m_bald X Y (aw_names _ _ _ _ _ _ _) (vp_in_nI (by omega) (by decide)) d_saltOf_81 ?_
            refine t_any (fun v20 => ?_)
            refine m_bast X Y (aw_salt _ _ _ _ _ _ _) (vp_in_nI (by omega) (by decide)) (sw_salt _ _ _ _ _ _ _ _) d_saltOf_82 (fun H locs Y => ?_)
            generalize (upd (B13 24) ((nI (sm))).toNatClampNeg (vp_nar .byte v20)) = f21 at Y
            refine lv_aload_n X.1 X.2.1 d_saltOf_83 rfl (lv_at hl 2 rfl) ?_
            refine lv_dup X.1 X.2.1 d_saltOf_84 rfl ?_
            refine m_get X Y 29 (by decide) lk_saltMany (gf_saltMany _ _ _) rfl d_saltOf_85 ?_
            refine t_eq (show I12 29 = nI (sm) from hsm2) ?_
            refine lv_iconst (v := (nI 1)) X.1 X.2.1 d_saltOf_88 (by decide) ?_
            refine lv_iadd X.1 X.2.1 d_saltOf_89 ?_
            refine t_eq (y := nI (sm + 1)) (nI_add _ _) ?_
            refine m_puti X Y 29 (by decide) lk_saltMany rfl rfl (t_M_ok 29 (by decide)) rfl rfl (sf_saltMany _ _ _ _) (Nat.le_of_ble_eq_true rfl) d_saltOf_90 (fun H locs Y => ?_)
            refine lv_iinc (v := (nI (i9 + 1))) (lv' := [(5, .int (nI (i9 + 1))), (4, .ref (D.2.1 2)), (0, .ref h), (1, .ref (q 44)), (2, .int (nI a)), (3, .int (nI n))]) X.1 X.2.1 d_saltOf_93 hl (k := 0) rfl (nI_add _ 1) (by decide) rfl (fun ls hl => ?_)
            refine lv_goto (tgt := 48) X.1 X.2.1 d_saltOf_96 (by decide) ?_
            exact ih10 (i9 + 1) (upd I12 29 (nI (sm + 1))) (upB B13 24 f21) _ _ _ (by omega) (by omega) (fun j h24 => ((if_neg h24).trans (hB14 j h24))) (fun j h29 => ((if_neg h29).trans (hI15 j h29))) ⟨sm + 1, by omega, (show (upd I12 29 (nI (sm + 1))) 29 = nI (sm + 1) from pk_us)⟩ Y (lv_sub hl [0, 1, 2, 3, 4, 5] rfl)
          · skip
            refine lv_goto (tgt := 93) X.1 X.2.1 d_saltOf_65 (by decide) ?_
            refine lv_iinc (v := (nI (i9 + 1))) (lv' := [(5, .int (nI (i9 + 1))), (4, .ref (D.2.1 2)), (0, .ref h), (1, .ref (q 44)), (2, .int (nI a)), (3, .int (nI n))]) X.1 X.2.1 d_saltOf_93 hl (k := 0) rfl (nI_add _ 1) (by decide) rfl (fun ls hl => ?_)
            refine lv_goto (tgt := 48) X.1 X.2.1 d_saltOf_96 (by decide) ?_
            exact ih10 (i9 + 1) I12 B13 _ _ _ (by omega) (by omega) (fun j h24 => (hB14 j h24)) (fun j h29 => (hI15 j h29)) ⟨sm, by omega, (show I12 29 = nI (sm) from hsm2)⟩ Y (lv_sub hl [0, 1, 2, 3, 4, 5] rfl)
      exact lp11 (n) 0 (upd (upd I 29 (nI 0)) 29 (nI 5)) B5 _ _ _ (by omega) (by omega) (fun j h24 => (hB6 j h24)) (fun j h29 => ((if_neg h29).trans ((if_neg h29).trans rfl))) ⟨5, by omega, (show (upd (upd I 29 (nI 0)) 29 (nI 5)) 29 = nI (5) from pk_us)⟩ Y (lv_sub hl [0, 1, 2, 3, 4, 5] rfl)
    | succ n1 ih3 =>
      intro i2 B5 H locs ls hii2 hsi2 hB6  Y hl
      refine lv_iload X.1 X.2.1 d_saltOf_13 (lv_at hl 0 rfl) ?_
      refine lv_iconst (v := (nI 5)) X.1 X.2.1 d_saltOf_15 (by decide) ?_
      refine lv_icmp_ge (tgt := 40) X.1 X.2.1 d_saltOf_16 (by decide) (fun c22 => absurd c22 ?_) (fun c22 => ?_)
      · (rw [nI_leI (by omega) (by omega)] <;> omega)
      rw [nI_leI (by omega) (by omega)] at c22
      refine lv_aload_n X.1 X.2.1 d_saltOf_19 rfl (lv_at hl 2 rfl) ?_
      refine m_get X Y 24 (by decide) lk_salt (gf_salt _ _ _) rfl d_saltOf_20 ?_
      refine lv_iload X.1 X.2.1 d_saltOf_23 (lv_at hl 0 rfl) ?_
      refine lv_aload X.1 X.2.1 d_saltOf_25 (lv_at hl 1 rfl) ?_
      refine lv_iload X.1 X.2.1 d_saltOf_27 (lv_at hl 0 rfl) ?_
      refine m_charAt (i := 2) (k := i2) X Y hZ (by decide) (show i2 < 5 by omega) hml hl.1 ⟨by decide, by decide⟩ (Nat.le_of_ble_eq_true rfl) d_saltOf_29 ⟨Nat.le_refl _, Nat.le_refl _⟩ (fun H locs Y => ?_)
      refine t_any (fun v23 => ?_)
      obtain ⟨v24, ev24⟩ : ∃ z : Int32, (v23 : Int32).toInt8.toInt32 = z := ⟨_, rfl⟩
      refine lv_i2b (v := v24) X.1 X.2.1 d_saltOf_32 ev24 ?_
      refine m_bast X Y (aw_salt _ _ _ _ _ _ _) (vp_in_nI (by omega) (by decide)) (sw_salt _ _ _ _ _ _ _ _) d_saltOf_33 (fun H locs Y => ?_)
      generalize (upd (B5 24) ((nI i2)).toNatClampNeg (vp_nar .byte v24)) = f25 at Y
      refine lv_iinc (v := (nI (i2 + 1))) (lv' := [(5, .int (nI (i2 + 1))), (4, .ref (D.2.1 2)), (0, .ref h), (1, .ref (q 44)), (2, .int (nI a)), (3, .int (nI n))]) X.1 X.2.1 d_saltOf_34 hl (k := 0) rfl (nI_add _ 1) (by decide) rfl (fun ls hl => ?_)
      refine lv_goto (tgt := 13) X.1 X.2.1 d_saltOf_37 (by decide) ?_
      exact ih3 (i2 + 1) (upB B5 24 f25) _ _ _ (by omega) (by omega) (fun j h24 => ((if_neg h24).trans (hB6 j h24)))  Y (lv_sub hl [0, 1, 2, 3, 4, 5] rfl)
  exact lp4 (5) 0 B _ _ _ (by omega) (by omega) (fun j h24 => rfl)  Y (lv_sub hl [0, 1, 2, 3, 4, 5] rfl)
set_option maxHeartbeats 4000000 in
set_option maxRecDepth 100000 in
theorem c_saltOf_name (l : Launch) (D : mD) (E : mE) (h : Nat) (q : Nat → Nat) (sz : Nat) (I : Nat → Int32) (J : Nat → Int64) (B : Nat → Nat → Int32) (G : Nat → Nat → Int64) (a n : Nat) (han : a + n ≤ 40) (hn : n ≤ 40) : Met l y_saltOf (k_saltOf :: lw_tg) (mR 4 85) (va_Pc [.ref h, .ref (q 53), .int (nI a), .int (nI n)] (mPre D E h q (I, J, B, G) sz)) (va_Qv (fun (u : mS) => (∀ j, j ≠ 29 → u.1 j = I j) ∧ u.2.1 = J ∧ (∀ j, j ≠ 24 → u.2.2.1 j = B j) ∧ u.2.2.2 = G ∧ (∃ sm, sm ≤ 5 + n ∧ u.1 29 = nI sm)) (mPost D E h q (mA E h q sz)) (mA E h q sz)) 0 0 (mA E h q sz) := by
  refine m_enter (by decide) rfl (Nat.le_of_ble_eq_true rfl) (fun p e s m below meth c ls AV QQ H locs hQQ X Y hZ hA hr hlk hml hl => ?_)
  have Y : mH D E (mA E h q sz) s.heap h q I J B G H locs := Y
  have hl : lv_has ls 6 [(0, .ref h), (1, .ref (q 53)), (2, .int (nI a)), (3, .int (nI n))] := hl
  refine m_ldcSW (i := 2) X (by decide) (by decide) d_saltOf_0 ?_
  refine lv_astore (lv' := [(4, .ref (D.2.1 2)), (0, .ref h), (1, .ref (q 53)), (2, .int (nI a)), (3, .int (nI n))]) X.1 X.2.1 d_saltOf_3 hl (by decide) rfl (fun ls hl => ?_)
  refine lv_aload_n X.1 X.2.1 d_saltOf_5 rfl (lv_at hl 1 rfl) ?_
  refine lv_iconst (v := (nI 0)) X.1 X.2.1 d_saltOf_6 (by decide) ?_
  refine m_puti X Y 29 (by decide) lk_saltMany rfl rfl (t_M_ok 29 (by decide)) rfl rfl (sf_saltMany _ _ _ _) (Nat.le_of_ble_eq_true rfl) d_saltOf_7 (fun H locs Y => ?_)
  refine lv_iconst (v := (nI 0)) X.1 X.2.1 d_saltOf_10 (by decide) ?_
  refine lv_istore (lv' := [(5, .int (nI 0)), (4, .ref (D.2.1 2)), (0, .ref h), (1, .ref (q 53)), (2, .int (nI a)), (3, .int (nI n))]) X.1 X.2.1 d_saltOf_11 hl (by decide) rfl (fun ls hl => ?_)
  have lp4 : ∀ (n1 i2 : Nat) (B5 : Nat → Nat → Int32) (H : Heap) (locs : List Loc) (ls : Array Slot), i2 + n1 = 5 → 0 ≤ i2 → (∀ j, j ≠ 24 → B5 j = B j) → mH D E (mA E h q sz) s.heap h q (upd I 29 (nI 0)) J B5 G H locs → lv_has ls 6 [(5, .int (nI i2)), (4, .ref (D.2.1 2)), (0, .ref h), (1, .ref (q 53)), (2, .int (nI a)), (3, .int (nI n))] → W p l e (mR 4 85) s m AV below meth c H locs 0 0 QQ (F0 m 13 ls []) := by
    intro n1
    induction n1 with
    | zero =>
      intro i2 B5 H locs ls hii2 hsi2 hB6  Y hl
      refine lv_iload X.1 X.2.1 d_saltOf_13 (lv_at hl 0 rfl) ?_
      refine lv_iconst (v := (nI 5)) X.1 X.2.1 d_saltOf_15 (by decide) ?_
      refine lv_icmp_ge (tgt := 40) X.1 X.2.1 d_saltOf_16 (by decide) (fun c7 => ?_) (fun c7 => absurd ?_ c7)
      rotate_left
      · (rw [nI_leI (by omega) (by omega)] <;> omega)
      rw [nI_leI (by omega) (by omega)] at c7
      refine lv_aload_n X.1 X.2.1 d_saltOf_40 rfl (lv_at hl 2 rfl) ?_
      refine lv_iconst (v := (nI 5)) X.1 X.2.1 d_saltOf_41 (by decide) ?_
      refine m_puti X Y 29 (by decide) lk_saltMany rfl rfl (t_M_ok 29 (by decide)) rfl rfl (sf_saltMany _ _ _ _) (Nat.le_of_ble_eq_true rfl) d_saltOf_42 (fun H locs Y => ?_)
      refine lv_iconst (v := (nI 0)) X.1 X.2.1 d_saltOf_45 (by decide) ?_
      refine lv_istore (lv' := [(5, .int (nI 0)), (4, .ref (D.2.1 2)), (0, .ref h), (1, .ref (q 53)), (2, .int (nI a)), (3, .int (nI n))]) X.1 X.2.1 d_saltOf_46 hl (by decide) rfl (fun ls hl => ?_)
      have lp11 : ∀ (n8 i9 : Nat) (I12 : Nat → Int32) (B13 : Nat → Nat → Int32) (H : Heap) (locs : List Loc) (ls : Array Slot), i9 + n8 = n → 0 ≤ i9 → (∀ j, j ≠ 24 → B13 j = B j) → (∀ j, j ≠ 29 → I12 j = I j) → (∃ sm, sm ≤ 5 + i9 ∧ I12 29 = nI sm) → mH D E (mA E h q sz) s.heap h q I12 J B13 G H locs → lv_has ls 6 [(5, .int (nI i9)), (4, .ref (D.2.1 2)), (0, .ref h), (1, .ref (q 53)), (2, .int (nI a)), (3, .int (nI n))] → W p l e (mR 4 85) s m AV below meth c H locs 0 0 QQ (F0 m 48 ls []) := by
        intro n8
        induction n8 with
        | zero =>
          intro i9 I12 B13 H locs ls hii9 hsi9 hB14 hI15 hsm Y hl
          refine lv_iload X.1 X.2.1 d_saltOf_48 (lv_at hl 0 rfl) ?_
          refine lv_iload_n X.1 X.2.1 d_saltOf_50 rfl (lv_at hl 5 rfl) ?_
          refine lv_icmp_ge (tgt := 99) X.1 X.2.1 d_saltOf_51 (by decide) (fun c16 => ?_) (fun c16 => absurd ?_ c16)
          rotate_left
          · (rw [nI_leI (by omega) (by omega)] <;> omega)
          rw [nI_leI (by omega) (by omega)] at c16
          exact m_retv hQQ X Y hr hlk ⟨(fun j h29 => (hI15 j h29)), rfl, (fun j h24 => (hB14 j h24)), rfl, (by obtain ⟨sm, h1, h2⟩ := hsm; exact ⟨sm, by omega, h2⟩)⟩ d_saltOf_99
        | succ n8 ih10 =>
          intro i9 I12 B13 H locs ls hii9 hsi9 hB14 hI15 hsm Y hl
          refine lv_iload X.1 X.2.1 d_saltOf_48 (lv_at hl 0 rfl) ?_
          refine lv_iload_n X.1 X.2.1 d_saltOf_50 rfl (lv_at hl 5 rfl) ?_
          refine lv_icmp_ge (tgt := 99) X.1 X.2.1 d_saltOf_51 (by decide) (fun c17 => absurd c17 ?_) (fun c17 => ?_)
          · (rw [nI_leI (by omega) (by omega)] <;> omega)
          rw [nI_leI (by omega) (by omega)] at c17
          obtain ⟨sm, hsm1, hsm2⟩ := hsm
          refine lv_aload_n X.1 X.2.1 d_saltOf_54 rfl (lv_at hl 3 rfl) ?_
          refine lv_iload_n X.1 X.2.1 d_saltOf_55 rfl (lv_at hl 4 rfl) ?_
          refine lv_iload X.1 X.2.1 d_saltOf_56 (lv_at hl 0 rfl) ?_
          refine lv_iadd X.1 X.2.1 d_saltOf_58 ?_
          refine t_eq (y := nI (a + i9)) (nI_add _ _) ?_
          refine m_bald X Y (aw_name _ _ _ _ _ _ _) (vp_in_nI (by omega) (by decide)) d_saltOf_59 ?_
          refine t_any (fun v18 => ?_)
          refine lv_bipush (v := (nI 47)) X.1 X.2.1 d_saltOf_60 (by decide) ?_
          refine lv_icmp_ne (tgt := 68) X.1 X.2.1 d_saltOf_62 (by decide) (fun c19 => ?_) (fun c19 => ?_)
          · skip
            refine lv_aload_n X.1 X.2.1 d_saltOf_68 rfl (lv_at hl 2 rfl) ?_
            refine m_get X Y 24 (by decide) lk_salt (gf_salt _ _ _) rfl d_saltOf_69 ?_
            refine lv_aload_n X.1 X.2.1 d_saltOf_72 rfl (lv_at hl 2 rfl) ?_
            refine m_get X Y 29 (by decide) lk_saltMany (gf_saltMany _ _ _) rfl d_saltOf_73 ?_
            refine t_eq (show I12 29 = nI (sm) from hsm2) ?_
            refine lv_aload_n X.1 X.2.1 d_saltOf_76 rfl (lv_at hl 3 rfl) ?_
            refine lv_iload_n X.1 X.2.1 d_saltOf_77 rfl (lv_at hl 4 rfl) ?_
            refine lv_iload X.1 X.2.1 d_saltOf_78 (lv_at hl 0 rfl) ?_
            refine lv_iadd X.1 X.2.1 d_saltOf_80 ?_
            refine t_eq (y := nI (a + i9)) (nI_add _ _) ?_
            refine m_bald X Y (aw_name _ _ _ _ _ _ _) (vp_in_nI (by omega) (by decide)) d_saltOf_81 ?_
            refine t_any (fun v20 => ?_)
            refine m_bast X Y (aw_salt _ _ _ _ _ _ _) (vp_in_nI (by omega) (by decide)) (sw_salt _ _ _ _ _ _ _ _) d_saltOf_82 (fun H locs Y => ?_)
            generalize (upd (B13 24) ((nI (sm))).toNatClampNeg (vp_nar .byte v20)) = f21 at Y
            refine lv_aload_n X.1 X.2.1 d_saltOf_83 rfl (lv_at hl 2 rfl) ?_
            refine lv_dup X.1 X.2.1 d_saltOf_84 rfl ?_
            refine m_get X Y 29 (by decide) lk_saltMany (gf_saltMany _ _ _) rfl d_saltOf_85 ?_
            refine t_eq (show I12 29 = nI (sm) from hsm2) ?_
            refine lv_iconst (v := (nI 1)) X.1 X.2.1 d_saltOf_88 (by decide) ?_
            refine lv_iadd X.1 X.2.1 d_saltOf_89 ?_
            refine t_eq (y := nI (sm + 1)) (nI_add _ _) ?_
            refine m_puti X Y 29 (by decide) lk_saltMany rfl rfl (t_M_ok 29 (by decide)) rfl rfl (sf_saltMany _ _ _ _) (Nat.le_of_ble_eq_true rfl) d_saltOf_90 (fun H locs Y => ?_)
            refine lv_iinc (v := (nI (i9 + 1))) (lv' := [(5, .int (nI (i9 + 1))), (4, .ref (D.2.1 2)), (0, .ref h), (1, .ref (q 53)), (2, .int (nI a)), (3, .int (nI n))]) X.1 X.2.1 d_saltOf_93 hl (k := 0) rfl (nI_add _ 1) (by decide) rfl (fun ls hl => ?_)
            refine lv_goto (tgt := 48) X.1 X.2.1 d_saltOf_96 (by decide) ?_
            exact ih10 (i9 + 1) (upd I12 29 (nI (sm + 1))) (upB B13 24 f21) _ _ _ (by omega) (by omega) (fun j h24 => ((if_neg h24).trans (hB14 j h24))) (fun j h29 => ((if_neg h29).trans (hI15 j h29))) ⟨sm + 1, by omega, (show (upd I12 29 (nI (sm + 1))) 29 = nI (sm + 1) from pk_us)⟩ Y (lv_sub hl [0, 1, 2, 3, 4, 5] rfl)
          · skip
            refine lv_goto (tgt := 93) X.1 X.2.1 d_saltOf_65 (by decide) ?_
            refine lv_iinc (v := (nI (i9 + 1))) (lv' := [(5, .int (nI (i9 + 1))), (4, .ref (D.2.1 2)), (0, .ref h), (1, .ref (q 53)), (2, .int (nI a)), (3, .int (nI n))]) X.1 X.2.1 d_saltOf_93 hl (k := 0) rfl (nI_add _ 1) (by decide) rfl (fun ls hl => ?_)
            refine lv_goto (tgt := 48) X.1 X.2.1 d_saltOf_96 (by decide) ?_
            exact ih10 (i9 + 1) I12 B13 _ _ _ (by omega) (by omega) (fun j h24 => (hB14 j h24)) (fun j h29 => (hI15 j h29)) ⟨sm, by omega, (show I12 29 = nI (sm) from hsm2)⟩ Y (lv_sub hl [0, 1, 2, 3, 4, 5] rfl)
      exact lp11 (n) 0 (upd (upd I 29 (nI 0)) 29 (nI 5)) B5 _ _ _ (by omega) (by omega) (fun j h24 => (hB6 j h24)) (fun j h29 => ((if_neg h29).trans ((if_neg h29).trans rfl))) ⟨5, by omega, (show (upd (upd I 29 (nI 0)) 29 (nI 5)) 29 = nI (5) from pk_us)⟩ Y (lv_sub hl [0, 1, 2, 3, 4, 5] rfl)
    | succ n1 ih3 =>
      intro i2 B5 H locs ls hii2 hsi2 hB6  Y hl
      refine lv_iload X.1 X.2.1 d_saltOf_13 (lv_at hl 0 rfl) ?_
      refine lv_iconst (v := (nI 5)) X.1 X.2.1 d_saltOf_15 (by decide) ?_
      refine lv_icmp_ge (tgt := 40) X.1 X.2.1 d_saltOf_16 (by decide) (fun c22 => absurd c22 ?_) (fun c22 => ?_)
      · (rw [nI_leI (by omega) (by omega)] <;> omega)
      rw [nI_leI (by omega) (by omega)] at c22
      refine lv_aload_n X.1 X.2.1 d_saltOf_19 rfl (lv_at hl 2 rfl) ?_
      refine m_get X Y 24 (by decide) lk_salt (gf_salt _ _ _) rfl d_saltOf_20 ?_
      refine lv_iload X.1 X.2.1 d_saltOf_23 (lv_at hl 0 rfl) ?_
      refine lv_aload X.1 X.2.1 d_saltOf_25 (lv_at hl 1 rfl) ?_
      refine lv_iload X.1 X.2.1 d_saltOf_27 (lv_at hl 0 rfl) ?_
      refine m_charAt (i := 2) (k := i2) X Y hZ (by decide) (show i2 < 5 by omega) hml hl.1 ⟨by decide, by decide⟩ (Nat.le_of_ble_eq_true rfl) d_saltOf_29 ⟨Nat.le_refl _, Nat.le_refl _⟩ (fun H locs Y => ?_)
      refine t_any (fun v23 => ?_)
      obtain ⟨v24, ev24⟩ : ∃ z : Int32, (v23 : Int32).toInt8.toInt32 = z := ⟨_, rfl⟩
      refine lv_i2b (v := v24) X.1 X.2.1 d_saltOf_32 ev24 ?_
      refine m_bast X Y (aw_salt _ _ _ _ _ _ _) (vp_in_nI (by omega) (by decide)) (sw_salt _ _ _ _ _ _ _ _) d_saltOf_33 (fun H locs Y => ?_)
      generalize (upd (B5 24) ((nI i2)).toNatClampNeg (vp_nar .byte v24)) = f25 at Y
      refine lv_iinc (v := (nI (i2 + 1))) (lv' := [(5, .int (nI (i2 + 1))), (4, .ref (D.2.1 2)), (0, .ref h), (1, .ref (q 53)), (2, .int (nI a)), (3, .int (nI n))]) X.1 X.2.1 d_saltOf_34 hl (k := 0) rfl (nI_add _ 1) (by decide) rfl (fun ls hl => ?_)
      refine lv_goto (tgt := 13) X.1 X.2.1 d_saltOf_37 (by decide) ?_
      exact ih3 (i2 + 1) (upB B5 24 f25) _ _ _ (by omega) (by omega) (fun j h24 => ((if_neg h24).trans (hB6 j h24)))  Y (lv_sub hl [0, 1, 2, 3, 4, 5] rfl)
  exact lp4 (5) 0 B _ _ _ (by omega) (by omega) (fun j h24 => rfl)  Y (lv_sub hl [0, 1, 2, 3, 4, 5] rfl)
set_option maxHeartbeats 4000000 in
set_option maxRecDepth 100000 in
theorem c_passwordRead (l : Launch) (D : mD) (E : mE) (h : Nat) (q : Nat → Nat) (sz : Nat) (I : Nat → Int32) (J : Nat → Int64) (B : Nat → Nat → Int32) (G : Nat → Nat → Int64) (a b : Nat) (hab : a ≤ b) (hb : b ≤ 4000) : Met l y_passwordRead (k_passwordRead :: lw_tg) (mR 0 0) (va_Pc [.ref h, .int (nI a), .int (nI b)] (mPre D E h q (I, J, B, G) sz)) (va_Qi (fun (r : Int32) (u : mS) => (∀ j, j ≠ 30 → u.1 j = I j) ∧ u.2.1 = J ∧ (∀ j, j ≠ 25 → u.2.2.1 j = B j) ∧ u.2.2.2 = G ∧ u.1 30 = nI (b - a) ∧ ((r = nI 0 ∨ r = nI 1) ∧ (r = nI 1 → b - a ≤ 20) ∧ (a = b → r = nI 1))) (mPost D E h q (mA E h q sz)) (mA E h q sz)) 0 0 (mA E h q sz) := by
  refine m_enter (by decide) rfl (Nat.le_of_ble_eq_true rfl) (fun p e s m below meth c ls AV QQ H locs hQQ X Y hZ hA hr hlk hml hl => ?_)
  have Y : mH D E (mA E h q sz) s.heap h q I J B G H locs := Y
  have hl : lv_has ls 4 [(0, .ref h), (1, .int (nI a)), (2, .int (nI b))] := hl
  refine lv_aload_n X.1 X.2.1 d_passwordRead_0 rfl (lv_at hl 0 rfl) ?_
  refine lv_iload_n X.1 X.2.1 d_passwordRead_1 rfl (lv_at hl 2 rfl) ?_
  refine lv_iload_n X.1 X.2.1 d_passwordRead_2 rfl (lv_at hl 1 rfl) ?_
  refine lv_isub X.1 X.2.1 d_passwordRead_3 ?_
  refine t_eq (y := nI (b - (a))) (pk_sub (by omega)) ?_
  refine m_puti X Y 30 (by decide) lk_passwordMany rfl rfl (t_M_ok 30 (by decide)) rfl rfl (sf_passwordMany _ _ _ _) (Nat.le_of_ble_eq_true rfl) d_passwordRead_4 (fun H locs Y => ?_)
  refine lv_aload_n X.1 X.2.1 d_passwordRead_7 rfl (lv_at hl 0 rfl) ?_
  refine m_get X Y 30 (by decide) lk_passwordMany (gf_passwordMany _ _ _) rfl d_passwordRead_8 ?_
  refine t_eq (show (upd I 30 (nI (b - (a)))) 30 = nI (b - (a)) from pk_us) ?_
  refine lv_bipush (v := (nI 20)) X.1 X.2.1 d_passwordRead_11 (by decide) ?_
  refine lv_icmp_le (tgt := 18) X.1 X.2.1 d_passwordRead_13 (by decide) (fun c1 => ?_) (fun c1 => ?_)
  · skip
    rw [nI_leI (by omega) (by omega)] at c1
    refine lv_iload_n X.1 X.2.1 d_passwordRead_18 rfl (lv_at hl 1 rfl) ?_
    refine lv_istore_n (lv' := [(3, .int (nI a)), (0, .ref h), (1, .int (nI a)), (2, .int (nI b))]) X.1 X.2.1 d_passwordRead_19 rfl hl (by decide) rfl (fun ls hl => ?_)
    have lp5 : ∀ (n2 i3 : Nat) (B6 : Nat → Nat → Int32) (H : Heap) (locs : List Loc) (ls : Array Slot), i3 + n2 = b → a ≤ i3 → (∀ j, j ≠ 25 → B6 j = B j) → mH D E (mA E h q sz) s.heap h q (upd I 30 (nI (b - (a)))) J B6 G H locs → lv_has ls 4 [(3, .int (nI i3)), (0, .ref h), (1, .int (nI a)), (2, .int (nI b))] → W p l e (mR 0 0) s m AV below meth c H locs 0 0 QQ (F0 m 20 ls []) := by
      intro n2
      induction n2 with
      | zero =>
        intro i3 B6 H locs ls hii3 hsi3 hB7  Y hl
        refine lv_iload_n X.1 X.2.1 d_passwordRead_20 rfl (lv_at hl 0 rfl) ?_
        refine lv_iload_n X.1 X.2.1 d_passwordRead_21 rfl (lv_at hl 3 rfl) ?_
        refine lv_icmp_ge (tgt := 69) X.1 X.2.1 d_passwordRead_22 (by decide) (fun c8 => ?_) (fun c8 => absurd ?_ c8)
        rotate_left
        · (rw [nI_leI (by omega) (by omega)] <;> omega)
        rw [nI_leI (by omega) (by omega)] at c8
        refine lv_iconst (v := (nI 1)) X.1 X.2.1 d_passwordRead_69 (by decide) ?_
        exact m_retz hQQ X Y hr hlk rfl ⟨(fun j h30 => ((if_neg h30).trans rfl)), rfl, (fun j h25 => (hB7 j h25)), rfl, (show (upd I 30 (nI (b - (a)))) 30 = nI (b - a) from (show (upd I 30 (nI (b - (a)))) 30 = nI (b - (a)) from pk_us).trans (congrArg nI (show (b - (a) : Nat) = b - a by omega))), ⟨Or.inr rfl, fun _ => by omega, fun _ => rfl⟩⟩ d_passwordRead_70
      | succ n2 ih4 =>
        intro i3 B6 H locs ls hii3 hsi3 hB7  Y hl
        refine lv_iload_n X.1 X.2.1 d_passwordRead_20 rfl (lv_at hl 0 rfl) ?_
        refine lv_iload_n X.1 X.2.1 d_passwordRead_21 rfl (lv_at hl 3 rfl) ?_
        refine lv_icmp_ge (tgt := 69) X.1 X.2.1 d_passwordRead_22 (by decide) (fun c9 => absurd c9 ?_) (fun c9 => ?_)
        · (rw [nI_leI (by omega) (by omega)] <;> omega)
        rw [nI_leI (by omega) (by omega)] at c9
        refine lv_aload_n X.1 X.2.1 d_passwordRead_25 rfl (lv_at hl 1 rfl) ?_
        refine m_get X Y 0 (by decide) lk_mem (gf_mem _ _ _) rfl d_passwordRead_26 ?_
        refine lv_iload_n X.1 X.2.1 d_passwordRead_29 rfl (lv_at hl 0 rfl) ?_
        refine m_bald X Y (aw_mem _ _ _ _ _ _ _) (vp_in_nI (by omega) (by decide)) d_passwordRead_30 ?_
        refine t_any (fun v10 => ?_)
        refine lv_bipush (v := (nI 32)) X.1 X.2.1 d_passwordRead_31 (by decide) ?_
        refine lv_icmp_lt (tgt := 47) X.1 X.2.1 d_passwordRead_33 (by decide) (fun c11 => ?_) (fun c11 => ?_)
        · skip
          refine lv_iconst (v := (nI 0)) X.1 X.2.1 d_passwordRead_47 (by decide) ?_
          exact m_retz hQQ X Y hr hlk rfl ⟨(fun j h30 => ((if_neg h30).trans rfl)), rfl, (fun j h25 => (hB7 j h25)), rfl, (show (upd I 30 (nI (b - (a)))) 30 = nI (b - a) from (show (upd I 30 (nI (b - (a)))) 30 = nI (b - (a)) from pk_us).trans (congrArg nI (show (b - (a) : Nat) = b - a by omega))), ⟨Or.inl rfl, fun h9 => absurd h9 (by decide), fun h9 => absurd h9 (by omega)⟩⟩ d_passwordRead_48
        · skip
          refine lv_aload_n X.1 X.2.1 d_passwordRead_36 rfl (lv_at hl 1 rfl) ?_
          refine m_get X Y 0 (by decide) lk_mem (gf_mem _ _ _) rfl d_passwordRead_37 ?_
          refine lv_iload_n X.1 X.2.1 d_passwordRead_40 rfl (lv_at hl 0 rfl) ?_
          refine m_bald X Y (aw_mem _ _ _ _ _ _ _) (vp_in_nI (by omega) (by decide)) d_passwordRead_41 ?_
          refine t_any (fun v12 => ?_)
          refine lv_bipush (v := (nI 126)) X.1 X.2.1 d_passwordRead_42 (by decide) ?_
          refine lv_icmp_le (tgt := 49) X.1 X.2.1 d_passwordRead_44 (by decide) (fun c13 => ?_) (fun c13 => ?_)
          · skip
            refine lv_aload_n X.1 X.2.1 d_passwordRead_49 rfl (lv_at hl 1 rfl) ?_
            refine m_get X Y 25 (by decide) lk_password (gf_password _ _ _) rfl d_passwordRead_50 ?_
            refine lv_iload_n X.1 X.2.1 d_passwordRead_53 rfl (lv_at hl 0 rfl) ?_
            refine lv_iload_n X.1 X.2.1 d_passwordRead_54 rfl (lv_at hl 2 rfl) ?_
            refine lv_isub X.1 X.2.1 d_passwordRead_55 ?_
            refine t_eq (y := nI (i3 - (a))) (pk_sub (by omega)) ?_
            refine lv_aload_n X.1 X.2.1 d_passwordRead_56 rfl (lv_at hl 1 rfl) ?_
            refine m_get X Y 0 (by decide) lk_mem (gf_mem _ _ _) rfl d_passwordRead_57 ?_
            refine lv_iload_n X.1 X.2.1 d_passwordRead_60 rfl (lv_at hl 0 rfl) ?_
            refine m_bald X Y (aw_mem _ _ _ _ _ _ _) (vp_in_nI (by omega) (by decide)) d_passwordRead_61 ?_
            refine t_any (fun v14 => ?_)
            refine m_bast X Y (aw_password _ _ _ _ _ _ _) (vp_in_nI (by omega) (by decide)) (sw_password _ _ _ _ _ _ _ _) d_passwordRead_62 (fun H locs Y => ?_)
            generalize (upd (B6 25) ((nI (i3 - (a)))).toNatClampNeg (vp_nar .byte v14)) = f15 at Y
            refine lv_iinc (v := (nI (i3 + 1))) (lv' := [(3, .int (nI (i3 + 1))), (0, .ref h), (1, .int (nI a)), (2, .int (nI b))]) X.1 X.2.1 d_passwordRead_63 hl (k := 0) rfl (nI_add _ 1) (by decide) rfl (fun ls hl => ?_)
            refine lv_goto (tgt := 20) X.1 X.2.1 d_passwordRead_66 (by decide) ?_
            exact ih4 (i3 + 1) (upB B6 25 f15) _ _ _ (by omega) (by omega) (fun j h25 => ((if_neg h25).trans (hB7 j h25)))  Y (lv_sub hl [0, 1, 2, 3] rfl)
          · skip
            refine lv_iconst (v := (nI 0)) X.1 X.2.1 d_passwordRead_47 (by decide) ?_
            exact m_retz hQQ X Y hr hlk rfl ⟨(fun j h30 => ((if_neg h30).trans rfl)), rfl, (fun j h25 => (hB7 j h25)), rfl, (show (upd I 30 (nI (b - (a)))) 30 = nI (b - a) from (show (upd I 30 (nI (b - (a)))) 30 = nI (b - (a)) from pk_us).trans (congrArg nI (show (b - (a) : Nat) = b - a by omega))), ⟨Or.inl rfl, fun h9 => absurd h9 (by decide), fun h9 => absurd h9 (by omega)⟩⟩ d_passwordRead_48
    exact lp5 (b - a) a B _ _ _ (by omega) (by omega) (fun j h25 => rfl)  Y (lv_sub hl [0, 1, 2, 3] rfl)
  · skip
    rw [nI_leI (by omega) (by omega)] at c1
    refine lv_iconst (v := (nI 0)) X.1 X.2.1 d_passwordRead_16 (by decide) ?_
    exact m_retz hQQ X Y hr hlk rfl ⟨(fun j h30 => ((if_neg h30).trans rfl)), rfl, (fun j h25 => rfl), rfl, (show (upd I 30 (nI (b - (a)))) 30 = nI (b - a) from (show (upd I 30 (nI (b - (a)))) 30 = nI (b - (a)) from pk_us).trans (congrArg nI (show (b - (a) : Nat) = b - a by omega))), ⟨Or.inl rfl, fun h9 => absurd h9 (by decide), fun h9 => absurd h9 (by omega)⟩⟩ d_passwordRead_17
