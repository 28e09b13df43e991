/-! The reference as one world: the object and its arrays. q k: where the array of field k lies; I, J: its numbers by field; B, G: its arrays by field. -/
def mFs (q : Nat → Nat) (I : Nat → Int32) (J : Nat → Int64) : List Value := [.ref (q 0), .ref (q 1), .int (I 2), .int (I 3), .int (I 4), .ref (q 5), .ref (q 6), .ref (q 7), .int (I 8), .ref (q 9), .ref (q 10), .ref (q 11), .ref (q 12), .ref (q 13), .int (I 14), .ref (q 15), .ref (q 16), .ref (q 17), .int (I 18), .ref (q 19), .ref (q 20), .ref (q 21), .ref (q 22), .ref (q 23), .ref (q 24), .ref (q 25), .ref (q 26), .ref (q 27), .ref (q 28), .int (I 29), .int (I 30), .ref (q 31), .int (I 32), .int (I 33), .ref (q 34), .ref (q 35), .int (I 36), .ref (q 37), .ref (q 38), .int (I 39), .int (I 40), .long (J 41), .int (I 42), .int (I 43), .ref (q 44), .ref (q 45), .ref (q 46), .ref (q 47), .ref (q 48), .ref (q 49), .ref (q 50), .ref (q 51), .ref (q 52), .ref (q 53), .int (I 54), .int (I 55), .ref (q 56), .int (I 57), .ref (q 58), .ref (q 59), .ref (q 60), .ref (q 61), .ref (q 62), .ref (q 63), .ref (q 64), .ref (q 65), .int (I 66), .int (I 67), .int (I 68), .int (I 69), .int (I 70), .int (I 71), .int (I 72), .int (I 73), .int (I 74), .int (I 75), .int (I 76), .int (I 77), .int (I 78), .int (I 79), .int (I 80), .int (I 81), .long (J 82), .long (J 83), .int (I 84), .int (I 85), .int (I 86), .int (I 87), .int (I 88), .int (I 89), .ref (q 90), .ref (q 91), .ref (q 92), .ref (q 93), .ref (q 94), .ref (q 95), .ref (q 96), .ref (q 97), .ref (q 98), .ref (q 99), .ref (q 100), .ref (q 101), .ref (q 102), .ref (q 103), .ref (q 104), .ref (q 105), .ref (q 106), .ref (q 107), .ref (q 108), .ref (q 109), .ref (q 110), .ref (q 111), .ref (q 112), .ref (q 113), .ref (q 114), .ref (q 115), .ref (q 116), .ref (q 117), .ref (q 118), .ref (q 119), .ref (q 120), .ref (q 121), .ref (q 122), .ref (q 123), .ref (q 124), .ref (q 125), .ref (q 126), .ref (q 127), .ref (q 128), .ref (q 129), .ref (q 130), .int (I 131), .ref (q 132), .ref (q 133), .ref (q 134), .ref (q 135), .ref (q 136), .ref (q 137), .ref (q 138), .ref (q 139), .ref (q 140), .ref (q 141), .ref (q 142), .ref (q 143), .ref (q 144)]
def mAs (cB cI cJ cZ : ClassId) (q : Nat → Nat) (B : Nat → Nat → Int32) (G : Nat → Nat → Int64) : va_W := [(q 0, .inl (cB, 60000, .inl (B 0))), (q 1, .inl (cB, 20000, .inl (B 1))), (q 5, .inl (cI, 5, .inl (B 5))), (q 6, .inl (cI, 80, .inl (B 6))), (q 7, .inl (cB, 64, .inl (B 7))), (q 9, .inl (cB, 20, .inl (B 9))), (q 10, .inl (cB, 20, .inl (B 10))), (q 11, .inl (cB, 64, .inl (B 11))), (q 12, .inl (cI, 256, .inl (B 12))), (q 13, .inl (cI, 256, .inl (B 13))), (q 15, .inl (cI, 60, .inl (B 15))), (q 16, .inl (cI, 16, .inl (B 16))), (q 17, .inl (cI, 16, .inl (B 17))), (q 19, .inl (cB, 16, .inl (B 19))), (q 20, .inl (cB, 32, .inl (B 20))), (q 21, .inl (cI, 16, .inl (B 21))), (q 22, .inl (cB, 5, .inl (B 22))), (q 23, .inl (cB, 32, .inl (B 23))), (q 24, .inl (cB, 60, .inl (B 24))), (q 25, .inl (cB, 30, .inl (B 25))), (q 26, .inl (cB, 20, .inl (B 26))), (q 27, .inl (cB, 40, .inl (B 27))), (q 28, .inl (cB, 8, .inl (B 28))), (q 31, .inl (cB, 64, .inl (B 31))), (q 34, .inl (cB, 20000, .inl (B 34))), (q 35, .inl (cB, 20000, .inl (B 35))), (q 37, .inl (cI, 192, .inl (B 37))), (q 38, .inl (cI, 192, .inl (B 38))), (q 44, .inl (cB, 480, .inl (B 44))), (q 45, .inl (cI, 12, .inl (B 45))), (q 46, .inl (cI, 12, .inl (B 46))), (q 47, .inl (cI, 12, .inl (B 47))), (q 48, .inl (cI, 12, .inl (B 48))), (q 49, .inl (cI, 12, .inl (B 49))), (q 50, .inl (cI, 12, .inl (B 50))), (q 51, .inl (cI, 12, .inl (B 51))), (q 52, .inl (cB, 1536, .inl (B 52))), (q 53, .inl (cB, 40, .inl (B 53))), (q 56, .inl (cB, 32, .inl (B 56))), (q 58, .inl (cB, 32, .inl (B 58))), (q 59, .inl (cB, 32, .inl (B 59))), (q 60, .inl (cB, 32, .inl (B 60))), (q 61, .inl (cB, 18304, .inl (B 61))), (q 62, .inl (cI, 416, .inl (B 62))), (q 63, .inl (cI, 416, .inl (B 63))), (q 64, .inl (cI, 13, .inl (B 64))), (q 65, .inl (cJ, 416, .inr (.inl (G 65)))), (q 90, .inl (cB, 4, .inl (B 90))), (q 91, .inl (cZ, 4, .inl (B 91))), (q 92, .inl (cB, 160, .inl (B 92))), (q 93, .inl (cI, 4, .inl (B 93))), (q 94, .inl (cI, 4, .inl (B 94))), (q 95, .inl (cI, 4, .inl (B 95))), (q 96, .inl (cB, 256, .inl (B 96))), (q 97, .inl (cZ, 32, .inl (B 97))), (q 98, .inl (cB, 134400, .inl (B 98))), (q 99, .inl (cB, 1024, .inl (B 99))), (q 100, .inl (cI, 32, .inl (B 100))), (q 101, .inl (cI, 32, .inl (B 101))), (q 102, .inl (cI, 32, .inl (B 102))), (q 103, .inl (cJ, 32, .inr (.inl (G 103)))), (q 104, .inl (cJ, 32, .inr (.inl (G 104)))), (q 105, .inl (cJ, 32, .inr (.inl (G 105)))), (q 106, .inl (cJ, 32, .inr (.inl (G 106)))), (q 107, .inl (cB, 12800, .inl (B 107))), (q 108, .inl (cI, 32, .inl (B 108))), (q 109, .inl (cI, 32, .inl (B 109))), (q 110, .inl (cI, 4, .inl (B 110))), (q 111, .inl (cI, 4, .inl (B 111))), (q 112, .inl (cI, 4, .inl (B 112))), (q 113, .inl (cI, 4, .inl (B 113))), (q 114, .inl (cJ, 4, .inr (.inl (G 114)))), (q 115, .inl (cZ, 4, .inl (B 115))), (q 116, .inl (cB, 128, .inl (B 116))), (q 117, .inl (cB, 160, .inl (B 117))), (q 118, .inl (cB, 1600, .inl (B 118))), (q 119, .inl (cI, 4, .inl (B 119))), (q 120, .inl (cI, 4, .inl (B 120))), (q 121, .inl (cZ, 4, .inl (B 121))), (q 122, .inl (cI, 4, .inl (B 122))), (q 123, .inl (cI, 4, .inl (B 123))), (q 124, .inl (cI, 4, .inl (B 124))), (q 125, .inl (cI, 4, .inl (B 125))), (q 126, .inl (cB, 128, .inl (B 126))), (q 127, .inl (cB, 128, .inl (B 127))), (q 128, .inl (cJ, 4, .inr (.inl (G 128)))), (q 129, .inl (cJ, 4, .inr (.inl (G 129)))), (q 130, .inl (cJ, 4, .inr (.inl (G 130)))), (q 132, .inl (cB, 12, .inl (B 132))), (q 133, .inl (cZ, 8, .inl (B 133))), (q 134, .inl (cI, 8, .inl (B 134))), (q 135, .inl (cI, 8, .inl (B 135))), (q 136, .inl (cB, 256, .inl (B 136))), (q 137, .inl (cJ, 16, .inr (.inl (G 137)))), (q 138, .inl (cJ, 16, .inr (.inl (G 138)))), (q 139, .inl (cJ, 8, .inr (.inl (G 139)))), (q 140, .inl (cJ, 8, .inr (.inl (G 140)))), (q 141, .inl (cI, 8, .inl (B 141))), (q 142, .inl (cI, 8, .inl (B 142))), (q 143, .inl (cB, 256, .inl (B 143))), (q 144, .inl (cB, 4, .inl (B 144)))]
def mW (E : ClassId × ClassId × ClassId × ClassId) (h : Nat) (q : Nat → Nat) (I : Nat → Int32) (J : Nat → Int64) (B : Nat → Nat → Int32) (G : Nat → Nat → Int64) : va_W := (h, .inr (0, mFs q I J)) :: mAs E.1 E.2.1 E.2.2.1 E.2.2.2 q B G
def mTy (E : ClassId × ClassId × ClassId × ClassId) : List (ClassId × FieldType) := [(E.1, .byte), (E.2.1, .int), (E.2.2.1, .long), (E.2.2.2, .boolean)]
abbrev mCl : List vw_C := [(R_M, F_M, 145)]
def upB (B : Nat → Nat → Int32) (k : Nat) (f : Nat → Int32) : Nat → Nat → Int32 := fun j => if j = k then f else B j
def upG (G : Nat → Nat → Int64) (k : Nat) (f : Nat → Int64) : Nat → Nat → Int64 := fun j => if j = k then f else G j
theorem upB_s (B : Nat → Nat → Int32) (k : Nat) (f : Nat → Int32) : upB B k f k = f := if_pos rfl
theorem upB_n {B : Nat → Nat → Int32} {k j : Nat} {f : Nat → Int32} (h : j ≠ k) : upB B k f j = B j := if_neg h
theorem gf_mem (q : Nat → Nat) (I : Nat → Int32) (J : Nat → Int64) : (mFs q I J)[0]? = some (.ref (q 0)) := rfl
theorem gf_outs (q : Nat → Nat) (I : Nat → Int32) (J : Nat → Int64) : (mFs q I J)[1]? = some (.ref (q 1)) := rfl
theorem gf_length (q : Nat → Nat) (I : Nat → Int32) (J : Nat → Int64) : (mFs q I J)[2]? = some (.int (I 2)) := rfl
set_option maxRecDepth 20000 in
theorem sf_length (q : Nat → Nat) (I : Nat → Int32) (J : Nat → Int64) (v : Int32) : (mFs q I J).set 2 (.int v) = mFs q (upd I 2 v) J := rfl
theorem gf_outMany (q : Nat → Nat) (I : Nat → Int32) (J : Nat → Int64) : (mFs q I J)[3]? = some (.int (I 3)) := rfl
set_option maxRecDepth 20000 in
theorem sf_outMany (q : Nat → Nat) (I : Nat → Int32) (J : Nat → Int64) (v : Int32) : (mFs q I J).set 3 (.int v) = mFs q (upd I 3 v) J := rfl
theorem gf_now (q : Nat → Nat) (I : Nat → Int32) (J : Nat → Int64) : (mFs q I J)[4]? = some (.int (I 4)) := rfl
set_option maxRecDepth 20000 in
theorem sf_now (q : Nat → Nat) (I : Nat → Int32) (J : Nat → Int64) (v : Int32) : (mFs q I J).set 4 (.int v) = mFs q (upd I 4 v) J := rfl
theorem gf_h (q : Nat → Nat) (I : Nat → Int32) (J : Nat → Int64) : (mFs q I J)[5]? = some (.ref (q 5)) := rfl
theorem gf_w (q : Nat → Nat) (I : Nat → Int32) (J : Nat → Int64) : (mFs q I J)[6]? = some (.ref (q 6)) := rfl
theorem gf_block (q : Nat → Nat) (I : Nat → Int32) (J : Nat → Int64) : (mFs q I J)[7]? = some (.ref (q 7)) := rfl
theorem gf_hashed (q : Nat → Nat) (I : Nat → Int32) (J : Nat → Int64) : (mFs q I J)[8]? = some (.int (I 8)) := rfl
set_option maxRecDepth 20000 in
theorem sf_hashed (q : Nat → Nat) (I : Nat → Int32) (J : Nat → Int64) (v : Int32) : (mFs q I J).set 8 (.int v) = mFs q (upd I 8 v) J := rfl
theorem gf_inner (q : Nat → Nat) (I : Nat → Int32) (J : Nat → Int64) : (mFs q I J)[9]? = some (.ref (q 9)) := rfl
theorem gf_mac (q : Nat → Nat) (I : Nat → Int32) (J : Nat → Int64) : (mFs q I J)[10]? = some (.ref (q 10)) := rfl
theorem gf_macKey (q : Nat → Nat) (I : Nat → Int32) (J : Nat → Int64) : (mFs q I J)[11]? = some (.ref (q 11)) := rfl
theorem gf_box (q : Nat → Nat) (I : Nat → Int32) (J : Nat → Int64) : (mFs q I J)[12]? = some (.ref (q 12)) := rfl
theorem gf_back (q : Nat → Nat) (I : Nat → Int32) (J : Nat → Int64) : (mFs q I J)[13]? = some (.ref (q 13)) := rfl
theorem gf_hasBox (q : Nat → Nat) (I : Nat → Int32) (J : Nat → Int64) : (mFs q I J)[14]? = some (.int (I 14)) := rfl
set_option maxRecDepth 20000 in
theorem sf_hasBox (q : Nat → Nat) (I : Nat → Int32) (J : Nat → Int64) (v : Int32) : (mFs q I J).set 14 (.int v) = mFs q (upd I 14 v) J := rfl
theorem gf_schedule (q : Nat → Nat) (I : Nat → Int32) (J : Nat → Int64) : (mFs q I J)[15]? = some (.ref (q 15)) := rfl
theorem gf_state (q : Nat → Nat) (I : Nat → Int32) (J : Nat → Int64) : (mFs q I J)[16]? = some (.ref (q 16)) := rfl
theorem gf_other (q : Nat → Nat) (I : Nat → Int32) (J : Nat → Int64) : (mFs q I J)[17]? = some (.ref (q 17)) := rfl
theorem gf_rounds (q : Nat → Nat) (I : Nat → Int32) (J : Nat → Int64) : (mFs q I J)[18]? = some (.int (I 18)) := rfl
set_option maxRecDepth 20000 in
theorem sf_rounds (q : Nat → Nat) (I : Nat → Int32) (J : Nat → Int64) (v : Int32) : (mFs q I J).set 18 (.int v) = mFs q (upd I 18 v) J := rfl
theorem gf_fold (q : Nat → Nat) (I : Nat → Int32) (J : Nat → Int64) : (mFs q I J)[19]? = some (.ref (q 19)) := rfl
theorem gf_derived (q : Nat → Nat) (I : Nat → Int32) (J : Nat → Int64) : (mFs q I J)[20]? = some (.ref (q 20)) := rfl
theorem gf_folding (q : Nat → Nat) (I : Nat → Int32) (J : Nat → Int64) : (mFs q I J)[21]? = some (.ref (q 21)) := rfl
theorem gf_constant (q : Nat → Nat) (I : Nat → Int32) (J : Nat → Int64) : (mFs q I J)[22]? = some (.ref (q 22)) := rfl
theorem gf_use (q : Nat → Nat) (I : Nat → Int32) (J : Nat → Int64) : (mFs q I J)[23]? = some (.ref (q 23)) := rfl
theorem gf_salt (q : Nat → Nat) (I : Nat → Int32) (J : Nat → Int64) : (mFs q I J)[24]? = some (.ref (q 24)) := rfl
theorem gf_password (q : Nat → Nat) (I : Nat → Int32) (J : Nat → Int64) : (mFs q I J)[25]? = some (.ref (q 25)) := rfl
theorem gf_mixed (q : Nat → Nat) (I : Nat → Int32) (J : Nat → Int64) : (mFs q I J)[26]? = some (.ref (q 26)) := rfl
theorem gf_long0 (q : Nat → Nat) (I : Nat → Int32) (J : Nat → Int64) : (mFs q I J)[27]? = some (.ref (q 27)) := rfl
theorem gf_kerberos (q : Nat → Nat) (I : Nat → Int32) (J : Nat → Int64) : (mFs q I J)[28]? = some (.ref (q 28)) := rfl
theorem gf_saltMany (q : Nat → Nat) (I : Nat → Int32) (J : Nat → Int64) : (mFs q I J)[29]? = some (.int (I 29)) := rfl
set_option maxRecDepth 20000 in
theorem sf_saltMany (q : Nat → Nat) (I : Nat → Int32) (J : Nat → Int64) (v : Int32) : (mFs q I J).set 29 (.int v) = mFs q (upd I 29 v) J := rfl
theorem gf_passwordMany (q : Nat → Nat) (I : Nat → Int32) (J : Nat → Int64) : (mFs q I J)[30]? = some (.int (I 30)) := rfl
set_option maxRecDepth 20000 in
theorem sf_passwordMany (q : Nat → Nat) (I : Nat → Int32) (J : Nat → Int64) (v : Int32) : (mFs q I J).set 30 (.int v) = mFs q (upd I 30 v) J := rfl
theorem gf_seed (q : Nat → Nat) (I : Nat → Int32) (J : Nat → Int64) : (mFs q I J)[31]? = some (.ref (q 31)) := rfl
theorem gf_seedMany (q : Nat → Nat) (I : Nat → Int32) (J : Nat → Int64) : (mFs q I J)[32]? = some (.int (I 32)) := rfl
set_option maxRecDepth 20000 in
theorem sf_seedMany (q : Nat → Nat) (I : Nat → Int32) (J : Nat → Int64) (v : Int32) : (mFs q I J).set 32 (.int v) = mFs q (upd I 32 v) J := rfl
theorem gf_coin (q : Nat → Nat) (I : Nat → Int32) (J : Nat → Int64) : (mFs q I J)[33]? = some (.int (I 33)) := rfl
set_option maxRecDepth 20000 in
theorem sf_coin (q : Nat → Nat) (I : Nat → Int32) (J : Nat → Int64) (v : Int32) : (mFs q I J).set 33 (.int v) = mFs q (upd I 33 v) J := rfl
theorem gf_text (q : Nat → Nat) (I : Nat → Int32) (J : Nat → Int64) : (mFs q I J)[34]? = some (.ref (q 34)) := rfl
theorem gf_secret (q : Nat → Nat) (I : Nat → Int32) (J : Nat → Int64) : (mFs q I J)[35]? = some (.ref (q 35)) := rfl
theorem gf_secretMany (q : Nat → Nat) (I : Nat → Int32) (J : Nat → Int64) : (mFs q I J)[36]? = some (.int (I 36)) := rfl
set_option maxRecDepth 20000 in
theorem sf_secretMany (q : Nat → Nat) (I : Nat → Int32) (J : Nat → Int64) (v : Int32) : (mFs q I J).set 36 (.int v) = mFs q (upd I 36 v) J := rfl
theorem gf_from (q : Nat → Nat) (I : Nat → Int32) (J : Nat → Int64) : (mFs q I J)[37]? = some (.ref (q 37)) := rfl
theorem gf_to (q : Nat → Nat) (I : Nat → Int32) (J : Nat → Int64) : (mFs q I J)[38]? = some (.ref (q 38)) := rfl
theorem gf_inside (q : Nat → Nat) (I : Nat → Int32) (J : Nat → Int64) : (mFs q I J)[39]? = some (.int (I 39)) := rfl
set_option maxRecDepth 20000 in
theorem sf_inside (q : Nat → Nat) (I : Nat → Int32) (J : Nat → Int64) (v : Int32) : (mFs q I J).set 39 (.int v) = mFs q (upd I 39 v) J := rfl
theorem gf_behind (q : Nat → Nat) (I : Nat → Int32) (J : Nat → Int64) : (mFs q I J)[40]? = some (.int (I 40)) := rfl
set_option maxRecDepth 20000 in
theorem sf_behind (q : Nat → Nat) (I : Nat → Int32) (J : Nat → Int64) (v : Int32) : (mFs q I J).set 40 (.int v) = mFs q (upd I 40 v) J := rfl
theorem gf_value (q : Nat → Nat) (I : Nat → Int32) (J : Nat → Int64) : (mFs q I J)[41]? = some (.long (J 41)) := rfl
set_option maxRecDepth 20000 in
theorem sf_value (q : Nat → Nat) (I : Nat → Int32) (J : Nat → Int64) (v : Int64) : (mFs q I J).set 41 (.long v) = mFs q I (vp_updL J 41 v) := rfl
theorem gf_w0 (q : Nat → Nat) (I : Nat → Int32) (J : Nat → Int64) : (mFs q I J)[42]? = some (.int (I 42)) := rfl
set_option maxRecDepth 20000 in
theorem sf_w0 (q : Nat → Nat) (I : Nat → Int32) (J : Nat → Int64) (v : Int32) : (mFs q I J).set 42 (.int v) = mFs q (upd I 42 v) J := rfl
theorem gf_principals (q : Nat → Nat) (I : Nat → Int32) (J : Nat → Int64) : (mFs q I J)[43]? = some (.int (I 43)) := rfl
set_option maxRecDepth 20000 in
theorem sf_principals (q : Nat → Nat) (I : Nat → Int32) (J : Nat → Int64) (v : Int32) : (mFs q I J).set 43 (.int v) = mFs q (upd I 43 v) J := rfl
theorem gf_names (q : Nat → Nat) (I : Nat → Int32) (J : Nat → Int64) : (mFs q I J)[44]? = some (.ref (q 44)) := rfl
theorem gf_nameSizes (q : Nat → Nat) (I : Nat → Int32) (J : Nat → Int64) : (mFs q I J)[45]? = some (.ref (q 45)) := rfl
theorem gf_versions (q : Nat → Nat) (I : Nat → Int32) (J : Nat → Int64) : (mFs q I J)[46]? = some (.ref (q 46)) := rfl
theorem gf_counts (q : Nat → Nat) (I : Nat → Int32) (J : Nat → Int64) : (mFs q I J)[47]? = some (.ref (q 47)) := rfl
theorem gf_lifes (q : Nat → Nat) (I : Nat → Int32) (J : Nat → Int64) : (mFs q I J)[48]? = some (.ref (q 48)) := rfl
theorem gf_renews (q : Nat → Nat) (I : Nat → Int32) (J : Nat → Int64) : (mFs q I J)[49]? = some (.ref (q 49)) := rfl
theorem gf_flags (q : Nat → Nat) (I : Nat → Int32) (J : Nat → Int64) : (mFs q I J)[50]? = some (.ref (q 50)) := rfl
theorem gf_ends (q : Nat → Nat) (I : Nat → Int32) (J : Nat → Int64) : (mFs q I J)[51]? = some (.ref (q 51)) := rfl
theorem gf_keys (q : Nat → Nat) (I : Nat → Int32) (J : Nat → Int64) : (mFs q I J)[52]? = some (.ref (q 52)) := rfl
theorem gf_name (q : Nat → Nat) (I : Nat → Int32) (J : Nat → Int64) : (mFs q I J)[53]? = some (.ref (q 53)) := rfl
theorem gf_nameSize (q : Nat → Nat) (I : Nat → Int32) (J : Nat → Int64) : (mFs q I J)[54]? = some (.int (I 54)) := rfl
set_option maxRecDepth 20000 in
theorem sf_nameSize (q : Nat → Nat) (I : Nat → Int32) (J : Nat → Int64) (v : Int32) : (mFs q I J).set 54 (.int v) = mFs q (upd I 54 v) J := rfl
theorem gf_colon (q : Nat → Nat) (I : Nat → Int32) (J : Nat → Int64) : (mFs q I J)[55]? = some (.int (I 55)) := rfl
set_option maxRecDepth 20000 in
theorem sf_colon (q : Nat → Nat) (I : Nat → Int32) (J : Nat → Int64) (v : Int32) : (mFs q I J).set 55 (.int v) = mFs q (upd I 55 v) J := rfl
theorem gf_made (q : Nat → Nat) (I : Nat → Int32) (J : Nat → Int64) : (mFs q I J)[56]? = some (.ref (q 56)) := rfl
theorem gf_most (q : Nat → Nat) (I : Nat → Int32) (J : Nat → Int64) : (mFs q I J)[57]? = some (.int (I 57)) := rfl
set_option maxRecDepth 20000 in
theorem sf_most (q : Nat → Nat) (I : Nat → Int32) (J : Nat → Int64) (v : Int32) : (mFs q I J).set 57 (.int v) = mFs q (upd I 57 v) J := rfl
theorem gf_key (q : Nat → Nat) (I : Nat → Int32) (J : Nat → Int64) : (mFs q I J)[58]? = some (.ref (q 58)) := rfl
theorem gf_sub (q : Nat → Nat) (I : Nat → Int32) (J : Nat → Int64) : (mFs q I J)[59]? = some (.ref (q 59)) := rfl
theorem gf_fresh (q : Nat → Nat) (I : Nat → Int32) (J : Nat → Int64) : (mFs q I J)[60]? = some (.ref (q 60)) := rfl
theorem gf_seenNames (q : Nat → Nat) (I : Nat → Int32) (J : Nat → Int64) : (mFs q I J)[61]? = some (.ref (q 61)) := rfl
theorem gf_seenSizes (q : Nat → Nat) (I : Nat → Int32) (J : Nat → Int64) : (mFs q I J)[62]? = some (.ref (q 62)) := rfl
theorem gf_seenMicros (q : Nat → Nat) (I : Nat → Int32) (J : Nat → Int64) : (mFs q I J)[63]? = some (.ref (q 63)) := rfl
theorem gf_seenMany (q : Nat → Nat) (I : Nat → Int32) (J : Nat → Int64) : (mFs q I J)[64]? = some (.ref (q 64)) := rfl
theorem gf_seenTimes (q : Nat → Nat) (I : Nat → Int32) (J : Nat → Int64) : (mFs q I J)[65]? = some (.ref (q 65)) := rfl
theorem gf_dataMany (q : Nat → Nat) (I : Nat → Int32) (J : Nat → Int64) : (mFs q I J)[66]? = some (.int (I 66)) := rfl
set_option maxRecDepth 20000 in
theorem sf_dataMany (q : Nat → Nat) (I : Nat → Int32) (J : Nat → Int64) (v : Int32) : (mFs q I J).set 66 (.int v) = mFs q (upd I 66 v) J := rfl
theorem gf_isRead (q : Nat → Nat) (I : Nat → Int32) (J : Nat → Int64) : (mFs q I J)[67]? = some (.int (I 67)) := rfl
set_option maxRecDepth 20000 in
theorem sf_isRead (q : Nat → Nat) (I : Nat → Int32) (J : Nat → Int64) (v : Int32) : (mFs q I J).set 67 (.int v) = mFs q (upd I 67 v) J := rfl
theorem gf_hasData (q : Nat → Nat) (I : Nat → Int32) (J : Nat → Int64) : (mFs q I J)[68]? = some (.int (I 68)) := rfl
set_option maxRecDepth 20000 in
theorem sf_hasData (q : Nat → Nat) (I : Nat → Int32) (J : Nat → Int64) (v : Int32) : (mFs q I J).set 68 (.int v) = mFs q (upd I 68 v) J := rfl
theorem gf_isAs (q : Nat → Nat) (I : Nat → Int32) (J : Nat → Int64) : (mFs q I J)[69]? = some (.int (I 69)) := rfl
set_option maxRecDepth 20000 in
theorem sf_isAs (q : Nat → Nat) (I : Nat → Int32) (J : Nat → Int64) (v : Int32) : (mFs q I J).set 69 (.int v) = mFs q (upd I 69 v) J := rfl
theorem gf_dataFor (q : Nat → Nat) (I : Nat → Int32) (J : Nat → Int64) : (mFs q I J)[70]? = some (.int (I 70)) := rfl
set_option maxRecDepth 20000 in
theorem sf_dataFor (q : Nat → Nat) (I : Nat → Int32) (J : Nat → Int64) (v : Int32) : (mFs q I J).set 70 (.int v) = mFs q (upd I 70 v) J := rfl
theorem gf_dataFirst (q : Nat → Nat) (I : Nat → Int32) (J : Nat → Int64) : (mFs q I J)[71]? = some (.int (I 71)) := rfl
set_option maxRecDepth 20000 in
theorem sf_dataFirst (q : Nat → Nat) (I : Nat → Int32) (J : Nat → Int64) (v : Int32) : (mFs q I J).set 71 (.int v) = mFs q (upd I 71 v) J := rfl
theorem gf_dataBoth (q : Nat → Nat) (I : Nat → Int32) (J : Nat → Int64) : (mFs q I J)[72]? = some (.int (I 72)) := rfl
set_option maxRecDepth 20000 in
theorem sf_dataBoth (q : Nat → Nat) (I : Nat → Int32) (J : Nat → Int64) (v : Int32) : (mFs q I J).set 72 (.int v) = mFs q (upd I 72 v) J := rfl
theorem gf_nthAt (q : Nat → Nat) (I : Nat → Int32) (J : Nat → Int64) : (mFs q I J)[73]? = some (.int (I 73)) := rfl
set_option maxRecDepth 20000 in
theorem sf_nthAt (q : Nat → Nat) (I : Nat → Int32) (J : Nat → Int64) (v : Int32) : (mFs q I J).set 73 (.int v) = mFs q (upd I 73 v) J := rfl
theorem gf_nthEnd (q : Nat → Nat) (I : Nat → Int32) (J : Nat → Int64) : (mFs q I J)[74]? = some (.int (I 74)) := rfl
set_option maxRecDepth 20000 in
theorem sf_nthEnd (q : Nat → Nat) (I : Nat → Int32) (J : Nat → Int64) (v : Int32) : (mFs q I J).set 74 (.int v) = mFs q (upd I 74 v) J := rfl
theorem gf_client (q : Nat → Nat) (I : Nat → Int32) (J : Nat → Int64) : (mFs q I J)[75]? = some (.int (I 75)) := rfl
set_option maxRecDepth 20000 in
theorem sf_client (q : Nat → Nat) (I : Nat → Int32) (J : Nat → Int64) (v : Int32) : (mFs q I J).set 75 (.int v) = mFs q (upd I 75 v) J := rfl
theorem gf_service (q : Nat → Nat) (I : Nat → Int32) (J : Nat → Int64) : (mFs q I J)[76]? = some (.int (I 76)) := rfl
set_option maxRecDepth 20000 in
theorem sf_service (q : Nat → Nat) (I : Nat → Int32) (J : Nat → Int64) (v : Int32) : (mFs q I J).set 76 (.int v) = mFs q (upd I 76 v) J := rfl
theorem gf_type (q : Nat → Nat) (I : Nat → Int32) (J : Nat → Int64) : (mFs q I J)[77]? = some (.int (I 77)) := rfl
set_option maxRecDepth 20000 in
theorem sf_type (q : Nat → Nat) (I : Nat → Int32) (J : Nat → Int64) (v : Int32) : (mFs q I J).set 77 (.int v) = mFs q (upd I 77 v) J := rfl
theorem gf_shown (q : Nat → Nat) (I : Nat → Int32) (J : Nat → Int64) : (mFs q I J)[78]? = some (.int (I 78)) := rfl
set_option maxRecDepth 20000 in
theorem sf_shown (q : Nat → Nat) (I : Nat → Int32) (J : Nat → Int64) (v : Int32) : (mFs q I J).set 78 (.int v) = mFs q (upd I 78 v) J := rfl
theorem gf_ticketType (q : Nat → Nat) (I : Nat → Int32) (J : Nat → Int64) : (mFs q I J)[79]? = some (.int (I 79)) := rfl
set_option maxRecDepth 20000 in
theorem sf_ticketType (q : Nat → Nat) (I : Nat → Int32) (J : Nat → Int64) (v : Int32) : (mFs q I J).set 79 (.int v) = mFs q (upd I 79 v) J := rfl
theorem gf_subType (q : Nat → Nat) (I : Nat → Int32) (J : Nat → Int64) : (mFs q I J)[80]? = some (.int (I 80)) := rfl
set_option maxRecDepth 20000 in
theorem sf_subType (q : Nat → Nat) (I : Nat → Int32) (J : Nat → Int64) (v : Int32) : (mFs q I J).set 80 (.int v) = mFs q (upd I 80 v) J := rfl
theorem gf_newFlags (q : Nat → Nat) (I : Nat → Int32) (J : Nat → Int64) : (mFs q I J)[81]? = some (.int (I 81)) := rfl
set_option maxRecDepth 20000 in
theorem sf_newFlags (q : Nat → Nat) (I : Nat → Int32) (J : Nat → Int64) (v : Int32) : (mFs q I J).set 81 (.int v) = mFs q (upd I 81 v) J := rfl
theorem gf_newEnd (q : Nat → Nat) (I : Nat → Int32) (J : Nat → Int64) : (mFs q I J)[82]? = some (.long (J 82)) := rfl
set_option maxRecDepth 20000 in
theorem sf_newEnd (q : Nat → Nat) (I : Nat → Int32) (J : Nat → Int64) (v : Int64) : (mFs q I J).set 82 (.long v) = mFs q I (vp_updL J 82 v) := rfl
theorem gf_newRenew (q : Nat → Nat) (I : Nat → Int32) (J : Nat → Int64) : (mFs q I J)[83]? = some (.long (J 83)) := rfl
set_option maxRecDepth 20000 in
theorem sf_newRenew (q : Nat → Nat) (I : Nat → Int32) (J : Nat → Int64) (v : Int64) : (mFs q I J).set 83 (.long v) = mFs q I (vp_updL J 83 v) := rfl
theorem gf_hasRenew (q : Nat → Nat) (I : Nat → Int32) (J : Nat → Int64) : (mFs q I J)[84]? = some (.int (I 84)) := rfl
set_option maxRecDepth 20000 in
theorem sf_hasRenew (q : Nat → Nat) (I : Nat → Int32) (J : Nat → Int64) (v : Int32) : (mFs q I J).set 84 (.int v) = mFs q (upd I 84 v) J := rfl
theorem gf_hasAddress (q : Nat → Nat) (I : Nat → Int32) (J : Nat → Int64) : (mFs q I J)[85]? = some (.int (I 85)) := rfl
set_option maxRecDepth 20000 in
theorem sf_hasAddress (q : Nat → Nat) (I : Nat → Int32) (J : Nat → Int64) (v : Int32) : (mFs q I J).set 85 (.int v) = mFs q (upd I 85 v) J := rfl
theorem gf_addressAt (q : Nat → Nat) (I : Nat → Int32) (J : Nat → Int64) : (mFs q I J)[86]? = some (.int (I 86)) := rfl
set_option maxRecDepth 20000 in
theorem sf_addressAt (q : Nat → Nat) (I : Nat → Int32) (J : Nat → Int64) (v : Int32) : (mFs q I J).set 86 (.int v) = mFs q (upd I 86 v) J := rfl
theorem gf_addressEnd (q : Nat → Nat) (I : Nat → Int32) (J : Nat → Int64) : (mFs q I J)[87]? = some (.int (I 87)) := rfl
set_option maxRecDepth 20000 in
theorem sf_addressEnd (q : Nat → Nat) (I : Nat → Int32) (J : Nat → Int64) (v : Int32) : (mFs q I J).set 87 (.int v) = mFs q (upd I 87 v) J := rfl
theorem gf_clientAt (q : Nat → Nat) (I : Nat → Int32) (J : Nat → Int64) : (mFs q I J)[88]? = some (.int (I 88)) := rfl
set_option maxRecDepth 20000 in
theorem sf_clientAt (q : Nat → Nat) (I : Nat → Int32) (J : Nat → Int64) (v : Int32) : (mFs q I J).set 88 (.int v) = mFs q (upd I 88 v) J := rfl
theorem gf_clientEnd (q : Nat → Nat) (I : Nat → Int32) (J : Nat → Int64) : (mFs q I J)[89]? = some (.int (I 89)) := rfl
set_option maxRecDepth 20000 in
theorem sf_clientEnd (q : Nat → Nat) (I : Nat → Int32) (J : Nat → Int64) (v : Int32) : (mFs q I J).set 89 (.int v) = mFs q (upd I 89 v) J := rfl
theorem gf_rounds4 (q : Nat → Nat) (I : Nat → Int32) (J : Nat → Int64) : (mFs q I J)[90]? = some (.ref (q 90)) := rfl
theorem gf_isAgent (q : Nat → Nat) (I : Nat → Int32) (J : Nat → Int64) : (mFs q I J)[91]? = some (.ref (q 91)) := rfl
theorem gf_agentNames (q : Nat → Nat) (I : Nat → Int32) (J : Nat → Int64) : (mFs q I J)[92]? = some (.ref (q 92)) := rfl
theorem gf_agentSizes (q : Nat → Nat) (I : Nat → Int32) (J : Nat → Int64) : (mFs q I J)[93]? = some (.ref (q 93)) := rfl
theorem gf_shifts (q : Nat → Nat) (I : Nat → Int32) (J : Nat → Int64) : (mFs q I J)[94]? = some (.ref (q 94)) := rfl
theorem gf_micros (q : Nat → Nat) (I : Nat → Int32) (J : Nat → Int64) : (mFs q I J)[95]? = some (.ref (q 95)) := rfl
theorem gf_agentKeys (q : Nat → Nat) (I : Nat → Int32) (J : Nat → Int64) : (mFs q I J)[96]? = some (.ref (q 96)) := rfl
theorem gf_isTicket (q : Nat → Nat) (I : Nat → Int32) (J : Nat → Int64) : (mFs q I J)[97]? = some (.ref (q 97)) := rfl
theorem gf_ticketBytes (q : Nat → Nat) (I : Nat → Int32) (J : Nat → Int64) : (mFs q I J)[98]? = some (.ref (q 98)) := rfl
theorem gf_ticketKeys (q : Nat → Nat) (I : Nat → Int32) (J : Nat → Int64) : (mFs q I J)[99]? = some (.ref (q 99)) := rfl
theorem gf_ticketSizes (q : Nat → Nat) (I : Nat → Int32) (J : Nat → Int64) : (mFs q I J)[100]? = some (.ref (q 100)) := rfl
theorem gf_ticketFlags (q : Nat → Nat) (I : Nat → Int32) (J : Nat → Int64) : (mFs q I J)[101]? = some (.ref (q 101)) := rfl
theorem gf_ticketTypes (q : Nat → Nat) (I : Nat → Int32) (J : Nat → Int64) : (mFs q I J)[102]? = some (.ref (q 102)) := rfl
theorem gf_authTimes (q : Nat → Nat) (I : Nat → Int32) (J : Nat → Int64) : (mFs q I J)[103]? = some (.ref (q 103)) := rfl
theorem gf_startTimes (q : Nat → Nat) (I : Nat → Int32) (J : Nat → Int64) : (mFs q I J)[104]? = some (.ref (q 104)) := rfl
theorem gf_endTimes (q : Nat → Nat) (I : Nat → Int32) (J : Nat → Int64) : (mFs q I J)[105]? = some (.ref (q 105)) := rfl
theorem gf_renewTimes (q : Nat → Nat) (I : Nat → Int32) (J : Nat → Int64) : (mFs q I J)[106]? = some (.ref (q 106)) := rfl
theorem gf_clientBytes (q : Nat → Nat) (I : Nat → Int32) (J : Nat → Int64) : (mFs q I J)[107]? = some (.ref (q 107)) := rfl
theorem gf_realmSizes (q : Nat → Nat) (I : Nat → Int32) (J : Nat → Int64) : (mFs q I J)[108]? = some (.ref (q 108)) := rfl
theorem gf_clientSizes (q : Nat → Nat) (I : Nat → Int32) (J : Nat → Int64) : (mFs q I J)[109]? = some (.ref (q 109)) := rfl
theorem gf_askedKind (q : Nat → Nat) (I : Nat → Int32) (J : Nat → Int64) : (mFs q I J)[110]? = some (.ref (q 110)) := rfl
theorem gf_askedTypes (q : Nat → Nat) (I : Nat → Int32) (J : Nat → Int64) : (mFs q I J)[111]? = some (.ref (q 111)) := rfl
theorem gf_askedSub (q : Nat → Nat) (I : Nat → Int32) (J : Nat → Int64) : (mFs q I J)[112]? = some (.ref (q 112)) := rfl
theorem gf_askedSize (q : Nat → Nat) (I : Nat → Int32) (J : Nat → Int64) : (mFs q I J)[113]? = some (.ref (q 113)) := rfl
theorem gf_askedNonce (q : Nat → Nat) (I : Nat → Int32) (J : Nat → Int64) : (mFs q I J)[114]? = some (.ref (q 114)) := rfl
theorem gf_askedRenew (q : Nat → Nat) (I : Nat → Int32) (J : Nat → Int64) : (mFs q I J)[115]? = some (.ref (q 115)) := rfl
theorem gf_askedKeys (q : Nat → Nat) (I : Nat → Int32) (J : Nat → Int64) : (mFs q I J)[116]? = some (.ref (q 116)) := rfl
theorem gf_askedNames (q : Nat → Nat) (I : Nat → Int32) (J : Nat → Int64) : (mFs q I J)[117]? = some (.ref (q 117)) := rfl
theorem gf_askedClients (q : Nat → Nat) (I : Nat → Int32) (J : Nat → Int64) : (mFs q I J)[118]? = some (.ref (q 118)) := rfl
theorem gf_askedRealm (q : Nat → Nat) (I : Nat → Int32) (J : Nat → Int64) : (mFs q I J)[119]? = some (.ref (q 119)) := rfl
theorem gf_askedClient (q : Nat → Nat) (I : Nat → Int32) (J : Nat → Int64) : (mFs q I J)[120]? = some (.ref (q 120)) := rfl
theorem gf_wantsMet (q : Nat → Nat) (I : Nat → Int32) (J : Nat → Int64) : (mFs q I J)[121]? = some (.ref (q 121)) := rfl
theorem gf_apType (q : Nat → Nat) (I : Nat → Int32) (J : Nat → Int64) : (mFs q I J)[122]? = some (.ref (q 122)) := rfl
theorem gf_apSubType (q : Nat → Nat) (I : Nat → Int32) (J : Nat → Int64) : (mFs q I J)[123]? = some (.ref (q 123)) := rfl
theorem gf_apMicros (q : Nat → Nat) (I : Nat → Int32) (J : Nat → Int64) : (mFs q I J)[124]? = some (.ref (q 124)) := rfl
theorem gf_apSerial (q : Nat → Nat) (I : Nat → Int32) (J : Nat → Int64) : (mFs q I J)[125]? = some (.ref (q 125)) := rfl
theorem gf_apKeys (q : Nat → Nat) (I : Nat → Int32) (J : Nat → Int64) : (mFs q I J)[126]? = some (.ref (q 126)) := rfl
theorem gf_apSubs (q : Nat → Nat) (I : Nat → Int32) (J : Nat → Int64) : (mFs q I J)[127]? = some (.ref (q 127)) := rfl
theorem gf_apTime (q : Nat → Nat) (I : Nat → Int32) (J : Nat → Int64) : (mFs q I J)[128]? = some (.ref (q 128)) := rfl
theorem gf_apNumber (q : Nat → Nat) (I : Nat → Int32) (J : Nat → Int64) : (mFs q I J)[129]? = some (.ref (q 129)) := rfl
theorem gf_apOther (q : Nat → Nat) (I : Nat → Int32) (J : Nat → Int64) : (mFs q I J)[130]? = some (.ref (q 130)) := rfl
theorem gf_serial (q : Nat → Nat) (I : Nat → Int32) (J : Nat → Int64) : (mFs q I J)[131]? = some (.int (I 131)) := rfl
set_option maxRecDepth 20000 in
theorem sf_serial (q : Nat → Nat) (I : Nat → Int32) (J : Nat → Int64) (v : Int32) : (mFs q I J).set 131 (.int v) = mFs q (upd I 131 v) J := rfl
theorem gf_kept (q : Nat → Nat) (I : Nat → Int32) (J : Nat → Int64) : (mFs q I J)[132]? = some (.ref (q 132)) := rfl
theorem gf_isSession (q : Nat → Nat) (I : Nat → Int32) (J : Nat → Int64) : (mFs q I J)[133]? = some (.ref (q 133)) := rfl
theorem gf_sessionTypes (q : Nat → Nat) (I : Nat → Int32) (J : Nat → Int64) : (mFs q I J)[134]? = some (.ref (q 134)) := rfl
theorem gf_sessionAgents (q : Nat → Nat) (I : Nat → Int32) (J : Nat → Int64) : (mFs q I J)[135]? = some (.ref (q 135)) := rfl
theorem gf_sessionKeys (q : Nat → Nat) (I : Nat → Int32) (J : Nat → Int64) : (mFs q I J)[136]? = some (.ref (q 136)) := rfl
theorem gf_ownNumber (q : Nat → Nat) (I : Nat → Int32) (J : Nat → Int64) : (mFs q I J)[137]? = some (.ref (q 137)) := rfl
theorem gf_dueNumber (q : Nat → Nat) (I : Nat → Int32) (J : Nat → Int64) : (mFs q I J)[138]? = some (.ref (q 138)) := rfl
theorem gf_beganTime (q : Nat → Nat) (I : Nat → Int32) (J : Nat → Int64) : (mFs q I J)[139]? = some (.ref (q 139)) := rfl
theorem gf_beganNumber (q : Nat → Nat) (I : Nat → Int32) (J : Nat → Int64) : (mFs q I J)[140]? = some (.ref (q 140)) := rfl
theorem gf_beganMicros (q : Nat → Nat) (I : Nat → Int32) (J : Nat → Int64) : (mFs q I J)[141]? = some (.ref (q 141)) := rfl
theorem gf_beganTypes (q : Nat → Nat) (I : Nat → Int32) (J : Nat → Int64) : (mFs q I J)[142]? = some (.ref (q 142)) := rfl
theorem gf_beganKeys (q : Nat → Nat) (I : Nat → Int32) (J : Nat → Int64) : (mFs q I J)[143]? = some (.ref (q 143)) := rfl
theorem gf_address (q : Nat → Nat) (I : Nat → Int32) (J : Nat → Int64) : (mFs q I J)[144]? = some (.ref (q 144)) := rfl
theorem aw_mem (E : ClassId × ClassId × ClassId × ClassId) (h : Nat) (q : Nat → Nat) (I : Nat → Int32) (J : Nat → Int64) (B : Nat → Nat → Int32) (G : Nat → Nat → Int64) : (mW E h q I J B G)[1]? = some (q 0, .inl (E.1, 60000, .inl (B 0))) := rfl
theorem sw_mem (E : ClassId × ClassId × ClassId × ClassId) (h : Nat) (q : Nat → Nat) (I : Nat → Int32) (J : Nat → Int64) (B : Nat → Nat → Int32) (G : Nat → Nat → Int64) (f : Nat → Int32) : (mW E h q I J B G).set 1 (q 0, .inl (E.1, 60000, .inl f)) = mW E h q I J (upB B 0 f) G := rfl
theorem aw_outs (E : ClassId × ClassId × ClassId × ClassId) (h : Nat) (q : Nat → Nat) (I : Nat → Int32) (J : Nat → Int64) (B : Nat → Nat → Int32) (G : Nat → Nat → Int64) : (mW E h q I J B G)[2]? = some (q 1, .inl (E.1, 20000, .inl (B 1))) := rfl
theorem sw_outs (E : ClassId × ClassId × ClassId × ClassId) (h : Nat) (q : Nat → Nat) (I : Nat → Int32) (J : Nat → Int64) (B : Nat → Nat → Int32) (G : Nat → Nat → Int64) (f : Nat → Int32) : (mW E h q I J B G).set 2 (q 1, .inl (E.1, 20000, .inl f)) = mW E h q I J (upB B 1 f) G := rfl
theorem aw_h (E : ClassId × ClassId × ClassId × ClassId) (h : Nat) (q : Nat → Nat) (I : Nat → Int32) (J : Nat → Int64) (B : Nat → Nat → Int32) (G : Nat → Nat → Int64) : (mW E h q I J B G)[3]? = some (q 5, .inl (E.2.1, 5, .inl (B 5))) := rfl
theorem sw_h (E : ClassId × ClassId × ClassId × ClassId) (h : Nat) (q : Nat → Nat) (I : Nat → Int32) (J : Nat → Int64) (B : Nat → Nat → Int32) (G : Nat → Nat → Int64) (f : Nat → Int32) : (mW E h q I J B G).set 3 (q 5, .inl (E.2.1, 5, .inl f)) = mW E h q I J (upB B 5 f) G := rfl
theorem aw_w (E : ClassId × ClassId × ClassId × ClassId) (h : Nat) (q : Nat → Nat) (I : Nat → Int32) (J : Nat → Int64) (B : Nat → Nat → Int32) (G : Nat → Nat → Int64) : (mW E h q I J B G)[4]? = some (q 6, .inl (E.2.1, 80, .inl (B 6))) := rfl
theorem sw_w (E : ClassId × ClassId × ClassId × ClassId) (h : Nat) (q : Nat → Nat) (I : Nat → Int32) (J : Nat → Int64) (B : Nat → Nat → Int32) (G : Nat → Nat → Int64) (f : Nat → Int32) : (mW E h q I J B G).set 4 (q 6, .inl (E.2.1, 80, .inl f)) = mW E h q I J (upB B 6 f) G := rfl
theorem aw_block (E : ClassId × ClassId × ClassId × ClassId) (h : Nat) (q : Nat → Nat) (I : Nat → Int32) (J : Nat → Int64) (B : Nat → Nat → Int32) (G : Nat → Nat → Int64) : (mW E h q I J B G)[5]? = some (q 7, .inl (E.1, 64, .inl (B 7))) := rfl
theorem sw_block (E : ClassId × ClassId × ClassId × ClassId) (h : Nat) (q : Nat → Nat) (I : Nat → Int32) (J : Nat → Int64) (B : Nat → Nat → Int32) (G : Nat → Nat → Int64) (f : Nat → Int32) : (mW E h q I J B G).set 5 (q 7, .inl (E.1, 64, .inl f)) = mW E h q I J (upB B 7 f) G := rfl
theorem aw_inner (E : ClassId × ClassId × ClassId × ClassId) (h : Nat) (q : Nat → Nat) (I : Nat → Int32) (J : Nat → Int64) (B : Nat → Nat → Int32) (G : Nat → Nat → Int64) : (mW E h q I J B G)[6]? = some (q 9, .inl (E.1, 20, .inl (B 9))) := rfl
theorem sw_inner (E : ClassId × ClassId × ClassId × ClassId) (h : Nat) (q : Nat → Nat) (I : Nat → Int32) (J : Nat → Int64) (B : Nat → Nat → Int32) (G : Nat → Nat → Int64) (f : Nat → Int32) : (mW E h q I J B G).set 6 (q 9, .inl (E.1, 20, .inl f)) = mW E h q I J (upB B 9 f) G := rfl
theorem aw_mac (E : ClassId × ClassId × ClassId × ClassId) (h : Nat) (q : Nat → Nat) (I : Nat → Int32) (J : Nat → Int64) (B : Nat → Nat → Int32) (G : Nat → Nat → Int64) : (mW E h q I J B G)[7]? = some (q 10, .inl (E.1, 20, .inl (B 10))) := rfl
theorem sw_mac (E : ClassId × ClassId × ClassId × ClassId) (h : Nat) (q : Nat → Nat) (I : Nat → Int32) (J : Nat → Int64) (B : Nat → Nat → Int32) (G : Nat → Nat → Int64) (f : Nat → Int32) : (mW E h q I J B G).set 7 (q 10, .inl (E.1, 20, .inl f)) = mW E h q I J (upB B 10 f) G := rfl
theorem aw_macKey (E : ClassId × ClassId × ClassId × ClassId) (h : Nat) (q : Nat → Nat) (I : Nat → Int32) (J : Nat → Int64) (B : Nat → Nat → Int32) (G : Nat → Nat → Int64) : (mW E h q I J B G)[8]? = some (q 11, .inl (E.1, 64, .inl (B 11))) := rfl
theorem sw_macKey (E : ClassId × ClassId × ClassId × ClassId) (h : Nat) (q : Nat → Nat) (I : Nat → Int32) (J : Nat → Int64) (B : Nat → Nat → Int32) (G : Nat → Nat → Int64) (f : Nat → Int32) : (mW E h q I J B G).set 8 (q 11, .inl (E.1, 64, .inl f)) = mW E h q I J (upB B 11 f) G := rfl
theorem aw_box (E : ClassId × ClassId × ClassId × ClassId) (h : Nat) (q : Nat → Nat) (I : Nat → Int32) (J : Nat → Int64) (B : Nat → Nat → Int32) (G : Nat → Nat → Int64) : (mW E h q I J B G)[9]? = some (q 12, .inl (E.2.1, 256, .inl (B 12))) := rfl
theorem sw_box (E : ClassId × ClassId × ClassId × ClassId) (h : Nat) (q : Nat → Nat) (I : Nat → Int32) (J : Nat → Int64) (B : Nat → Nat → Int32) (G : Nat → Nat → Int64) (f : Nat → Int32) : (mW E h q I J B G).set 9 (q 12, .inl (E.2.1, 256, .inl f)) = mW E h q I J (upB B 12 f) G := rfl
theorem aw_back (E : ClassId × ClassId × ClassId × ClassId) (h : Nat) (q : Nat → Nat) (I : Nat → Int32) (J : Nat → Int64) (B : Nat → Nat → Int32) (G : Nat → Nat → Int64) : (mW E h q I J B G)[10]? = some (q 13, .inl (E.2.1, 256, .inl (B 13))) := rfl
theorem sw_back (E : ClassId × ClassId × ClassId × ClassId) (h : Nat) (q : Nat → Nat) (I : Nat → Int32) (J : Nat → Int64) (B : Nat → Nat → Int32) (G : Nat → Nat → Int64) (f : Nat → Int32) : (mW E h q I J B G).set 10 (q 13, .inl (E.2.1, 256, .inl f)) = mW E h q I J (upB B 13 f) G := rfl
theorem aw_schedule (E : ClassId × ClassId × ClassId × ClassId) (h : Nat) (q : Nat → Nat) (I : Nat → Int32) (J : Nat → Int64) (B : Nat → Nat → Int32) (G : Nat → Nat → Int64) : (mW E h q I J B G)[11]? = some (q 15, .inl (E.2.1, 60, .inl (B 15))) := rfl
theorem sw_schedule (E : ClassId × ClassId × ClassId × ClassId) (h : Nat) (q : Nat → Nat) (I : Nat → Int32) (J : Nat → Int64) (B : Nat → Nat → Int32) (G : Nat → Nat → Int64) (f : Nat → Int32) : (mW E h q I J B G).set 11 (q 15, .inl (E.2.1, 60, .inl f)) = mW E h q I J (upB B 15 f) G := rfl
theorem aw_state (E : ClassId × ClassId × ClassId × ClassId) (h : Nat) (q : Nat → Nat) (I : Nat → Int32) (J : Nat → Int64) (B : Nat → Nat → Int32) (G : Nat → Nat → Int64) : (mW E h q I J B G)[12]? = some (q 16, .inl (E.2.1, 16, .inl (B 16))) := rfl
theorem sw_state (E : ClassId × ClassId × ClassId × ClassId) (h : Nat) (q : Nat → Nat) (I : Nat → Int32) (J : Nat → Int64) (B : Nat → Nat → Int32) (G : Nat → Nat → Int64) (f : Nat → Int32) : (mW E h q I J B G).set 12 (q 16, .inl (E.2.1, 16, .inl f)) = mW E h q I J (upB B 16 f) G := rfl
theorem aw_other (E : ClassId × ClassId × ClassId × ClassId) (h : Nat) (q : Nat → Nat) (I : Nat → Int32) (J : Nat → Int64) (B : Nat → Nat → Int32) (G : Nat → Nat → Int64) : (mW E h q I J B G)[13]? = some (q 17, .inl (E.2.1, 16, .inl (B 17))) := rfl
theorem sw_other (E : ClassId × ClassId × ClassId × ClassId) (h : Nat) (q : Nat → Nat) (I : Nat → Int32) (J : Nat → Int64) (B : Nat → Nat → Int32) (G : Nat → Nat → Int64) (f : Nat → Int32) : (mW E h q I J B G).set 13 (q 17, .inl (E.2.1, 16, .inl f)) = mW E h q I J (upB B 17 f) G := rfl
theorem aw_fold (E : ClassId × ClassId × ClassId × ClassId) (h : Nat) (q : Nat → Nat) (I : Nat → Int32) (J : Nat → Int64) (B : Nat → Nat → Int32) (G : Nat → Nat → Int64) : (mW E h q I J B G)[14]? = some (q 19, .inl (E.1, 16, .inl (B 19))) := rfl
theorem sw_fold (E : ClassId × ClassId × ClassId × ClassId) (h : Nat) (q : Nat → Nat) (I : Nat → Int32) (J : Nat → Int64) (B : Nat → Nat → Int32) (G : Nat → Nat → Int64) (f : Nat → Int32) : (mW E h q I J B G).set 14 (q 19, .inl (E.1, 16, .inl f)) = mW E h q I J (upB B 19 f) G := rfl
theorem aw_derived (E : ClassId × ClassId × ClassId × ClassId) (h : Nat) (q : Nat → Nat) (I : Nat → Int32) (J : Nat → Int64) (B : Nat → Nat → Int32) (G : Nat → Nat → Int64) : (mW E h q I J B G)[15]? = some (q 20, .inl (E.1, 32, .inl (B 20))) := rfl
theorem sw_derived (E : ClassId × ClassId × ClassId × ClassId) (h : Nat) (q : Nat → Nat) (I : Nat → Int32) (J : Nat → Int64) (B : Nat → Nat → Int32) (G : Nat → Nat → Int64) (f : Nat → Int32) : (mW E h q I J B G).set 15 (q 20, .inl (E.1, 32, .inl f)) = mW E h q I J (upB B 20 f) G := rfl
theorem aw_folding (E : ClassId × ClassId × ClassId × ClassId) (h : Nat) (q : Nat → Nat) (I : Nat → Int32) (J : Nat → Int64) (B : Nat → Nat → Int32) (G : Nat → Nat → Int64) : (mW E h q I J B G)[16]? = some (q 21, .inl (E.2.1, 16, .inl (B 21))) := rfl
theorem sw_folding (E : ClassId × ClassId × ClassId × ClassId) (h : Nat) (q : Nat → Nat) (I : Nat → Int32) (J : Nat → Int64) (B : Nat → Nat → Int32) (G : Nat → Nat → Int64) (f : Nat → Int32) : (mW E h q I J B G).set 16 (q 21, .inl (E.2.1, 16, .inl f)) = mW E h q I J (upB B 21 f) G := rfl
theorem aw_constant (E : ClassId × ClassId × ClassId × ClassId) (h : Nat) (q : Nat → Nat) (I : Nat → Int32) (J : Nat → Int64) (B : Nat → Nat → Int32) (G : Nat → Nat → Int64) : (mW E h q I J B G)[17]? = some (q 22, .inl (E.1, 5, .inl (B 22))) := rfl
theorem sw_constant (E : ClassId × ClassId × ClassId × ClassId) (h : Nat) (q : Nat → Nat) (I : Nat → Int32) (J : Nat → Int64) (B : Nat → Nat → Int32) (G : Nat → Nat → Int64) (f : Nat → Int32) : (mW E h q I J B G).set 17 (q 22, .inl (E.1, 5, .inl f)) = mW E h q I J (upB B 22 f) G := rfl
theorem aw_use (E : ClassId × ClassId × ClassId × ClassId) (h : Nat) (q : Nat → Nat) (I : Nat → Int32) (J : Nat → Int64) (B : Nat → Nat → Int32) (G : Nat → Nat → Int64) : (mW E h q I J B G)[18]? = some (q 23, .inl (E.1, 32, .inl (B 23))) := rfl
theorem sw_use (E : ClassId × ClassId × ClassId × ClassId) (h : Nat) (q : Nat → Nat) (I : Nat → Int32) (J : Nat → Int64) (B : Nat → Nat → Int32) (G : Nat → Nat → Int64) (f : Nat → Int32) : (mW E h q I J B G).set 18 (q 23, .inl (E.1, 32, .inl f)) = mW E h q I J (upB B 23 f) G := rfl
theorem aw_salt (E : ClassId × ClassId × ClassId × ClassId) (h : Nat) (q : Nat → Nat) (I : Nat → Int32) (J : Nat → Int64) (B : Nat → Nat → Int32) (G : Nat → Nat → Int64) : (mW E h q I J B G)[19]? = some (q 24, .inl (E.1, 60, .inl (B 24))) := rfl
theorem sw_salt (E : ClassId × ClassId × ClassId × ClassId) (h : Nat) (q : Nat → Nat) (I : Nat → Int32) (J : Nat → Int64) (B : Nat → Nat → Int32) (G : Nat → Nat → Int64) (f : Nat → Int32) : (mW E h q I J B G).set 19 (q 24, .inl (E.1, 60, .inl f)) = mW E h q I J (upB B 24 f) G := rfl
theorem aw_password (E : ClassId × ClassId × ClassId × ClassId) (h : Nat) (q : Nat → Nat) (I : Nat → Int32) (J : Nat → Int64) (B : Nat → Nat → Int32) (G : Nat → Nat → Int64) : (mW E h q I J B G)[20]? = some (q 25, .inl (E.1, 30, .inl (B 25))) := rfl
theorem sw_password (E : ClassId × ClassId × ClassId × ClassId) (h : Nat) (q : Nat → Nat) (I : Nat → Int32) (J : Nat → Int64) (B : Nat → Nat → Int32) (G : Nat → Nat → Int64) (f : Nat → Int32) : (mW E h q I J B G).set 20 (q 25, .inl (E.1, 30, .inl f)) = mW E h q I J (upB B 25 f) G := rfl
theorem aw_mixed (E : ClassId × ClassId × ClassId × ClassId) (h : Nat) (q : Nat → Nat) (I : Nat → Int32) (J : Nat → Int64) (B : Nat → Nat → Int32) (G : Nat → Nat → Int64) : (mW E h q I J B G)[21]? = some (q 26, .inl (E.1, 20, .inl (B 26))) := rfl
theorem sw_mixed (E : ClassId × ClassId × ClassId × ClassId) (h : Nat) (q : Nat → Nat) (I : Nat → Int32) (J : Nat → Int64) (B : Nat → Nat → Int32) (G : Nat → Nat → Int64) (f : Nat → Int32) : (mW E h q I J B G).set 21 (q 26, .inl (E.1, 20, .inl f)) = mW E h q I J (upB B 26 f) G := rfl
theorem aw_long0 (E : ClassId × ClassId × ClassId × ClassId) (h : Nat) (q : Nat → Nat) (I : Nat → Int32) (J : Nat → Int64) (B : Nat → Nat → Int32) (G : Nat → Nat → Int64) : (mW E h q I J B G)[22]? = some (q 27, .inl (E.1, 40, .inl (B 27))) := rfl
theorem sw_long0 (E : ClassId × ClassId × ClassId × ClassId) (h : Nat) (q : Nat → Nat) (I : Nat → Int32) (J : Nat → Int64) (B : Nat → Nat → Int32) (G : Nat → Nat → Int64) (f : Nat → Int32) : (mW E h q I J B G).set 22 (q 27, .inl (E.1, 40, .inl f)) = mW E h q I J (upB B 27 f) G := rfl
theorem aw_kerberos (E : ClassId × ClassId × ClassId × ClassId) (h : Nat) (q : Nat → Nat) (I : Nat → Int32) (J : Nat → Int64) (B : Nat → Nat → Int32) (G : Nat → Nat → Int64) : (mW E h q I J B G)[23]? = some (q 28, .inl (E.1, 8, .inl (B 28))) := rfl
theorem sw_kerberos (E : ClassId × ClassId × ClassId × ClassId) (h : Nat) (q : Nat → Nat) (I : Nat → Int32) (J : Nat → Int64) (B : Nat → Nat → Int32) (G : Nat → Nat → Int64) (f : Nat → Int32) : (mW E h q I J B G).set 23 (q 28, .inl (E.1, 8, .inl f)) = mW E h q I J (upB B 28 f) G := rfl
theorem aw_seed (E : ClassId × ClassId × ClassId × ClassId) (h : Nat) (q : Nat → Nat) (I : Nat → Int32) (J : Nat → Int64) (B : Nat → Nat → Int32) (G : Nat → Nat → Int64) : (mW E h q I J B G)[24]? = some (q 31, .inl (E.1, 64, .inl (B 31))) := rfl
theorem sw_seed (E : ClassId × ClassId × ClassId × ClassId) (h : Nat) (q : Nat → Nat) (I : Nat → Int32) (J : Nat → Int64) (B : Nat → Nat → Int32) (G : Nat → Nat → Int64) (f : Nat → Int32) : (mW E h q I J B G).set 24 (q 31, .inl (E.1, 64, .inl f)) = mW E h q I J (upB B 31 f) G := rfl
theorem aw_text (E : ClassId × ClassId × ClassId × ClassId) (h : Nat) (q : Nat → Nat) (I : Nat → Int32) (J : Nat → Int64) (B : Nat → Nat → Int32) (G : Nat → Nat → Int64) : (mW E h q I J B G)[25]? = some (q 34, .inl (E.1, 20000, .inl (B 34))) := rfl
theorem sw_text (E : ClassId × ClassId × ClassId × ClassId) (h : Nat) (q : Nat → Nat) (I : Nat → Int32) (J : Nat → Int64) (B : Nat → Nat → Int32) (G : Nat → Nat → Int64) (f : Nat → Int32) : (mW E h q I J B G).set 25 (q 34, .inl (E.1, 20000, .inl f)) = mW E h q I J (upB B 34 f) G := rfl
theorem aw_secret (E : ClassId × ClassId × ClassId × ClassId) (h : Nat) (q : Nat → Nat) (I : Nat → Int32) (J : Nat → Int64) (B : Nat → Nat → Int32) (G : Nat → Nat → Int64) : (mW E h q I J B G)[26]? = some (q 35, .inl (E.1, 20000, .inl (B 35))) := rfl
theorem sw_secret (E : ClassId × ClassId × ClassId × ClassId) (h : Nat) (q : Nat → Nat) (I : Nat → Int32) (J : Nat → Int64) (B : Nat → Nat → Int32) (G : Nat → Nat → Int64) (f : Nat → Int32) : (mW E h q I J B G).set 26 (q 35, .inl (E.1, 20000, .inl f)) = mW E h q I J (upB B 35 f) G := rfl
theorem aw_from (E : ClassId × ClassId × ClassId × ClassId) (h : Nat) (q : Nat → Nat) (I : Nat → Int32) (J : Nat → Int64) (B : Nat → Nat → Int32) (G : Nat → Nat → Int64) : (mW E h q I J B G)[27]? = some (q 37, .inl (E.2.1, 192, .inl (B 37))) := rfl
theorem sw_from (E : ClassId × ClassId × ClassId × ClassId) (h : Nat) (q : Nat → Nat) (I : Nat → Int32) (J : Nat → Int64) (B : Nat → Nat → Int32) (G : Nat → Nat → Int64) (f : Nat → Int32) : (mW E h q I J B G).set 27 (q 37, .inl (E.2.1, 192, .inl f)) = mW E h q I J (upB B 37 f) G := rfl
theorem aw_to (E : ClassId × ClassId × ClassId × ClassId) (h : Nat) (q : Nat → Nat) (I : Nat → Int32) (J : Nat → Int64) (B : Nat → Nat → Int32) (G : Nat → Nat → Int64) : (mW E h q I J B G)[28]? = some (q 38, .inl (E.2.1, 192, .inl (B 38))) := rfl
theorem sw_to (E : ClassId × ClassId × ClassId × ClassId) (h : Nat) (q : Nat → Nat) (I : Nat → Int32) (J : Nat → Int64) (B : Nat → Nat → Int32) (G : Nat → Nat → Int64) (f : Nat → Int32) : (mW E h q I J B G).set 28 (q 38, .inl (E.2.1, 192, .inl f)) = mW E h q I J (upB B 38 f) G := rfl
theorem aw_names (E : ClassId × ClassId × ClassId × ClassId) (h : Nat) (q : Nat → Nat) (I : Nat → Int32) (J : Nat → Int64) (B : Nat → Nat → Int32) (G : Nat → Nat → Int64) : (mW E h q I J B G)[29]? = some (q 44, .inl (E.1, 480, .inl (B 44))) := rfl
theorem sw_names (E : ClassId × ClassId × ClassId × ClassId) (h : Nat) (q : Nat → Nat) (I : Nat → Int32) (J : Nat → Int64) (B : Nat → Nat → Int32) (G : Nat → Nat → Int64) (f : Nat → Int32) : (mW E h q I J B G).set 29 (q 44, .inl (E.1, 480, .inl f)) = mW E h q I J (upB B 44 f) G := rfl
theorem aw_nameSizes (E : ClassId × ClassId × ClassId × ClassId) (h : Nat) (q : Nat → Nat) (I : Nat → Int32) (J : Nat → Int64) (B : Nat → Nat → Int32) (G : Nat → Nat → Int64) : (mW E h q I J B G)[30]? = some (q 45, .inl (E.2.1, 12, .inl (B 45))) := rfl
theorem sw_nameSizes (E : ClassId × ClassId × ClassId × ClassId) (h : Nat) (q : Nat → Nat) (I : Nat → Int32) (J : Nat → Int64) (B : Nat → Nat → Int32) (G : Nat → Nat → Int64) (f : Nat → Int32) : (mW E h q I J B G).set 30 (q 45, .inl (E.2.1, 12, .inl f)) = mW E h q I J (upB B 45 f) G := rfl
theorem aw_versions (E : ClassId × ClassId × ClassId × ClassId) (h : Nat) (q : Nat → Nat) (I : Nat → Int32) (J : Nat → Int64) (B : Nat → Nat → Int32) (G : Nat → Nat → Int64) : (mW E h q I J B G)[31]? = some (q 46, .inl (E.2.1, 12, .inl (B 46))) := rfl
theorem sw_versions (E : ClassId × ClassId × ClassId × ClassId) (h : Nat) (q : Nat → Nat) (I : Nat → Int32) (J : Nat → Int64) (B : Nat → Nat → Int32) (G : Nat → Nat → Int64) (f : Nat → Int32) : (mW E h q I J B G).set 31 (q 46, .inl (E.2.1, 12, .inl f)) = mW E h q I J (upB B 46 f) G := rfl
theorem aw_counts (E : ClassId × ClassId × ClassId × ClassId) (h : Nat) (q : Nat → Nat) (I : Nat → Int32) (J : Nat → Int64) (B : Nat → Nat → Int32) (G : Nat → Nat → Int64) : (mW E h q I J B G)[32]? = some (q 47, .inl (E.2.1, 12, .inl (B 47))) := rfl
theorem sw_counts (E : ClassId × ClassId × ClassId × ClassId) (h : Nat) (q : Nat → Nat) (I : Nat → Int32) (J : Nat → Int64) (B : Nat → Nat → Int32) (G : Nat → Nat → Int64) (f : Nat → Int32) : (mW E h q I J B G).set 32 (q 47, .inl (E.2.1, 12, .inl f)) = mW E h q I J (upB B 47 f) G := rfl
theorem aw_lifes (E : ClassId × ClassId × ClassId × ClassId) (h : Nat) (q : Nat → Nat) (I : Nat → Int32) (J : Nat → Int64) (B : Nat → Nat → Int32) (G : Nat → Nat → Int64) : (mW E h q I J B G)[33]? = some (q 48, .inl (E.2.1, 12, .inl (B 48))) := rfl
theorem sw_lifes (E : ClassId × ClassId × ClassId × ClassId) (h : Nat) (q : Nat → Nat) (I : Nat → Int32) (J : Nat → Int64) (B : Nat → Nat → Int32) (G : Nat → Nat → Int64) (f : Nat → Int32) : (mW E h q I J B G).set 33 (q 48, .inl (E.2.1, 12, .inl f)) = mW E h q I J (upB B 48 f) G := rfl
theorem aw_renews (E : ClassId × ClassId × ClassId × ClassId) (h : Nat) (q : Nat → Nat) (I : Nat → Int32) (J : Nat → Int64) (B : Nat → Nat → Int32) (G : Nat → Nat → Int64) : (mW E h q I J B G)[34]? = some (q 49, .inl (E.2.1, 12, .inl (B 49))) := rfl
theorem sw_renews (E : ClassId × ClassId × ClassId × ClassId) (h : Nat) (q : Nat → Nat) (I : Nat → Int32) (J : Nat → Int64) (B : Nat → Nat → Int32) (G : Nat → Nat → Int64) (f : Nat → Int32) : (mW E h q I J B G).set 34 (q 49, .inl (E.2.1, 12, .inl f)) = mW E h q I J (upB B 49 f) G := rfl
theorem aw_flags (E : ClassId × ClassId × ClassId × ClassId) (h : Nat) (q : Nat → Nat) (I : Nat → Int32) (J : Nat → Int64) (B : Nat → Nat → Int32) (G : Nat → Nat → Int64) : (mW E h q I J B G)[35]? = some (q 50, .inl (E.2.1, 12, .inl (B 50))) := rfl
theorem sw_flags (E : ClassId × ClassId × ClassId × ClassId) (h : Nat) (q : Nat → Nat) (I : Nat → Int32) (J : Nat → Int64) (B : Nat → Nat → Int32) (G : Nat → Nat → Int64) (f : Nat → Int32) : (mW E h q I J B G).set 35 (q 50, .inl (E.2.1, 12, .inl f)) = mW E h q I J (upB B 50 f) G := rfl
theorem aw_ends (E : ClassId × ClassId × ClassId × ClassId) (h : Nat) (q : Nat → Nat) (I : Nat → Int32) (J : Nat → Int64) (B : Nat → Nat → Int32) (G : Nat → Nat → Int64) : (mW E h q I J B G)[36]? = some (q 51, .inl (E.2.1, 12, .inl (B 51))) := rfl
theorem sw_ends (E : ClassId × ClassId × ClassId × ClassId) (h : Nat) (q : Nat → Nat) (I : Nat → Int32) (J : Nat → Int64) (B : Nat → Nat → Int32) (G : Nat → Nat → Int64) (f : Nat → Int32) : (mW E h q I J B G).set 36 (q 51, .inl (E.2.1, 12, .inl f)) = mW E h q I J (upB B 51 f) G := rfl
theorem aw_keys (E : ClassId × ClassId × ClassId × ClassId) (h : Nat) (q : Nat → Nat) (I : Nat → Int32) (J : Nat → Int64) (B : Nat → Nat → Int32) (G : Nat → Nat → Int64) : (mW E h q I J B G)[37]? = some (q 52, .inl (E.1, 1536, .inl (B 52))) := rfl
theorem sw_keys (E : ClassId × ClassId × ClassId × ClassId) (h : Nat) (q : Nat → Nat) (I : Nat → Int32) (J : Nat → Int64) (B : Nat → Nat → Int32) (G : Nat → Nat → Int64) (f : Nat → Int32) : (mW E h q I J B G).set 37 (q 52, .inl (E.1, 1536, .inl f)) = mW E h q I J (upB B 52 f) G := rfl
theorem aw_name (E : ClassId × ClassId × ClassId × ClassId) (h : Nat) (q : Nat → Nat) (I : Nat → Int32) (J : Nat → Int64) (B : Nat → Nat → Int32) (G : Nat → Nat → Int64) : (mW E h q I J B G)[38]? = some (q 53, .inl (E.1, 40, .inl (B 53))) := rfl
theorem sw_name (E : ClassId × ClassId × ClassId × ClassId) (h : Nat) (q : Nat → Nat) (I : Nat → Int32) (J : Nat → Int64) (B : Nat → Nat → Int32) (G : Nat → Nat → Int64) (f : Nat → Int32) : (mW E h q I J B G).set 38 (q 53, .inl (E.1, 40, .inl f)) = mW E h q I J (upB B 53 f) G := rfl
theorem aw_made (E : ClassId × ClassId × ClassId × ClassId) (h : Nat) (q : Nat → Nat) (I : Nat → Int32) (J : Nat → Int64) (B : Nat → Nat → Int32) (G : Nat → Nat → Int64) : (mW E h q I J B G)[39]? = some (q 56, .inl (E.1, 32, .inl (B 56))) := rfl
theorem sw_made (E : ClassId × ClassId × ClassId × ClassId) (h : Nat) (q : Nat → Nat) (I : Nat → Int32) (J : Nat → Int64) (B : Nat → Nat → Int32) (G : Nat → Nat → Int64) (f : Nat → Int32) : (mW E h q I J B G).set 39 (q 56, .inl (E.1, 32, .inl f)) = mW E h q I J (upB B 56 f) G := rfl
theorem aw_key (E : ClassId × ClassId × ClassId × ClassId) (h : Nat) (q : Nat → Nat) (I : Nat → Int32) (J : Nat → Int64) (B : Nat → Nat → Int32) (G : Nat → Nat → Int64) : (mW E h q I J B G)[40]? = some (q 58, .inl (E.1, 32, .inl (B 58))) := rfl
theorem sw_key (E : ClassId × ClassId × ClassId × ClassId) (h : Nat) (q : Nat → Nat) (I : Nat → Int32) (J : Nat → Int64) (B : Nat → Nat → Int32) (G : Nat → Nat → Int64) (f : Nat → Int32) : (mW E h q I J B G).set 40 (q 58, .inl (E.1, 32, .inl f)) = mW E h q I J (upB B 58 f) G := rfl
theorem aw_sub (E : ClassId × ClassId × ClassId × ClassId) (h : Nat) (q : Nat → Nat) (I : Nat → Int32) (J : Nat → Int64) (B : Nat → Nat → Int32) (G : Nat → Nat → Int64) : (mW E h q I J B G)[41]? = some (q 59, .inl (E.1, 32, .inl (B 59))) := rfl
theorem sw_sub (E : ClassId × ClassId × ClassId × ClassId) (h : Nat) (q : Nat → Nat) (I : Nat → Int32) (J : Nat → Int64) (B : Nat → Nat → Int32) (G : Nat → Nat → Int64) (f : Nat → Int32) : (mW E h q I J B G).set 41 (q 59, .inl (E.1, 32, .inl f)) = mW E h q I J (upB B 59 f) G := rfl
theorem aw_fresh (E : ClassId × ClassId × ClassId × ClassId) (h : Nat) (q : Nat → Nat) (I : Nat → Int32) (J : Nat → Int64) (B : Nat → Nat → Int32) (G : Nat → Nat → Int64) : (mW E h q I J B G)[42]? = some (q 60, .inl (E.1, 32, .inl (B 60))) := rfl
theorem sw_fresh (E : ClassId × ClassId × ClassId × ClassId) (h : Nat) (q : Nat → Nat) (I : Nat → Int32) (J : Nat → Int64) (B : Nat → Nat → Int32) (G : Nat → Nat → Int64) (f : Nat → Int32) : (mW E h q I J B G).set 42 (q 60, .inl (E.1, 32, .inl f)) = mW E h q I J (upB B 60 f) G := rfl
theorem aw_seenNames (E : ClassId × ClassId × ClassId × ClassId) (h : Nat) (q : Nat → Nat) (I : Nat → Int32) (J : Nat → Int64) (B : Nat → Nat → Int32) (G : Nat → Nat → Int64) : (mW E h q I J B G)[43]? = some (q 61, .inl (E.1, 18304, .inl (B 61))) := rfl
theorem sw_seenNames (E : ClassId × ClassId × ClassId × ClassId) (h : Nat) (q : Nat → Nat) (I : Nat → Int32) (J : Nat → Int64) (B : Nat → Nat → Int32) (G : Nat → Nat → Int64) (f : Nat → Int32) : (mW E h q I J B G).set 43 (q 61, .inl (E.1, 18304, .inl f)) = mW E h q I J (upB B 61 f) G := rfl
theorem aw_seenSizes (E : ClassId × ClassId × ClassId × ClassId) (h : Nat) (q : Nat → Nat) (I : Nat → Int32) (J : Nat → Int64) (B : Nat → Nat → Int32) (G : Nat → Nat → Int64) : (mW E h q I J B G)[44]? = some (q 62, .inl (E.2.1, 416, .inl (B 62))) := rfl
theorem sw_seenSizes (E : ClassId × ClassId × ClassId × ClassId) (h : Nat) (q : Nat → Nat) (I : Nat → Int32) (J : Nat → Int64) (B : Nat → Nat → Int32) (G : Nat → Nat → Int64) (f : Nat → Int32) : (mW E h q I J B G).set 44 (q 62, .inl (E.2.1, 416, .inl f)) = mW E h q I J (upB B 62 f) G := rfl
theorem aw_seenMicros (E : ClassId × ClassId × ClassId × ClassId) (h : Nat) (q : Nat → Nat) (I : Nat → Int32) (J : Nat → Int64) (B : Nat → Nat → Int32) (G : Nat → Nat → Int64) : (mW E h q I J B G)[45]? = some (q 63, .inl (E.2.1, 416, .inl (B 63))) := rfl
theorem sw_seenMicros (E : ClassId × ClassId × ClassId × ClassId) (h : Nat) (q : Nat → Nat) (I : Nat → Int32) (J : Nat → Int64) (B : Nat → Nat → Int32) (G : Nat → Nat → Int64) (f : Nat → Int32) : (mW E h q I J B G).set 45 (q 63, .inl (E.2.1, 416, .inl f)) = mW E h q I J (upB B 63 f) G := rfl
theorem aw_seenMany (E : ClassId × ClassId × ClassId × ClassId) (h : Nat) (q : Nat → Nat) (I : Nat → Int32) (J : Nat → Int64) (B : Nat → Nat → Int32) (G : Nat → Nat → Int64) : (mW E h q I J B G)[46]? = some (q 64, .inl (E.2.1, 13, .inl (B 64))) := rfl
theorem sw_seenMany (E : ClassId × ClassId × ClassId × ClassId) (h : Nat) (q : Nat → Nat) (I : Nat → Int32) (J : Nat → Int64) (B : Nat → Nat → Int32) (G : Nat → Nat → Int64) (f : Nat → Int32) : (mW E h q I J B G).set 46 (q 64, .inl (E.2.1, 13, .inl f)) = mW E h q I J (upB B 64 f) G := rfl
theorem aw_seenTimes (E : ClassId × ClassId × ClassId × ClassId) (h : Nat) (q : Nat → Nat) (I : Nat → Int32) (J : Nat → Int64) (B : Nat → Nat → Int32) (G : Nat → Nat → Int64) : (mW E h q I J B G)[47]? = some (q 65, .inl (E.2.2.1, 416, .inr (.inl (G 65)))) := rfl
theorem sw_seenTimes (E : ClassId × ClassId × ClassId × ClassId) (h : Nat) (q : Nat → Nat) (I : Nat → Int32) (J : Nat → Int64) (B : Nat → Nat → Int32) (G : Nat → Nat → Int64) (f : Nat → Int64) : (mW E h q I J B G).set 47 (q 65, .inl (E.2.2.1, 416, .inr (.inl f))) = mW E h q I J B (upG G 65 f) := rfl
theorem aw_rounds4 (E : ClassId × ClassId × ClassId × ClassId) (h : Nat) (q : Nat → Nat) (I : Nat → Int32) (J : Nat → Int64) (B : Nat → Nat → Int32) (G : Nat → Nat → Int64) : (mW E h q I J B G)[48]? = some (q 90, .inl (E.1, 4, .inl (B 90))) := rfl
theorem sw_rounds4 (E : ClassId × ClassId × ClassId × ClassId) (h : Nat) (q : Nat → Nat) (I : Nat → Int32) (J : Nat → Int64) (B : Nat → Nat → Int32) (G : Nat → Nat → Int64) (f : Nat → Int32) : (mW E h q I J B G).set 48 (q 90, .inl (E.1, 4, .inl f)) = mW E h q I J (upB B 90 f) G := rfl
theorem aw_isAgent (E : ClassId × ClassId × ClassId × ClassId) (h : Nat) (q : Nat → Nat) (I : Nat → Int32) (J : Nat → Int64) (B : Nat → Nat → Int32) (G : Nat → Nat → Int64) : (mW E h q I J B G)[49]? = some (q 91, .inl (E.2.2.2, 4, .inl (B 91))) := rfl
theorem sw_isAgent (E : ClassId × ClassId × ClassId × ClassId) (h : Nat) (q : Nat → Nat) (I : Nat → Int32) (J : Nat → Int64) (B : Nat → Nat → Int32) (G : Nat → Nat → Int64) (f : Nat → Int32) : (mW E h q I J B G).set 49 (q 91, .inl (E.2.2.2, 4, .inl f)) = mW E h q I J (upB B 91 f) G := rfl
theorem aw_agentNames (E : ClassId × ClassId × ClassId × ClassId) (h : Nat) (q : Nat → Nat) (I : Nat → Int32) (J : Nat → Int64) (B : Nat → Nat → Int32) (G : Nat → Nat → Int64) : (mW E h q I J B G)[50]? = some (q 92, .inl (E.1, 160, .inl (B 92))) := rfl
theorem sw_agentNames (E : ClassId × ClassId × ClassId × ClassId) (h : Nat) (q : Nat → Nat) (I : Nat → Int32) (J : Nat → Int64) (B : Nat → Nat → Int32) (G : Nat → Nat → Int64) (f : Nat → Int32) : (mW E h q I J B G).set 50 (q 92, .inl (E.1, 160, .inl f)) = mW E h q I J (upB B 92 f) G := rfl
theorem aw_agentSizes (E : ClassId × ClassId × ClassId × ClassId) (h : Nat) (q : Nat → Nat) (I : Nat → Int32) (J : Nat → Int64) (B : Nat → Nat → Int32) (G : Nat → Nat → Int64) : (mW E h q I J B G)[51]? = some (q 93, .inl (E.2.1, 4, .inl (B 93))) := rfl
theorem sw_agentSizes (E : ClassId × ClassId × ClassId × ClassId) (h : Nat) (q : Nat → Nat) (I : Nat → Int32) (J : Nat → Int64) (B : Nat → Nat → Int32) (G : Nat → Nat → Int64) (f : Nat → Int32) : (mW E h q I J B G).set 51 (q 93, .inl (E.2.1, 4, .inl f)) = mW E h q I J (upB B 93 f) G := rfl
theorem aw_shifts (E : ClassId × ClassId × ClassId × ClassId) (h : Nat) (q : Nat → Nat) (I : Nat → Int32) (J : Nat → Int64) (B : Nat → Nat → Int32) (G : Nat → Nat → Int64) : (mW E h q I J B G)[52]? = some (q 94, .inl (E.2.1, 4, .inl (B 94))) := rfl
theorem sw_shifts (E : ClassId × ClassId × ClassId × ClassId) (h : Nat) (q : Nat → Nat) (I : Nat → Int32) (J : Nat → Int64) (B : Nat → Nat → Int32) (G : Nat → Nat → Int64) (f : Nat → Int32) : (mW E h q I J B G).set 52 (q 94, .inl (E.2.1, 4, .inl f)) = mW E h q I J (upB B 94 f) G := rfl
theorem aw_micros (E : ClassId × ClassId × ClassId × ClassId) (h : Nat) (q : Nat → Nat) (I : Nat → Int32) (J : Nat → Int64) (B : Nat → Nat → Int32) (G : Nat → Nat → Int64) : (mW E h q I J B G)[53]? = some (q 95, .inl (E.2.1, 4, .inl (B 95))) := rfl
theorem sw_micros (E : ClassId × ClassId × ClassId × ClassId) (h : Nat) (q : Nat → Nat) (I : Nat → Int32) (J : Nat → Int64) (B : Nat → Nat → Int32) (G : Nat → Nat → Int64) (f : Nat → Int32) : (mW E h q I J B G).set 53 (q 95, .inl (E.2.1, 4, .inl f)) = mW E h q I J (upB B 95 f) G := rfl
theorem aw_agentKeys (E : ClassId × ClassId × ClassId × ClassId) (h : Nat) (q : Nat → Nat) (I : Nat → Int32) (J : Nat → Int64) (B : Nat → Nat → Int32) (G : Nat → Nat → Int64) : (mW E h q I J B G)[54]? = some (q 96, .inl (E.1, 256, .inl (B 96))) := rfl
theorem sw_agentKeys (E : ClassId × ClassId × ClassId × ClassId) (h : Nat) (q : Nat → Nat) (I : Nat → Int32) (J : Nat → Int64) (B : Nat → Nat → Int32) (G : Nat → Nat → Int64) (f : Nat → Int32) : (mW E h q I J B G).set 54 (q 96, .inl (E.1, 256, .inl f)) = mW E h q I J (upB B 96 f) G := rfl
theorem aw_isTicket (E : ClassId × ClassId × ClassId × ClassId) (h : Nat) (q : Nat → Nat) (I : Nat → Int32) (J : Nat → Int64) (B : Nat → Nat → Int32) (G : Nat → Nat → Int64) : (mW E h q I J B G)[55]? = some (q 97, .inl (E.2.2.2, 32, .inl (B 97))) := rfl
theorem sw_isTicket (E : ClassId × ClassId × ClassId × ClassId) (h : Nat) (q : Nat → Nat) (I : Nat → Int32) (J : Nat → Int64) (B : Nat → Nat → Int32) (G : Nat → Nat → Int64) (f : Nat → Int32) : (mW E h q I J B G).set 55 (q 97, .inl (E.2.2.2, 32, .inl f)) = mW E h q I J (upB B 97 f) G := rfl
theorem aw_ticketBytes (E : ClassId × ClassId × ClassId × ClassId) (h : Nat) (q : Nat → Nat) (I : Nat → Int32) (J : Nat → Int64) (B : Nat → Nat → Int32) (G : Nat → Nat → Int64) : (mW E h q I J B G)[56]? = some (q 98, .inl (E.1, 134400, .inl (B 98))) := rfl
theorem sw_ticketBytes (E : ClassId × ClassId × ClassId × ClassId) (h : Nat) (q : Nat → Nat) (I : Nat → Int32) (J : Nat → Int64) (B : Nat → Nat → Int32) (G : Nat → Nat → Int64) (f : Nat → Int32) : (mW E h q I J B G).set 56 (q 98, .inl (E.1, 134400, .inl f)) = mW E h q I J (upB B 98 f) G := rfl
theorem aw_ticketKeys (E : ClassId × ClassId × ClassId × ClassId) (h : Nat) (q : Nat → Nat) (I : Nat → Int32) (J : Nat → Int64) (B : Nat → Nat → Int32) (G : Nat → Nat → Int64) : (mW E h q I J B G)[57]? = some (q 99, .inl (E.1, 1024, .inl (B 99))) := rfl
theorem sw_ticketKeys (E : ClassId × ClassId × ClassId × ClassId) (h : Nat) (q : Nat → Nat) (I : Nat → Int32) (J : Nat → Int64) (B : Nat → Nat → Int32) (G : Nat → Nat → Int64) (f : Nat → Int32) : (mW E h q I J B G).set 57 (q 99, .inl (E.1, 1024, .inl f)) = mW E h q I J (upB B 99 f) G := rfl
theorem aw_ticketSizes (E : ClassId × ClassId × ClassId × ClassId) (h : Nat) (q : Nat → Nat) (I : Nat → Int32) (J : Nat → Int64) (B : Nat → Nat → Int32) (G : Nat → Nat → Int64) : (mW E h q I J B G)[58]? = some (q 100, .inl (E.2.1, 32, .inl (B 100))) := rfl
theorem sw_ticketSizes (E : ClassId × ClassId × ClassId × ClassId) (h : Nat) (q : Nat → Nat) (I : Nat → Int32) (J : Nat → Int64) (B : Nat → Nat → Int32) (G : Nat → Nat → Int64) (f : Nat → Int32) : (mW E h q I J B G).set 58 (q 100, .inl (E.2.1, 32, .inl f)) = mW E h q I J (upB B 100 f) G := rfl
theorem aw_ticketFlags (E : ClassId × ClassId × ClassId × ClassId) (h : Nat) (q : Nat → Nat) (I : Nat → Int32) (J : Nat → Int64) (B : Nat → Nat → Int32) (G : Nat → Nat → Int64) : (mW E h q I J B G)[59]? = some (q 101, .inl (E.2.1, 32, .inl (B 101))) := rfl
theorem sw_ticketFlags (E : ClassId × ClassId × ClassId × ClassId) (h : Nat) (q : Nat → Nat) (I : Nat → Int32) (J : Nat → Int64) (B : Nat → Nat → Int32) (G : Nat → Nat → Int64) (f : Nat → Int32) : (mW E h q I J B G).set 59 (q 101, .inl (E.2.1, 32, .inl f)) = mW E h q I J (upB B 101 f) G := rfl
theorem aw_ticketTypes (E : ClassId × ClassId × ClassId × ClassId) (h : Nat) (q : Nat → Nat) (I : Nat → Int32) (J : Nat → Int64) (B : Nat → Nat → Int32) (G : Nat → Nat → Int64) : (mW E h q I J B G)[60]? = some (q 102, .inl (E.2.1, 32, .inl (B 102))) := rfl
theorem sw_ticketTypes (E : ClassId × ClassId × ClassId × ClassId) (h : Nat) (q : Nat → Nat) (I : Nat → Int32) (J : Nat → Int64) (B : Nat → Nat → Int32) (G : Nat → Nat → Int64) (f : Nat → Int32) : (mW E h q I J B G).set 60 (q 102, .inl (E.2.1, 32, .inl f)) = mW E h q I J (upB B 102 f) G := rfl
theorem aw_authTimes (E : ClassId × ClassId × ClassId × ClassId) (h : Nat) (q : Nat → Nat) (I : Nat → Int32) (J : Nat → Int64) (B : Nat → Nat → Int32) (G : Nat → Nat → Int64) : (mW E h q I J B G)[61]? = some (q 103, .inl (E.2.2.1, 32, .inr (.inl (G 103)))) := rfl
theorem sw_authTimes (E : ClassId × ClassId × ClassId × ClassId) (h : Nat) (q : Nat → Nat) (I : Nat → Int32) (J : Nat → Int64) (B : Nat → Nat → Int32) (G : Nat → Nat → Int64) (f : Nat → Int64) : (mW E h q I J B G).set 61 (q 103, .inl (E.2.2.1, 32, .inr (.inl f))) = mW E h q I J B (upG G 103 f) := rfl
theorem aw_startTimes (E : ClassId × ClassId × ClassId × ClassId) (h : Nat) (q : Nat → Nat) (I : Nat → Int32) (J : Nat → Int64) (B : Nat → Nat → Int32) (G : Nat → Nat → Int64) : (mW E h q I J B G)[62]? = some (q 104, .inl (E.2.2.1, 32, .inr (.inl (G 104)))) := rfl
theorem sw_startTimes (E : ClassId × ClassId × ClassId × ClassId) (h : Nat) (q : Nat → Nat) (I : Nat → Int32) (J : Nat → Int64) (B : Nat → Nat → Int32) (G : Nat → Nat → Int64) (f : Nat → Int64) : (mW E h q I J B G).set 62 (q 104, .inl (E.2.2.1, 32, .inr (.inl f))) = mW E h q I J B (upG G 104 f) := rfl
theorem aw_endTimes (E : ClassId × ClassId × ClassId × ClassId) (h : Nat) (q : Nat → Nat) (I : Nat → Int32) (J : Nat → Int64) (B : Nat → Nat → Int32) (G : Nat → Nat → Int64) : (mW E h q I J B G)[63]? = some (q 105, .inl (E.2.2.1, 32, .inr (.inl (G 105)))) := rfl
theorem sw_endTimes (E : ClassId × ClassId × ClassId × ClassId) (h : Nat) (q : Nat → Nat) (I : Nat → Int32) (J : Nat → Int64) (B : Nat → Nat → Int32) (G : Nat → Nat → Int64) (f : Nat → Int64) : (mW E h q I J B G).set 63 (q 105, .inl (E.2.2.1, 32, .inr (.inl f))) = mW E h q I J B (upG G 105 f) := rfl
theorem aw_renewTimes (E : ClassId × ClassId × ClassId × ClassId) (h : Nat) (q : Nat → Nat) (I : Nat → Int32) (J : Nat → Int64) (B : Nat → Nat → Int32) (G : Nat → Nat → Int64) : (mW E h q I J B G)[64]? = some (q 106, .inl (E.2.2.1, 32, .inr (.inl (G 106)))) := rfl
theorem sw_renewTimes (E : ClassId × ClassId × ClassId × ClassId) (h : Nat) (q : Nat → Nat) (I : Nat → Int32) (J : Nat → Int64) (B : Nat → Nat → Int32) (G : Nat → Nat → Int64) (f : Nat → Int64) : (mW E h q I J B G).set 64 (q 106, .inl (E.2.2.1, 32, .inr (.inl f))) = mW E h q I J B (upG G 106 f) := rfl
theorem aw_clientBytes (E : ClassId × ClassId × ClassId × ClassId) (h : Nat) (q : Nat → Nat) (I : Nat → Int32) (J : Nat → Int64) (B : Nat → Nat → Int32) (G : Nat → Nat → Int64) : (mW E h q I J B G)[65]? = some (q 107, .inl (E.1, 12800, .inl (B 107))) := rfl
theorem sw_clientBytes (E : ClassId × ClassId × ClassId × ClassId) (h : Nat) (q : Nat → Nat) (I : Nat → Int32) (J : Nat → Int64) (B : Nat → Nat → Int32) (G : Nat → Nat → Int64) (f : Nat → Int32) : (mW E h q I J B G).set 65 (q 107, .inl (E.1, 12800, .inl f)) = mW E h q I J (upB B 107 f) G := rfl
theorem aw_realmSizes (E : ClassId × ClassId × ClassId × ClassId) (h : Nat) (q : Nat → Nat) (I : Nat → Int32) (J : Nat → Int64) (B : Nat → Nat → Int32) (G : Nat → Nat → Int64) : (mW E h q I J B G)[66]? = some (q 108, .inl (E.2.1, 32, .inl (B 108))) := rfl
theorem sw_realmSizes (E : ClassId × ClassId × ClassId × ClassId) (h : Nat) (q : Nat → Nat) (I : Nat → Int32) (J : Nat → Int64) (B : Nat → Nat → Int32) (G : Nat → Nat → Int64) (f : Nat → Int32) : (mW E h q I J B G).set 66 (q 108, .inl (E.2.1, 32, .inl f)) = mW E h q I J (upB B 108 f) G := rfl
theorem aw_clientSizes (E : ClassId × ClassId × ClassId × ClassId) (h : Nat) (q : Nat → Nat) (I : Nat → Int32) (J : Nat → Int64) (B : Nat → Nat → Int32) (G : Nat → Nat → Int64) : (mW E h q I J B G)[67]? = some (q 109, .inl (E.2.1, 32, .inl (B 109))) := rfl
theorem sw_clientSizes (E : ClassId × ClassId × ClassId × ClassId) (h : Nat) (q : Nat → Nat) (I : Nat → Int32) (J : Nat → Int64) (B : Nat → Nat → Int32) (G : Nat → Nat → Int64) (f : Nat → Int32) : (mW E h q I J B G).set 67 (q 109, .inl (E.2.1, 32, .inl f)) = mW E h q I J (upB B 109 f) G := rfl
theorem aw_askedKind (E : ClassId × ClassId × ClassId × ClassId) (h : Nat) (q : Nat → Nat) (I : Nat → Int32) (J : Nat → Int64) (B : Nat → Nat → Int32) (G : Nat → Nat → Int64) : (mW E h q I J B G)[68]? = some (q 110, .inl (E.2.1, 4, .inl (B 110))) := rfl
theorem sw_askedKind (E : ClassId × ClassId × ClassId × ClassId) (h : Nat) (q : Nat → Nat) (I : Nat → Int32) (J : Nat → Int64) (B : Nat → Nat → Int32) (G : Nat → Nat → Int64) (f : Nat → Int32) : (mW E h q I J B G).set 68 (q 110, .inl (E.2.1, 4, .inl f)) = mW E h q I J (upB B 110 f) G := rfl
theorem aw_askedTypes (E : ClassId × ClassId × ClassId × ClassId) (h : Nat) (q : Nat → Nat) (I : Nat → Int32) (J : Nat → Int64) (B : Nat → Nat → Int32) (G : Nat → Nat → Int64) : (mW E h q I J B G)[69]? = some (q 111, .inl (E.2.1, 4, .inl (B 111))) := rfl
theorem sw_askedTypes (E : ClassId × ClassId × ClassId × ClassId) (h : Nat) (q : Nat → Nat) (I : Nat → Int32) (J : Nat → Int64) (B : Nat → Nat → Int32) (G : Nat → Nat → Int64) (f : Nat → Int32) : (mW E h q I J B G).set 69 (q 111, .inl (E.2.1, 4, .inl f)) = mW E h q I J (upB B 111 f) G := rfl
theorem aw_askedSub (E : ClassId × ClassId × ClassId × ClassId) (h : Nat) (q : Nat → Nat) (I : Nat → Int32) (J : Nat → Int64) (B : Nat → Nat → Int32) (G : Nat → Nat → Int64) : (mW E h q I J B G)[70]? = some (q 112, .inl (E.2.1, 4, .inl (B 112))) := rfl
theorem sw_askedSub (E : ClassId × ClassId × ClassId × ClassId) (h : Nat) (q : Nat → Nat) (I : Nat → Int32) (J : Nat → Int64) (B : Nat → Nat → Int32) (G : Nat → Nat → Int64) (f : Nat → Int32) : (mW E h q I J B G).set 70 (q 112, .inl (E.2.1, 4, .inl f)) = mW E h q I J (upB B 112 f) G := rfl
theorem aw_askedSize (E : ClassId × ClassId × ClassId × ClassId) (h : Nat) (q : Nat → Nat) (I : Nat → Int32) (J : Nat → Int64) (B : Nat → Nat → Int32) (G : Nat → Nat → Int64) : (mW E h q I J B G)[71]? = some (q 113, .inl (E.2.1, 4, .inl (B 113))) := rfl
theorem sw_askedSize (E : ClassId × ClassId × ClassId × ClassId) (h : Nat) (q : Nat → Nat) (I : Nat → Int32) (J : Nat → Int64) (B : Nat → Nat → Int32) (G : Nat → Nat → Int64) (f : Nat → Int32) : (mW E h q I J B G).set 71 (q 113, .inl (E.2.1, 4, .inl f)) = mW E h q I J (upB B 113 f) G := rfl
theorem aw_askedNonce (E : ClassId × ClassId × ClassId × ClassId) (h : Nat) (q : Nat → Nat) (I : Nat → Int32) (J : Nat → Int64) (B : Nat → Nat → Int32) (G : Nat → Nat → Int64) : (mW E h q I J B G)[72]? = some (q 114, .inl (E.2.2.1, 4, .inr (.inl (G 114)))) := rfl
theorem sw_askedNonce (E : ClassId × ClassId × ClassId × ClassId) (h : Nat) (q : Nat → Nat) (I : Nat → Int32) (J : Nat → Int64) (B : Nat → Nat → Int32) (G : Nat → Nat → Int64) (f : Nat → Int64) : (mW E h q I J B G).set 72 (q 114, .inl (E.2.2.1, 4, .inr (.inl f))) = mW E h q I J B (upG G 114 f) := rfl
theorem aw_askedRenew (E : ClassId × ClassId × ClassId × ClassId) (h : Nat) (q : Nat → Nat) (I : Nat → Int32) (J : Nat → Int64) (B : Nat → Nat → Int32) (G : Nat → Nat → Int64) : (mW E h q I J B G)[73]? = some (q 115, .inl (E.2.2.2, 4, .inl (B 115))) := rfl
theorem sw_askedRenew (E : ClassId × ClassId × ClassId × ClassId) (h : Nat) (q : Nat → Nat) (I : Nat → Int32) (J : Nat → Int64) (B : Nat → Nat → Int32) (G : Nat → Nat → Int64) (f : Nat → Int32) : (mW E h q I J B G).set 73 (q 115, .inl (E.2.2.2, 4, .inl f)) = mW E h q I J (upB B 115 f) G := rfl
theorem aw_askedKeys (E : ClassId × ClassId × ClassId × ClassId) (h : Nat) (q : Nat → Nat) (I : Nat → Int32) (J : Nat → Int64) (B : Nat → Nat → Int32) (G : Nat → Nat → Int64) : (mW E h q I J B G)[74]? = some (q 116, .inl (E.1, 128, .inl (B 116))) := rfl
theorem sw_askedKeys (E : ClassId × ClassId × ClassId × ClassId) (h : Nat) (q : Nat → Nat) (I : Nat → Int32) (J : Nat → Int64) (B : Nat → Nat → Int32) (G : Nat → Nat → Int64) (f : Nat → Int32) : (mW E h q I J B G).set 74 (q 116, .inl (E.1, 128, .inl f)) = mW E h q I J (upB B 116 f) G := rfl
theorem aw_askedNames (E : ClassId × ClassId × ClassId × ClassId) (h : Nat) (q : Nat → Nat) (I : Nat → Int32) (J : Nat → Int64) (B : Nat → Nat → Int32) (G : Nat → Nat → Int64) : (mW E h q I J B G)[75]? = some (q 117, .inl (E.1, 160, .inl (B 117))) := rfl
theorem sw_askedNames (E : ClassId × ClassId × ClassId × ClassId) (h : Nat) (q : Nat → Nat) (I : Nat → Int32) (J : Nat → Int64) (B : Nat → Nat → Int32) (G : Nat → Nat → Int64) (f : Nat → Int32) : (mW E h q I J B G).set 75 (q 117, .inl (E.1, 160, .inl f)) = mW E h q I J (upB B 117 f) G := rfl
theorem aw_askedClients (E : ClassId × ClassId × ClassId × ClassId) (h : Nat) (q : Nat → Nat) (I : Nat → Int32) (J : Nat → Int64) (B : Nat → Nat → Int32) (G : Nat → Nat → Int64) : (mW E h q I J B G)[76]? = some (q 118, .inl (E.1, 1600, .inl (B 118))) := rfl
theorem sw_askedClients (E : ClassId × ClassId × ClassId × ClassId) (h : Nat) (q : Nat → Nat) (I : Nat → Int32) (J : Nat → Int64) (B : Nat → Nat → Int32) (G : Nat → Nat → Int64) (f : Nat → Int32) : (mW E h q I J B G).set 76 (q 118, .inl (E.1, 1600, .inl f)) = mW E h q I J (upB B 118 f) G := rfl
theorem aw_askedRealm (E : ClassId × ClassId × ClassId × ClassId) (h : Nat) (q : Nat → Nat) (I : Nat → Int32) (J : Nat → Int64) (B : Nat → Nat → Int32) (G : Nat → Nat → Int64) : (mW E h q I J B G)[77]? = some (q 119, .inl (E.2.1, 4, .inl (B 119))) := rfl
theorem sw_askedRealm (E : ClassId × ClassId × ClassId × ClassId) (h : Nat) (q : Nat → Nat) (I : Nat → Int32) (J : Nat → Int64) (B : Nat → Nat → Int32) (G : Nat → Nat → Int64) (f : Nat → Int32) : (mW E h q I J B G).set 77 (q 119, .inl (E.2.1, 4, .inl f)) = mW E h q I J (upB B 119 f) G := rfl
theorem aw_askedClient (E : ClassId × ClassId × ClassId × ClassId) (h : Nat) (q : Nat → Nat) (I : Nat → Int32) (J : Nat → Int64) (B : Nat → Nat → Int32) (G : Nat → Nat → Int64) : (mW E h q I J B G)[78]? = some (q 120, .inl (E.2.1, 4, .inl (B 120))) := rfl
theorem sw_askedClient (E : ClassId × ClassId × ClassId × ClassId) (h : Nat) (q : Nat → Nat) (I : Nat → Int32) (J : Nat → Int64) (B : Nat → Nat → Int32) (G : Nat → Nat → Int64) (f : Nat → Int32) : (mW E h q I J B G).set 78 (q 120, .inl (E.2.1, 4, .inl f)) = mW E h q I J (upB B 120 f) G := rfl
theorem aw_wantsMet (E : ClassId × ClassId × ClassId × ClassId) (h : Nat) (q : Nat → Nat) (I : Nat → Int32) (J : Nat → Int64) (B : Nat → Nat → Int32) (G : Nat → Nat → Int64) : (mW E h q I J B G)[79]? = some (q 121, .inl (E.2.2.2, 4, .inl (B 121))) := rfl
theorem sw_wantsMet (E : ClassId × ClassId × ClassId × ClassId) (h : Nat) (q : Nat → Nat) (I : Nat → Int32) (J : Nat → Int64) (B : Nat → Nat → Int32) (G : Nat → Nat → Int64) (f : Nat → Int32) : (mW E h q I J B G).set 79 (q 121, .inl (E.2.2.2, 4, .inl f)) = mW E h q I J (upB B 121 f) G := rfl
theorem aw_apType (E : ClassId × ClassId × ClassId × ClassId) (h : Nat) (q : Nat → Nat) (I : Nat → Int32) (J : Nat → Int64) (B : Nat → Nat → Int32) (G : Nat → Nat → Int64) : (mW E h q I J B G)[80]? = some (q 122, .inl (E.2.1, 4, .inl (B 122))) := rfl
theorem sw_apType (E : ClassId × ClassId × ClassId × ClassId) (h : Nat) (q : Nat → Nat) (I : Nat → Int32) (J : Nat → Int64) (B : Nat → Nat → Int32) (G : Nat → Nat → Int64) (f : Nat → Int32) : (mW E h q I J B G).set 80 (q 122, .inl (E.2.1, 4, .inl f)) = mW E h q I J (upB B 122 f) G := rfl
theorem aw_apSubType (E : ClassId × ClassId × ClassId × ClassId) (h : Nat) (q : Nat → Nat) (I : Nat → Int32) (J : Nat → Int64) (B : Nat → Nat → Int32) (G : Nat → Nat → Int64) : (mW E h q I J B G)[81]? = some (q 123, .inl (E.2.1, 4, .inl (B 123))) := rfl
theorem sw_apSubType (E : ClassId × ClassId × ClassId × ClassId) (h : Nat) (q : Nat → Nat) (I : Nat → Int32) (J : Nat → Int64) (B : Nat → Nat → Int32) (G : Nat → Nat → Int64) (f : Nat → Int32) : (mW E h q I J B G).set 81 (q 123, .inl (E.2.1, 4, .inl f)) = mW E h q I J (upB B 123 f) G := rfl
theorem aw_apMicros (E : ClassId × ClassId × ClassId × ClassId) (h : Nat) (q : Nat → Nat) (I : Nat → Int32) (J : Nat → Int64) (B : Nat → Nat → Int32) (G : Nat → Nat → Int64) : (mW E h q I J B G)[82]? = some (q 124, .inl (E.2.1, 4, .inl (B 124))) := rfl
theorem sw_apMicros (E : ClassId × ClassId × ClassId × ClassId) (h : Nat) (q : Nat → Nat) (I : Nat → Int32) (J : Nat → Int64) (B : Nat → Nat → Int32) (G : Nat → Nat → Int64) (f : Nat → Int32) : (mW E h q I J B G).set 82 (q 124, .inl (E.2.1, 4, .inl f)) = mW E h q I J (upB B 124 f) G := rfl
theorem aw_apSerial (E : ClassId × ClassId × ClassId × ClassId) (h : Nat) (q : Nat → Nat) (I : Nat → Int32) (J : Nat → Int64) (B : Nat → Nat → Int32) (G : Nat → Nat → Int64) : (mW E h q I J B G)[83]? = some (q 125, .inl (E.2.1, 4, .inl (B 125))) := rfl
theorem sw_apSerial (E : ClassId × ClassId × ClassId × ClassId) (h : Nat) (q : Nat → Nat) (I : Nat → Int32) (J : Nat → Int64) (B : Nat → Nat → Int32) (G : Nat → Nat → Int64) (f : Nat → Int32) : (mW E h q I J B G).set 83 (q 125, .inl (E.2.1, 4, .inl f)) = mW E h q I J (upB B 125 f) G := rfl
theorem aw_apKeys (E : ClassId × ClassId × ClassId × ClassId) (h : Nat) (q : Nat → Nat) (I : Nat → Int32) (J : Nat → Int64) (B : Nat → Nat → Int32) (G : Nat → Nat → Int64) : (mW E h q I J B G)[84]? = some (q 126, .inl (E.1, 128, .inl (B 126))) := rfl
theorem sw_apKeys (E : ClassId × ClassId × ClassId × ClassId) (h : Nat) (q : Nat → Nat) (I : Nat → Int32) (J : Nat → Int64) (B : Nat → Nat → Int32) (G : Nat → Nat → Int64) (f : Nat → Int32) : (mW E h q I J B G).set 84 (q 126, .inl (E.1, 128, .inl f)) = mW E h q I J (upB B 126 f) G := rfl
theorem aw_apSubs (E : ClassId × ClassId × ClassId × ClassId) (h : Nat) (q : Nat → Nat) (I : Nat → Int32) (J : Nat → Int64) (B : Nat → Nat → Int32) (G : Nat → Nat → Int64) : (mW E h q I J B G)[85]? = some (q 127, .inl (E.1, 128, .inl (B 127))) := rfl
theorem sw_apSubs (E : ClassId × ClassId × ClassId × ClassId) (h : Nat) (q : Nat → Nat) (I : Nat → Int32) (J : Nat → Int64) (B : Nat → Nat → Int32) (G : Nat → Nat → Int64) (f : Nat → Int32) : (mW E h q I J B G).set 85 (q 127, .inl (E.1, 128, .inl f)) = mW E h q I J (upB B 127 f) G := rfl
theorem aw_apTime (E : ClassId × ClassId × ClassId × ClassId) (h : Nat) (q : Nat → Nat) (I : Nat → Int32) (J : Nat → Int64) (B : Nat → Nat → Int32) (G : Nat → Nat → Int64) : (mW E h q I J B G)[86]? = some (q 128, .inl (E.2.2.1, 4, .inr (.inl (G 128)))) := rfl
theorem sw_apTime (E : ClassId × ClassId × ClassId × ClassId) (h : Nat) (q : Nat → Nat) (I : Nat → Int32) (J : Nat → Int64) (B : Nat → Nat → Int32) (G : Nat → Nat → Int64) (f : Nat → Int64) : (mW E h q I J B G).set 86 (q 128, .inl (E.2.2.1, 4, .inr (.inl f))) = mW E h q I J B (upG G 128 f) := rfl
theorem aw_apNumber (E : ClassId × ClassId × ClassId × ClassId) (h : Nat) (q : Nat → Nat) (I : Nat → Int32) (J : Nat → Int64) (B : Nat → Nat → Int32) (G : Nat → Nat → Int64) : (mW E h q I J B G)[87]? = some (q 129, .inl (E.2.2.1, 4, .inr (.inl (G 129)))) := rfl
theorem sw_apNumber (E : ClassId × ClassId × ClassId × ClassId) (h : Nat) (q : Nat → Nat) (I : Nat → Int32) (J : Nat → Int64) (B : Nat → Nat → Int32) (G : Nat → Nat → Int64) (f : Nat → Int64) : (mW E h q I J B G).set 87 (q 129, .inl (E.2.2.1, 4, .inr (.inl f))) = mW E h q I J B (upG G 129 f) := rfl
theorem aw_apOther (E : ClassId × ClassId × ClassId × ClassId) (h : Nat) (q : Nat → Nat) (I : Nat → Int32) (J : Nat → Int64) (B : Nat → Nat → Int32) (G : Nat → Nat → Int64) : (mW E h q I J B G)[88]? = some (q 130, .inl (E.2.2.1, 4, .inr (.inl (G 130)))) := rfl
theorem sw_apOther (E : ClassId × ClassId × ClassId × ClassId) (h : Nat) (q : Nat → Nat) (I : Nat → Int32) (J : Nat → Int64) (B : Nat → Nat → Int32) (G : Nat → Nat → Int64) (f : Nat → Int64) : (mW E h q I J B G).set 88 (q 130, .inl (E.2.2.1, 4, .inr (.inl f))) = mW E h q I J B (upG G 130 f) := rfl
theorem aw_kept (E : ClassId × ClassId × ClassId × ClassId) (h : Nat) (q : Nat → Nat) (I : Nat → Int32) (J : Nat → Int64) (B : Nat → Nat → Int32) (G : Nat → Nat → Int64) : (mW E h q I J B G)[89]? = some (q 132, .inl (E.1, 12, .inl (B 132))) := rfl
theorem sw_kept (E : ClassId × ClassId × ClassId × ClassId) (h : Nat) (q : Nat → Nat) (I : Nat → Int32) (J : Nat → Int64) (B : Nat → Nat → Int32) (G : Nat → Nat → Int64) (f : Nat → Int32) : (mW E h q I J B G).set 89 (q 132, .inl (E.1, 12, .inl f)) = mW E h q I J (upB B 132 f) G := rfl
theorem aw_isSession (E : ClassId × ClassId × ClassId × ClassId) (h : Nat) (q : Nat → Nat) (I : Nat → Int32) (J : Nat → Int64) (B : Nat → Nat → Int32) (G : Nat → Nat → Int64) : (mW E h q I J B G)[90]? = some (q 133, .inl (E.2.2.2, 8, .inl (B 133))) := rfl
theorem sw_isSession (E : ClassId × ClassId × ClassId × ClassId) (h : Nat) (q : Nat → Nat) (I : Nat → Int32) (J : Nat → Int64) (B : Nat → Nat → Int32) (G : Nat → Nat → Int64) (f : Nat → Int32) : (mW E h q I J B G).set 90 (q 133, .inl (E.2.2.2, 8, .inl f)) = mW E h q I J (upB B 133 f) G := rfl
theorem aw_sessionTypes (E : ClassId × ClassId × ClassId × ClassId) (h : Nat) (q : Nat → Nat) (I : Nat → Int32) (J : Nat → Int64) (B : Nat → Nat → Int32) (G : Nat → Nat → Int64) : (mW E h q I J B G)[91]? = some (q 134, .inl (E.2.1, 8, .inl (B 134))) := rfl
theorem sw_sessionTypes (E : ClassId × ClassId × ClassId × ClassId) (h : Nat) (q : Nat → Nat) (I : Nat → Int32) (J : Nat → Int64) (B : Nat → Nat → Int32) (G : Nat → Nat → Int64) (f : Nat → Int32) : (mW E h q I J B G).set 91 (q 134, .inl (E.2.1, 8, .inl f)) = mW E h q I J (upB B 134 f) G := rfl
theorem aw_sessionAgents (E : ClassId × ClassId × ClassId × ClassId) (h : Nat) (q : Nat → Nat) (I : Nat → Int32) (J : Nat → Int64) (B : Nat → Nat → Int32) (G : Nat → Nat → Int64) : (mW E h q I J B G)[92]? = some (q 135, .inl (E.2.1, 8, .inl (B 135))) := rfl
theorem sw_sessionAgents (E : ClassId × ClassId × ClassId × ClassId) (h : Nat) (q : Nat → Nat) (I : Nat → Int32) (J : Nat → Int64) (B : Nat → Nat → Int32) (G : Nat → Nat → Int64) (f : Nat → Int32) : (mW E h q I J B G).set 92 (q 135, .inl (E.2.1, 8, .inl f)) = mW E h q I J (upB B 135 f) G := rfl
theorem aw_sessionKeys (E : ClassId × ClassId × ClassId × ClassId) (h : Nat) (q : Nat → Nat) (I : Nat → Int32) (J : Nat → Int64) (B : Nat → Nat → Int32) (G : Nat → Nat → Int64) : (mW E h q I J B G)[93]? = some (q 136, .inl (E.1, 256, .inl (B 136))) := rfl
theorem sw_sessionKeys (E : ClassId × ClassId × ClassId × ClassId) (h : Nat) (q : Nat → Nat) (I : Nat → Int32) (J : Nat → Int64) (B : Nat → Nat → Int32) (G : Nat → Nat → Int64) (f : Nat → Int32) : (mW E h q I J B G).set 93 (q 136, .inl (E.1, 256, .inl f)) = mW E h q I J (upB B 136 f) G := rfl
theorem aw_ownNumber (E : ClassId × ClassId × ClassId × ClassId) (h : Nat) (q : Nat → Nat) (I : Nat → Int32) (J : Nat → Int64) (B : Nat → Nat → Int32) (G : Nat → Nat → Int64) : (mW E h q I J B G)[94]? = some (q 137, .inl (E.2.2.1, 16, .inr (.inl (G 137)))) := rfl
theorem sw_ownNumber (E : ClassId × ClassId × ClassId × ClassId) (h : Nat) (q : Nat → Nat) (I : Nat → Int32) (J : Nat → Int64) (B : Nat → Nat → Int32) (G : Nat → Nat → Int64) (f : Nat → Int64) : (mW E h q I J B G).set 94 (q 137, .inl (E.2.2.1, 16, .inr (.inl f))) = mW E h q I J B (upG G 137 f) := rfl
theorem aw_dueNumber (E : ClassId × ClassId × ClassId × ClassId) (h : Nat) (q : Nat → Nat) (I : Nat → Int32) (J : Nat → Int64) (B : Nat → Nat → Int32) (G : Nat → Nat → Int64) : (mW E h q I J B G)[95]? = some (q 138, .inl (E.2.2.1, 16, .inr (.inl (G 138)))) := rfl
theorem sw_dueNumber (E : ClassId × ClassId × ClassId × ClassId) (h : Nat) (q : Nat → Nat) (I : Nat → Int32) (J : Nat → Int64) (B : Nat → Nat → Int32) (G : Nat → Nat → Int64) (f : Nat → Int64) : (mW E h q I J B G).set 95 (q 138, .inl (E.2.2.1, 16, .inr (.inl f))) = mW E h q I J B (upG G 138 f) := rfl
theorem aw_beganTime (E : ClassId × ClassId × ClassId × ClassId) (h : Nat) (q : Nat → Nat) (I : Nat → Int32) (J : Nat → Int64) (B : Nat → Nat → Int32) (G : Nat → Nat → Int64) : (mW E h q I J B G)[96]? = some (q 139, .inl (E.2.2.1, 8, .inr (.inl (G 139)))) := rfl
theorem sw_beganTime (E : ClassId × ClassId × ClassId × ClassId) (h : Nat) (q : Nat → Nat) (I : Nat → Int32) (J : Nat → Int64) (B : Nat → Nat → Int32) (G : Nat → Nat → Int64) (f : Nat → Int64) : (mW E h q I J B G).set 96 (q 139, .inl (E.2.2.1, 8, .inr (.inl f))) = mW E h q I J B (upG G 139 f) := rfl
theorem aw_beganNumber (E : ClassId × ClassId × ClassId × ClassId) (h : Nat) (q : Nat → Nat) (I : Nat → Int32) (J : Nat → Int64) (B : Nat → Nat → Int32) (G : Nat → Nat → Int64) : (mW E h q I J B G)[97]? = some (q 140, .inl (E.2.2.1, 8, .inr (.inl (G 140)))) := rfl
theorem sw_beganNumber (E : ClassId × ClassId × ClassId × ClassId) (h : Nat) (q : Nat → Nat) (I : Nat → Int32) (J : Nat → Int64) (B : Nat → Nat → Int32) (G : Nat → Nat → Int64) (f : Nat → Int64) : (mW E h q I J B G).set 97 (q 140, .inl (E.2.2.1, 8, .inr (.inl f))) = mW E h q I J B (upG G 140 f) := rfl
theorem aw_beganMicros (E : ClassId × ClassId × ClassId × ClassId) (h : Nat) (q : Nat → Nat) (I : Nat → Int32) (J : Nat → Int64) (B : Nat → Nat → Int32) (G : Nat → Nat → Int64) : (mW E h q I J B G)[98]? = some (q 141, .inl (E.2.1, 8, .inl (B 141))) := rfl
theorem sw_beganMicros (E : ClassId × ClassId × ClassId × ClassId) (h : Nat) (q : Nat → Nat) (I : Nat → Int32) (J : Nat → Int64) (B : Nat → Nat → Int32) (G : Nat → Nat → Int64) (f : Nat → Int32) : (mW E h q I J B G).set 98 (q 141, .inl (E.2.1, 8, .inl f)) = mW E h q I J (upB B 141 f) G := rfl
theorem aw_beganTypes (E : ClassId × ClassId × ClassId × ClassId) (h : Nat) (q : Nat → Nat) (I : Nat → Int32) (J : Nat → Int64) (B : Nat → Nat → Int32) (G : Nat → Nat → Int64) : (mW E h q I J B G)[99]? = some (q 142, .inl (E.2.1, 8, .inl (B 142))) := rfl
theorem sw_beganTypes (E : ClassId × ClassId × ClassId × ClassId) (h : Nat) (q : Nat → Nat) (I : Nat → Int32) (J : Nat → Int64) (B : Nat → Nat → Int32) (G : Nat → Nat → Int64) (f : Nat → Int32) : (mW E h q I J B G).set 99 (q 142, .inl (E.2.1, 8, .inl f)) = mW E h q I J (upB B 142 f) G := rfl
theorem aw_beganKeys (E : ClassId × ClassId × ClassId × ClassId) (h : Nat) (q : Nat → Nat) (I : Nat → Int32) (J : Nat → Int64) (B : Nat → Nat → Int32) (G : Nat → Nat → Int64) : (mW E h q I J B G)[100]? = some (q 143, .inl (E.1, 256, .inl (B 143))) := rfl
theorem sw_beganKeys (E : ClassId × ClassId × ClassId × ClassId) (h : Nat) (q : Nat → Nat) (I : Nat → Int32) (J : Nat → Int64) (B : Nat → Nat → Int32) (G : Nat → Nat → Int64) (f : Nat → Int32) : (mW E h q I J B G).set 100 (q 143, .inl (E.1, 256, .inl f)) = mW E h q I J (upB B 143 f) G := rfl
theorem aw_address (E : ClassId × ClassId × ClassId × ClassId) (h : Nat) (q : Nat → Nat) (I : Nat → Int32) (J : Nat → Int64) (B : Nat → Nat → Int32) (G : Nat → Nat → Int64) : (mW E h q I J B G)[101]? = some (q 144, .inl (E.1, 4, .inl (B 144))) := rfl
theorem sw_address (E : ClassId × ClassId × ClassId × ClassId) (h : Nat) (q : Nat → Nat) (I : Nat → Int32) (J : Nat → Int64) (B : Nat → Nat → Int32) (G : Nat → Nat → Int64) (f : Nat → Int32) : (mW E h q I J B G).set 101 (q 144, .inl (E.1, 4, .inl f)) = mW E h q I J (upB B 144 f) G := rfl
