/-! The class: names, fields, words. -/
def R_H : String := "RealmHouse"
def F_H : u_T := fun k => match k with
  | 0 => ("RealmHouse", "vault", "LRealmHouse$Vault;", true)
  | 1 => ("RealmHouse", "tape", "LRealmHouse$Bytes;", true)
  | 2 => ("RealmHouse", "said", "LRealmHouse$Bytes;", true)
  | 3 => ("RealmHouse", "parts", "LRealmHouse$Bytes;", true)
  | 4 => ("RealmHouse", "principals", "[LRealmHouse$Principal;", true)
  | 5 => ("RealmHouse", "gate", "LRealmHouse$Gate;", true)
  | 6 => ("RealmHouse", "centre", "LRealmHouse$Centre;", true)
  | 7 => ("RealmHouse", "agents", "[LRealmHouse$Agent;", true)
  | _ => ("RealmHouse", "sessions", "[LRealmHouse$Session;", true)
def t_H : Nat → FieldType := fun k => match k with
  | 0 => .object "RealmHouse$Vault"
  | 1 => .object "RealmHouse$Bytes"
  | 2 => .object "RealmHouse$Bytes"
  | 3 => .object "RealmHouse$Bytes"
  | 4 => .array (.object "RealmHouse$Principal")
  | 5 => .object "RealmHouse$Gate"
  | 6 => .object "RealmHouse$Centre"
  | 7 => .array (.object "RealmHouse$Agent")
  | _ => .array (.object "RealmHouse$Session")
theorem n_H : ∀ a, a < 9 → ∀ b, b < 9 → a ≠ b → (F_H a).2.1 ≠ (F_H b).2.1 := by decide +kernel
theorem t_H_ok : ∀ k, k < 9 → parseFieldDescriptor (F_H k).2.2.1 = some (t_H k) := by decide +kernel
theorem i_H0 : u_ws R_H F_H 9 = ([720, 722, 724, 726, 728, 730, 732, 734, 736] : List Nat).filterMap (fun i => tables_1[i]?) := by decide +kernel
theorem i_H1 : (u_ws R_H F_H 9).all goodWord = true := by decide +kernel
theorem i_H : ∀ w ∈ u_ws R_H F_H 9, w ∈ lw_tg := by
  intro w hw
  have hg := List.all_eq_true.mp i_H1 w hw
  rw [i_H0] at hw
  obtain ⟨i, -, hi⟩ := List.mem_filterMap.mp hw
  exact List.mem_filter.mpr ⟨List.mem_append_right _ (List.mem_of_getElem? hi), hg⟩
theorem ini_H : Cond.initialized R_H ∈ lw_tg := in_t 1 (by decide +kernel)
theorem mk_H : Cond.instantiable R_H 9 ∈ lw_tg := in_t 21 (by decide +kernel)
def R_Ae : String := "RealmHouse$Aes"
def F_Ae : u_T := fun k => match k with
  | 0 => ("RealmHouse$Aes", "unbox", "[I", true)
  | 1 => ("RealmHouse$Aes", "twice", "[I", true)
  | 2 => ("RealmHouse$Aes", "keys", "[I", true)
  | 3 => ("RealmHouse$Aes", "rounds", "I", false)
  | 4 => ("RealmHouse$Aes", "state", "[I", true)
  | 5 => ("RealmHouse$Aes", "moved", "[I", true)
  | _ => ("RealmHouse$Aes", "kept", "[B", true)
def t_Ae : Nat → FieldType := fun k => match k with
  | 0 => .array .int
  | 1 => .array .int
  | 2 => .array .int
  | 3 => .int
  | 4 => .array .int
  | 5 => .array .int
  | _ => .array .byte
theorem n_Ae : ∀ a, a < 7 → ∀ b, b < 7 → a ≠ b → (F_Ae a).2.1 ≠ (F_Ae b).2.1 := by decide +kernel
theorem t_Ae_ok : ∀ k, k < 7 → parseFieldDescriptor (F_Ae k).2.2.1 = some (t_Ae k) := by decide +kernel
theorem i_Ae0 : u_ws R_Ae F_Ae 7 = ([112, 114, 116, 118, 120, 122, 124] : List Nat).filterMap (fun i => tables_1[i]?) := by decide +kernel
theorem i_Ae1 : (u_ws R_Ae F_Ae 7).all goodWord = true := by decide +kernel
theorem i_Ae : ∀ w ∈ u_ws R_Ae F_Ae 7, w ∈ lw_tg := by
  intro w hw
  have hg := List.all_eq_true.mp i_Ae1 w hw
  rw [i_Ae0] at hw
  obtain ⟨i, -, hi⟩ := List.mem_filterMap.mp hw
  exact List.mem_filter.mpr ⟨List.mem_append_right _ (List.mem_of_getElem? hi), hg⟩
theorem ini_Ae : Cond.initialized R_Ae ∈ lw_tg := in_t 6 (by decide +kernel)
theorem mk_Ae : Cond.instantiable R_Ae 7 ∈ lw_tg := in_t 98 (by decide +kernel)
def R_Ag : String := "RealmHouse$Agent"
def F_Ag : u_T := fun k => match k with
  | 0 => ("RealmHouse$Agent", "vault", "LRealmHouse$Vault;", true)
  | 1 => ("RealmHouse$Agent", "wallet", "[LRealmHouse$Ticket;", true)
  | 2 => ("RealmHouse$Agent", "there", "Z", false)
  | 3 => ("RealmHouse$Agent", "ahead", "I", false)
  | 4 => ("RealmHouse$Agent", "name", "LRealmHouse$Bytes;", true)
  | 5 => ("RealmHouse$Agent", "key18", "[B", false)
  | 6 => ("RealmHouse$Agent", "key17", "[B", false)
  | 7 => ("RealmHouse$Agent", "made", "I", false)
  | 8 => ("RealmHouse$Agent", "askedKind", "I", false)
  | 9 => ("RealmHouse$Agent", "nonce", "I", false)
  | 10 => ("RealmHouse$Agent", "renews", "Z", false)
  | 11 => ("RealmHouse$Agent", "etypes", "I", false)
  | 12 => ("RealmHouse$Agent", "client", "LRealmHouse$Bytes;", true)
  | 13 => ("RealmHouse$Agent", "service", "LRealmHouse$Bytes;", true)
  | 14 => ("RealmHouse$Agent", "subkey", "[B", false)
  | 15 => ("RealmHouse$Agent", "shownTime", "I", false)
  | 16 => ("RealmHouse$Agent", "shownMicro", "I", false)
  | 17 => ("RealmHouse$Agent", "shownNumber", "J", false)
  | 18 => ("RealmHouse$Agent", "shownKey", "[B", false)
  | 19 => ("RealmHouse$Agent", "otherNumber", "J", false)
  | _ => ("RealmHouse$Agent", "awaits", "Z", false)
def t_Ag : Nat → FieldType := fun k => match k with
  | 0 => .object "RealmHouse$Vault"
  | 1 => .array (.object "RealmHouse$Ticket")
  | 2 => .boolean
  | 3 => .int
  | 4 => .object "RealmHouse$Bytes"
  | 5 => .array .byte
  | 6 => .array .byte
  | 7 => .int
  | 8 => .int
  | 9 => .int
  | 10 => .boolean
  | 11 => .int
  | 12 => .object "RealmHouse$Bytes"
  | 13 => .object "RealmHouse$Bytes"
  | 14 => .array .byte
  | 15 => .int
  | 16 => .int
  | 17 => .long
  | 18 => .array .byte
  | 19 => .long
  | _ => .boolean
theorem n_Ag : ∀ a, a < 21 → ∀ b, b < 21 → a ≠ b → (F_Ag a).2.1 ≠ (F_Ag b).2.1 := by decide +kernel
theorem t_Ag_ok : ∀ k, k < 21 → parseFieldDescriptor (F_Ag k).2.2.1 = some (t_Ag k) := by decide +kernel
theorem i_Ag0 : u_ws R_Ag F_Ag 21 = ([382, 384, 386, 388, 390, 392, 394, 396, 398, 400, 402, 404, 406, 408, 410, 412, 414, 416, 418, 420, 422] : List Nat).filterMap (fun i => tables_1[i]?) := by decide +kernel
theorem i_Ag1 : (u_ws R_Ag F_Ag 21).all goodWord = true := by decide +kernel
theorem i_Ag : ∀ w ∈ u_ws R_Ag F_Ag 21, w ∈ lw_tg := by
  intro w hw
  have hg := List.all_eq_true.mp i_Ag1 w hw
  rw [i_Ag0] at hw
  obtain ⟨i, -, hi⟩ := List.mem_filterMap.mp hw
  exact List.mem_filter.mpr ⟨List.mem_append_right _ (List.mem_of_getElem? hi), hg⟩
theorem ini_Ag : Cond.initialized R_Ag ∈ lw_tg := in_t 10 (by decide +kernel)
theorem mk_Ag : Cond.instantiable R_Ag 21 ∈ lw_tg := in_t 297 (by decide +kernel)
def R_By : String := "RealmHouse$Bytes"
def F_By : u_T := fun k => match k with
  | 0 => ("RealmHouse$Bytes", "row", "[B", true)
  | _ => ("RealmHouse$Bytes", "size", "I", false)
def t_By : Nat → FieldType := fun k => match k with
  | 0 => .array .byte
  | _ => .int
theorem n_By : ∀ a, a < 2 → ∀ b, b < 2 → a ≠ b → (F_By a).2.1 ≠ (F_By b).2.1 := by decide +kernel
theorem t_By_ok : ∀ k, k < 2 → parseFieldDescriptor (F_By k).2.2.1 = some (t_By k) := by decide +kernel
theorem i_By0 : u_ws R_By F_By 2 = ([58, 60] : List Nat).filterMap (fun i => tables_1[i]?) := by decide +kernel
theorem i_By1 : (u_ws R_By F_By 2).all goodWord = true := by decide +kernel
theorem i_By : ∀ w ∈ u_ws R_By F_By 2, w ∈ lw_tg := by
  intro w hw
  have hg := List.all_eq_true.mp i_By1 w hw
  rw [i_By0] at hw
  obtain ⟨i, -, hi⟩ := List.mem_filterMap.mp hw
  exact List.mem_filter.mpr ⟨List.mem_append_right _ (List.mem_of_getElem? hi), hg⟩
theorem ini_By : Cond.initialized R_By ∈ lw_tg := in_t 3 (by decide +kernel)
theorem mk_By : Cond.instantiable R_By 2 ∈ lw_tg := in_t 36 (by decide +kernel)
def R_Ce : String := "RealmHouse$Centre"
def F_Ce : u_T := fun k => match k with
  | 0 => ("RealmHouse$Centre", "vault", "LRealmHouse$Vault;", true)
  | 1 => ("RealmHouse$Centre", "gate", "LRealmHouse$Gate;", true)
  | 2 => ("RealmHouse$Centre", "principals", "[LRealmHouse$Principal;", true)
  | 3 => ("RealmHouse$Centre", "tape", "LRealmHouse$Bytes;", true)
  | 4 => ("RealmHouse$Centre", "said", "LRealmHouse$Bytes;", true)
  | 5 => ("RealmHouse$Centre", "seen", "LRealmHouse$Seen;", true)
  | 6 => ("RealmHouse$Centre", "initial", "Z", false)
  | 7 => ("RealmHouse$Centre", "read", "Z", false)
  | 8 => ("RealmHouse$Centre", "body", "I", false)
  | 9 => ("RealmHouse$Centre", "options", "I", false)
  | 10 => ("RealmHouse$Centre", "client", "LRealmHouse$Principal;", false)
  | 11 => ("RealmHouse$Centre", "service", "LRealmHouse$Principal;", false)
  | 12 => ("RealmHouse$Centre", "etype", "I", false)
  | 13 => ("RealmHouse$Centre", "flags", "I", false)
  | 14 => ("RealmHouse$Centre", "endTime", "I", false)
  | _ => ("RealmHouse$Centre", "renewTill", "I", false)
def t_Ce : Nat → FieldType := fun k => match k with
  | 0 => .object "RealmHouse$Vault"
  | 1 => .object "RealmHouse$Gate"
  | 2 => .array (.object "RealmHouse$Principal")
  | 3 => .object "RealmHouse$Bytes"
  | 4 => .object "RealmHouse$Bytes"
  | 5 => .object "RealmHouse$Seen"
  | 6 => .boolean
  | 7 => .boolean
  | 8 => .int
  | 9 => .int
  | 10 => .object "RealmHouse$Principal"
  | 11 => .object "RealmHouse$Principal"
  | 12 => .int
  | 13 => .int
  | 14 => .int
  | _ => .int
theorem n_Ce : ∀ a, a < 16 → ∀ b, b < 16 → a ≠ b → (F_Ce a).2.1 ≠ (F_Ce b).2.1 := by decide +kernel
theorem t_Ce_ok : ∀ k, k < 16 → parseFieldDescriptor (F_Ce k).2.2.1 = some (t_Ce k) := by decide +kernel
theorem i_Ce0 : u_ws R_Ce F_Ce 16 = ([678, 680, 682, 684, 686, 688, 690, 692, 694, 696, 698, 700, 702, 704, 706, 708] : List Nat).filterMap (fun i => tables_1[i]?) := by decide +kernel
theorem i_Ce1 : (u_ws R_Ce F_Ce 16).all goodWord = true := by decide +kernel
theorem i_Ce : ∀ w ∈ u_ws R_Ce F_Ce 16, w ∈ lw_tg := by
  intro w hw
  have hg := List.all_eq_true.mp i_Ce1 w hw
  rw [i_Ce0] at hw
  obtain ⟨i, -, hi⟩ := List.mem_filterMap.mp hw
  exact List.mem_filter.mpr ⟨List.mem_append_right _ (List.mem_of_getElem? hi), hg⟩
theorem ini_Ce : Cond.initialized R_Ce ∈ lw_tg := in_t 18 (by decide +kernel)
theorem mk_Ce : Cond.instantiable R_Ce 16 ∈ lw_tg := in_t 653 (by decide +kernel)
def R_Ga : String := "RealmHouse$Gate"
def F_Ga : u_T := fun k => match k with
  | 0 => ("RealmHouse$Gate", "vault", "LRealmHouse$Vault;", true)
  | 1 => ("RealmHouse$Gate", "part", "LRealmHouse$Bytes;", true)
  | 2 => ("RealmHouse$Gate", "proof", "LRealmHouse$Bytes;", true)
  | 3 => ("RealmHouse$Gate", "key", "[B", false)
  | _ => ("RealmHouse$Gate", "most", "I", false)
def t_Ga : Nat → FieldType := fun k => match k with
  | 0 => .object "RealmHouse$Vault"
  | 1 => .object "RealmHouse$Bytes"
  | 2 => .object "RealmHouse$Bytes"
  | 3 => .array .byte
  | _ => .int
theorem n_Ga : ∀ a, a < 5 → ∀ b, b < 5 → a ≠ b → (F_Ga a).2.1 ≠ (F_Ga b).2.1 := by decide +kernel
theorem t_Ga_ok : ∀ k, k < 5 → parseFieldDescriptor (F_Ga k).2.2.1 = some (t_Ga k) := by decide +kernel
theorem i_Ga0 : u_ws R_Ga F_Ga 5 = ([199, 201, 203, 205, 207] : List Nat).filterMap (fun i => tables_1[i]?) := by decide +kernel
theorem i_Ga1 : (u_ws R_Ga F_Ga 5).all goodWord = true := by decide +kernel
theorem i_Ga : ∀ w ∈ u_ws R_Ga F_Ga 5, w ∈ lw_tg := by
  intro w hw
  have hg := List.all_eq_true.mp i_Ga1 w hw
  rw [i_Ga0] at hw
  obtain ⟨i, -, hi⟩ := List.mem_filterMap.mp hw
  exact List.mem_filter.mpr ⟨List.mem_append_right _ (List.mem_of_getElem? hi), hg⟩
theorem ini_Ga : Cond.initialized R_Ga ∈ lw_tg := in_t 7 (by decide +kernel)
theorem mk_Ga : Cond.instantiable R_Ga 5 ∈ lw_tg := in_t 179 (by decide +kernel)
def R_Ha : String := "RealmHouse$Hash"
def F_Ha : u_T := fun k => match k with
  | 0 => ("RealmHouse$Hash", "words", "[I", true)
  | 1 => ("RealmHouse$Hash", "block", "[B", true)
  | 2 => ("RealmHouse$Hash", "state", "[I", true)
  | 3 => ("RealmHouse$Hash", "inner", "[I", true)
  | 4 => ("RealmHouse$Hash", "outer", "[I", true)
  | 5 => ("RealmHouse$Hash", "filled", "I", false)
  | 6 => ("RealmHouse$Hash", "total", "I", false)
  | _ => ("RealmHouse$Hash", "mac", "[B", true)
def t_Ha : Nat → FieldType := fun k => match k with
  | 0 => .array .int
  | 1 => .array .byte
  | 2 => .array .int
  | 3 => .array .int
  | 4 => .array .int
  | 5 => .int
  | 6 => .int
  | _ => .array .byte
theorem n_Ha : ∀ a, a < 8 → ∀ b, b < 8 → a ≠ b → (F_Ha a).2.1 ≠ (F_Ha b).2.1 := by decide +kernel
theorem t_Ha_ok : ∀ k, k < 8 → parseFieldDescriptor (F_Ha k).2.2.1 = some (t_Ha k) := by decide +kernel
theorem i_Ha0 : u_ws R_Ha F_Ha 8 = ([79, 81, 83, 85, 87, 89, 91, 93] : List Nat).filterMap (fun i => tables_1[i]?) := by decide +kernel
theorem i_Ha1 : (u_ws R_Ha F_Ha 8).all goodWord = true := by decide +kernel
theorem i_Ha : ∀ w ∈ u_ws R_Ha F_Ha 8, w ∈ lw_tg := by
  intro w hw
  have hg := List.all_eq_true.mp i_Ha1 w hw
  rw [i_Ha0] at hw
  obtain ⟨i, -, hi⟩ := List.mem_filterMap.mp hw
  exact List.mem_filter.mpr ⟨List.mem_append_right _ (List.mem_of_getElem? hi), hg⟩
theorem ini_Ha : Cond.initialized R_Ha ∈ lw_tg := in_t 5 (by decide +kernel)
theorem mk_Ha : Cond.instantiable R_Ha 8 ∈ lw_tg := in_t 65 (by decide +kernel)
def R_Pr : String := "RealmHouse$Principal"
def F_Pr : u_T := fun k => match k with
  | 0 => ("RealmHouse$Principal", "name", "LRealmHouse$Bytes;", true)
  | 1 => ("RealmHouse$Principal", "seen", "LRealmHouse$Seen;", true)
  | 2 => ("RealmHouse$Principal", "there", "Z", false)
  | 3 => ("RealmHouse$Principal", "version", "I", false)
  | 4 => ("RealmHouse$Principal", "rounds", "I", false)
  | 5 => ("RealmHouse$Principal", "latest18", "[B", false)
  | 6 => ("RealmHouse$Principal", "latest17", "[B", false)
  | 7 => ("RealmHouse$Principal", "older18", "[B", false)
  | 8 => ("RealmHouse$Principal", "older17", "[B", false)
  | 9 => ("RealmHouse$Principal", "life", "I", false)
  | 10 => ("RealmHouse$Principal", "renewal", "I", false)
  | 11 => ("RealmHouse$Principal", "flags", "I", false)
  | _ => ("RealmHouse$Principal", "expiry", "I", false)
def t_Pr : Nat → FieldType := fun k => match k with
  | 0 => .object "RealmHouse$Bytes"
  | 1 => .object "RealmHouse$Seen"
  | 2 => .boolean
  | 3 => .int
  | 4 => .int
  | 5 => .array .byte
  | 6 => .array .byte
  | 7 => .array .byte
  | 8 => .array .byte
  | 9 => .int
  | 10 => .int
  | 11 => .int
  | _ => .int
theorem n_Pr : ∀ a, a < 13 → ∀ b, b < 13 → a ≠ b → (F_Pr a).2.1 ≠ (F_Pr b).2.1 := by decide +kernel
theorem t_Pr_ok : ∀ k, k < 13 → parseFieldDescriptor (F_Pr k).2.2.1 = some (t_Pr k) := by decide +kernel
theorem i_Pr0 : u_ws R_Pr F_Pr 13 = ([268, 270, 272, 274, 276, 278, 280, 282, 284, 286, 288, 290, 292] : List Nat).filterMap (fun i => tables_1[i]?) := by decide +kernel
theorem i_Pr1 : (u_ws R_Pr F_Pr 13).all goodWord = true := by decide +kernel
theorem i_Pr : ∀ w ∈ u_ws R_Pr F_Pr 13, w ∈ lw_tg := by
  intro w hw
  have hg := List.all_eq_true.mp i_Pr1 w hw
  rw [i_Pr0] at hw
  obtain ⟨i, -, hi⟩ := List.mem_filterMap.mp hw
  exact List.mem_filter.mpr ⟨List.mem_append_right _ (List.mem_of_getElem? hi), hg⟩
theorem ini_Pr : Cond.initialized R_Pr ∈ lw_tg := in_t 8 (by decide +kernel)
theorem mk_Pr : Cond.instantiable R_Pr 13 ∈ lw_tg := in_t 212 (by decide +kernel)
def R_Se : String := "RealmHouse$Seen"
def F_Se : u_T := fun k => match k with
  | 0 => ("RealmHouse$Seen", "names", "[B", true)
  | 1 => ("RealmHouse$Seen", "nameSizes", "[I", true)
  | 2 => ("RealmHouse$Seen", "times", "[I", true)
  | 3 => ("RealmHouse$Seen", "micros", "[I", true)
  | _ => ("RealmHouse$Seen", "count", "I", false)
def t_Se : Nat → FieldType := fun k => match k with
  | 0 => .array .byte
  | 1 => .array .int
  | 2 => .array .int
  | 3 => .array .int
  | _ => .int
theorem n_Se : ∀ a, a < 5 → ∀ b, b < 5 → a ≠ b → (F_Se a).2.1 ≠ (F_Se b).2.1 := by decide +kernel
theorem t_Se_ok : ∀ k, k < 5 → parseFieldDescriptor (F_Se k).2.2.1 = some (t_Se k) := by decide +kernel
theorem i_Se0 : u_ws R_Se F_Se 5 = ([230, 232, 234, 236, 238] : List Nat).filterMap (fun i => tables_1[i]?) := by decide +kernel
theorem i_Se1 : (u_ws R_Se F_Se 5).all goodWord = true := by decide +kernel
theorem i_Se : ∀ w ∈ u_ws R_Se F_Se 5, w ∈ lw_tg := by
  intro w hw
  have hg := List.all_eq_true.mp i_Se1 w hw
  rw [i_Se0] at hw
  obtain ⟨i, -, hi⟩ := List.mem_filterMap.mp hw
  exact List.mem_filter.mpr ⟨List.mem_append_right _ (List.mem_of_getElem? hi), hg⟩
theorem ini_Se : Cond.initialized R_Se ∈ lw_tg := in_t 9 (by decide +kernel)
theorem mk_Se : Cond.instantiable R_Se 5 ∈ lw_tg := in_t 220 (by decide +kernel)
def R_So : String := "RealmHouse$Session"
def F_So : u_T := fun k => match k with
  | 0 => ("RealmHouse$Session", "vault", "LRealmHouse$Vault;", true)
  | 1 => ("RealmHouse$Session", "there", "Z", false)
  | 2 => ("RealmHouse$Session", "joined", "I", false)
  | 3 => ("RealmHouse$Session", "key", "[B", false)
  | 4 => ("RealmHouse$Session", "ticketKey", "[B", false)
  | 5 => ("RealmHouse$Session", "shownTime", "I", false)
  | 6 => ("RealmHouse$Session", "shownMicro", "I", false)
  | 7 => ("RealmHouse$Session", "shownNumber", "J", false)
  | 8 => ("RealmHouse$Session", "next", "[I", true)
  | 9 => ("RealmHouse$Session", "due", "[I", true)
  | _ => ("RealmHouse$Session", "address", "[B", true)
def t_So : Nat → FieldType := fun k => match k with
  | 0 => .object "RealmHouse$Vault"
  | 1 => .boolean
  | 2 => .int
  | 3 => .array .byte
  | 4 => .array .byte
  | 5 => .int
  | 6 => .int
  | 7 => .long
  | 8 => .array .int
  | 9 => .array .int
  | _ => .array .byte
theorem n_So : ∀ a, a < 11 → ∀ b, b < 11 → a ≠ b → (F_So a).2.1 ≠ (F_So b).2.1 := by decide +kernel
theorem t_So_ok : ∀ k, k < 11 → parseFieldDescriptor (F_So k).2.2.1 = some (t_So k) := by decide +kernel
theorem i_So0 : u_ws R_So F_So 11 = ([446, 448, 450, 452, 454, 456, 458, 460, 462, 464, 466] : List Nat).filterMap (fun i => tables_1[i]?) := by decide +kernel
theorem i_So1 : (u_ws R_So F_So 11).all goodWord = true := by decide +kernel
theorem i_So : ∀ w ∈ u_ws R_So F_So 11, w ∈ lw_tg := by
  intro w hw
  have hg := List.all_eq_true.mp i_So1 w hw
  rw [i_So0] at hw
  obtain ⟨i, -, hi⟩ := List.mem_filterMap.mp hw
  exact List.mem_filter.mpr ⟨List.mem_append_right _ (List.mem_of_getElem? hi), hg⟩
theorem ini_So : Cond.initialized R_So ∈ lw_tg := in_t 12 (by decide +kernel)
theorem mk_So : Cond.instantiable R_So 11 ∈ lw_tg := in_t 427 (by decide +kernel)
def R_Ti : String := "RealmHouse$Ticket"
def F_Ti : u_T := fun k => match k with
  | 0 => ("RealmHouse$Ticket", "raw", "LRealmHouse$Bytes;", false)
  | 1 => ("RealmHouse$Ticket", "name", "LRealmHouse$Bytes;", true)
  | 2 => ("RealmHouse$Ticket", "nameType", "I", false)
  | 3 => ("RealmHouse$Ticket", "there", "Z", false)
  | 4 => ("RealmHouse$Ticket", "key", "[B", false)
  | 5 => ("RealmHouse$Ticket", "flags", "I", false)
  | 6 => ("RealmHouse$Ticket", "authTime", "I", false)
  | 7 => ("RealmHouse$Ticket", "startTime", "I", false)
  | 8 => ("RealmHouse$Ticket", "endTime", "I", false)
  | _ => ("RealmHouse$Ticket", "renewTill", "I", false)
def t_Ti : Nat → FieldType := fun k => match k with
  | 0 => .object "RealmHouse$Bytes"
  | 1 => .object "RealmHouse$Bytes"
  | 2 => .int
  | 3 => .boolean
  | 4 => .array .byte
  | 5 => .int
  | 6 => .int
  | 7 => .int
  | 8 => .int
  | _ => .int
theorem n_Ti : ∀ a, a < 10 → ∀ b, b < 10 → a ≠ b → (F_Ti a).2.1 ≠ (F_Ti b).2.1 := by decide +kernel
theorem t_Ti_ok : ∀ k, k < 10 → parseFieldDescriptor (F_Ti k).2.2.1 = some (t_Ti k) := by decide +kernel
theorem i_Ti0 : u_ws R_Ti F_Ti 10 = ([332, 334, 336, 338, 340, 342, 344, 346, 348, 350] : List Nat).filterMap (fun i => tables_1[i]?) := by decide +kernel
theorem i_Ti1 : (u_ws R_Ti F_Ti 10).all goodWord = true := by decide +kernel
theorem i_Ti : ∀ w ∈ u_ws R_Ti F_Ti 10, w ∈ lw_tg := by
  intro w hw
  have hg := List.all_eq_true.mp i_Ti1 w hw
  rw [i_Ti0] at hw
  obtain ⟨i, -, hi⟩ := List.mem_filterMap.mp hw
  exact List.mem_filter.mpr ⟨List.mem_append_right _ (List.mem_of_getElem? hi), hg⟩
theorem ini_Ti : Cond.initialized R_Ti ∈ lw_tg := in_t 11 (by decide +kernel)
theorem mk_Ti : Cond.instantiable R_Ti 10 ∈ lw_tg := in_t 307 (by decide +kernel)
def R_Va : String := "RealmHouse$Vault"
def F_Va : u_T := fun k => match k with
  | 0 => ("RealmHouse$Vault", "now", "I", false)
  | 1 => ("RealmHouse$Vault", "text", "LRealmHouse$Bytes;", true)
  | 2 => ("RealmHouse$Vault", "draft", "LRealmHouse$Bytes;", true)
  | 3 => ("RealmHouse$Vault", "hash", "LRealmHouse$Hash;", true)
  | 4 => ("RealmHouse$Vault", "aes", "LRealmHouse$Aes;", true)
  | 5 => ("RealmHouse$Vault", "seed", "[B", true)
  | 6 => ("RealmHouse$Vault", "seedSize", "I", false)
  | 7 => ("RealmHouse$Vault", "coins", "[B", true)
  | 8 => ("RealmHouse$Vault", "coinAt", "I", false)
  | 9 => ("RealmHouse$Vault", "coinRow", "I", false)
  | 10 => ("RealmHouse$Vault", "derived", "[B", true)
  | 11 => ("RealmHouse$Vault", "turned", "[B", true)
  | _ => ("RealmHouse$Vault", "brief", "LRealmHouse$Bytes;", true)
def t_Va : Nat → FieldType := fun k => match k with
  | 0 => .int
  | 1 => .object "RealmHouse$Bytes"
  | 2 => .object "RealmHouse$Bytes"
  | 3 => .object "RealmHouse$Hash"
  | 4 => .object "RealmHouse$Aes"
  | 5 => .array .byte
  | 6 => .int
  | 7 => .array .byte
  | 8 => .int
  | 9 => .int
  | 10 => .array .byte
  | 11 => .array .byte
  | _ => .object "RealmHouse$Bytes"
theorem n_Va : ∀ a, a < 13 → ∀ b, b < 13 → a ≠ b → (F_Va a).2.1 ≠ (F_Va b).2.1 := by decide +kernel
theorem t_Va_ok : ∀ k, k < 13 → parseFieldDescriptor (F_Va k).2.2.1 = some (t_Va k) := by decide +kernel
theorem i_Va0 : u_ws R_Va F_Va 13 = ([149, 151, 153, 155, 157, 159, 161, 163, 165, 167, 169, 171, 173] : List Nat).filterMap (fun i => tables_1[i]?) := by decide +kernel
theorem i_Va1 : (u_ws R_Va F_Va 13).all goodWord = true := by decide +kernel
theorem i_Va : ∀ w ∈ u_ws R_Va F_Va 13, w ∈ lw_tg := by
  intro w hw
  have hg := List.all_eq_true.mp i_Va1 w hw
  rw [i_Va0] at hw
  obtain ⟨i, -, hi⟩ := List.mem_filterMap.mp hw
  exact List.mem_filter.mpr ⟨List.mem_append_right _ (List.mem_of_getElem? hi), hg⟩
theorem ini_Va : Cond.initialized R_Va ∈ lw_tg := in_t 2 (by decide +kernel)
theorem mk_Va : Cond.instantiable R_Va 13 ∈ lw_tg := in_t 29 (by decide +kernel)
abbrev cCl : List vw_C := [(R_H, F_H, 9), (R_Ae, F_Ae, 7), (R_Ag, F_Ag, 21), (R_By, F_By, 2), (R_Ce, F_Ce, 16), (R_Ga, F_Ga, 5), (R_Ha, F_Ha, 8), (R_Pr, F_Pr, 13), (R_Se, F_Se, 5), (R_So, F_So, 11), (R_Ti, F_Ti, 10), (R_Va, F_Va, 13)]
abbrev cE : Type := ClassId × ClassId × ClassId × ClassId × ClassId × ClassId
def cTy (E : cE) : List (ClassId × FieldType) := [(E.1, .byte), (E.2.1, .int), (E.2.2.1, .object R_Pr), (E.2.2.2.1, .object R_Ag), (E.2.2.2.2.1, .object R_So), (E.2.2.2.2.2, .object R_Ti)]
