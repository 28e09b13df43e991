theorem t_tape {E : cE} {T : cT} {F : Nat → Prop} {κ0 κ : tK} {L0 L : List Nat} {f0 f : pF} {a : Nat} (S : tS E T F κ0 L0 f0 κ L f) (hk : κ a = (14, 0)) : ∃ b : Nat, gF f a 3 = .ref b ∧ κ b = (13, 4000) := by
  obtain ⟨ha, fs, ef, ho⟩ := t_obj (ci := 4) S.1 hk
  exact (t_fld (k := 3) (t := (2, 13, 4000)) ho rfl ef).2
