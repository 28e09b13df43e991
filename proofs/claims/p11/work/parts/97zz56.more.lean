theorem nF_of {E : cE} {T : cT} {κ0 κ : tK} {L0 L M x : List Nat} {f0 f : pF} {a c n : Nat} (S : tS E T (tFr κ0 L0 M x) κ0 L0 f0 κ L f) (hk : κ a = (c, n)) (hc : c ∈ M) : ¬ tFr κ0 L0 M x a := fun h => h.2.1 (by rw [← (S.2.2.2 _ h).2, hk]; exact hc)
theorem nM_of {κ : tK} {M : List Nat} {a c n : Nat} (hk : κ a = (c, n)) (hc : c ∉ M) : (κ a).1 ∉ M := by rw [hk]; exact hc
