/-! Rows that all walks use. -/
theorem lw_good {w : Cond} (h : w ∈ lw_tg) : (w.onTables && w.keeps) = true ∨ ∃ ty, w = .arrayClass ty := good_of_word (List.mem_filter.mp h).2
theorem gd_t {c1 : Cond} (h1 : c1 ∈ lw_tg) : GoodIn lw_tg (c1 :: lw_tg) := by
  intro w hw
  have h2 : w ∈ lw_tg := (List.mem_cons.mp hw).elim (fun e => e ▸ h1) id
  exact ⟨h2, lw_good h2⟩
theorem gd_V {own : String} {ix : Nat} {C : String} {y : MethodName} {c1 : Cond} (a1 : Cond.methodLink own ix y ∈ lw_tg) (a2 : Cond.instanceMethod y ∈ lw_tg) (a3 : Cond.selects C y y ∈ lw_tg) (a4 : Cond.initialized C ∈ lw_tg) (h1 : c1 ∈ lw_tg) : GoodIn lw_tg (wsV own ix C y (c1 :: lw_tg)) := by
  intro w hw
  have h2 : w ∈ lw_tg := by
    rcases List.mem_append.mp hw with h | h
    · simp only [List.mem_cons, List.not_mem_nil, or_false] at h
      rcases h with rfl | rfl | rfl | rfl <;> assumption
    · exact (List.mem_cons.mp h).elim (fun e => e ▸ h1) id
  exact ⟨h2, lw_good h2⟩
theorem gd_S {own : String} {ix : Nat} {y : MethodName} {c1 : Cond} (a1 : Cond.methodLink own ix y ∈ lw_tg) (a2 : Cond.static y ∈ lw_tg) (a4 : Cond.initialized own ∈ lw_tg) (h1 : c1 ∈ lw_tg) : GoodIn lw_tg (wsS own ix y (c1 :: lw_tg)) := by
  intro w hw
  have h2 : w ∈ lw_tg := by
    rcases List.mem_append.mp hw with h | h
    · simp only [List.mem_cons, List.not_mem_nil, or_false] at h
      rcases h with rfl | rfl | rfl <;> assumption
    · exact (List.mem_cons.mp h).elim (fun e => e ▸ h1) id
  exact ⟨h2, lw_good h2⟩
def mR (f L : Nat) : Room := { frames := f, cells := 0, slots := 0, locals := L }
def pPre : State → Prop := fun _ => True
section TOPS
variable {p : Program} {l : Launch} {e : Env} {R : Room} {s : State} {m : MethodId} {args : Array Value} {below : List Frame} {meth : Method} {c : Code} {H : Heap} {locs : List Loc} {cells slots : Nat} {Q : State → Prop} {pc : Nat} {ls : Array Slot} {rest : List Value}
/-- the top of the stack under another name -/
theorem t_eq {x y : Int32} (hxy : x = y) (kk : W p l e R s m args below meth c H locs cells slots Q (F0 m pc ls (.int y :: rest))) : W p l e R s m args below meth c H locs cells slots Q (F0 m pc ls (.int x :: rest)) := hxy ▸ kk
theorem t_any {x : Int32} (kk : ∀ y : Int32, W p l e R s m args below meth c H locs cells slots Q (F0 m pc ls (.int y :: rest))) : W p l e R s m args below meth c H locs cells slots Q (F0 m pc ls (.int x :: rest)) := kk x
end TOPS
