/-! The types of fields, and what is(type, a, b) must say. -/
def is1 (T : Int → Int → Int → Prop) (m : Nat → Int32) (ty a b : Int) : Prop :=
  if ty = 105 then nmP m a b (-2147483648) 2147483647 else if ty = 117 then nmP m a b 0 4294967295 else if ty = 109 then nmP m a b 0 999999
  else if ty = 111 then whP m a b 4 else if ty = 115 then stP m a b else if ty = 116 then tmP m a b else if ty = 102 then flP m a b
  else if ty = 78 then sqP T m (rs 4 0) a b else if ty = 83 then rwP (T 115) m a b else if ty = 69 then sqP T m (rs 5 0) a b
  else if ty = 75 then sqP T m (rs 6 0) a b else if ty = 67 then sqP T m (rs 6 0) a b else if ty = 82 then sqP T m (rs 6 0) a b else if ty = 72 then sqP T m (rs 6 0) a b
  else if ty = 84 then (whP m a b 97 ∧ sqP T m (rs 7 0) (elI m a b) b) else if ty = 104 then rwP (T 72) m a b else if ty = 65 then rwP (T 75) m a b
  else if ty = 80 then rwP (T 112) m a b else if ty = 112 then sqP T m (rs 8 0) a b else if ty = 101 then rwP (T 105) m a b else if ty = 107 then rwP (T 84) m a b
  else if ty = 89 then sqP T m (rs 9 0) a b else if ty = 86 then rwP (T 73) m a b else if ty = 73 then sqP T m (rs 10 0) a b else if ty = 76 then rwP (T 108) m a b
  else if ty = 108 then sqP T m (rs 11 0) a b else sqP T m (rs 12 0) a b
def isF (m : Nat → Int32) : Nat → Int → Int → Int → Prop
  | 0 => is1 (fun _ _ _ => False) m
  | r + 1 => is1 (isF m r) m
def rk (ty : Int) : Nat := if ty = 105 ∨ ty = 117 ∨ ty = 109 ∨ ty = 111 ∨ ty = 115 ∨ ty = 116 ∨ ty = 102 then 0 else if ty = 83 ∨ ty = 101 ∨ ty = 69 ∨ ty = 75 ∨ ty = 67 ∨ ty = 82 ∨ ty = 72 ∨ ty = 112 ∨ ty = 108 then 1 else if ty = 78 ∨ ty = 104 ∨ ty = 65 ∨ ty = 80 ∨ ty = 76 ∨ ty = 89 then 2 else if ty = 84 ∨ ty = 73 then 3 else if ty = 107 ∨ ty = 86 then 4 else 5
def CIs (l : Launch) (D : mD) (E : mE) (h : Nat) (q : Nat → Nat) (r : Nat) (mm : Nat → Int32) (ty : Int) (P : Int → Int → Prop) : Prop :=
  ∀ (sz : Nat) (I : Nat → Int32) (J : Nat → Int64) (B : Nat → Nat → Int32) (G : Nat → Nat → Int64) (a2 : Int) (_ : (-1) ≤ a2) (_ : a2 ≤ 30000) (a3 : Int) (_ : (-1) ≤ a3) (_ : a3 ≤ 30000) (_ : rT I B) (_ : B 0 = mm) (_ : pG1 I) (_ : 0 ≤ a2 ∨ a3 < a2 + 2) (_ : a3 - a2 ≤ 4200),
    Met l y_M_is (k_M_is :: lw_tg) (mR (10 + 6 * r) (400 + 300 * r)) (va_Pc [.ref h, .int (iI ty), .int (iI a2), .int (iI a3)] (mPre D E h q (I, J, B, G) sz)) (va_Qi (rPi [39, 40] [] I B (fun (z : Int) (u : mS) => 0 ≤ z ∧ z ≤ 1 ∧ (z = 1 ↔ P a2 a3) ∧ pG1 u.1)) (mPost D E h q (mA E h q sz)) (mA E h q sz)) 0 0 (mA E h q sz)
