/-! ===== numbers: what a branch says, by what lies behind ===== -/
theorem ci_lt {x y : Int32} {a b : Int} (ha : x.toInt = a) (hb : y.toInt = b) (h : x < y) : a < b := by rw [Int32.lt_iff_toInt_lt] at h; omega
theorem ci_nlt {x y : Int32} {a b : Int} (ha : x.toInt = a) (hb : y.toInt = b) (h : ¬ x < y) : b ≤ a := by rw [Int32.lt_iff_toInt_lt] at h; omega
theorem ci_le {x y : Int32} {a b : Int} (ha : x.toInt = a) (hb : y.toInt = b) (h : x ≤ y) : a ≤ b := by rw [Int32.le_iff_toInt_le] at h; omega
theorem ci_nle {x y : Int32} {a b : Int} (ha : x.toInt = a) (hb : y.toInt = b) (h : ¬ x ≤ y) : b < a := by rw [Int32.le_iff_toInt_le] at h; omega
theorem ci_eq {x y : Int32} {a b : Int} (ha : x.toInt = a) (hb : y.toInt = b) (h : x = y) : a = b := by rw [← ha, ← hb, h]
theorem ci_ne {x y : Int32} {a b : Int} (ha : x.toInt = a) (hb : y.toInt = b) (h : ¬ x = y) : a ≠ b := by
  intro q; exact h (Int32.toInt_inj.mp (by omega))
theorem ci_0 : (0 : Int32).toInt = 0 := by decide
theorem ix_of {x : Int32} {k : Nat} (h : x.toInt = (k : Int)) : x = nI k := by
  have h1 := Int32.toInt_lt x
  exact Int32.toInt_inj.mp (by rw [nI_toInt (by omega)]; exact h)
theorem ci_sub {x y : Int32} {a b : Int} (ha : x.toInt = a) (hb : y.toInt = b) (h1 : -2147483648 ≤ a - b) (h2 : a - b < 2147483648) : (x - y).toInt = a - b := by
  rw [Int32.toInt_sub, ha, hb]; exact Int.bmod_eq_of_le (by omega) (by omega)
theorem ci_add {x y : Int32} {a b : Int} (ha : x.toInt = a) (hb : y.toInt = b) (h1 : -2147483648 ≤ a + b) (h2 : a + b < 2147483648) : (x + y).toInt = a + b := by
  rw [Int32.toInt_add, ha, hb]; exact Int.bmod_eq_of_le (by omega) (by omega)
theorem nI_dec {a : Nat} (h : 1 ≤ a) : nI a + (-1) = nI (a - 1) := by
  obtain ⟨k, rfl⟩ : ∃ k, a = k + 1 := ⟨a - 1, by omega⟩
  exact pk_m1 k
/-- an answer that is yes or no -/
def yn (r : Int32) (φ : Prop) : Prop := (r = nI 1 ∧ φ) ∨ (r = nI 0 ∧ ¬ φ)
theorem yn_1 {φ : Prop} (h : φ) : yn (nI 1) φ := Or.inl ⟨rfl, h⟩
theorem yn_0 {φ : Prop} (h : ¬ φ) : yn (nI 0) φ := Or.inr ⟨rfl, h⟩
section AX
variable {p : Program} {l : Launch} {e : Env} {R : Room} {s : State} {m : MethodId} {args : Array Value} {below : List Frame} {meth : Method} {c : Code} {H : Heap} {locs : List Loc} {cells slots : Nat} {Q : State → Prop} {cc : ByteArray} {pc nL : Nat} {ls : Array Slot} {rest : List Value} {own : String}
theorem ax_add (F : CallFix p m c cc nL s args gtbl own) {x y z : Int32} (h : x + y = z) (hdg : decode cc pc = .ok (.iadd, 1)) (kk : W p l e R s m args below meth c H locs cells slots Q (F0 m (pc + 1) ls (.int z :: rest))) : W p l e R s m args below meth c H locs cells slots Q (F0 m pc ls (.int y :: .int x :: rest)) := by
  subst h; exact lv_iadd F.1 F.2.1 hdg kk
theorem ax_sub (F : CallFix p m c cc nL s args gtbl own) {x y z : Int32} (h : x - y = z) (hdg : decode cc pc = .ok (.isub, 1)) (kk : W p l e R s m args below meth c H locs cells slots Q (F0 m (pc + 1) ls (.int z :: rest))) : W p l e R s m args below meth c H locs cells slots Q (F0 m pc ls (.int y :: .int x :: rest)) := by
  subst h; exact lv_isub F.1 F.2.1 hdg kk
theorem ax_mul (F : CallFix p m c cc nL s args gtbl own) {x y z : Int32} (h : x * y = z) (hdg : decode cc pc = .ok (.imul, 1)) (kk : W p l e R s m args below meth c H locs cells slots Q (F0 m (pc + 1) ls (.int z :: rest))) : W p l e R s m args below meth c H locs cells slots Q (F0 m pc ls (.int y :: .int x :: rest)) := by
  subst h; exact lv_imul F.1 F.2.1 hdg kk
theorem ax_div (F : CallFix p m c cc nL s args gtbl own) {x y z : Int32} (h0 : ¬ y = 0) (h : x / y = z) (hdg : decode cc pc = .ok (.idiv, 1)) (kk : W p l e R s m args below meth c H locs cells slots Q (F0 m (pc + 1) ls (.int z :: rest))) : W p l e R s m args below meth c H locs cells slots Q (F0 m pc ls (.int y :: .int x :: rest)) := by
  subst h; exact lv_idiv F.1 F.2.1 hdg h0 kk
theorem ax_rem (F : CallFix p m c cc nL s args gtbl own) {x y z : Int32} (h0 : ¬ y = 0) (h : x - x / y * y = z) (hdg : decode cc pc = .ok (.irem, 1)) (kk : W p l e R s m args below meth c H locs cells slots Q (F0 m (pc + 1) ls (.int z :: rest))) : W p l e R s m args below meth c H locs cells slots Q (F0 m pc ls (.int y :: .int x :: rest)) := by
  subst h; exact lv_irem F.1 F.2.1 hdg h0 kk
/-- the value on top gets a name, and its number -/
theorem ax_nm {x : Int32} {a : Int} (h : x.toInt = a) (k : ∀ y : Int32, y.toInt = a → W p l e R s m args below meth c H locs cells slots Q (F0 m pc ls (.int y :: rest))) : W p l e R s m args below meth c H locs cells slots Q (F0 m pc ls (.int x :: rest)) := k x h
/-- the value on top, written otherwise -/
theorem ax_re {x y : Int32} (h : x = y) (k : W p l e R s m args below meth c H locs cells slots Q (F0 m pc ls (.int y :: rest))) : W p l e R s m args below meth c H locs cells slots Q (F0 m pc ls (.int x :: rest)) := h ▸ k
theorem ax_reL {x y : Int64} (h : x = y) (k : W p l e R s m args below meth c H locs cells slots Q (F0 m pc ls (.long y :: rest))) : W p l e R s m args below meth c H locs cells slots Q (F0 m pc ls (.long x :: rest)) := h ▸ k
end AX
theorem i32b (x : Int32) : -2147483648 ≤ x.toInt ∧ x.toInt < 2147483648 := ⟨by have := Int32.le_toInt x; omega, by have := Int32.toInt_lt x; omega⟩
