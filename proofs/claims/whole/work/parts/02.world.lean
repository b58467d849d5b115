/-! ===== the world of a DoFinder: fixed cells, thirteen routines (the thirteenth is what is written) ===== -/
def upN (f : Nat → Nat) (k x : Nat) : Nat → Nat := fun j => if j = k then x else f j
def upF (f : Nat → Nat → Int32) (k : Nat) (g : Nat → Int32) : Nat → Nat → Int32 := fun j => if j = k then g else f j
theorem upN_s {f : Nat → Nat} {k x : Nat} : upN f k x k = x := if_pos rfl
theorem upN_n {f : Nat → Nat} {k x j : Nat} (h : j ≠ k) : upN f k x j = f j := if_neg h
theorem upF_s {f : Nat → Nat → Int32} {k : Nat} {g : Nat → Int32} : upF f k g k = g := if_pos rfl
theorem upF_n {f : Nat → Nat → Int32} {k j : Nat} {g : Nat → Int32} (h : j ≠ k) : upF f k g j = f j := if_neg h
theorem nI_upd (g : Nat → Nat) (i k : Nat) : upd (fun j => nI (g j)) i (nI k) = fun j => nI (upN g i k j) := by
  funext j
  by_cases h : j = i
  · subst h; simp [upd, upN]
  · simp [upd, upN, h]
abbrev XG : Type := (Nat → ClassId) × (Nat → Nat → Nat) × ClassId × ClassId × ClassId × (Nat → Nat) × (Nat → Nat) × (Nat → Nat)
abbrev xD (G : XG) : va_G := (G.1, G.2.1)
abbrev xcI (G : XG) : ClassId := G.2.2.1
abbrev xcJ (G : XG) : ClassId := G.2.2.2.1
abbrev xcR (G : XG) : ClassId := G.2.2.2.2.1
abbrev xga (G : XG) : Nat → Nat := G.2.2.2.2.2.1
abbrev xgo (G : XG) : Nat → Nat := G.2.2.2.2.2.2.1
abbrev xgs (G : XG) : Nat → Nat := G.2.2.2.2.2.2.2
abbrev xT (G : XG) : List (ClassId × FieldType) := [(xcI G, .int), (xcJ G, .long), (xcR G, .object "DoFinder$Routine")]
/-- routines, fuel, how many steps, arguments, steps; examples, arguments, firsts, seconds, dues -/
abbrev XM : Type := Nat × Nat × (Nat → Nat) × (Nat → Nat) × (Nat → Nat → Int32) × Nat × Nat × (Nat → Int32) × (Nat → Int32) × (Nat → Int64)
/-- done, height, taken, numbers -/
abbrev XP : Type := Nat × Nat × Int32 × (Nat → Int32)
/-- pickedCount, ways, wayMisses, picked -/
abbrev XS : Type := Nat × (Nat → Nat) × (Nat → Nat) × (Nat → Nat)
/-- mostHere, unlikeHere, place, most, unlike, outcomes, counts -/
abbrev XV : Type := Nat × Nat × Nat × Nat × Nat × (Nat → Int64) × (Nat → Nat)
abbrev XX : Type := XM × XP × XS × XV
def xwF (G : XG) (M : XM) (P : XP) (S : XS) (V : XV) : va_W := [(xga G 0, .inr (6, [.ref (xgo G 12), .ref (xga G 1), .ref (xga G 2), .ref (xga G 3), .ref (xga G 4)])), (xga G 1, .inr (1, [.ref (xga G 6), .ref (xga G 5), .int (nI M.1), .int (nI M.2.1), .int (nI P.1)])), (xga G 2, .inr (0, [.ref (xga G 8), .ref (xga G 9), .ref (xga G 10), .int (nI M.2.2.2.2.2.1), .int (nI M.2.2.2.2.2.2.1)])), (xga G 3, .inr (5, [.ref (xga G 1), .ref (xga G 2), .ref (xga G 11), .ref (xga G 12), .ref (xga G 13), .int (nI S.1)])), (xga G 4, .inr (2, [.ref (xga G 3), .ref (xga G 14), .ref (xga G 15), .int (nI V.1), .int (nI V.2.1), .int (nI V.2.2.1), .int (nI V.2.2.2.1), .int (nI V.2.2.2.2.1)])), (xga G 5, .inr (3, [.ref (xga G 7), .int (nI P.2.1), .int P.2.2.1])), (xga G 6, .inl (xcR G, 12, .inr (.inr (.inr (.inr (fun j => some (xgo G j))))))), (xga G 7, .inl (xcI G, 8, .inl P.2.2.2)), (xga G 8, .inl (xcI G, 8, .inl M.2.2.2.2.2.2.2.1)), (xga G 9, .inl (xcI G, 8, .inl M.2.2.2.2.2.2.2.2.1)), (xga G 10, .inl (xcJ G, 8, .inr (.inl M.2.2.2.2.2.2.2.2.2))), (xga G 11, .inl (xcI G, 240, .inl (fun i => nI (S.2.1 i)))), (xga G 12, .inl (xcI G, 240, .inl (fun i => nI (S.2.2.1 i)))), (xga G 13, .inl (xcI G, 756, .inl (fun i => nI (S.2.2.2 i)))), (xga G 14, .inl (xcJ G, 240, .inr (.inl V.2.2.2.2.2.1))), (xga G 15, .inl (xcI G, 240, .inl (fun i => nI (V.2.2.2.2.2.2 i))))]
def xwO (G : XG) (rc ra : Nat → Nat) : va_W := (List.range 13).map (fun j => (xgo G j, .inr (4, [.ref (xgs G j), .int (nI (rc j)), .int (nI (ra j))])))
def xwS (G : XG) (rs : Nat → Nat → Int32) : va_W := (List.range 13).map (fun j => (xgs G j, .inl (xcI G, 12, .inl (rs j))))
def xw (G : XG) (M : XM) (P : XP) (S : XS) (V : XV) : va_W := xwF G M P S V ++ (xwO G M.2.2.1 M.2.2.2.1 ++ xwS G M.2.2.2.2.1)
def xA (G : XG) : Nat → Prop := fun q => (∃ i, i < 16 ∧ q = xga G i) ∨ (∃ j, j < 13 ∧ q = xgo G j) ∨ (∃ j, j < 13 ∧ q = xgs G j)
/-- the world holds, its cells are apart, nothing else has changed since H0, the classes are as the tables have them -/
def xW (G : XG) (s : State) (H0 H : Heap) (locs : List Loc) (M : XM) (P : XP) (S : XS) (V : XV) : Prop :=
  va_P (xD G) vwCl (xw G M P S V) H ∧ va_D (xA G) (xw G M P S V) ∧ va_S (xA G) H0 H locs ∧ va_K (xD G) vwCl (xT G) s
def xB (G : XG) (u : XX) (t : State) : Prop := va_P (xD G) vwCl (xw G u.1 u.2.1 u.2.2.1 u.2.2.2) t.heap ∧ va_D (xA G) (xw G u.1 u.2.1 u.2.2.1 u.2.2.2) ∧ va_K (xD G) vwCl (xT G) t
def xPc (G : XG) (av : List Value) (M : XM) (P : XP) (S : XS) (V : XV) : Array Value → State → Prop := fun v U => v = av.toArray ∧ xB G (M, P, S, V) U
theorem xPc_blind {G : XG} {av : List Value} {M : XM} {P : XP} {S : XS} {V : XV} : FrameBlind (xPc G av M P S V) := fun a U g mk q =>
  ⟨q.1, q.2.1, q.2.2.1, va_K.moved (u := U) (U := U.calling g mk a) (Vm.Alike.refl U.vm) q.2.2.2⟩
abbrev wC (y : MethodName) (b : ByteArray) (n : Nat) (r : Option FieldType) : List Cond := Cond.code y b n r :: gtbl
def rmD (d : Nat) : Room := { frames := d, cells := 0, slots := 0, locals := 40 * d }
theorem lst_set_range {α : Type} (f : Nat → α) (n j : Nat) (v : α) : ((List.range n).map f).set j v = (List.range n).map (fun i => if i = j then v else f i) := by
  apply List.ext_getElem?
  intro k
  by_cases hk : k = j
  · subst hk
    by_cases hn : k < n
    · simp [List.getElem?_set, hn]
    · simp [List.getElem?_set, hn]
  · rw [List.getElem?_set_ne (Ne.symm hk)]
    by_cases hn : k < n
    · simp [hn, hk]
    · simp [hn]
theorem xw_o {G : XG} {M : XM} {P : XP} {S : XS} {V : XV} {j : Nat} (hj : j < 13) : (xw G M P S V)[16 + j]? = some (xgo G j, .inr (4, [.ref (xgs G j), .int (nI (M.2.2.1 j)), .int (nI (M.2.2.2.1 j))])) := by
  show ((xwF G M P S V) ++ _)[16 + j]? = _
  rw [List.getElem?_append_right (by show 16 ≤ _; omega)]
  show (xwO G _ _ ++ _)[16 + j - 16]? = _
  rw [show 16 + j - 16 = j by omega, List.getElem?_append_left (by simp [xwO]; exact hj)]
  simp [xwO, hj]
theorem xw_s {G : XG} {M : XM} {P : XP} {S : XS} {V : XV} {j : Nat} (hj : j < 13) : (xw G M P S V)[29 + j]? = some (xgs G j, .inl (xcI G, 12, .inl (M.2.2.2.2.1 j))) := by
  show ((xwF G M P S V) ++ _)[29 + j]? = _
  rw [List.getElem?_append_right (by show 16 ≤ _; omega)]
  show (xwO G _ _ ++ _)[29 + j - 16]? = _
  rw [show 29 + j - 16 = 13 + j by omega, List.getElem?_append_right (by simp [xwO])]
  rw [show 13 + j - (xwO G M.2.2.1 M.2.2.2.1).length = j by simp [xwO]]
  simp [xwS, hj]
theorem xw_setO {G : XG} {M : XM} {P : XP} {S : XS} {V : XV} {j c a : Nat} (hj : j < 13) : (xw G M P S V).set (16 + j) (xgo G j, .inr (4, [.ref (xgs G j), .int (nI c), .int (nI a)])) = xw G (M.1, M.2.1, upN M.2.2.1 j c, upN M.2.2.2.1 j a, M.2.2.2.2.1, M.2.2.2.2.2.1, M.2.2.2.2.2.2.1, M.2.2.2.2.2.2.2.1, M.2.2.2.2.2.2.2.2.1, M.2.2.2.2.2.2.2.2.2) P S V := by
  show ((xwF G M P S V) ++ _).set _ _ = _
  rw [List.set_append_right _ _ (by show 16 ≤ _; omega)]
  show _ ++ (xwO G _ _ ++ _).set (16 + j - 16) _ = _
  rw [show 16 + j - 16 = j by omega, List.set_append_left _ _ (by simp [xwO]; exact hj)]
  show _ = xwF G _ P S V ++ (xwO G (upN M.2.2.1 j c) (upN M.2.2.2.1 j a) ++ xwS G M.2.2.2.2.1)
  have : (xwO G M.2.2.1 M.2.2.2.1).set j (xgo G j, .inr (4, [.ref (xgs G j), .int (nI c), .int (nI a)])) = xwO G (upN M.2.2.1 j c) (upN M.2.2.2.1 j a) := by
    unfold xwO
    rw [lst_set_range]
    apply congrArg (fun f => List.map f (List.range 13))
    funext i
    by_cases h : i = j
    · subst h; simp [upN]
    · simp [upN, h]
  rw [this]
  rfl
theorem xw_setS {G : XG} {M : XM} {P : XP} {S : XS} {V : XV} {j : Nat} {f : Nat → Int32} (hj : j < 13) : (xw G M P S V).set (29 + j) (xgs G j, .inl (xcI G, 12, .inl f)) = xw G (M.1, M.2.1, M.2.2.1, M.2.2.2.1, upF M.2.2.2.2.1 j f, M.2.2.2.2.2.1, M.2.2.2.2.2.2.1, M.2.2.2.2.2.2.2.1, M.2.2.2.2.2.2.2.2.1, M.2.2.2.2.2.2.2.2.2) P S V := by
  show ((xwF G M P S V) ++ _).set _ _ = _
  rw [List.set_append_right _ _ (by show 16 ≤ _; omega)]
  show _ ++ (xwO G _ _ ++ _).set (29 + j - 16) _ = _
  rw [show 29 + j - 16 = 13 + j by omega, List.set_append_right _ _ (by simp [xwO])]
  rw [show 13 + j - (xwO G M.2.2.1 M.2.2.2.1).length = j by simp [xwO]]
  show _ = xwF G _ P S V ++ (xwO G M.2.2.1 M.2.2.2.1 ++ xwS G (upF M.2.2.2.2.1 j f))
  have : (xwS G M.2.2.2.2.1).set j (xgs G j, .inl (xcI G, 12, .inl f)) = xwS G (upF M.2.2.2.2.1 j f) := by
    unfold xwS
    rw [lst_set_range]
    apply congrArg (fun f => List.map f (List.range 13))
    funext i
    by_cases h : i = j
    · subst h; simp [upF]
    · simp [upF, h]
  rw [this]
  rfl
theorem iw_X0 : ∀ w ∈ u_ws RX0 TX0 5, w ∈ gtbl := by decide +kernel
theorem iw_X1 : ∀ w ∈ u_ws RX1 TX1 5, w ∈ gtbl := by decide +kernel
theorem iw_X2 : ∀ w ∈ u_ws RX2 TX2 8, w ∈ gtbl := by decide +kernel
theorem iw_X3 : ∀ w ∈ u_ws RX3 TX3 3, w ∈ gtbl := by decide +kernel
theorem iw_X4 : ∀ w ∈ u_ws RX4 TX4 3, w ∈ gtbl := by decide +kernel
theorem iw_X5 : ∀ w ∈ u_ws RX5 TX5 6, w ∈ gtbl := by decide +kernel
theorem iw_X7 : ∀ w ∈ u_ws RX7 TX7 5, w ∈ gtbl := by decide +kernel
theorem iw_X8 : ∀ w ∈ u_ws RX8 TX8 24, w ∈ gtbl := by decide +kernel
