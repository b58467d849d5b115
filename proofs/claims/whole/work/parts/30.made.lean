/-! ===== what has been made, as the worlds have it ===== -/
def gX (D : va_G) (cI cJ cR : ClassId) (h0 : Nat) (u : Nat × Nat × Nat × Nat × Nat × Nat × (Nat × Nat × Nat × (Nat → Nat) × (Nat → Nat)) × (Nat × Nat × Nat) × (Nat × Nat × Nat) × (Nat × Nat)) : XG := match u with
  | (qX4, qX1, qX0, qX5, qX2, uX4, uX1, uX0, uX5, uX2) => (D.1, D.2, cI, cJ, cR, (fun i => match i with
    | 0 => h0
    | 1 => qX1
    | 2 => qX0
    | 3 => qX5
    | 4 => qX2
    | 5 => uX1.2.1
    | 6 => uX1.1
    | 7 => uX1.2.2.1
    | 8 => uX0.1
    | 9 => uX0.2.1
    | 10 => uX0.2.2
    | 11 => uX5.1
    | 12 => uX5.2.1
    | 13 => uX5.2.2
    | 14 => uX2.1
    | _ => uX2.2), (fun j => if j = 12 then qX4 else uX1.2.2.2.1 j), (fun j => if j = 12 then uX4 else uX1.2.2.2.2 j))
def xM0 : XM := (0, 60, (fun _ => 0), (fun _ => 1), (fun _ _ => 0), 0, 1, (fun _ => 0), (fun _ => 0), (fun _ => 0))
def xP0 : XP := (0, 0, 0, (fun _ => 0))
def xS0 : XS := (0, (fun _ => 0), (fun _ => 0), (fun _ => 0))
def xV0 : XV := (0, 0, 0, 0, 0, (fun _ => 0), (fun _ => 0))
def mM0 : MM := (0, (fun _ => 0), (fun _ => 0), (fun _ => 0), 0, (fun _ => 0), 60, 1, 0, (fun _ => 0), (fun _ => 0), (fun _ => 0))
def mP0 : MP := (0, 0, (fun _ => 0))
def mL0 : ML := (0, 0)
def mN0 : MN := ((fun _ => 0), (fun _ => 0))
def mV0 : MV := ((fun _ => 0), (fun _ => 0), (fun _ => 0), 0, 0)
theorem zR0 : zR xM0 mM0 := ⟨rfl, rfl, rfl, rfl, rfl, by decide, by decide, Or.inl rfl, by decide, by decide, fun r h => absurd h (Nat.not_lt_zero r), fun k h => absurd h (Nat.not_lt_zero k), fun k h => absurd h (Nat.not_lt_zero k)⟩
def gi (k : Nat) : Nat := if k < 16 then [0, 3, 31, 35, 39, 5, 4, 6, 32, 33, 34, 36, 37, 38, 40, 41].getD k 0 else if k < 28 then 7 + 2 * (k - 16) else if k = 28 then 1 else if k < 41 then 8 + 2 * (k - 29) else 2
set_option maxRecDepth 100000 in
theorem gi_inj : ∀ i, i < 42 → ∀ j, j < 42 → gi i = gi j → i = j := by decide +kernel
theorem k_case {P : Nat → Prop} (h : P 0 ∧ P 1 ∧ P 2 ∧ P 3 ∧ P 4 ∧ P 5 ∧ P 6 ∧ P 7 ∧ P 8 ∧ P 9 ∧ P 10 ∧ P 11 ∧ P 12 ∧ P 13 ∧ P 14 ∧ P 15 ∧ P 16 ∧ P 17 ∧ P 18 ∧ P 19 ∧ P 20 ∧ P 21 ∧ P 22 ∧ P 23 ∧ P 24 ∧ P 25 ∧ P 26 ∧ P 27 ∧ P 28 ∧ P 29 ∧ P 30 ∧ P 31 ∧ P 32 ∧ P 33 ∧ P 34 ∧ P 35 ∧ P 36 ∧ P 37 ∧ P 38 ∧ P 39 ∧ P 40 ∧ P 41) : ∀ k, k < 42 → P k := by
  obtain ⟨p0, p1, p2, p3, p4, p5, p6, p7, p8, p9, p10, p11, p12, p13, p14, p15, p16, p17, p18, p19, p20, p21, p22, p23, p24, p25, p26, p27, p28, p29, p30, p31, p32, p33, p34, p35, p36, p37, p38, p39, p40, p41⟩ := h
  intro k hk
  match k, hk with
  | 0, _ => exact p0
  | 1, _ => exact p1
  | 2, _ => exact p2
  | 3, _ => exact p3
  | 4, _ => exact p4
  | 5, _ => exact p5
  | 6, _ => exact p6
  | 7, _ => exact p7
  | 8, _ => exact p8
  | 9, _ => exact p9
  | 10, _ => exact p10
  | 11, _ => exact p11
  | 12, _ => exact p12
  | 13, _ => exact p13
  | 14, _ => exact p14
  | 15, _ => exact p15
  | 16, _ => exact p16
  | 17, _ => exact p17
  | 18, _ => exact p18
  | 19, _ => exact p19
  | 20, _ => exact p20
  | 21, _ => exact p21
  | 22, _ => exact p22
  | 23, _ => exact p23
  | 24, _ => exact p24
  | 25, _ => exact p25
  | 26, _ => exact p26
  | 27, _ => exact p27
  | 28, _ => exact p28
  | 29, _ => exact p29
  | 30, _ => exact p30
  | 31, _ => exact p31
  | 32, _ => exact p32
  | 33, _ => exact p33
  | 34, _ => exact p34
  | 35, _ => exact p35
  | 36, _ => exact p36
  | 37, _ => exact p37
  | 38, _ => exact p38
  | 39, _ => exact p39
  | 40, _ => exact p40
  | 41, _ => exact p41
  | k + 42, hk => exact absurd hk (by omega)
theorem xw_len {G : XG} {M : XM} {P : XP} {S : XS} {V : XV} : (xw G M P S V).length = 42 := rfl
theorem xA_in {G : XG} {M : XM} {P : XP} {S : XS} {V : XV} {k : Nat} {q : Nat × va_E} (hk : (xw G M P S V)[k]? = some q) : xA G q.1 := by
  have hl : k < 42 := (List.getElem?_eq_some_iff.mp hk).1
  exact k_case (P := fun k => (xw G M P S V)[k]? = some q → xA G q.1) ⟨fun hk => by cases hk; exact Or.inl ⟨0, by decide, rfl⟩, fun hk => by cases hk; exact Or.inl ⟨1, by decide, rfl⟩, fun hk => by cases hk; exact Or.inl ⟨2, by decide, rfl⟩, fun hk => by cases hk; exact Or.inl ⟨3, by decide, rfl⟩, fun hk => by cases hk; exact Or.inl ⟨4, by decide, rfl⟩, fun hk => by cases hk; exact Or.inl ⟨5, by decide, rfl⟩, fun hk => by cases hk; exact Or.inl ⟨6, by decide, rfl⟩, fun hk => by cases hk; exact Or.inl ⟨7, by decide, rfl⟩, fun hk => by cases hk; exact Or.inl ⟨8, by decide, rfl⟩, fun hk => by cases hk; exact Or.inl ⟨9, by decide, rfl⟩, fun hk => by cases hk; exact Or.inl ⟨10, by decide, rfl⟩, fun hk => by cases hk; exact Or.inl ⟨11, by decide, rfl⟩, fun hk => by cases hk; exact Or.inl ⟨12, by decide, rfl⟩, fun hk => by cases hk; exact Or.inl ⟨13, by decide, rfl⟩, fun hk => by cases hk; exact Or.inl ⟨14, by decide, rfl⟩, fun hk => by cases hk; exact Or.inl ⟨15, by decide, rfl⟩, fun hk => by cases hk; exact Or.inr (Or.inl ⟨0, by decide, rfl⟩), fun hk => by cases hk; exact Or.inr (Or.inl ⟨1, by decide, rfl⟩), fun hk => by cases hk; exact Or.inr (Or.inl ⟨2, by decide, rfl⟩), fun hk => by cases hk; exact Or.inr (Or.inl ⟨3, by decide, rfl⟩), fun hk => by cases hk; exact Or.inr (Or.inl ⟨4, by decide, rfl⟩), fun hk => by cases hk; exact Or.inr (Or.inl ⟨5, by decide, rfl⟩), fun hk => by cases hk; exact Or.inr (Or.inl ⟨6, by decide, rfl⟩), fun hk => by cases hk; exact Or.inr (Or.inl ⟨7, by decide, rfl⟩), fun hk => by cases hk; exact Or.inr (Or.inl ⟨8, by decide, rfl⟩), fun hk => by cases hk; exact Or.inr (Or.inl ⟨9, by decide, rfl⟩), fun hk => by cases hk; exact Or.inr (Or.inl ⟨10, by decide, rfl⟩), fun hk => by cases hk; exact Or.inr (Or.inl ⟨11, by decide, rfl⟩), fun hk => by cases hk; exact Or.inr (Or.inl ⟨12, by decide, rfl⟩), fun hk => by cases hk; exact Or.inr (Or.inr ⟨0, by decide, rfl⟩), fun hk => by cases hk; exact Or.inr (Or.inr ⟨1, by decide, rfl⟩), fun hk => by cases hk; exact Or.inr (Or.inr ⟨2, by decide, rfl⟩), fun hk => by cases hk; exact Or.inr (Or.inr ⟨3, by decide, rfl⟩), fun hk => by cases hk; exact Or.inr (Or.inr ⟨4, by decide, rfl⟩), fun hk => by cases hk; exact Or.inr (Or.inr ⟨5, by decide, rfl⟩), fun hk => by cases hk; exact Or.inr (Or.inr ⟨6, by decide, rfl⟩), fun hk => by cases hk; exact Or.inr (Or.inr ⟨7, by decide, rfl⟩), fun hk => by cases hk; exact Or.inr (Or.inr ⟨8, by decide, rfl⟩), fun hk => by cases hk; exact Or.inr (Or.inr ⟨9, by decide, rfl⟩), fun hk => by cases hk; exact Or.inr (Or.inr ⟨10, by decide, rfl⟩), fun hk => by cases hk; exact Or.inr (Or.inr ⟨11, by decide, rfl⟩), fun hk => by cases hk; exact Or.inr (Or.inr ⟨12, by decide, rfl⟩)⟩ k hl hk
theorem k_cell {cR q : Nat} {D : va_G} {cl : List vw_C} {f g : Nat → Option Nat} {H : Heap} (h : ∀ j, j < 12 → f j = g j) (ha : va_at D cl (q, .inl (cR, 12, .inr (.inr (.inr (.inr f))))) H) : va_at D cl (q, .inl (cR, 12, .inr (.inr (.inr (.inr g))))) H := by
  have e : vp_cell cR (12, .inr (.inr (.inr (.inr f)))) = vp_cell cR (12, .inr (.inr (.inr (.inr g)))) := by
    rw [vp_cell_q, vp_cell_q]
    unfold arrV
    congr 2
    funext j
    show va_rf (f j.1) = va_rf (g j.1)
    rw [h j.1 j.2]
  show H[q]? = some (vp_cell cR (12, .inr (.inr (.inr (.inr g)))))
  rw [← e]
  exact ha
set_option maxHeartbeats 4000000 in
set_option maxRecDepth 100000 in
theorem mk_x {D : va_G} {cI cJ cR : ClassId} {h0 : Nat} {u : Nat × Nat × Nat × Nat × Nat × Nat × (Nat × Nat × Nat × (Nat → Nat) × (Nat → Nat)) × (Nat × Nat × Nat) × (Nat × Nat × Nat) × (Nat × Nat)} {A : Nat → Prop} {H : Heap} (hP : va_P D vwCl (wD cI cJ cR h0 u) H) (hD : va_D A (wD cI cJ cR h0 u)) : va_P D vwCl (xw (gX D cI cJ cR h0 u) xM0 xP0 xS0 xV0) H ∧ va_D A (xw (gX D cI cJ cR h0 u) xM0 xP0 xS0 xV0) := by
  obtain ⟨qX4, qX1, qX0, qX5, qX2, uX4, uX1, uX0, uX5, uX2⟩ := u
  have hP2 : va_P D vwCl ((wD cI cJ cR h0 (qX4, qX1, qX0, qX5, qX2, uX4, uX1, uX0, uX5, uX2)).set 4 (uX1.1, .inl (cR, 12, .inr (.inr (.inr (.inr (fun j => some (if j = 12 then qX4 else uX1.2.2.2.1 j)))))))) H := by
    intro k q hk
    by_cases e : k = 4
    · subst e
      rw [List.getElem?_set_self (by exact Nat.lt_of_lt_of_le (by decide : 4 < 5) (Nat.le_of_ble_eq_true rfl))] at hk
      cases hk
      refine k_cell (f := rw_ uX1.2.2.2.1 12) (fun j hj => ?_) (hP 4 _ rfl)
      unfold rw_
      rw [if_pos hj, if_neg (by omega)]
    · rw [List.getElem?_set_ne (Ne.symm e)] at hk
      exact hP k q hk
  have hD2 : va_D A ((wD cI cJ cR h0 (qX4, qX1, qX0, qX5, qX2, uX4, uX1, uX0, uX5, uX2)).set 4 (uX1.1, .inl (cR, 12, .inr (.inr (.inr (.inr (fun j => some (if j = 12 then qX4 else uX1.2.2.2.1 j)))))))) := hD.set (e0 := .inl (cR, 12, .inr (.inr (.inr (.inr (rw_ uX1.2.2.2.1 12)))))) rfl
  have hg : ∀ (k : Nat) (q : Nat × va_E), (xw (gX D cI cJ cR h0 (qX4, qX1, qX0, qX5, qX2, uX4, uX1, uX0, uX5, uX2)) xM0 xP0 xS0 xV0)[k]? = some q → ((wD cI cJ cR h0 (qX4, qX1, qX0, qX5, qX2, uX4, uX1, uX0, uX5, uX2)).set 4 (uX1.1, .inl (cR, 12, .inr (.inr (.inr (.inr (fun j => some (if j = 12 then qX4 else uX1.2.2.2.1 j))))))))[gi k]? = some q := by
    intro k q hk
    have hl : k < 42 := (List.getElem?_eq_some_iff.mp hk).1
    revert hk
    revert hl
    revert k
    exact k_case (P := fun k => (xw (gX D cI cJ cR h0 (qX4, qX1, qX0, qX5, qX2, uX4, uX1, uX0, uX5, uX2)) xM0 xP0 xS0 xV0)[k]? = some q → ((wD cI cJ cR h0 (qX4, qX1, qX0, qX5, qX2, uX4, uX1, uX0, uX5, uX2)).set 4 (uX1.1, .inl (cR, 12, .inr (.inr (.inr (.inr (fun j => some (if j = 12 then qX4 else uX1.2.2.2.1 j))))))))[gi k]? = some q) ⟨fun hk => hk, fun hk => hk, fun hk => hk, fun hk => hk, fun hk => hk, fun hk => hk, fun hk => hk, fun hk => hk, fun hk => hk, fun hk => hk, fun hk => hk, fun hk => hk, fun hk => hk, fun hk => hk, fun hk => hk, fun hk => hk, fun hk => hk, fun hk => hk, fun hk => hk, fun hk => hk, fun hk => hk, fun hk => hk, fun hk => hk, fun hk => hk, fun hk => hk, fun hk => hk, fun hk => hk, fun hk => hk, fun hk => hk, fun hk => hk, fun hk => hk, fun hk => hk, fun hk => hk, fun hk => hk, fun hk => hk, fun hk => hk, fun hk => hk, fun hk => hk, fun hk => hk, fun hk => hk, fun hk => hk, fun hk => hk⟩
  exact ⟨hP2.by gi hg, hD2.by gi hg (fun i j hi hj e => gi_inj i hi j hj e)⟩
