/-! ===== the two main states stand for the same ===== -/
theorem sp_run_st {sz : Nat} {f g : Nat → Int32} {a b : Int32} (h : ∀ k, k < sz → f k = g k) : ∀ (k q h : Nat) (p : Nat → Int32), sp_run sz f a b k q h p = sp_run sz g a b k q h p := by
  intro k
  induction k with
  | zero => intro q h p; unfold sp_run; rfl
  | succ k ih =>
    intro q h2 p
    unfold sp_run
    by_cases hq : q < sz
    · rw [if_pos hq, if_pos hq, h q hq, ih]
    · rw [if_neg hq, if_neg hq]
theorem zout_st {fu sz : Nat} {f g : Nat → Int32} {a b : Int32} (h : ∀ k, k < sz → f k = g k) : zout fu sz f a b = zout fu sz g a b := by unfold zout; rw [sp_run_st h]
theorem zuse_st {fu sz : Nat} {f g : Nat → Int32} {a b : Int32} (h : ∀ k, k < sz → f k = g k) : zuse fu sz f a b = zuse fu sz g a b := by unfold zuse; rw [sp_run_st h]
theorem zint_ne (x : Int32) : x.toInt64 ≠ zUNK := by
  intro h
  have h1 : x.toInt64.toInt = x.toInt := Int32.toInt_toInt64 x
  have h2 : zUNK.toInt = 2199023255552 := by decide
  have h3 := i32b x
  rw [h, h2] at h1
  omega
theorem zout_ne (fu sz : Nat) (st : Nat → Int32) (a b : Int32) : (if zout fu sz st a b = zUNK then zANY else zout fu sz st a b) ≠ zUNK := by
  split
  · decide
  · assumption
def zR1 (n : Nat) (ra ra2 rc rc2 : Nat → Nat) (rs : Nat → Nat → Int32) (st : Nat → Int32) : Prop := ∀ r, r < n → ra r = ra2 r ∧ rc r = rc2 r ∧ rc r ≤ 12 ∧ (ra r = 1 ∨ ra r = 2) ∧ ∀ k, k < rc r → rs r k = st (12 * r + k)
def zR2 (ac : Nat) (af af2 ag ag2 : Nat → Int32) (ad ad2 : Nat → Int64) : Prop := ∀ k, k < ac → af k = af2 k ∧ ag k = ag2 k ∧ ad k = ad2 k ∧ ad k ≠ zUNK
def zR (X : XM) (Y : MM) : Prop := X.1 = Y.1 ∧ X.2.1 = Y.2.2.2.2.2.2.1 ∧ X.2.2.2.2.2.2.1 = Y.2.2.2.2.2.2.2.1 ∧ X.2.2.2.2.2.1 = Y.2.2.2.2.2.2.2.2.1 ∧ X.2.2.1 12 = Y.2.2.2.2.1 ∧ X.1 ≤ 12 ∧ X.2.1 ≤ 200 ∧ (X.2.2.2.2.2.2.1 = 1 ∨ X.2.2.2.2.2.2.1 = 2) ∧ X.2.2.2.2.2.1 ≤ 8 ∧ X.2.2.1 12 ≤ 12 ∧ zR1 X.1 X.2.2.2.1 Y.2.1 X.2.2.1 Y.2.2.1 X.2.2.2.2.1 Y.2.2.2.1 ∧ (∀ k, k < X.2.2.1 12 → X.2.2.2.2.1 12 k = Y.2.2.2.2.2.1 k) ∧ zR2 X.2.2.2.2.2.1 X.2.2.2.2.2.2.2.1 Y.2.2.2.2.2.2.2.2.2.1 X.2.2.2.2.2.2.2.2.1 Y.2.2.2.2.2.2.2.2.2.2.1 X.2.2.2.2.2.2.2.2.2 Y.2.2.2.2.2.2.2.2.2.2.2
theorem zR_x {X : XM} {Y : MM} (hR : zR X Y) : xV X X.1 X.2.2.2.2.2.2.1 X.2.2.2.2.2.1 X.2.2.2.1 (fun r a b => zout X.2.1 (X.2.2.1 r) (X.2.2.2.2.1 r) a b) X.2.2.2.2.2.2.2.1 X.2.2.2.2.2.2.2.2.1 X.2.2.2.2.2.2.2.2.2 := by
  obtain ⟨r1, r2, r3, r4, r5, r6, r7, r8, r9, r10, r11, r12, r13⟩ := id hR
  exact ⟨rfl, rfl, rfl, fun r _ => rfl, fun r _ a b => rfl, fun k _ => rfl, fun k _ => rfl, fun k _ => rfl, r6, r8, r9, r7, fun r h => (r11 r h).2.2.1, fun r h => (r11 r h).2.2.2.1, fun k h => (r13 k h).2.2.2⟩
theorem zR_m {X : XM} {Y : MM} (hR : zR X Y) : mV Y X.1 X.2.2.2.2.2.2.1 X.2.2.2.2.2.1 X.2.2.2.1 (fun r a b => zout X.2.1 (X.2.2.1 r) (X.2.2.2.2.1 r) a b) X.2.2.2.2.2.2.2.1 X.2.2.2.2.2.2.2.2.1 X.2.2.2.2.2.2.2.2.2 := by
  obtain ⟨r1, r2, r3, r4, r5, r6, r7, r8, r9, r10, r11, r12, r13⟩ := id hR
  refine ⟨r1.symm, r3.symm, r4.symm, fun r h => ((r11 r h).1).symm, fun r h a b => ?_, fun k h => ((r13 k h).1).symm, fun k h => ((r13 k h).2.1).symm, fun k h => ((r13 k h).2.2.1).symm, r6, r8, r9, by rw [← r2]; exact r7, fun r h => by rw [← (r11 r h).2.1]; exact (r11 r h).2.2.1, fun r h => (r11 r h).2.2.2.1, fun k h => (r13 k h).2.2.2⟩
  show zout Y.2.2.2.2.2.2.1 (Y.2.2.1 r) (fun k => Y.2.2.2.1 (12 * r + k)) a b = zout X.2.1 (X.2.2.1 r) (X.2.2.2.2.1 r) a b
  rw [← r2, ← (r11 r h).2.1]
  exact zout_st (fun k hk => ((r11 r h).2.2.2.2 k hk).symm)
theorem R_step {X : XM} {Y : MM} {P : XP} {S : XS} {V : XV} {P8 : MP} {L : ML} {N : MN} {V8 : MV} {x : Int32} {a1 a2 : Int32} {u1 : XX} {u2 : YY} (hR : zR X Y) (h1 : (¬ (0 ≤ x.toInt ∧ x.toInt ≤ 32) ∧ a1 = (-1) ∧ u1 = (X, P, S, V)) ∨ ((0 ≤ x.toInt ∧ x.toInt ≤ 32) ∧ ¬ X.2.2.1 12 < 12 ∧ a1 = (-2) ∧ u1 = (X, P, S, V)) ∨ ((0 ≤ x.toInt ∧ x.toInt ≤ 32) ∧ X.2.2.1 12 < 12 ∧ a1 = nI (X.2.2.1 12 + 1) ∧ u1 = ((X.1, X.2.1, upN X.2.2.1 12 (X.2.2.1 12 + 1), X.2.2.2.1, upF X.2.2.2.2.1 12 (upd (X.2.2.2.2.1 12) (X.2.2.1 12) x), X.2.2.2.2.2.1, X.2.2.2.2.2.2.1, X.2.2.2.2.2.2.2.1, X.2.2.2.2.2.2.2.2.1, X.2.2.2.2.2.2.2.2.2), P, S, V))) (h2 : (¬ (0 ≤ x.toInt ∧ x.toInt ≤ 32) ∧ a2 = (-1) ∧ u2 = (Y, P8, L, N, V8)) ∨ ((0 ≤ x.toInt ∧ x.toInt ≤ 32) ∧ ¬ Y.2.2.2.2.1 < 12 ∧ a2 = (-2) ∧ u2 = (Y, P8, L, N, V8)) ∨ ((0 ≤ x.toInt ∧ x.toInt ≤ 32) ∧ Y.2.2.2.2.1 < 12 ∧ a2 = nI (Y.2.2.2.2.1 + 1) ∧ u2 = ((Y.1, Y.2.1, Y.2.2.1, Y.2.2.2.1, Y.2.2.2.2.1 + 1, upd Y.2.2.2.2.2.1 Y.2.2.2.2.1 x, Y.2.2.2.2.2.2.1, Y.2.2.2.2.2.2.2.1, Y.2.2.2.2.2.2.2.2.1, Y.2.2.2.2.2.2.2.2.2.1, Y.2.2.2.2.2.2.2.2.2.2.1, Y.2.2.2.2.2.2.2.2.2.2.2), P8, L, N, V8))) : a1 = a2 ∧ zR u1.1 u2.1 := by
  obtain ⟨r1, r2, r3, r4, r5, r6, r7, r8, r9, r10, r11, r12, r13⟩ := id hR
  rcases h1 with ⟨h1, rfl, rfl⟩ | ⟨h1, h3, rfl, rfl⟩ | ⟨h1, h3, rfl, rfl⟩ <;> rcases h2 with ⟨h2, rfl, rfl⟩ | ⟨h2, h4, rfl, rfl⟩ | ⟨h2, h4, rfl, rfl⟩ <;> first | (exfalso; omega) | exact ⟨rfl, hR⟩ | skip
  refine ⟨congrArg nI (by omega), r1, r2, r3, r4, ?_, r6, r7, r8, r9, ?_, ?_, ?_, r13⟩
  · show upN X.2.2.1 12 (X.2.2.1 12 + 1) 12 = Y.2.2.2.2.1 + 1; rw [upN_s, r5]
  · dsimp only; rw [upN_s]; omega
  · intro r hr
    have hr : r < X.1 := hr
    have e : r ≠ 12 := by omega
    have q := r11 r hr
    refine ⟨q.1, ?_, ?_, q.2.2.2.1, ?_⟩
    · dsimp only; rw [upN_n e]; exact q.2.1
    · dsimp only; rw [upN_n e]; exact q.2.2.1
    · intro k hk
      have hk : k < upN X.2.2.1 12 (X.2.2.1 12 + 1) r := hk
      rw [upN_n e] at hk
      dsimp only
      rw [upF_n e]; exact q.2.2.2.2 k hk
  · intro k hk
    have hk : k < upN X.2.2.1 12 (X.2.2.1 12 + 1) 12 := hk
    rw [upN_s] at hk
    dsimp only
    rw [upF_s]
    by_cases e : k = X.2.2.1 12
    · rw [e, pk_us, r5, pk_us]
    · rw [pk_un e, pk_un (by rw [← r5]; exact e)]
      exact r12 k (by omega)
theorem R_scrap {X : XM} {Y : MM} {P : XP} {S : XS} {V : XV} {P8 : MP} {L : ML} {N : MN} {V8 : MV}  {a1 a2 : Int32} {u1 : XX} {u2 : YY} (hR : zR X Y) (h1 : a1 = nI (X.2.2.1 12) ∧ u1 = ((X.1, X.2.1, upN X.2.2.1 12 0, X.2.2.2.1, X.2.2.2.2.1, X.2.2.2.2.2.1, X.2.2.2.2.2.2.1, X.2.2.2.2.2.2.2.1, X.2.2.2.2.2.2.2.2.1, X.2.2.2.2.2.2.2.2.2), P, S, V)) (h2 : a2 = nI Y.2.2.2.2.1 ∧ u2 = ((Y.1, Y.2.1, Y.2.2.1, Y.2.2.2.1, 0, Y.2.2.2.2.2.1, Y.2.2.2.2.2.2.1, Y.2.2.2.2.2.2.2.1, Y.2.2.2.2.2.2.2.2.1, Y.2.2.2.2.2.2.2.2.2.1, Y.2.2.2.2.2.2.2.2.2.2.1, Y.2.2.2.2.2.2.2.2.2.2.2), P8, L, N, V8)) : a1 = a2 ∧ zR u1.1 u2.1 := by
  obtain ⟨r1, r2, r3, r4, r5, r6, r7, r8, r9, r10, r11, r12, r13⟩ := id hR
  obtain ⟨rfl, rfl⟩ := h1
  obtain ⟨rfl, rfl⟩ := h2
  refine ⟨congrArg nI r5, r1, r2, r3, r4, ?_, r6, r7, r8, r9, ?_, ?_, ?_, r13⟩
  · show upN X.2.2.1 12 0 12 = 0; exact upN_s
  · dsimp only; rw [upN_s]; omega
  · intro r hr
    have hr : r < X.1 := hr
    have e : r ≠ 12 := by omega
    have q := r11 r hr
    refine ⟨q.1, ?_, ?_, q.2.2.2.1, ?_⟩
    · dsimp only; rw [upN_n e]; exact q.2.1
    · dsimp only; rw [upN_n e]; exact q.2.2.1
    · intro k hk
      have hk : k < upN X.2.2.1 12 0 r := hk
      rw [upN_n e] at hk
      exact q.2.2.2.2 k hk
  · intro k hk
    have hk : k < upN X.2.2.1 12 0 12 := hk
    rw [upN_s] at hk; omega
theorem R_limit {X : XM} {Y : MM} {P : XP} {S : XS} {V : XV} {P8 : MP} {L : ML} {N : MN} {V8 : MV} {x : Int32} {a1 a2 : Int32} {u1 : XX} {u2 : YY} (hR : zR X Y) (h1 : (¬ (1 ≤ x.toInt ∧ x.toInt ≤ 200) ∧ a1 = (-1) ∧ u1 = (X, P, S, V)) ∨ ((1 ≤ x.toInt ∧ x.toInt ≤ 200) ∧ a1 = nI X.2.1 ∧ u1 = ((X.1, x.toInt.toNat, X.2.2.1, X.2.2.2.1, X.2.2.2.2.1, X.2.2.2.2.2.1, X.2.2.2.2.2.2.1, X.2.2.2.2.2.2.2.1, X.2.2.2.2.2.2.2.2.1, X.2.2.2.2.2.2.2.2.2), P, S, V))) (h2 : (¬ (1 ≤ x.toInt ∧ x.toInt ≤ 200) ∧ a2 = (-1) ∧ u2 = (Y, P8, L, N, V8)) ∨ ((1 ≤ x.toInt ∧ x.toInt ≤ 200) ∧ a2 = nI Y.2.2.2.2.2.2.1 ∧ u2 = ((Y.1, Y.2.1, Y.2.2.1, Y.2.2.2.1, Y.2.2.2.2.1, Y.2.2.2.2.2.1, x.toInt.toNat, Y.2.2.2.2.2.2.2.1, Y.2.2.2.2.2.2.2.2.1, Y.2.2.2.2.2.2.2.2.2.1, Y.2.2.2.2.2.2.2.2.2.2.1, Y.2.2.2.2.2.2.2.2.2.2.2), P8, L, N, V8))) : a1 = a2 ∧ zR u1.1 u2.1 := by
  obtain ⟨r1, r2, r3, r4, r5, r6, r7, r8, r9, r10, r11, r12, r13⟩ := id hR
  rcases h1 with ⟨h1, rfl, rfl⟩ | ⟨h1, rfl, rfl⟩ <;> rcases h2 with ⟨h2, rfl, rfl⟩ | ⟨h2, rfl, rfl⟩ <;> first | (exfalso; omega) | exact ⟨rfl, hR⟩ | skip
  exact ⟨congrArg nI r2, r1, rfl, r3, r4, r5, r6, by show x.toInt.toNat ≤ 200; omega, r8, r9, r10, r11, r12, r13⟩
theorem R_ask {X : XM} {Y : MM} {P : XP} {S : XS} {V : XV} {P8 : MP} {L : ML} {N : MN} {V8 : MV} {x : Int32} {a1 a2 : Int32} {u1 : XX} {u2 : YY} (hR : zR X Y) (h1 : (¬ (x.toInt = 1 ∨ x.toInt = 2) ∧ a1 = (-1) ∧ u1 = (X, P, S, V)) ∨ ((x.toInt = 1 ∨ x.toInt = 2) ∧ a1 = nI X.2.2.2.2.2.1 ∧ u1 = ((X.1, X.2.1, X.2.2.1, X.2.2.2.1, X.2.2.2.2.1, 0, x.toInt.toNat, X.2.2.2.2.2.2.2.1, X.2.2.2.2.2.2.2.2.1, X.2.2.2.2.2.2.2.2.2), P, S, V))) (h2 : (¬ (x.toInt = 1 ∨ x.toInt = 2) ∧ a2 = (-1) ∧ u2 = (Y, P8, L, N, V8)) ∨ ((x.toInt = 1 ∨ x.toInt = 2) ∧ a2 = nI Y.2.2.2.2.2.2.2.2.1 ∧ u2 = ((Y.1, Y.2.1, Y.2.2.1, Y.2.2.2.1, Y.2.2.2.2.1, Y.2.2.2.2.2.1, Y.2.2.2.2.2.2.1, x.toInt.toNat, 0, Y.2.2.2.2.2.2.2.2.2.1, Y.2.2.2.2.2.2.2.2.2.2.1, Y.2.2.2.2.2.2.2.2.2.2.2), P8, L, N, V8))) : a1 = a2 ∧ zR u1.1 u2.1 := by
  obtain ⟨r1, r2, r3, r4, r5, r6, r7, r8, r9, r10, r11, r12, r13⟩ := id hR
  rcases h1 with ⟨h1, rfl, rfl⟩ | ⟨h1, rfl, rfl⟩ <;> rcases h2 with ⟨h2, rfl, rfl⟩ | ⟨h2, rfl, rfl⟩ <;> first | (exfalso; omega) | exact ⟨rfl, hR⟩ | skip
  exact ⟨congrArg nI r4, r1, r2, rfl, rfl, r5, r6, r7, by show x.toInt.toNat = 1 ∨ x.toInt.toNat = 2; omega, Nat.zero_le _, r10, r11, r12, fun k hk => absurd hk (Nat.not_lt_zero k)⟩
theorem R_drop {X : XM} {Y : MM} {P : XP} {S : XS} {V : XV} {P8 : MP} {L : ML} {N : MN} {V8 : MV}  {a1 a2 : Int32} {u1 : XX} {u2 : YY} (hR : zR X Y) (h1 : (X.2.2.2.2.2.1 = 0 ∧ a1 = (-3) ∧ u1 = (X, P, S, V)) ∨ (X.2.2.2.2.2.1 ≠ 0 ∧ a1 = nI (X.2.2.2.2.2.1 - 1) ∧ u1 = ((X.1, X.2.1, X.2.2.1, X.2.2.2.1, X.2.2.2.2.1, X.2.2.2.2.2.1 - 1, X.2.2.2.2.2.2.1, X.2.2.2.2.2.2.2.1, X.2.2.2.2.2.2.2.2.1, X.2.2.2.2.2.2.2.2.2), P, S, V))) (h2 : (Y.2.2.2.2.2.2.2.2.1 = 0 ∧ a2 = (-3) ∧ u2 = (Y, P8, L, N, V8)) ∨ (Y.2.2.2.2.2.2.2.2.1 ≠ 0 ∧ a2 = nI (Y.2.2.2.2.2.2.2.2.1 - 1) ∧ u2 = ((Y.1, Y.2.1, Y.2.2.1, Y.2.2.2.1, Y.2.2.2.2.1, Y.2.2.2.2.2.1, Y.2.2.2.2.2.2.1, Y.2.2.2.2.2.2.2.1, Y.2.2.2.2.2.2.2.2.1 - 1, Y.2.2.2.2.2.2.2.2.2.1, Y.2.2.2.2.2.2.2.2.2.2.1, Y.2.2.2.2.2.2.2.2.2.2.2), P8, L, N, V8))) : a1 = a2 ∧ zR u1.1 u2.1 := by
  obtain ⟨r1, r2, r3, r4, r5, r6, r7, r8, r9, r10, r11, r12, r13⟩ := id hR
  rcases h1 with ⟨h1, rfl, rfl⟩ | ⟨h1, rfl, rfl⟩ <;> rcases h2 with ⟨h2, rfl, rfl⟩ | ⟨h2, rfl, rfl⟩ <;> first | (exfalso; omega) | exact ⟨rfl, hR⟩ | skip
  refine ⟨congrArg nI (by omega), r1, r2, r3, ?_, r5, r6, r7, r8, ?_, r10, r11, r12, ?_⟩
  · show X.2.2.2.2.2.1 - 1 = Y.2.2.2.2.2.2.2.2.1 - 1; omega
  · show X.2.2.2.2.2.1 - 1 ≤ 8; omega
  · intro k hk
    have hk : k < X.2.2.2.2.2.1 - 1 := hk
    exact r13 k (by omega)
theorem R_show {X : XM} {Y : MM} {P : XP} {S : XS} {V : XV} {P8 : MP} {L : ML} {N : MN} {V8 : MV} {a b x : Int32} {a1 a2 : Int32} {u1 : XX} {u2 : YY} (hR : zR X Y) (h1 : (X.2.2.2.2.2.1 < 8 ∧ a1 = nI X.2.2.2.2.2.1 ∧ u1 = ((X.1, X.2.1, X.2.2.1, X.2.2.2.1, X.2.2.2.2.1, X.2.2.2.2.2.1 + 1, X.2.2.2.2.2.2.1, upd X.2.2.2.2.2.2.2.1 X.2.2.2.2.2.1 a, upd X.2.2.2.2.2.2.2.2.1 X.2.2.2.2.2.1 (if X.2.2.2.2.2.2.1 = 1 then nI 0 else b), vp_updL X.2.2.2.2.2.2.2.2.2 X.2.2.2.2.2.1 x.toInt64), P, S, V)) ∨ (¬ X.2.2.2.2.2.1 < 8 ∧ a1 = (-2) ∧ u1 = (X, P, S, V))) (h2 : (Y.2.2.2.2.2.2.2.2.1 < 8 ∧ a2 = nI Y.2.2.2.2.2.2.2.2.1 ∧ u2 = ((Y.1, Y.2.1, Y.2.2.1, Y.2.2.2.1, Y.2.2.2.2.1, Y.2.2.2.2.2.1, Y.2.2.2.2.2.2.1, Y.2.2.2.2.2.2.2.1, Y.2.2.2.2.2.2.2.2.1 + 1, upd Y.2.2.2.2.2.2.2.2.2.1 Y.2.2.2.2.2.2.2.2.1 a, upd Y.2.2.2.2.2.2.2.2.2.2.1 Y.2.2.2.2.2.2.2.2.1 (if Y.2.2.2.2.2.2.2.1 = 1 then nI 0 else b), vp_updL Y.2.2.2.2.2.2.2.2.2.2.2 Y.2.2.2.2.2.2.2.2.1 x.toInt64), P8, L, N, V8)) ∨ (¬ Y.2.2.2.2.2.2.2.2.1 < 8 ∧ a2 = (-2) ∧ u2 = (Y, P8, L, N, V8))) : a1 = a2 ∧ zR u1.1 u2.1 := by
  obtain ⟨r1, r2, r3, r4, r5, r6, r7, r8, r9, r10, r11, r12, r13⟩ := id hR
  rcases h1 with ⟨h1, rfl, rfl⟩ | ⟨h1, rfl, rfl⟩ <;> rcases h2 with ⟨h2, rfl, rfl⟩ | ⟨h2, rfl, rfl⟩ <;> first | (exfalso; omega) | exact ⟨rfl, hR⟩ | skip
  refine ⟨congrArg nI r4, r1, r2, r3, ?_, r5, r6, r7, r8, ?_, r10, r11, r12, ?_⟩
  · show X.2.2.2.2.2.1 + 1 = Y.2.2.2.2.2.2.2.2.1 + 1; omega
  · show X.2.2.2.2.2.1 + 1 ≤ 8; omega
  · intro k hk
    have hk : k < X.2.2.2.2.2.1 + 1 := hk
    show upd _ _ _ k = upd _ _ _ k ∧ upd _ _ _ k = upd _ _ _ k ∧ vp_updL _ _ _ k = vp_updL _ _ _ k ∧ vp_updL _ _ _ k ≠ zUNK
    rw [← r4, ← r3]
    by_cases e : k = X.2.2.2.2.2.1
    · rw [e, pk_us, pk_us, pk_us, pk_us, pk_uLs, pk_uLs]
      exact ⟨rfl, rfl, rfl, zint_ne x⟩
    · rw [pk_un e, pk_un e, pk_un e, pk_un e, pk_uLn e, pk_uLn e]
      exact r13 k (by omega)
theorem R_leave {X : XM} {Y : MM} {P : XP} {S : XS} {V : XV} {P8 : MP} {L : ML} {N : MN} {V8 : MV} {a b : Int32} {f : Nat} {a1 a2 : Int32} {u1 : XX} {u2 : YY} (hR : zR X Y) (h1 : (X.2.2.2.2.2.1 < 8 ∧ a1 = nI X.2.2.2.2.2.1 ∧ u1 = ((X.1, X.2.1, X.2.2.1, X.2.2.2.1, X.2.2.2.2.1, X.2.2.2.2.2.1 + 1, X.2.2.2.2.2.2.1, upd X.2.2.2.2.2.2.2.1 X.2.2.2.2.2.1 a, upd X.2.2.2.2.2.2.2.2.1 X.2.2.2.2.2.1 (if X.2.2.2.2.2.2.1 = 1 then nI 0 else b), vp_updL X.2.2.2.2.2.2.2.2.2 X.2.2.2.2.2.1 (if f = 0 then zBAD else zANY)), P, S, V)) ∨ (¬ X.2.2.2.2.2.1 < 8 ∧ a1 = (-2) ∧ u1 = (X, P, S, V))) (h2 : (Y.2.2.2.2.2.2.2.2.1 < 8 ∧ a2 = nI Y.2.2.2.2.2.2.2.2.1 ∧ u2 = ((Y.1, Y.2.1, Y.2.2.1, Y.2.2.2.1, Y.2.2.2.2.1, Y.2.2.2.2.2.1, Y.2.2.2.2.2.2.1, Y.2.2.2.2.2.2.2.1, Y.2.2.2.2.2.2.2.2.1 + 1, upd Y.2.2.2.2.2.2.2.2.2.1 Y.2.2.2.2.2.2.2.2.1 a, upd Y.2.2.2.2.2.2.2.2.2.2.1 Y.2.2.2.2.2.2.2.2.1 (if Y.2.2.2.2.2.2.2.1 = 1 then nI 0 else b), vp_updL Y.2.2.2.2.2.2.2.2.2.2.2 Y.2.2.2.2.2.2.2.2.1 (if f = 0 then zBAD else zANY)), P8, L, N, V8)) ∨ (¬ Y.2.2.2.2.2.2.2.2.1 < 8 ∧ a2 = (-2) ∧ u2 = (Y, P8, L, N, V8))) : a1 = a2 ∧ zR u1.1 u2.1 := by
  obtain ⟨r1, r2, r3, r4, r5, r6, r7, r8, r9, r10, r11, r12, r13⟩ := id hR
  rcases h1 with ⟨h1, rfl, rfl⟩ | ⟨h1, rfl, rfl⟩ <;> rcases h2 with ⟨h2, rfl, rfl⟩ | ⟨h2, rfl, rfl⟩ <;> first | (exfalso; omega) | exact ⟨rfl, hR⟩ | skip
  refine ⟨congrArg nI r4, r1, r2, r3, ?_, r5, r6, r7, r8, ?_, r10, r11, r12, ?_⟩
  · show X.2.2.2.2.2.1 + 1 = Y.2.2.2.2.2.2.2.2.1 + 1; omega
  · show X.2.2.2.2.2.1 + 1 ≤ 8; omega
  · intro k hk
    have hk : k < X.2.2.2.2.2.1 + 1 := hk
    show upd _ _ _ k = upd _ _ _ k ∧ upd _ _ _ k = upd _ _ _ k ∧ vp_updL _ _ _ k = vp_updL _ _ _ k ∧ vp_updL _ _ _ k ≠ zUNK
    rw [← r4, ← r3]
    by_cases e : k = X.2.2.2.2.2.1
    · rw [e, pk_us, pk_us, pk_us, pk_us, pk_uLs, pk_uLs]
      exact ⟨rfl, rfl, rfl, by split <;> decide⟩
    · rw [pk_un e, pk_un e, pk_un e, pk_un e, pk_uLn e, pk_uLn e]
      exact r13 k (by omega)
theorem R_add {X : XM} {Y : MM} {P : XP} {S : XS} {V : XV} {P8 : MP} {L : ML} {N : MN} {V8 : MV} {x : Int32} {a1 a2 : Int32} {u1 : XX} {u2 : YY} (hR : zR X Y) (h1 : (¬ (x.toInt = 1 ∨ x.toInt = 2) ∧ a1 = (-1) ∧ u1 = (X, P, S, V)) ∨ ((x.toInt = 1 ∨ x.toInt = 2) ∧ X.2.2.1 12 = 0 ∧ a1 = (-3) ∧ u1 = (X, P, S, V)) ∨ ((x.toInt = 1 ∨ x.toInt = 2) ∧ X.2.2.1 12 ≠ 0 ∧ ¬ (∀ k, k < X.2.2.1 12 → sp_may (X.2.2.2.2.1 12 k).toInt x.toInt.toNat (X.2.2.1 12)) ∧ a1 = (-4) ∧ u1 = (X, P, S, V)) ∨ ((x.toInt = 1 ∨ x.toInt = 2) ∧ X.2.2.1 12 ≠ 0 ∧ (∀ k, k < X.2.2.1 12 → sp_may (X.2.2.2.2.1 12 k).toInt x.toInt.toNat (X.2.2.1 12)) ∧ ¬ X.1 < 12 ∧ a1 = (-2) ∧ u1 = (X, P, S, V)) ∨ ((x.toInt = 1 ∨ x.toInt = 2) ∧ X.2.2.1 12 ≠ 0 ∧ (∀ k, k < X.2.2.1 12 → sp_may (X.2.2.2.2.1 12 k).toInt x.toInt.toNat (X.2.2.1 12)) ∧ X.1 < 12 ∧ a1 = nI X.1 ∧ u1 = ((X.1 + 1, X.2.1, upN (upN X.2.2.1 X.1 (X.2.2.1 12)) 12 0, upN X.2.2.2.1 X.1 x.toInt.toNat, upF X.2.2.2.2.1 X.1 (va_cpy (X.2.2.2.2.1 12) (X.2.2.2.2.1 X.1) 0 0 12), X.2.2.2.2.2.1, X.2.2.2.2.2.2.1, X.2.2.2.2.2.2.2.1, X.2.2.2.2.2.2.2.2.1, X.2.2.2.2.2.2.2.2.2), P, S, V))) (h2 : (¬ (x.toInt = 1 ∨ x.toInt = 2) ∧ a2 = (-1) ∧ u2 = (Y, P8, L, N, V8)) ∨ ((x.toInt = 1 ∨ x.toInt = 2) ∧ Y.2.2.2.2.1 = 0 ∧ a2 = (-3) ∧ u2 = (Y, P8, L, N, V8)) ∨ ((x.toInt = 1 ∨ x.toInt = 2) ∧ Y.2.2.2.2.1 ≠ 0 ∧ ¬ (∀ k, k < Y.2.2.2.2.1 → sp_may (Y.2.2.2.2.2.1 k).toInt x.toInt.toNat (Y.2.2.2.2.1)) ∧ a2 = (-4) ∧ u2 = (Y, P8, L, N, V8)) ∨ ((x.toInt = 1 ∨ x.toInt = 2) ∧ Y.2.2.2.2.1 ≠ 0 ∧ (∀ k, k < Y.2.2.2.2.1 → sp_may (Y.2.2.2.2.2.1 k).toInt x.toInt.toNat (Y.2.2.2.2.1)) ∧ ¬ Y.1 < 12 ∧ a2 = (-2) ∧ u2 = (Y, P8, L, N, V8)) ∨ ((x.toInt = 1 ∨ x.toInt = 2) ∧ Y.2.2.2.2.1 ≠ 0 ∧ (∀ k, k < Y.2.2.2.2.1 → sp_may (Y.2.2.2.2.2.1 k).toInt x.toInt.toNat (Y.2.2.2.2.1)) ∧ Y.1 < 12 ∧ a2 = nI Y.1 ∧ ∃ st2 : Nat → Int32, u2 = ((Y.1 + 1, upN Y.2.1 Y.1 x.toInt.toNat, upN Y.2.2.1 Y.1 Y.2.2.2.2.1, st2, 0, Y.2.2.2.2.2.1, Y.2.2.2.2.2.2.1, Y.2.2.2.2.2.2.2.1, Y.2.2.2.2.2.2.2.2.1, Y.2.2.2.2.2.2.2.2.2.1, Y.2.2.2.2.2.2.2.2.2.2.1, Y.2.2.2.2.2.2.2.2.2.2.2), P8, L, N, V8) ∧ (∀ k, k < Y.2.2.2.2.1 → st2 (12 * Y.1 + k) = Y.2.2.2.2.2.1 k) ∧ ∀ j, j < 12 * Y.1 → st2 j = Y.2.2.2.1 j)) : a1 = a2 ∧ zR u1.1 u2.1 := by
  obtain ⟨r1, r2, r3, r4, r5, r6, r7, r8, r9, r10, r11, r12, r13⟩ := id hR
  have hw : (∀ k, k < X.2.2.1 12 → sp_may (X.2.2.2.2.1 12 k).toInt x.toInt.toNat (X.2.2.1 12)) ↔ (∀ k, k < Y.2.2.2.2.1 → sp_may (Y.2.2.2.2.2.1 k).toInt x.toInt.toNat Y.2.2.2.2.1) := by
    constructor
    · intro h k hk
      rw [← r5, ← r12 k (by omega)]; exact h k (by omega)
    · intro h k hk
      rw [r5, r12 k hk]; exact h k (by omega)
  rcases h1 with ⟨h1, rfl, rfl⟩ | ⟨h1, h1b, rfl, rfl⟩ | ⟨h1, h1b, h1c, rfl, rfl⟩ | ⟨h1, h1b, h1c, h1d, rfl, rfl⟩ | ⟨h1, h1b, h1c, h1d, rfl, rfl⟩ <;> rcases h2 with ⟨h2, rfl, rfl⟩ | ⟨h2, h2b, rfl, rfl⟩ | ⟨h2, h2b, h2c, rfl, rfl⟩ | ⟨h2, h2b, h2c, h2d, rfl, rfl⟩ | ⟨h2, h2b, h2c, h2d, rfl, st2, rfl, h2e, h2f⟩ <;> first | (exfalso; omega) | exact ⟨rfl, hR⟩ | exact absurd (hw.mpr h2c) h1c | exact absurd (hw.mp h1c) h2c | skip
  have n12 : X.1 ≠ 12 := by omega
  refine ⟨congrArg nI r1, ?_, r2, r3, r4, ?_, ?_, r7, r8, r9, ?_, ?_, ?_, r13⟩
  · show X.1 + 1 = Y.1 + 1; omega
  · show upN (upN X.2.2.1 X.1 (X.2.2.1 12)) 12 0 12 = 0; exact upN_s
  · show X.1 + 1 ≤ 12; omega
  · show upN (upN X.2.2.1 X.1 (X.2.2.1 12)) 12 0 12 ≤ 12; rw [upN_s]; omega
  · intro r hr
    have hr : r < X.1 + 1 := hr
    by_cases e : r = X.1
    · subst e
      refine ⟨?_, ?_, ?_, ?_, ?_⟩
      · dsimp only; rw [upN_s, r1, upN_s]
      · dsimp only; rw [upN_n n12, upN_s, r1, upN_s]; exact r5
      · dsimp only; rw [upN_n n12, upN_s]; exact r10
      · dsimp only; rw [upN_s]; omega
      · intro k hk
        dsimp only at hk ⊢
        rw [upN_n n12, upN_s] at hk
        have h2g : st2 (12 * X.1 + k) = Y.2.2.2.2.2.1 k := by rw [r1]; exact h2e k (by omega)
        rw [upF_s, pk_cpy_in (by omega) (by omega), h2g, show 0 + (k - 0) = k by omega]
        exact r12 k hk
    · have q := r11 r (by omega)
      have e12 : r ≠ 12 := by omega
      have e2 : r ≠ Y.1 := by omega
      refine ⟨?_, ?_, ?_, ?_, ?_⟩
      · dsimp only; rw [upN_n e, upN_n e2]; exact q.1
      · dsimp only; rw [upN_n e12, upN_n e, upN_n e2]; exact q.2.1
      · dsimp only; rw [upN_n e12, upN_n e]; exact q.2.2.1
      · dsimp only; rw [upN_n e]; exact q.2.2.2.1
      · intro k hk
        dsimp only at hk ⊢
        rw [upN_n e12, upN_n e] at hk
        have := q.2.2.1
        rw [upF_n e, h2f _ (by omega)]
        exact q.2.2.2.2 k hk
  · intro k hk
    have hk : k < upN (upN X.2.2.1 X.1 (X.2.2.1 12)) 12 0 12 := hk
    rw [upN_s] at hk; omega
theorem R_mend {X : XM} {Y : MM} {P : XP} {S : XS} {V : XV} {P8 : MP} {L : ML} {N : MN} {V8 : MV} {x y z : Int32} {a1 a2 : Int32} {u1 : XX} {u2 : YY} (hR : zR X Y) (h1 : (¬ (zin X.1 x ∧ (0 ≤ z.toInt ∧ z.toInt ≤ 32) ∧ (0 ≤ y.toInt ∧ y.toInt < (X.2.2.1 x.toInt.toNat : Int))) ∧ a1 = (-1) ∧ u1 = (X, P, S, V)) ∨ ((zin X.1 x ∧ (0 ≤ z.toInt ∧ z.toInt ≤ 32) ∧ (0 ≤ y.toInt ∧ y.toInt < (X.2.2.1 x.toInt.toNat : Int))) ∧ ¬ sp_may z.toInt (X.2.2.2.1 x.toInt.toNat) (X.2.2.1 x.toInt.toNat) ∧ a1 = (-4) ∧ u1 = (X, P, S, V)) ∨ ((zin X.1 x ∧ (0 ≤ z.toInt ∧ z.toInt ≤ 32) ∧ (0 ≤ y.toInt ∧ y.toInt < (X.2.2.1 x.toInt.toNat : Int))) ∧ sp_may z.toInt (X.2.2.2.1 x.toInt.toNat) (X.2.2.1 x.toInt.toNat) ∧ a1 = X.2.2.2.2.1 x.toInt.toNat y.toInt.toNat ∧ u1 = ((X.1, X.2.1, X.2.2.1, X.2.2.2.1, upF X.2.2.2.2.1 x.toInt.toNat (upd (X.2.2.2.2.1 x.toInt.toNat) y.toInt.toNat z), X.2.2.2.2.2.1, X.2.2.2.2.2.2.1, X.2.2.2.2.2.2.2.1, X.2.2.2.2.2.2.2.2.1, X.2.2.2.2.2.2.2.2.2), P, S, V))) (h2 : (¬ (zin Y.1 x ∧ (0 ≤ z.toInt ∧ z.toInt ≤ 32) ∧ (0 ≤ y.toInt ∧ y.toInt < (Y.2.2.1 x.toInt.toNat : Int))) ∧ a2 = (-1) ∧ u2 = (Y, P8, L, N, V8)) ∨ ((zin Y.1 x ∧ (0 ≤ z.toInt ∧ z.toInt ≤ 32) ∧ (0 ≤ y.toInt ∧ y.toInt < (Y.2.2.1 x.toInt.toNat : Int))) ∧ ¬ sp_may z.toInt (Y.2.1 x.toInt.toNat) (Y.2.2.1 x.toInt.toNat) ∧ a2 = (-4) ∧ u2 = (Y, P8, L, N, V8)) ∨ ((zin Y.1 x ∧ (0 ≤ z.toInt ∧ z.toInt ≤ 32) ∧ (0 ≤ y.toInt ∧ y.toInt < (Y.2.2.1 x.toInt.toNat : Int))) ∧ sp_may z.toInt (Y.2.1 x.toInt.toNat) (Y.2.2.1 x.toInt.toNat) ∧ a2 = Y.2.2.2.1 (12 * x.toInt.toNat + y.toInt.toNat) ∧ u2 = ((Y.1, Y.2.1, Y.2.2.1, upd Y.2.2.2.1 (12 * x.toInt.toNat + y.toInt.toNat) z, Y.2.2.2.2.1, Y.2.2.2.2.2.1, Y.2.2.2.2.2.2.1, Y.2.2.2.2.2.2.2.1, Y.2.2.2.2.2.2.2.2.1, Y.2.2.2.2.2.2.2.2.2.1, Y.2.2.2.2.2.2.2.2.2.2.1, Y.2.2.2.2.2.2.2.2.2.2.2), P8, L, N, V8))) : a1 = a2 ∧ zR u1.1 u2.1 := by
  obtain ⟨r1, r2, r3, r4, r5, r6, r7, r8, r9, r10, r11, r12, r13⟩ := id hR
  by_cases hz : zin X.1 x
  · have hz2 := hz
    unfold zin at hz2
    have q := r11 x.toInt.toNat (by omega)
    rw [← r1, ← q.2.1, ← q.1] at h2
    rcases h1 with ⟨h1, rfl, rfl⟩ | ⟨h1, h3, rfl, rfl⟩ | ⟨h1, h3, rfl, rfl⟩ <;> rcases h2 with ⟨h2, rfl, rfl⟩ | ⟨h2, h4, rfl, rfl⟩ | ⟨h2, h4, rfl, rfl⟩ <;> first | exact ⟨rfl, hR⟩ | exact absurd h2 h1 | exact absurd h1 h2 | exact absurd h4 h3 | exact absurd h3 h4 | skip
    obtain ⟨-, -, h5⟩ := h1
    have hy : y.toInt.toNat < X.2.2.1 x.toInt.toNat := by omega
    have hq3 := q.2.2.1
    refine ⟨q.2.2.2.2 _ hy, by first | exact r1 | rfl, r2, r3, r4, r5, r6, r7, r8, r9, r10, ?_, ?_, r13⟩
    · intro r hr
      have hr : r < X.1 := hr
      have q2 := r11 r hr
      refine ⟨q2.1, q2.2.1, q2.2.2.1, q2.2.2.2.1, ?_⟩
      intro k hk
      have hk : k < X.2.2.1 r := hk
      dsimp only
      by_cases e : r = x.toInt.toNat
      · rw [e, upF_s]
        by_cases e2 : k = y.toInt.toNat
        · rw [e2, pk_us, pk_us]
        · rw [pk_un e2, pk_un (by omega)]
          rw [e] at hk
          exact q.2.2.2.2 k hk
      · rw [upF_n e, pk_un (by have := q2.2.2.1; omega)]
        exact q2.2.2.2.2 k hk
    · intro k hk
      dsimp only
      rw [upF_n (by omega)]
      exact r12 k hk
  · have hz2 : ¬ zin Y.1 x := by rw [← r1]; exact hz
    rcases h1 with ⟨h1, rfl, rfl⟩ | ⟨h1, h3, rfl, rfl⟩ | ⟨h1, h3, rfl, rfl⟩
    · rcases h2 with ⟨h2, rfl, rfl⟩ | ⟨h2, h4, rfl, rfl⟩ | ⟨h2, h4, rfl, rfl⟩
      · exact ⟨rfl, hR⟩
      · exact absurd h2.1 hz2
      · exact absurd h2.1 hz2
    · exact absurd h1.1 hz
    · exact absurd h1.1 hz
theorem R_like {X : XM} {Y : MM} {P : XP} {S : XS} {V : XV} {P8 : MP} {L : ML} {N : MN} {V8 : MV} {x y : Int32} {a1 a2 : Int32} {u1 : XX} {u2 : YY} (hR : zR X Y) (h1 : (¬ (zin X.1 x ∧ 0 ≤ y.toInt ∧ y.toInt ≤ 8) ∧ a1 = (-1) ∧ u1 = (X, P, S, V)) ∨ ((zin X.1 x ∧ 0 ≤ y.toInt ∧ y.toInt ≤ 8) ∧ a1 = nI y.toInt.toNat ∧ ∃ (af2 ag2 : Nat → Int32) (ad2 : Nat → Int64) (P2 : XP), u1 = ((X.1, X.2.1, X.2.2.1, X.2.2.2.1, X.2.2.2.2.1, y.toInt.toNat, X.2.2.2.1 x.toInt.toNat, af2, ag2, ad2), P2, S, V) ∧ ∀ j, j < y.toInt.toNat → af2 j = wA (X.2.2.2.1 x.toInt.toNat) j ∧ ag2 j = (if (X.2.2.2.1 x.toInt.toNat) = 1 then nI 0 else wB (X.2.2.2.1 x.toInt.toNat) j) ∧ ad2 j = (if zout X.2.1 (X.2.2.1 x.toInt.toNat) (X.2.2.2.2.1 x.toInt.toNat) (wA (X.2.2.2.1 x.toInt.toNat) j) (wB (X.2.2.2.1 x.toInt.toNat) j) = zUNK then zANY else zout X.2.1 (X.2.2.1 x.toInt.toNat) (X.2.2.2.2.1 x.toInt.toNat) (wA (X.2.2.2.1 x.toInt.toNat) j) (wB (X.2.2.2.1 x.toInt.toNat) j)))) (h2 : (¬ (zin Y.1 x ∧ 0 ≤ y.toInt ∧ y.toInt ≤ 8) ∧ a2 = (-1) ∧ u2 = (Y, P8, L, N, V8)) ∨ ((zin Y.1 x ∧ 0 ≤ y.toInt ∧ y.toInt ≤ 8) ∧ a2 = nI y.toInt.toNat ∧ ∃ (af2 ag2 : Nat → Int32) (ad2 : Nat → Int64) (P2 : MP), u2 = ((Y.1, Y.2.1, Y.2.2.1, Y.2.2.2.1, Y.2.2.2.2.1, Y.2.2.2.2.2.1, Y.2.2.2.2.2.2.1, Y.2.1 x.toInt.toNat, y.toInt.toNat, af2, ag2, ad2), P2, L, N, V8) ∧ ∀ j, j < y.toInt.toNat → af2 j = wA (Y.2.1 x.toInt.toNat) j ∧ ag2 j = (if (Y.2.1 x.toInt.toNat) = 1 then nI 0 else wB (Y.2.1 x.toInt.toNat) j) ∧ ad2 j = (if zout Y.2.2.2.2.2.2.1 (Y.2.2.1 x.toInt.toNat) (fun k => Y.2.2.2.1 (12 * x.toInt.toNat + k)) (wA (Y.2.1 x.toInt.toNat) j) (wB (Y.2.1 x.toInt.toNat) j) = zUNK then zANY else zout Y.2.2.2.2.2.2.1 (Y.2.2.1 x.toInt.toNat) (fun k => Y.2.2.2.1 (12 * x.toInt.toNat + k)) (wA (Y.2.1 x.toInt.toNat) j) (wB (Y.2.1 x.toInt.toNat) j)))) : a1 = a2 ∧ zR u1.1 u2.1 := by
  obtain ⟨r1, r2, r3, r4, r5, r6, r7, r8, r9, r10, r11, r12, r13⟩ := id hR
  by_cases hz : zin X.1 x ∧ 0 ≤ y.toInt ∧ y.toInt ≤ 8
  · obtain ⟨hz1, hz3, hz4⟩ := id hz
    have hz2 := hz1
    unfold zin at hz2
    have q := r11 x.toInt.toNat (by omega)
    have ez : ∀ a b, zout Y.2.2.2.2.2.2.1 (Y.2.2.1 x.toInt.toNat) (fun k => Y.2.2.2.1 (12 * x.toInt.toNat + k)) a b = zout X.2.1 (X.2.2.1 x.toInt.toNat) (X.2.2.2.2.1 x.toInt.toNat) a b := fun a b => by
      rw [← r2, ← q.2.1]; exact zout_st (fun k hk => (q.2.2.2.2 k hk).symm)
    rcases h1 with ⟨h1, rfl, rfl⟩ | ⟨h1, rfl, af2, ag2, ad2, P2, rfl, h3⟩
    · exact absurd hz h1
    rcases h2 with ⟨h2, rfl, rfl⟩ | ⟨h2, rfl, af3, ag3, ad3, P3, rfl, h4⟩
    · exact absurd (by rw [← r1]; exact hz) h2
    refine ⟨rfl, r1, r2, q.1, rfl, r5, r6, r7, q.2.2.2.1, ?_, r10, r11, r12, ?_⟩
    · show y.toInt.toNat ≤ 8; omega
    · intro k hk
      have hk : k < y.toInt.toNat := hk
      have t1 := h3 k hk
      have t2 := h4 k hk
      rw [← q.1] at t2
      rw [ez] at t2
      refine ⟨t1.1.trans t2.1.symm, t1.2.1.trans t2.2.1.symm, t1.2.2.trans t2.2.2.symm, ?_⟩
      show ad2 k ≠ zUNK
      rw [t1.2.2]; exact zout_ne _ _ _ _ _
  · rcases h1 with ⟨h1, rfl, rfl⟩ | ⟨h1, rfl, af2, ag2, ad2, P2, rfl, h3⟩
    · rcases h2 with ⟨h2, rfl, rfl⟩ | ⟨h2, rfl, af3, ag3, ad3, P3, rfl, h4⟩
      · exact ⟨rfl, hR⟩
      · exact absurd (by rw [r1]; exact h2) hz
    · exact absurd h1 hz
theorem R_of {X : XM} {Y : MM} {P : XP} {S : XS} {V : XV} {P8 : MP} {L : ML} {N : MN} {V8 : MV} {x y : Int32} {a1 a2 : Int32} {u1 : XX} {u2 : YY} (hR : zR X Y) (h1 : qOf X.1 X.2.2.2.1 X.2.2.1 X.2.2.2.2.1 x y a1 ∧ u1 = (X, P, S, V)) (h2 : qOf Y.1 Y.2.1 Y.2.2.1 (fun a2 k => Y.2.2.2.1 (12 * a2 + k)) x y a2 ∧ u2 = (Y, P8, L, N, V8)) : a1 = a2 ∧ zR u1.1 u2.1 := by
  obtain ⟨r1, r2, r3, r4, r5, r6, r7, r8, r9, r10, r11, r12, r13⟩ := id hR
  obtain ⟨h1, rfl⟩ := h1
  obtain ⟨h2, rfl⟩ := h2
  refine ⟨?_, hR⟩
  unfold qOf at h1 h2
  by_cases hz : zin X.1 x
  · have hz2 := hz
    unfold zin at hz2
    have q := r11 x.toInt.toNat (by omega)
    rw [← r1, ← q.1, ← q.2.1] at h2
    rcases h1 with ⟨h1, rfl⟩ | ⟨h1, h1b, rfl⟩ | ⟨h1, h1b, rfl⟩ | ⟨h1, h1b, h1c, rfl⟩ | ⟨h1, h1b, h1c, h1d, rfl⟩ <;> rcases h2 with ⟨h2, rfl⟩ | ⟨h2, h2b, rfl⟩ | ⟨h2, h2b, rfl⟩ | ⟨h2, h2b, h2c, rfl⟩ | ⟨h2, h2b, h2c, h2d, rfl⟩ <;> first | rfl | exact absurd hz h1 | exact absurd hz h2 | (exfalso; omega) | exact q.2.2.2.2 _ (by omega)
  · have hz2 : ¬ zin Y.1 x := by rw [← r1]; exact hz
    rcases h1 with ⟨h1, rfl⟩ | ⟨h1, h1b, rfl⟩ | ⟨h1, h1b, rfl⟩ | ⟨h1, h1b, h1c, rfl⟩ | ⟨h1, h1b, h1c, h1d, rfl⟩
    · rcases h2 with ⟨h2, rfl⟩ | ⟨h2, h2b, rfl⟩ | ⟨h2, h2b, rfl⟩ | ⟨h2, h2b, h2c, rfl⟩ | ⟨h2, h2b, h2c, h2d, rfl⟩
      · rfl
      all_goals exact absurd h2 hz2
    all_goals exact absurd h1 hz
theorem R_fuel {X : XM} {Y : MM} {P : XP} {S : XS} {V : XV} {P8 : MP} {L : ML} {N : MN} {V8 : MV} {x a b : Int32} {a1 a2 : Int32} {u1 : XX} {u2 : YY} (hR : zR X Y) (h1 : ((¬ zin X.1 x ∧ a1 = (-1)) ∨ (zin X.1 x ∧ a1 = nI (zuse X.2.1 (X.2.2.1 x.toInt.toNat) (X.2.2.2.2.1 x.toInt.toNat) a b))) ∧ ∃ P2 : XP, u1 = (X, P2, S, V)) (h2 : ((¬ zin Y.1 x ∧ a2 = (-1)) ∨ (zin Y.1 x ∧ a2 = nI (zuse Y.2.2.2.2.2.2.1 (Y.2.2.1 x.toInt.toNat) (fun k => Y.2.2.2.1 (12 * x.toInt.toNat + k)) a b))) ∧ ∃ P2 : MP, u2 = (Y, P2, L, N, V8)) : a1 = a2 ∧ zR u1.1 u2.1 := by
  obtain ⟨r1, r2, r3, r4, r5, r6, r7, r8, r9, r10, r11, r12, r13⟩ := id hR
  obtain ⟨h1, P1, rfl⟩ := h1
  obtain ⟨h2, P2, rfl⟩ := h2
  refine ⟨?_, hR⟩
  by_cases hz : zin X.1 x
  · have hz2 := hz
    unfold zin at hz2
    have q := r11 x.toInt.toNat (by omega)
    rcases h1 with ⟨h1, rfl⟩ | ⟨h1, rfl⟩
    · exact absurd hz h1
    rcases h2 with ⟨h2, rfl⟩ | ⟨h2, rfl⟩
    · exact absurd (by rw [← r1]; exact hz) h2
    rw [← r2, ← q.2.1]
    exact congrArg nI (zuse_st q.2.2.2.2)
  · have hz2 : ¬ zin Y.1 x := by rw [← r1]; exact hz
    rcases h1 with ⟨h1, rfl⟩ | ⟨h1, rfl⟩
    · rcases h2 with ⟨h2, rfl⟩ | ⟨h2, rfl⟩
      · rfl
      · exact absurd h2 hz2
    · exact absurd h1 hz
