/-! ===== runs, reckoned ===== -/
theorem sp_good_congr {t : Int} {h : Nat} {f g : Nat → Int32} (e : ∀ i, i < h → f i = g i) : sp_good t h f = sp_good t h g := by
  unfold sp_good
  apply decide_eq_decide.mpr
  by_cases hh : h = 0
  · subst hh
    constructor <;> intro q <;> omega
  · rw [e (h - 1) (by omega)]
theorem sp_good_spec {t : Int} {h : Nat} {f : Nat → Int32} (q : sp_good t h f = true) : (t < 12 → h < 8) ∧ (12 ≤ t → t < 18 → 2 ≤ h) ∧ (t = 15 → (f (h - 1)).toInt ≠ 0) ∧ (t = 18 → 1 ≤ h ∧ h < 8) ∧ (t = 19 → 2 ≤ h) ∧ (20 ≤ t → 1 ≤ h) := of_decide_eq_true q
theorem sp_h_le {t : Int} {h : Nat} {f : Nat → Int32} (hh : h ≤ 8) (q : sp_good t h f = true) : sp_h t h ≤ 8 := by
  have := sp_good_spec q
  unfold sp_h
  repeat' split
  all_goals omega
theorem sp_at_congr {t : Int} {q h : Nat} {f g : Nat → Int32} (hg : sp_good t h f = true) (e : ∀ i, i < h → f i = g i) : sp_at t q h f = sp_at t q h g := by
  have := sp_good_spec hg
  unfold sp_at
  by_cases ht : 21 ≤ t
  · rw [e (h - 1) (by omega)]
  · rw [if_neg (by omega), if_neg (by omega)]
theorem upd_agree {f g : Nat → Int32} {n k : Nat} {x y : Int32} (hxy : x = y) (e : ∀ i, i < n → i ≠ k → f i = g i) : ∀ i, i < n → upd f k x i = upd g k y i := by
  intro i hi
  by_cases h : i = k
  · subst h; rw [pk_us, pk_us, hxy]
  · rw [pk_un h, pk_un h, e i hi h]
theorem sp_f_congr {x a b : Int32} {h : Nat} {f g : Nat → Int32} (hg : sp_good x.toInt h f = true) (e : ∀ i, i < h → f i = g i) : ∀ i, i < sp_h x.toInt h → sp_f x a b h f i = sp_f x a b h g i := by
  have q := sp_good_spec hg
  unfold sp_h sp_f
  by_cases h1 : x.toInt < 12
  · rw [if_pos h1, if_pos h1, if_pos h1]
    exact upd_agree rfl (fun i hi hk => e i (by omega))
  · rw [if_neg h1, if_neg h1, if_neg h1]
    by_cases h2 : x.toInt < 18
    · rw [if_pos h2, if_pos h2, if_pos h2, e (h - 2) (by omega), e (h - 1) (by omega)]
      exact upd_agree rfl (fun i hi hk => e i (by omega))
    · rw [if_neg h2, if_neg h2, if_neg h2]
      by_cases h3 : x.toInt = 18
      · rw [if_pos h3, if_pos h3, if_pos h3, e (h - 1) (by omega)]
        exact upd_agree rfl (fun i hi hk => e i (by omega))
      · rw [if_neg h3, if_neg h3, if_neg h3]
        by_cases h4 : x.toInt = 19
        · rw [if_pos h4, if_pos h4, if_pos h4, e (h - 2) (by omega), e (h - 1) (by omega)]
          exact upd_agree rfl (fun i hi hk => upd_agree (n := h) rfl (fun i hi hk => e i (by omega)) i hi)
        · rw [if_neg h4, if_neg h4, if_neg h4]
          exact fun i hi => e i (by omega)
theorem sp_fin_congr {h : Nat} {f g : Nat → Int32} (e : ∀ i, i < h → f i = g i) : sp_fin h f = sp_fin h g := by
  unfold sp_fin
  by_cases hh : h = 0
  · rw [if_pos hh, if_pos hh]
  · rw [if_neg hh, if_neg hh, e (h - 1) (by omega)]
theorem sp_run_congr {sz : Nat} {st : Nat → Int32} {a b : Int32} : ∀ (k q h : Nat) (f g : Nat → Int32), (∀ i, i < h → f i = g i) → sp_run sz st a b k q h f = sp_run sz st a b k q h g := by
  intro k
  induction k with
  | zero => intro q h f g e; unfold sp_run; rw [sp_fin_congr e]
  | succ k ih =>
    intro q h f g e
    unfold sp_run
    rw [sp_fin_congr e]
    by_cases hq : q < sz
    · rw [if_pos hq, if_pos hq, ← sp_good_congr e]
      by_cases hg : sp_good (st q).toInt h f = true
      · rw [if_pos hg, if_pos hg, ← sp_at_congr hg e, ih _ _ _ _ (sp_f_congr hg e)]
      · rw [if_neg hg, if_neg hg]
    · rw [if_neg hq, if_neg hq]
theorem sp_run_end {sz : Nat} {st : Nat → Int32} {a b : Int32} {k q h : Nat} {f : Nat → Int32} (hq : ¬ q < sz) : sp_run sz st a b k q h f = (sp_fin h f, 0) := by
  cases k <;> (unfold sp_run; rw [if_neg hq])
theorem sp_run_zero {sz : Nat} {st : Nat → Int32} {a b : Int32} {q h : Nat} {f : Nat → Int32} (hq : q < sz) : sp_run sz st a b 0 q h f = (zUNK, 0) := by
  unfold sp_run; rw [if_pos hq]
theorem sp_run_bad {sz : Nat} {st : Nat → Int32} {a b : Int32} {k q h : Nat} {f : Nat → Int32} (hk : 0 < k) (hq : q < sz) (hg : sp_good (st q).toInt h f = false) : sp_run sz st a b k q h f = (zBAD, 1) := by
  obtain ⟨k, rfl⟩ : ∃ j, k = j + 1 := ⟨k - 1, by omega⟩
  unfold sp_run; rw [if_pos hq, if_neg (by rw [hg]; decide)]
theorem sp_run_step {sz : Nat} {st : Nat → Int32} {a b : Int32} {k q h : Nat} {f : Nat → Int32} (hk : 0 < k) (hq : q < sz) (hg : sp_good (st q).toInt h f = true) : sp_run sz st a b k q h f = ((sp_run sz st a b (k - 1) (sp_at (st q).toInt q h f) (sp_h (st q).toInt h) (sp_f (st q) a b h f)).1, (sp_run sz st a b (k - 1) (sp_at (st q).toInt q h f) (sp_h (st q).toInt h) (sp_f (st q) a b h f)).2 + 1) := by
  obtain ⟨k, rfl⟩ : ∃ j, k = j + 1 := ⟨k - 1, by omega⟩
  rw [show k + 1 - 1 = k from rfl]
  conv => lhs; unfold sp_run
  rw [if_pos hq, if_pos hg]
theorem sp_bounds {t : Int} {h : Nat} {f : Nat → Int32} (hh : h ≤ 8) (q : sp_good t h f = true) : sp_h t h ≤ 8 := sp_h_le hh q
/-- what a routine answers -/
def zout (fu sz : Nat) (st : Nat → Int32) (a b : Int32) : Int64 := (sp_run sz st a b fu 0 0 (fun _ => 0)).1
def zuse (fu sz : Nat) (st : Nat → Int32) (a b : Int32) : Nat := (sp_run sz st a b fu 0 0 (fun _ => 0)).2
theorem zrun_of (fu sz : Nat) (st : Nat → Int32) (a b : Int32) (f : Nat → Int32) : sp_run sz st a b fu 0 0 f = (zout fu sz st a b, zuse fu sz st a b) := sp_run_congr fu 0 0 f (fun _ => 0) (fun i h => absurd h (Nat.not_lt_zero i))
theorem sp_h_lay {t : Int} {h : Nat} (ht : t < 12) : sp_h t h = h + 1 := if_pos ht
theorem sp_f_lay {x a b : Int32} {h : Nat} {f : Nat → Int32} (ht : x.toInt < 12) : sp_f x a b h f = upd f h (sp_lay x a b) := if_pos ht
theorem sp_f_ab {x a b : Int32} (a' b' : Int32) {h : Nat} {f : Nat → Int32} (ht : ¬ x.toInt < 12) : sp_f x a b h f = sp_f x a' b' h f := by
  unfold sp_f; rw [if_neg ht, if_neg ht]
