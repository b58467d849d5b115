/-! ===== ways and joints, and how they stand to the ask ===== -/
def zfit (aa t w : Nat) : Prop := (aa = 2 ∧ w < 2) ∨ (aa ≠ 2 ∧ t = 1 ∧ w = 0) ∨ (aa ≠ 2 ∧ t ≠ 1 ∧ 10 ≤ w ∧ w < 30)
def zway (n aa : Nat) (ra : Nat → Nat) (w : Nat) : Bool := decide (w / 100 < n ∧ ((aa = 2 ∧ w % 100 < 2) ∨ (aa ≠ 2 ∧ ra (w / 100) = 1 ∧ w % 100 = 0) ∨ (aa ≠ 2 ∧ ra (w / 100) ≠ 1 ∧ 10 ≤ w % 100 ∧ w % 100 < 30)))
theorem zway_iff {n aa : Nat} {ra : Nat → Nat} {w : Nat} : zway n aa ra w = true ↔ (w / 100 < n ∧ zfit aa (ra (w / 100)) (w % 100)) := decide_eq_true_iff
def zok (n aa : Nat) (ra : Nat → Nat) (w : Nat) : Bool := decide ((w < 10000 → zway n aa ra w = true) ∧ (10000 ≤ w → w / 10000 - 1 < n ∧ ra (w / 10000 - 1) = 1 ∧ zway n aa ra (w % 10000) = true))
theorem zok_iff {n aa : Nat} {ra : Nat → Nat} {w : Nat} : zok n aa ra w = true ↔ ((w < 10000 → zway n aa ra w = true) ∧ (10000 ≤ w → w / 10000 - 1 < n ∧ ra (w / 10000 - 1) = 1 ∧ zway n aa ra (w % 10000) = true)) := decide_eq_true_iff
/-- the outcome of a way -/
def zwo (o : Nat → Int32 → Int32 → Int64) (w : Nat) (a b : Int32) : Int64 := if w % 100 = 0 then o (w / 100) a b else if w % 100 = 1 then o (w / 100) b a else if w % 100 < 20 then o (w / 100) (nI (w % 100 - 10)) a else o (w / 100) a (nI (w % 100 - 20))
/-- .. of a way or joint -/
def zjo (o : Nat → Int32 → Int32 → Int64) (w : Nat) (a b : Int32) : Int64 := if w < 10000 ∨ zwo o (w % 10000) a b = zBAD ∨ zwo o (w % 10000) a b = zUNK then zwo o (w % 10000) a b else o (w / 10000 - 1) (zwo o (w % 10000) a b).toInt32 (nI 0)
/-- 0: it meets the example, 1: it may, 2: it misses it -/
def zj (o : Nat → Int32 → Int32 → Int64) (zf zs : Nat → Int32) (zd : Nat → Int64) (w k : Nat) : Nat := if zd k = zANY then 0 else if zjo o w (zf k) (zs k) = zd k then 0 else if zjo o w (zf k) (zs k) = zUNK then 1 else 2
def zcnt (p : Nat → Bool) : Nat → Nat
  | 0 => 0
  | k + 1 => zcnt p k + (if p k = true then 1 else 0)
theorem zcnt_le (p : Nat → Bool) (k : Nat) : zcnt p k ≤ k := by
  induction k with
  | zero => exact Nat.le_refl _
  | succ k ih => unfold zcnt; split <;> omega
theorem zcnt_t {p : Nat → Bool} {k : Nat} (h : p k = true) : zcnt p (k + 1) = zcnt p k + 1 := by
  conv => lhs; unfold zcnt
  rw [if_pos h]
theorem zcnt_f {p : Nat → Bool} {k : Nat} (h : ¬ p k = true) : zcnt p (k + 1) = zcnt p k := by
  conv => lhs; unfold zcnt
  rw [if_neg h]; rfl
theorem zcnt_mono (p : Nat → Bool) {a b : Nat} (h : a ≤ b) : zcnt p a ≤ zcnt p b := by
  induction b with
  | zero => rw [show a = 0 by omega]; exact Nat.le_refl _
  | succ b ih =>
    by_cases hb : a = b + 1
    · subst hb; exact Nat.le_refl _
    · have := ih (by omega)
      have h2 : zcnt p b ≤ zcnt p (b + 1) := by conv => rhs; unfold zcnt
                                                omega
      omega
def zmi (o : Nat → Int32 → Int32 → Int64) (zf zs : Nat → Int32) (zd : Nat → Int64) (ac w : Nat) : Nat := zcnt (fun k => decide (zj o zf zs zd w k = 2)) ac
def zdo (o : Nat → Int32 → Int32 → Int64) (zf zs : Nat → Int32) (zd : Nat → Int64) (ac w : Nat) : Nat := zcnt (fun k => decide (zj o zf zs zd w k = 1)) ac
/-- 0: found, 1: open, 2: neither -/
def zst (o : Nat → Int32 → Int32 → Int64) (zf zs : Nat → Int32) (zd : Nat → Int64) (ac w : Nat) : Nat := if 0 < zmi o zf zs zd ac w then 2 else if 0 < zdo o zf zs zd ac w then 1 else 0
/-- the ways below a number -/
def zwl (n aa : Nat) (ra : Nat → Nat) (k : Nat) : List Nat := (List.range k).filter (zway n aa ra)
theorem zwl_0 {n aa : Nat} {ra : Nat → Nat} : zwl n aa ra 0 = [] := rfl
theorem zwl_t {n aa : Nat} {ra : Nat → Nat} {k : Nat} (h : zway n aa ra k = true) : zwl n aa ra (k + 1) = zwl n aa ra k ++ [k] := by
  unfold zwl; rw [List.range_succ, List.filter_append]; simp [h]
theorem zwl_f {n aa : Nat} {ra : Nat → Nat} {k : Nat} (h : ¬ zway n aa ra k = true) : zwl n aa ra (k + 1) = zwl n aa ra k := by
  unfold zwl; rw [List.range_succ, List.filter_append]; simp [h]
theorem zwl_mem {n aa : Nat} {ra : Nat → Nat} {k w : Nat} : w ∈ zwl n aa ra k ↔ w < k ∧ zway n aa ra w = true := by
  unfold zwl; simp [List.mem_filter]
theorem zway_fit {n aa : Nat} {ra : Nat → Nat} {r w : Nat} (hr : r < n) (hw : w < 100) : zway n aa ra (100 * r + w) = true ↔ zfit aa (ra r) w := by
  rw [zway_iff, show (100 * r + w) / 100 = r by omega, show (100 * r + w) % 100 = w by omega]
  exact ⟨fun h => h.2, fun h => ⟨hr, h⟩⟩
/-- how many hows of a routine are ways, below one -/
def zcw (aa t w : Nat) : Nat := if aa = 2 then min w 2 else if t = 1 then min w 1 else min (w - 10) 20
theorem zwl_len {n aa : Nat} {ra : Nat → Nat} {r : Nat} (hr : r < n) : ∀ w, w ≤ 100 → (zwl n aa ra (100 * r + w)).length = (zwl n aa ra (100 * r)).length + zcw aa (ra r) w := by
  intro w
  induction w with
  | zero => intro _; unfold zcw; repeat' split
            all_goals simp
  | succ w ih =>
    intro hw
    have h := ih (by omega)
    by_cases hf : zway n aa ra (100 * r + w) = true
    · rw [show 100 * r + (w + 1) = (100 * r + w) + 1 by omega, zwl_t hf, List.length_append, h]
      rw [zway_fit hr (by omega)] at hf
      unfold zfit at hf
      unfold zcw
      simp only [List.length_singleton]
      repeat' split
      all_goals omega
    · rw [show 100 * r + (w + 1) = (100 * r + w) + 1 by omega, zwl_f hf, h]
      rw [zway_fit hr (by omega)] at hf
      unfold zfit at hf
      unfold zcw
      repeat' split
      all_goals omega
theorem zwl_len100 {n aa : Nat} {ra : Nat → Nat} : ∀ r, r ≤ n → (zwl n aa ra (100 * r)).length ≤ 20 * r := by
  intro r
  induction r with
  | zero => intro _; exact Nat.le_refl _
  | succ r ih =>
    intro hr
    have h := ih (by omega)
    have h2 := zwl_len (n := n) (aa := aa) (ra := ra) (r := r) (by omega) 100 (Nat.le_refl _)
    rw [show 100 * (r + 1) = 100 * r + 100 by omega, h2]
    have : zcw aa (ra r) 100 ≤ 20 := by unfold zcw; repeat' split
                                        all_goals omega
    omega
theorem zwl_lt {n aa : Nat} {ra : Nat → Nat} {r w : Nat} (hn : n ≤ 12) (hr : r < n) (hw : w < 100) (hf : zfit aa (ra r) w) : (zwl n aa ra (100 * r + w)).length < 240 := by
  have h1 := zwl_len100 (n := n) (aa := aa) (ra := ra) r (by omega)
  rw [zwl_len hr w (by omega)]
  unfold zfit at hf
  have : zcw aa (ra r) w < 20 := by unfold zcw; repeat' split
                                    all_goals omega
  omega
theorem zwl_30 {n aa : Nat} {ra : Nat → Nat} {r : Nat} (hr : r < n) : ∀ d, d ≤ 70 → zwl n aa ra (100 * r + 30 + d) = zwl n aa ra (100 * r + 30) := by
  intro d
  induction d with
  | zero => intro _; rfl
  | succ d ih =>
    intro hd
    rw [← ih (by omega), show 100 * r + 30 + (d + 1) = (100 * r + (30 + d)) + 1 by omega, zwl_f (by rw [zway_fit hr (by omega)]; unfold zfit; omega), show 100 * r + (30 + d) = 100 * r + 30 + d by omega]
theorem zwl_next {n aa : Nat} {ra : Nat → Nat} {r : Nat} (hr : r < n) : zwl n aa ra (100 * (r + 1)) = zwl n aa ra (100 * r + 30) := by
  rw [← zwl_30 hr 70 (Nat.le_refl _), show 100 * r + 30 + 70 = 100 * (r + 1) by omega]
theorem zwl_end {n aa : Nat} {ra : Nat → Nat} : ∀ d, zwl n aa ra (100 * n + d) = zwl n aa ra (100 * n) := by
  intro d
  induction d with
  | zero => rfl
  | succ d ih => rw [← ih, show 100 * n + (d + 1) = (100 * n + d) + 1 by omega, zwl_f (by rw [zway_iff]; intro q; omega)]
theorem zwl_all {n aa : Nat} {ra : Nat → Nat} (hn : n ≤ 12) : zwl n aa ra 1200 = zwl n aa ra (100 * n) := by
  rw [← zwl_end (1200 - 100 * n), show 100 * n + (1200 - 100 * n) = 1200 by omega]
theorem zwl_all_len {n aa : Nat} {ra : Nat → Nat} (hn : n ≤ 12) : (zwl n aa ra 1200).length ≤ 240 := by
  rw [zwl_all hn]
  have := zwl_len100 (n := n) (aa := aa) (ra := ra) n (Nat.le_refl _)
  omega
/-- an array's first places hold a list -/
def zpre (f : Nat → Nat) (l : List Nat) : Prop := ∀ i, i < l.length → f i = l.getD i 0
theorem zpre_nil {f : Nat → Nat} : zpre f [] := fun i h => absurd h (Nat.not_lt_zero i)
theorem zpre_push {f : Nat → Nat} {l : List Nat} (x : Nat) (h : zpre f l) : zpre (upN f l.length x) (l ++ [x]) := by
  intro i hi
  rw [List.length_append, List.length_singleton] at hi
  by_cases hl : i = l.length
  · subst hl
    rw [upN_s]; simp
  · rw [upN_n hl, h i (by omega)]
    simp [List.getD, List.getElem?_append_left (show i < l.length by omega)]
/-- what the ask and the routines are, as a class's cells have them -/
def xV (M : XM) (n aa ac : Nat) (ra : Nat → Nat) (o : Nat → Int32 → Int32 → Int64) (zf zs : Nat → Int32) (zd : Nat → Int64) : Prop :=
  M.1 = n ∧ M.2.2.2.2.2.2.1 = aa ∧ M.2.2.2.2.2.1 = ac ∧ (∀ r, r < n → M.2.2.2.1 r = ra r) ∧ (∀ r, r < n → ∀ a b, zout M.2.1 (M.2.2.1 r) (M.2.2.2.2.1 r) a b = o r a b) ∧ (∀ k, k < ac → M.2.2.2.2.2.2.2.1 k = zf k) ∧ (∀ k, k < ac → M.2.2.2.2.2.2.2.2.1 k = zs k) ∧ (∀ k, k < ac → M.2.2.2.2.2.2.2.2.2 k = zd k) ∧ n ≤ 12 ∧ (aa = 1 ∨ aa = 2) ∧ ac ≤ 8 ∧ M.2.1 ≤ 200 ∧ (∀ r, r < n → M.2.2.1 r ≤ 12) ∧ (∀ r, r < n → ra r = 1 ∨ ra r = 2) ∧ (∀ k, k < ac → zd k ≠ zUNK)
def mV (M : MM) (n aa ac : Nat) (ra : Nat → Nat) (o : Nat → Int32 → Int32 → Int64) (zf zs : Nat → Int32) (zd : Nat → Int64) : Prop :=
  M.1 = n ∧ M.2.2.2.2.2.2.2.1 = aa ∧ M.2.2.2.2.2.2.2.2.1 = ac ∧ (∀ r, r < n → M.2.1 r = ra r) ∧ (∀ r, r < n → ∀ a b, zout M.2.2.2.2.2.2.1 (M.2.2.1 r) (fun k => M.2.2.2.1 (12 * r + k)) a b = o r a b) ∧ (∀ k, k < ac → M.2.2.2.2.2.2.2.2.2.1 k = zf k) ∧ (∀ k, k < ac → M.2.2.2.2.2.2.2.2.2.2.1 k = zs k) ∧ (∀ k, k < ac → M.2.2.2.2.2.2.2.2.2.2.2 k = zd k) ∧ n ≤ 12 ∧ (aa = 1 ∨ aa = 2) ∧ ac ≤ 8 ∧ M.2.2.2.2.2.2.1 ≤ 200 ∧ (∀ r, r < n → M.2.2.1 r ≤ 12) ∧ (∀ r, r < n → ra r = 1 ∨ ra r = 2) ∧ (∀ k, k < ac → zd k ≠ zUNK)
