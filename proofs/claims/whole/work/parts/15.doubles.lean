/-! ===== doubles; the least place where something fails ===== -/
def zleast (p : Nat → Bool) : Nat → Nat
  | 0 => 0
  | k + 1 => if zleast p k < k then zleast p k else if p k = true then k + 1 else k
theorem zleast_le (p : Nat → Bool) (k : Nat) : zleast p k ≤ k := by
  induction k with
  | zero => exact Nat.le_refl _
  | succ k ih => unfold zleast; repeat' split
                 all_goals omega
theorem zleast_all {p : Nat → Bool} : ∀ k, (∀ j, j < k → p j = true) → zleast p k = k := by
  intro k
  induction k with
  | zero => intro _; rfl
  | succ k ih =>
    intro h
    have h1 := ih (fun j hj => h j (by omega))
    unfold zleast
    rw [if_neg (by omega), if_pos (h k (by omega))]
theorem zleast_at {p : Nat → Bool} {k : Nat} (h1 : ∀ j, j < k → p j = true) (h2 : ¬ p k = true) : ∀ n, k < n → zleast p n = k := by
  intro n
  induction n with
  | zero => intro h; omega
  | succ n ih =>
    intro h
    unfold zleast
    by_cases hk : k < n
    · rw [ih hk, if_pos hk]
    · have e : k = n := by omega
      subst e
      rw [zleast_all k h1, if_neg (by omega), if_neg h2]
theorem zleast_congr {p q : Nat → Bool} : ∀ k, (∀ j, j < k → p j = q j) → zleast p k = zleast q k := by
  intro k
  induction k with
  | zero => intro _; rfl
  | succ k ih =>
    intro h
    unfold zleast
    rw [ih (fun j hj => h j (by omega)), h k (by omega)]
theorem wN_le (t : Nat) : wN t ≤ 49 := by unfold wN; split <;> omega
def zsm (o : Nat → Int32 → Int32 → Int64) (t r q j : Nat) : Bool := decide (o r (wA t j) (wB t j) ≠ zUNK ∧ o r (wA t j) (wB t j) = o q (wA t j) (wB t j))
/-- the first place where two routines differ, or the world's size -/
def zdif (o : Nat → Int32 → Int32 → Int64) (t r q : Nat) : Nat := zleast (zsm o t r q) (wN t)
theorem zdif_le (o : Nat → Int32 → Int32 → Int64) (t r q : Nat) : zdif o t r q ≤ wN t := zleast_le _ _
def zdbl (ra : Nat → Nat) (o : Nat → Int32 → Int32 → Int64) (r q : Nat) : Bool := decide (ra r = ra q ∧ zdif o (ra r) r q = wN (ra r))
theorem zdif_sym {o : Nat → Int32 → Int32 → Int64} {t r q : Nat} : zdif o t r q = wN t ↔ zdif o t q r = wN t := by
  have key : ∀ r q, zdif o t r q = wN t → zdif o t q r = wN t := by
    intro r q h
    refine zleast_all _ (fun j hj => ?_)
    by_cases hs : zsm o t r q j = true
    · unfold zsm at hs ⊢
      rw [decide_eq_true_eq] at hs ⊢
      exact ⟨by rw [← hs.2]; exact hs.1, hs.2.symm⟩
    · exfalso
      have : ∃ j0, j0 < wN t ∧ ¬ zsm o t r q j0 = true ∧ ∀ i, i < j0 → zsm o t r q i = true := by
        clear h
        induction j using Nat.strongRecOn with
        | ind j ih =>
          by_cases hx : ∃ i, i < j ∧ ¬ zsm o t r q i = true
          · obtain ⟨i, hi, hn⟩ := hx
            exact ih i hi (by omega) hn
          · exact ⟨j, hj, hs, fun i hi => by
              by_cases hq : zsm o t r q i = true
              · exact hq
              · exact absurd ⟨i, hi, hq⟩ hx⟩
      obtain ⟨j0, h1, h2, h3⟩ := this
      have h4 := zleast_at h3 h2 (wN t) h1
      unfold zdif at h
      omega
  exact ⟨key r q, key q r⟩
theorem zdbl_sym {ra : Nat → Nat} {o : Nat → Int32 → Int32 → Int64} {r q : Nat} : zdbl ra o r q = zdbl ra o q r := by
  unfold zdbl
  apply decide_eq_decide.mpr
  constructor
  · intro h; exact ⟨h.1.symm, by rw [← h.1]; exact zdif_sym.mp h.2⟩
  · intro h; exact ⟨h.1.symm, by rw [← h.1]; exact zdif_sym.mp h.2⟩
def zsum (f : Nat → Nat) : Nat → Nat
  | 0 => 0
  | k + 1 => zsum f k + f k
theorem zsum_le {f : Nat → Nat} {b : Nat} (h : ∀ k, f k ≤ k) : ∀ k, zsum f k ≤ k * k := by
  intro k
  induction k with
  | zero => exact Nat.le_refl _
  | succ k ih => unfold zsum; have := h k; have e : (k + 1) * (k + 1) = k * k + k + (k + 1) := by rw [Nat.add_mul, Nat.mul_add, Nat.one_mul, Nat.mul_one]
                 omega
theorem zsum_nx {f : Nat → Nat → Nat} {q r t : Nat} (e : r = q) (h : t = zsum (fun s2 => f s2 s2) q + f q r) : t = zsum (fun s2 => f s2 s2) (q + 1) := by
  subst e; rw [h]; rfl
theorem dX1_firstDifference_0 : decode cX1_firstDifference 0 = .ok (.aload_n 0, 1) := by decide +kernel
theorem dX1_firstDifference_1 : decode cX1_firstDifference 1 = .ok (.iload_n 1, 1) := by decide +kernel
theorem dX1_firstDifference_2 : decode cX1_firstDifference 2 = .ok (.invokevirtual 39, 3) := by decide +kernel
theorem dX1_firstDifference_5 : decode cX1_firstDifference 5 = .ok (.ifCond .eq 32, 3) := by decide +kernel
theorem dX1_firstDifference_8 : decode cX1_firstDifference 8 = .ok (.aload_n 0, 1) := by decide +kernel
theorem dX1_firstDifference_9 : decode cX1_firstDifference 9 = .ok (.iload_n 2, 1) := by decide +kernel
theorem dX1_firstDifference_10 : decode cX1_firstDifference 10 = .ok (.invokevirtual 39, 3) := by decide +kernel
theorem dX1_firstDifference_13 : decode cX1_firstDifference 13 = .ok (.ifCond .eq 24, 3) := by decide +kernel
theorem dX1_firstDifference_16 : decode cX1_firstDifference 16 = .ok (.aload_n 0, 1) := by decide +kernel
theorem dX1_firstDifference_17 : decode cX1_firstDifference 17 = .ok (.getfield 11, 3) := by decide +kernel
theorem dX1_firstDifference_20 : decode cX1_firstDifference 20 = .ok (.iload_n 1, 1) := by decide +kernel
theorem dX1_firstDifference_21 : decode cX1_firstDifference 21 = .ok (.aaload, 1) := by decide +kernel
theorem dX1_firstDifference_22 : decode cX1_firstDifference 22 = .ok (.getfield 83, 3) := by decide +kernel
theorem dX1_firstDifference_25 : decode cX1_firstDifference 25 = .ok (.aload_n 0, 1) := by decide +kernel
theorem dX1_firstDifference_26 : decode cX1_firstDifference 26 = .ok (.getfield 11, 3) := by decide +kernel
theorem dX1_firstDifference_29 : decode cX1_firstDifference 29 = .ok (.iload_n 2, 1) := by decide +kernel
theorem dX1_firstDifference_30 : decode cX1_firstDifference 30 = .ok (.aaload, 1) := by decide +kernel
theorem dX1_firstDifference_31 : decode cX1_firstDifference 31 = .ok (.getfield 83, 3) := by decide +kernel
theorem dX1_firstDifference_34 : decode cX1_firstDifference 34 = .ok (.if_icmp .eq 6, 3) := by decide +kernel
theorem dX1_firstDifference_37 : decode cX1_firstDifference 37 = .ok (.bipush (-4), 2) := by decide +kernel
theorem dX1_firstDifference_39 : decode cX1_firstDifference 39 = .ok (.ireturn, 1) := by decide +kernel
theorem dX1_firstDifference_40 : decode cX1_firstDifference 40 = .ok (.aload_n 0, 1) := by decide +kernel
theorem dX1_firstDifference_41 : decode cX1_firstDifference 41 = .ok (.getfield 11, 3) := by decide +kernel
theorem dX1_firstDifference_44 : decode cX1_firstDifference 44 = .ok (.iload_n 1, 1) := by decide +kernel
theorem dX1_firstDifference_45 : decode cX1_firstDifference 45 = .ok (.aaload, 1) := by decide +kernel
theorem dX1_firstDifference_46 : decode cX1_firstDifference 46 = .ok (.getfield 83, 3) := by decide +kernel
theorem dX1_firstDifference_49 : decode cX1_firstDifference 49 = .ok (.istore_n 3, 1) := by decide +kernel
theorem dX1_firstDifference_50 : decode cX1_firstDifference 50 = .ok (.iload_n 3, 1) := by decide +kernel
theorem dX1_firstDifference_51 : decode cX1_firstDifference 51 = .ok (.invokestatic 86, 3) := by decide +kernel
theorem dX1_firstDifference_54 : decode cX1_firstDifference 54 = .ok (.istore 4, 2) := by decide +kernel
theorem dX1_firstDifference_56 : decode cX1_firstDifference 56 = .ok (.iconst 0, 1) := by decide +kernel
theorem dX1_firstDifference_57 : decode cX1_firstDifference 57 = .ok (.istore 5, 2) := by decide +kernel
theorem dX1_firstDifference_59 : decode cX1_firstDifference 59 = .ok (.iload 5, 2) := by decide +kernel
theorem dX1_firstDifference_61 : decode cX1_firstDifference 61 = .ok (.iload 4, 2) := by decide +kernel
theorem dX1_firstDifference_63 : decode cX1_firstDifference 63 = .ok (.if_icmp .ge 63, 3) := by decide +kernel
theorem dX1_firstDifference_66 : decode cX1_firstDifference 66 = .ok (.iload_n 3, 1) := by decide +kernel
theorem dX1_firstDifference_67 : decode cX1_firstDifference 67 = .ok (.iload 5, 2) := by decide +kernel
theorem dX1_firstDifference_69 : decode cX1_firstDifference 69 = .ok (.invokestatic 92, 3) := by decide +kernel
theorem dX1_firstDifference_72 : decode cX1_firstDifference 72 = .ok (.istore 6, 2) := by decide +kernel
theorem dX1_firstDifference_74 : decode cX1_firstDifference 74 = .ok (.iload_n 3, 1) := by decide +kernel
theorem dX1_firstDifference_75 : decode cX1_firstDifference 75 = .ok (.iload 5, 2) := by decide +kernel
theorem dX1_firstDifference_77 : decode cX1_firstDifference 77 = .ok (.invokestatic 96, 3) := by decide +kernel
theorem dX1_firstDifference_80 : decode cX1_firstDifference 80 = .ok (.istore 7, 2) := by decide +kernel
theorem dX1_firstDifference_82 : decode cX1_firstDifference 82 = .ok (.aload_n 0, 1) := by decide +kernel
theorem dX1_firstDifference_83 : decode cX1_firstDifference 83 = .ok (.iload_n 1, 1) := by decide +kernel
theorem dX1_firstDifference_84 : decode cX1_firstDifference 84 = .ok (.iload 6, 2) := by decide +kernel
theorem dX1_firstDifference_86 : decode cX1_firstDifference 86 = .ok (.iload 7, 2) := by decide +kernel
theorem dX1_firstDifference_88 : decode cX1_firstDifference 88 = .ok (.invokevirtual 99, 3) := by decide +kernel
theorem dX1_firstDifference_91 : decode cX1_firstDifference 91 = .ok (.lstore 8, 2) := by decide +kernel
theorem dX1_firstDifference_93 : decode cX1_firstDifference 93 = .ok (.lload 8, 2) := by decide +kernel
theorem dX1_firstDifference_95 : decode cX1_firstDifference 95 = .ok (.ldc2_w 73, 3) := by decide +kernel
theorem dX1_firstDifference_98 : decode cX1_firstDifference 98 = .ok (.lcmp, 1) := by decide +kernel
theorem dX1_firstDifference_99 : decode cX1_firstDifference 99 = .ok (.ifCond .eq 18, 3) := by decide +kernel
theorem dX1_firstDifference_102 : decode cX1_firstDifference 102 = .ok (.lload 8, 2) := by decide +kernel
theorem dX1_firstDifference_104 : decode cX1_firstDifference 104 = .ok (.aload_n 0, 1) := by decide +kernel
theorem dX1_firstDifference_105 : decode cX1_firstDifference 105 = .ok (.iload_n 2, 1) := by decide +kernel
theorem dX1_firstDifference_106 : decode cX1_firstDifference 106 = .ok (.iload 6, 2) := by decide +kernel
theorem dX1_firstDifference_108 : decode cX1_firstDifference 108 = .ok (.iload 7, 2) := by decide +kernel
theorem dX1_firstDifference_110 : decode cX1_firstDifference 110 = .ok (.invokevirtual 99, 3) := by decide +kernel
theorem dX1_firstDifference_113 : decode cX1_firstDifference 113 = .ok (.lcmp, 1) := by decide +kernel
theorem dX1_firstDifference_114 : decode cX1_firstDifference 114 = .ok (.ifCond .eq 6, 3) := by decide +kernel
theorem dX1_firstDifference_117 : decode cX1_firstDifference 117 = .ok (.iload 5, 2) := by decide +kernel
theorem dX1_firstDifference_119 : decode cX1_firstDifference 119 = .ok (.ireturn, 1) := by decide +kernel
theorem dX1_firstDifference_120 : decode cX1_firstDifference 120 = .ok (.iinc 5 1, 3) := by decide +kernel
theorem dX1_firstDifference_123 : decode cX1_firstDifference 123 = .ok (.goto (-64), 3) := by decide +kernel
theorem dX1_firstDifference_126 : decode cX1_firstDifference 126 = .ok (.bipush (-3), 2) := by decide +kernel
theorem dX1_firstDifference_128 : decode cX1_firstDifference 128 = .ok (.ireturn, 1) := by decide +kernel
set_option maxHeartbeats 4000000 in
set_option maxRecDepth 100000 in
theorem c_X1_firstDifference (l : Launch) (G : XG) (M : XM) (P : XP) (S : XS) (V : XV) (n aa ac : Nat) (ra : Nat → Nat) (o : Nat → Int32 → Int32 → Int64) (zf zs : Nat → Int32) (zd : Nat → Int64) (hV : xV M n aa ac ra o zf zs zd) (r q : Nat) (hr0 : r < n) (hq0 : q < n) : Met l yX1_firstDifference (wC yX1_firstDifference cX1_firstDifference 10 (some .int)) (rmD 2) (xPc G [.ref (xga G 1), .int (nI r), .int (nI q)] M P S V) (va_Qi (fun v u => ((ra r ≠ ra q ∧ v = (-4)) ∨ (ra r = ra q ∧ zdif o (ra r) r q = wN (ra r) ∧ v = (-3)) ∨ (ra r = ra q ∧ zdif o (ra r) r q < wN (ra r) ∧ v = nI (zdif o (ra r) r q))) ∧ ∃ P2 : XP, u = (M, P2, S, V)) (xB G) (xA G)) 0 0 (xA G) := by
  refine xst "DoFinder$Library" (by decide) rfl (Nat.le_of_ble_eq_true rfl) ?_
  intro p e s m args below meth c ls F hr hlk hW hl
  have hl : lv_has ls 10 [(0, .ref (xga G 1)), (1, .int (nI r)), (2, .int (nI q))] := hl
  have hW : xW G s s.heap s.heap [] M P S V := hW
  obtain ⟨en, ea, ec, era, eo, ef, es, ed, bn, ba, bc, bf, brc, bra, bd⟩ := id hV
  have q1 := era r hr0
  have q2 := era q hq0
  have q3 := bra r hr0
  have q4 := bra q hq0
  have q5 := wN_le (ra r)
  refine lv_aload_n F.1 F.2.1 dX1_firstDifference_0 rfl (lv_at hl 0 rfl) ?_
  refine lv_iload_n F.1 F.2.1 dX1_firstDifference_1 rfl (lv_at hl 1 rfl) ?_
  refine xca_i (b := (xga G 1)) (As := [.int (nI r)]) (rest := []) F (c_X1_has l G M P S V (by omega) (nI r)) (xcw F.2.2.2.2 ca_X1_has tm_262 rfl rfl ⟨by decide, by decide⟩) (xr_X1 hW) hW rfl hl.1 rfl (Nat.le_of_ble_eq_true rfl) dX1_firstDifference_2 (fun r2 u2 H locs hp2 hW => ?_)
  obtain ⟨hp2, rfl⟩ := hp2
  have hW : xW G s s.heap H locs M P S V := hW
  rcases hp2 with ⟨rfl, y2⟩ | ⟨rfl, y2⟩
  · skip
    rw [show (nI r).toInt = ((r : Nat) : Int) from nI_toInt (by omega)] at y2
    refine lv_if_eq (tgt := 37) F.1 F.2.1 dX1_firstDifference_5 (by decide) (fun q => absurd q (by decide)) (fun _ => ?_)
    refine lv_aload_n F.1 F.2.1 dX1_firstDifference_8 rfl (lv_at hl 0 rfl) ?_
    refine lv_iload_n F.1 F.2.1 dX1_firstDifference_9 rfl (lv_at hl 2 rfl) ?_
    refine xca_i (b := (xga G 1)) (As := [.int (nI q)]) (rest := []) F (c_X1_has l G M P S V (by omega) (nI q)) (xcw F.2.2.2.2 ca_X1_has tm_262 rfl rfl ⟨by decide, by decide⟩) (xr_X1 hW) hW rfl hl.1 rfl (Nat.le_of_ble_eq_true rfl) dX1_firstDifference_10 (fun r10 u10 H locs hp10 hW => ?_)
    obtain ⟨hp10, rfl⟩ := hp10
    have hW : xW G s s.heap H locs M P S V := hW
    rcases hp10 with ⟨rfl, y10⟩ | ⟨rfl, y10⟩
    · skip
      rw [show (nI q).toInt = ((q : Nat) : Int) from nI_toInt (by omega)] at y10
      refine lv_if_eq (tgt := 37) F.1 F.2.1 dX1_firstDifference_13 (by decide) (fun q => absurd q (by decide)) (fun _ => ?_)
      refine lv_aload_n F.1 F.2.1 dX1_firstDifference_16 rfl (lv_at hl 0 rfl) ?_
      refine xg_Library_routines F hW tm_68 dX1_firstDifference_17 ?_
      refine lv_iload_n F.1 F.2.1 dX1_firstDifference_20 rfl (lv_at hl 1 rfl) ?_
      refine xl_ro (j := r) F hW rfl (by omega) dX1_firstDifference_21 ?_
      refine xg_Routine_arguments F hW (j := r) (by omega) tm_33 dX1_firstDifference_22 ?_
      refine ax_re (show nI (M.2.2.2.1 r) = nI (ra r) from congrArg nI q1) ?_
      refine lv_aload_n F.1 F.2.1 dX1_firstDifference_25 rfl (lv_at hl 0 rfl) ?_
      refine xg_Library_routines F hW tm_68 dX1_firstDifference_26 ?_
      refine lv_iload_n F.1 F.2.1 dX1_firstDifference_29 rfl (lv_at hl 2 rfl) ?_
      refine xl_ro (j := q) F hW rfl (by omega) dX1_firstDifference_30 ?_
      refine xg_Routine_arguments F hW (j := q) (by omega) tm_33 dX1_firstDifference_31 ?_
      refine ax_re (show nI (M.2.2.2.1 q) = nI (ra q) from congrArg nI q2) ?_
      refine lv_icmp_eq (tgt := 40) F.1 F.2.1 dX1_firstDifference_34 (by decide) (fun c34 => ?_) (fun c34 => ?_)
      · have c34 := ci_eq (a := ((ra r : Nat) : Int)) (b := ((ra q : Nat) : Int)) (nI_toInt (by omega)) (nI_toInt (by omega)) c34
        refine lv_aload_n F.1 F.2.1 dX1_firstDifference_40 rfl (lv_at hl 0 rfl) ?_
        refine xg_Library_routines F hW tm_68 dX1_firstDifference_41 ?_
        refine lv_iload_n F.1 F.2.1 dX1_firstDifference_44 rfl (lv_at hl 1 rfl) ?_
        refine xl_ro (j := r) F hW rfl (by omega) dX1_firstDifference_45 ?_
        refine xg_Routine_arguments F hW (j := r) (by omega) tm_33 dX1_firstDifference_46 ?_
        refine ax_re (show nI (M.2.2.2.1 r) = nI (ra r) from congrArg nI q1) ?_
        refine lv_istore_n (lv' := [(3, .int (nI (ra r))), (0, .ref (xga G 1)), (1, .int (nI r)), (2, .int (nI q))]) F.1 F.2.1 dX1_firstDifference_49 rfl hl (by decide) rfl (fun ls hl => ?_)
        refine lv_iload_n F.1 F.2.1 dX1_firstDifference_50 rfl (lv_at hl 0 rfl) ?_
        refine pca (As := [.int (nI (ra r))]) (rest := []) F (c_X6_size l (ra r) (by omega)) (xcwS F.2.2.2.2 ca_X6_size tm_475 rfl rfl ⟨by decide, by decide⟩) rfl hl.1 rfl (Nat.le_of_ble_eq_true rfl) dX1_firstDifference_51 (fun r51 hr51 => ?_)
        subst hr51
        refine lv_istore (lv' := [(4, .int (nI (wN (ra r)))), (3, .int (nI (ra r))), (0, .ref (xga G 1)), (1, .int (nI r)), (2, .int (nI q))]) F.1 F.2.1 dX1_firstDifference_54 hl (by decide) rfl (fun ls hl => ?_)
        refine lv_iconst (v := nI 0) F.1 F.2.1 dX1_firstDifference_56 (by decide) ?_
        refine lv_istore (lv' := [(5, .int (nI 0)), (4, .int (nI (wN (ra r)))), (3, .int (nI (ra r))), (0, .ref (xga G 1)), (1, .int (nI r)), (2, .int (nI q))]) F.1 F.2.1 dX1_firstDifference_57 hl (by decide) rfl (fun ls hl => ?_)
        have lp59 : ∀ (k59 : Nat) (Pk : XP) (k : Nat), wN (ra r) - k = k59 → (k ≤ wN (ra r)) → (∀ j, j < k → zsm o (ra r) r q j = true) → ∀ (H : Heap) (locs : List Loc) (ls : Array Slot), xW G s s.heap H locs M Pk S V →  lv_has ls 10 [(0, .ref (xga G 1)), (1, .int (nI r)), (2, .int (nI q)), (3, .int (nI (ra r))), (4, .int (nI (wN (ra r)))), (5, .int (nI k))] → W p l e (rmD 2) s m args below meth c H locs 0 0 (MQ below (va_Qi (fun v u => ((ra r ≠ ra q ∧ v = (-4)) ∨ (ra r = ra q ∧ zdif o (ra r) r q = wN (ra r) ∧ v = (-3)) ∨ (ra r = ra q ∧ zdif o (ra r) r q < wN (ra r) ∧ v = nI (zdif o (ra r) r q))) ∧ ∃ P2 : XP, u = (M, P2, S, V)) (xB G) (xA G)) args s 0 0 (xA G)) (F0 m 59 ls []) := by
          intro k59
          induction k59 using Nat.strongRecOn with
          | ind k59 ih59 =>
            intro Pk k hk59 h1 h2 H locs ls hW hl
            refine lv_iload F.1 F.2.1 dX1_firstDifference_59 (lv_at hl 5 rfl) ?_
            refine lv_iload F.1 F.2.1 dX1_firstDifference_61 (lv_at hl 4 rfl) ?_
            refine lv_icmp_ge (tgt := 126) F.1 F.2.1 dX1_firstDifference_63 (by decide) (fun c63 => ?_) (fun c63 => ?_)
            · have c63 := ci_le (a := (((wN (ra r)) : Nat) : Int)) (b := ((k : Nat) : Int)) (nI_toInt (by omega)) (nI_toInt (by omega)) c63
              refine lv_bipush (v := (-3)) F.1 F.2.1 dX1_firstDifference_126 (by decide) ?_
              refine xre_i F hr hlk hW dX1_firstDifference_128 ?_
              have e9 : zdif o (ra r) r q = wN (ra r) := zleast_all _ (fun j hj => h2 j (by omega))
              exact ⟨Or.inr (Or.inl ⟨by omega, e9, rfl⟩), _, rfl⟩
            · have c63 := ci_nle (a := (((wN (ra r)) : Nat) : Int)) (b := ((k : Nat) : Int)) (nI_toInt (by omega)) (nI_toInt (by omega)) c63
              refine lv_iload_n F.1 F.2.1 dX1_firstDifference_66 rfl (lv_at hl 3 rfl) ?_
              refine lv_iload F.1 F.2.1 dX1_firstDifference_67 (lv_at hl 5 rfl) ?_
              refine pca (As := [.int (nI (ra r)), .int (nI k)]) (rest := []) F (c_X6_firstAt l (ra r) k (by omega) (by omega)) (xcwS F.2.2.2.2 ca_X6_firstAt tm_476 rfl rfl ⟨by decide, by decide⟩) rfl hl.1 rfl (Nat.le_of_ble_eq_true rfl) dX1_firstDifference_69 (fun r69 hr69 => ?_)
              subst hr69
              refine lv_istore (lv' := [(6, .int (wA (ra r) k)), (0, .ref (xga G 1)), (1, .int (nI r)), (2, .int (nI q)), (3, .int (nI (ra r))), (4, .int (nI (wN (ra r)))), (5, .int (nI k))]) F.1 F.2.1 dX1_firstDifference_72 hl (by decide) rfl (fun ls hl => ?_)
              refine lv_iload_n F.1 F.2.1 dX1_firstDifference_74 rfl (lv_at hl 4 rfl) ?_
              refine lv_iload F.1 F.2.1 dX1_firstDifference_75 (lv_at hl 6 rfl) ?_
              refine pca (As := [.int (nI (ra r)), .int (nI k)]) (rest := []) F (c_X6_secondAt l (ra r) k (by omega) (by omega)) (xcwS F.2.2.2.2 ca_X6_secondAt tm_477 rfl rfl ⟨by decide, by decide⟩) rfl hl.1 rfl (Nat.le_of_ble_eq_true rfl) dX1_firstDifference_77 (fun r77 hr77 => ?_)
              subst hr77
              refine lv_istore (lv' := [(7, .int (wB (ra r) k)), (6, .int (wA (ra r) k)), (0, .ref (xga G 1)), (1, .int (nI r)), (2, .int (nI q)), (3, .int (nI (ra r))), (4, .int (nI (wN (ra r)))), (5, .int (nI k))]) F.1 F.2.1 dX1_firstDifference_80 hl (by decide) rfl (fun ls hl => ?_)
              refine lv_aload_n F.1 F.2.1 dX1_firstDifference_82 rfl (lv_at hl 2 rfl) ?_
              refine lv_iload_n F.1 F.2.1 dX1_firstDifference_83 rfl (lv_at hl 3 rfl) ?_
              refine lv_iload F.1 F.2.1 dX1_firstDifference_84 (lv_at hl 1 rfl) ?_
              refine lv_iload F.1 F.2.1 dX1_firstDifference_86 (lv_at hl 0 rfl) ?_
              refine xca_l (b := (xga G 1)) (As := [.int (nI r), .int (wA (ra r) k), .int (wB (ra r) k)]) (rest := []) F (c_X1_outcome l G M Pk S V (by omega) r (by omega) (brc _ (by omega)) bf (wA (ra r) k) (wB (ra r) k)) (xcw F.2.2.2.2 ca_X1_outcome tm_478 rfl rfl ⟨by decide, by decide⟩) (xr_X1 hW) hW rfl hl.1 rfl (Nat.le_of_ble_eq_true rfl) dX1_firstDifference_88 (fun r88 u88 H locs hp88 hW => ?_)
              obtain ⟨rfl, P88, rfl, e88⟩ := hp88
              have hW : xW G s s.heap H locs M P88 S V := hW
              refine ax_reL (eo r (by omega) (wA (ra r) k) (wB (ra r) k)) ?_
              refine lv_lstore (lv' := [(8, .long (o r (wA (ra r) k) (wB (ra r) k))), (7, .int (wB (ra r) k)), (6, .int (wA (ra r) k)), (0, .ref (xga G 1)), (1, .int (nI r)), (2, .int (nI q)), (3, .int (nI (ra r))), (4, .int (nI (wN (ra r)))), (5, .int (nI k))]) F.1 F.2.1 dX1_firstDifference_91 hl (by decide) rfl (fun ls hl => ?_)
              refine lv_lload F.1 F.2.1 dX1_firstDifference_93 (lv_at hl 0 rfl) ?_
              refine lv_ldc2 (v := zUNK) F.1 F.2.1 F.2.2.2.1 (F.2.2.2.2 _ tm_285) dX1_firstDifference_95 ?_
              refine W.lcmp F.1 F.2.1 dX1_firstDifference_98 ?_
              refine lv_if_eq (tgt := 117) F.1 F.2.1 dX1_firstDifference_99 (by decide) (fun c99 => ?_) (fun c99 => ?_)
              · have c99 := (lg_cmp_eq _ _).mp c99
                refine lv_iload F.1 F.2.1 dX1_firstDifference_117 (lv_at hl 8 rfl) ?_
                refine xre_i F hr hlk hW dX1_firstDifference_119 ?_
                have e9 : zdif o (ra r) r q = k := zleast_at h2 (by unfold zsm; simp only [decide_eq_true_eq]; intro z; first | exact c114 z.2 | exact z.1 c99) _ (by omega)
                exact ⟨Or.inr (Or.inr ⟨by omega, by omega, by rw [e9]⟩), _, rfl⟩
              · have c99 := fun q => c99 ((lg_cmp_eq _ _).mpr q)
                refine lv_lload F.1 F.2.1 dX1_firstDifference_102 (lv_at hl 0 rfl) ?_
                refine lv_aload_n F.1 F.2.1 dX1_firstDifference_104 rfl (lv_at hl 3 rfl) ?_
                refine lv_iload_n F.1 F.2.1 dX1_firstDifference_105 rfl (lv_at hl 5 rfl) ?_
                refine lv_iload F.1 F.2.1 dX1_firstDifference_106 (lv_at hl 2 rfl) ?_
                refine lv_iload F.1 F.2.1 dX1_firstDifference_108 (lv_at hl 1 rfl) ?_
                refine xca_l (b := (xga G 1)) (As := [.int (nI q), .int (wA (ra r) k), .int (wB (ra r) k)]) (rest := [.long (o r (wA (ra r) k) (wB (ra r) k))]) F (c_X1_outcome l G M P88 S V (by omega) q (by omega) (brc _ (by omega)) bf (wA (ra r) k) (wB (ra r) k)) (xcw F.2.2.2.2 ca_X1_outcome tm_478 rfl rfl ⟨by decide, by decide⟩) (xr_X1 hW) hW rfl hl.1 rfl (Nat.le_of_ble_eq_true rfl) dX1_firstDifference_110 (fun r110 u110 H locs hp110 hW => ?_)
                obtain ⟨rfl, P110, rfl, e110⟩ := hp110
                have hW : xW G s s.heap H locs M P110 S V := hW
                refine ax_reL (eo q (by omega) (wA (ra r) k) (wB (ra r) k)) ?_
                refine W.lcmp F.1 F.2.1 dX1_firstDifference_113 ?_
                refine lv_if_eq (tgt := 120) F.1 F.2.1 dX1_firstDifference_114 (by decide) (fun c114 => ?_) (fun c114 => ?_)
                · have c114 := (lg_cmp_eq _ _).mp c114
                  refine lv_iinc (v := nI (k + 1)) (lv' := [(5, .int (nI (k + 1))), (8, .long (o r (wA (ra r) k) (wB (ra r) k))), (7, .int (wB (ra r) k)), (6, .int (wA (ra r) k)), (0, .ref (xga G 1)), (1, .int (nI r)), (2, .int (nI q)), (3, .int (nI (ra r))), (4, .int (nI (wN (ra r))))]) F.1 F.2.1 dX1_firstDifference_120 hl (k := 8) rfl (nI_add _ 1) (by decide) rfl (fun ls hl => ?_)
                  refine lv_goto (tgt := 59) F.1 F.2.1 dX1_firstDifference_123 (by decide) ?_
                  exact ih59 (wN (ra r) - (k + 1)) (by omega) P110 (k + 1) rfl (by omega) (lt_s h2 (decide_eq_true ⟨c99, c114⟩)) _ _ _ hW (lv_sub hl [4, 5, 6, 7, 8, 0] rfl)
                · have c114 := fun q => c114 ((lg_cmp_eq _ _).mpr q)
                  refine lv_iload F.1 F.2.1 dX1_firstDifference_117 (lv_at hl 8 rfl) ?_
                  refine xre_i F hr hlk hW dX1_firstDifference_119 ?_
                  have e9 : zdif o (ra r) r q = k := zleast_at h2 (by unfold zsm; simp only [decide_eq_true_eq]; intro z; first | exact c114 z.2 | exact z.1 c99) _ (by omega)
                  exact ⟨Or.inr (Or.inr ⟨by omega, by omega, by rw [e9]⟩), _, rfl⟩
        exact lp59 (wN (ra r) - 0) P 0 rfl (Nat.zero_le _) (lt_0) _ _ _ hW (lv_sub hl [3, 4, 5, 2, 1, 0] rfl)
      · have c34 := ci_ne (a := ((ra r : Nat) : Int)) (b := ((ra q : Nat) : Int)) (nI_toInt (by omega)) (nI_toInt (by omega)) c34
        refine lv_bipush (v := (-4)) F.1 F.2.1 dX1_firstDifference_37 (by decide) ?_
        refine xre_i F hr hlk hW dX1_firstDifference_39 ?_
        exact ⟨Or.inl ⟨by omega, rfl⟩, _, rfl⟩
    · skip
      rw [show (nI q).toInt = ((q : Nat) : Int) from nI_toInt (by omega)] at y10
      exfalso; omega
  · skip
    rw [show (nI r).toInt = ((r : Nat) : Int) from nI_toInt (by omega)] at y2
    exfalso; omega
theorem dX1_areDoubles_0 : decode cX1_areDoubles 0 = .ok (.aload_n 0, 1) := by decide +kernel
theorem dX1_areDoubles_1 : decode cX1_areDoubles 1 = .ok (.iload_n 1, 1) := by decide +kernel
theorem dX1_areDoubles_2 : decode cX1_areDoubles 2 = .ok (.iload_n 2, 1) := by decide +kernel
theorem dX1_areDoubles_3 : decode cX1_areDoubles 3 = .ok (.invokevirtual 103, 3) := by decide +kernel
theorem dX1_areDoubles_6 : decode cX1_areDoubles 6 = .ok (.bipush (-3), 2) := by decide +kernel
theorem dX1_areDoubles_8 : decode cX1_areDoubles 8 = .ok (.if_icmp .ne 7, 3) := by decide +kernel
theorem dX1_areDoubles_11 : decode cX1_areDoubles 11 = .ok (.iconst 1, 1) := by decide +kernel
theorem dX1_areDoubles_12 : decode cX1_areDoubles 12 = .ok (.goto 4, 3) := by decide +kernel
theorem dX1_areDoubles_15 : decode cX1_areDoubles 15 = .ok (.iconst 0, 1) := by decide +kernel
theorem dX1_areDoubles_16 : decode cX1_areDoubles 16 = .ok (.ireturn, 1) := by decide +kernel
set_option maxHeartbeats 4000000 in
set_option maxRecDepth 100000 in
theorem c_X1_areDoubles (l : Launch) (G : XG) (M : XM) (P : XP) (S : XS) (V : XV) (n aa ac : Nat) (ra : Nat → Nat) (o : Nat → Int32 → Int32 → Int64) (zf zs : Nat → Int32) (zd : Nat → Int64) (hV : xV M n aa ac ra o zf zs zd) (r q : Nat) (hr0 : r < n) (hq0 : q < n) : Met l yX1_areDoubles (wC yX1_areDoubles cX1_areDoubles 3 (some .boolean)) (rmD 3) (xPc G [.ref (xga G 1), .int (nI r), .int (nI q)] M P S V) (va_Qi (fun v u => yn v (zdbl ra o r q = true) ∧ ∃ P2 : XP, u = (M, P2, S, V)) (xB G) (xA G)) 0 0 (xA G) := by
  refine xst "DoFinder$Library" (by decide) rfl (Nat.le_of_ble_eq_true rfl) ?_
  intro p e s m args below meth c ls F hr hlk hW hl
  have hl : lv_has ls 3 [(0, .ref (xga G 1)), (1, .int (nI r)), (2, .int (nI q))] := hl
  have hW : xW G s s.heap s.heap [] M P S V := hW
  obtain ⟨en, ea, ec, era, eo, ef, es, ed, bn, ba, bc, bf, brc, bra, bd⟩ := id hV
  refine lv_aload_n F.1 F.2.1 dX1_areDoubles_0 rfl (lv_at hl 0 rfl) ?_
  refine lv_iload_n F.1 F.2.1 dX1_areDoubles_1 rfl (lv_at hl 1 rfl) ?_
  refine lv_iload_n F.1 F.2.1 dX1_areDoubles_2 rfl (lv_at hl 2 rfl) ?_
  refine xca_i (b := (xga G 1)) (As := [.int (nI r), .int (nI q)]) (rest := []) F (c_X1_firstDifference l G M P S V n aa ac ra o zf zs zd hV r q (by omega) (by omega)) (xcw F.2.2.2.2 ca_X1_firstDifference tm_471 rfl rfl ⟨by decide, by decide⟩) (xr_X1 hW) hW rfl hl.1 rfl (Nat.le_of_ble_eq_true rfl) dX1_areDoubles_3 (fun r3 u3 H locs hp3 hW => ?_)
  obtain ⟨hp3, P3, rfl⟩ := hp3
  have hW : xW G s s.heap H locs M P3 S V := hW
  have wl3 := wN_le (ra r)
  rcases hp3 with ⟨y3, rfl⟩ | ⟨y3, yb3, rfl⟩ | ⟨y3, yb3, rfl⟩
  · skip
    refine lv_bipush (v := (-3)) F.1 F.2.1 dX1_areDoubles_6 (by decide) ?_
    refine lv_icmp_ne (tgt := 15) F.1 F.2.1 dX1_areDoubles_8 (by decide) (fun _ => ?_) (fun q => absurd q (by decide))
    refine lv_iconst (v := nI 0) F.1 F.2.1 dX1_areDoubles_15 (by decide) ?_
    refine xre_z F hr hlk hW (by decide) dX1_areDoubles_16 ?_
    first | (exfalso; omega) | exact ⟨yn_1 (decide_eq_true ⟨y3, yb3⟩), _, rfl⟩ | exact ⟨yn_0 (fun z => by have := of_decide_eq_true z; omega), _, rfl⟩
  · skip
    refine lv_bipush (v := (-3)) F.1 F.2.1 dX1_areDoubles_6 (by decide) ?_
    refine lv_icmp_ne (tgt := 15) F.1 F.2.1 dX1_areDoubles_8 (by decide) (fun q => absurd q (by decide)) (fun _ => ?_)
    refine lv_iconst (v := nI 1) F.1 F.2.1 dX1_areDoubles_11 (by decide) ?_
    refine lv_goto (tgt := 16) F.1 F.2.1 dX1_areDoubles_12 (by decide) ?_
    refine xre_z F hr hlk hW (by decide) dX1_areDoubles_16 ?_
    first | (exfalso; omega) | exact ⟨yn_1 (decide_eq_true ⟨y3, yb3⟩), _, rfl⟩ | exact ⟨yn_0 (fun z => by have := of_decide_eq_true z; omega), _, rfl⟩
  · skip
    refine lv_bipush (v := (-3)) F.1 F.2.1 dX1_areDoubles_6 (by decide) ?_
    refine lv_icmp_ne (tgt := 15) F.1 F.2.1 dX1_areDoubles_8 (by decide) (fun c8 => ?_) (fun c8 => ?_)
    · have c8 := ci_ne (a := (((zdif o (ra r) r q) : Nat) : Int)) (b := (-3)) (nI_toInt (by omega)) (by decide) c8
      refine lv_iconst (v := nI 0) F.1 F.2.1 dX1_areDoubles_15 (by decide) ?_
      refine xre_z F hr hlk hW (by decide) dX1_areDoubles_16 ?_
      first | (exfalso; omega) | exact ⟨yn_1 (decide_eq_true ⟨y3, yb3⟩), _, rfl⟩ | exact ⟨yn_0 (fun z => by have := of_decide_eq_true z; omega), _, rfl⟩
    · have c8 := ci_eq (a := (((zdif o (ra r) r q) : Nat) : Int)) (b := (-3)) (nI_toInt (by omega)) (by decide) c8
      refine lv_iconst (v := nI 1) F.1 F.2.1 dX1_areDoubles_11 (by decide) ?_
      refine lv_goto (tgt := 16) F.1 F.2.1 dX1_areDoubles_12 (by decide) ?_
      refine xre_z F hr hlk hW (by decide) dX1_areDoubles_16 ?_
      first | (exfalso; omega) | exact ⟨yn_1 (decide_eq_true ⟨y3, yb3⟩), _, rfl⟩ | exact ⟨yn_0 (fun z => by have := of_decide_eq_true z; omega), _, rfl⟩
theorem dX1_countDoubles_0 : decode cX1_countDoubles 0 = .ok (.iconst 0, 1) := by decide +kernel
theorem dX1_countDoubles_1 : decode cX1_countDoubles 1 = .ok (.istore_n 1, 1) := by decide +kernel
theorem dX1_countDoubles_2 : decode cX1_countDoubles 2 = .ok (.iconst 1, 1) := by decide +kernel
theorem dX1_countDoubles_3 : decode cX1_countDoubles 3 = .ok (.istore_n 2, 1) := by decide +kernel
theorem dX1_countDoubles_4 : decode cX1_countDoubles 4 = .ok (.iload_n 2, 1) := by decide +kernel
theorem dX1_countDoubles_5 : decode cX1_countDoubles 5 = .ok (.aload_n 0, 1) := by decide +kernel
theorem dX1_countDoubles_6 : decode cX1_countDoubles 6 = .ok (.getfield 24, 3) := by decide +kernel
theorem dX1_countDoubles_9 : decode cX1_countDoubles 9 = .ok (.if_icmp .ge 34, 3) := by decide +kernel
theorem dX1_countDoubles_12 : decode cX1_countDoubles 12 = .ok (.iconst 0, 1) := by decide +kernel
theorem dX1_countDoubles_13 : decode cX1_countDoubles 13 = .ok (.istore_n 3, 1) := by decide +kernel
theorem dX1_countDoubles_14 : decode cX1_countDoubles 14 = .ok (.iload_n 3, 1) := by decide +kernel
theorem dX1_countDoubles_15 : decode cX1_countDoubles 15 = .ok (.iload_n 2, 1) := by decide +kernel
theorem dX1_countDoubles_16 : decode cX1_countDoubles 16 = .ok (.if_icmp .ge 21, 3) := by decide +kernel
theorem dX1_countDoubles_19 : decode cX1_countDoubles 19 = .ok (.aload_n 0, 1) := by decide +kernel
theorem dX1_countDoubles_20 : decode cX1_countDoubles 20 = .ok (.iload_n 3, 1) := by decide +kernel
theorem dX1_countDoubles_21 : decode cX1_countDoubles 21 = .ok (.iload_n 2, 1) := by decide +kernel
theorem dX1_countDoubles_22 : decode cX1_countDoubles 22 = .ok (.invokevirtual 106, 3) := by decide +kernel
theorem dX1_countDoubles_25 : decode cX1_countDoubles 25 = .ok (.ifCond .eq 6, 3) := by decide +kernel
theorem dX1_countDoubles_28 : decode cX1_countDoubles 28 = .ok (.iinc 1 1, 3) := by decide +kernel
theorem dX1_countDoubles_31 : decode cX1_countDoubles 31 = .ok (.iinc 3 1, 3) := by decide +kernel
theorem dX1_countDoubles_34 : decode cX1_countDoubles 34 = .ok (.goto (-20), 3) := by decide +kernel
theorem dX1_countDoubles_37 : decode cX1_countDoubles 37 = .ok (.iinc 2 1, 3) := by decide +kernel
theorem dX1_countDoubles_40 : decode cX1_countDoubles 40 = .ok (.goto (-36), 3) := by decide +kernel
theorem dX1_countDoubles_43 : decode cX1_countDoubles 43 = .ok (.iload_n 1, 1) := by decide +kernel
theorem dX1_countDoubles_44 : decode cX1_countDoubles 44 = .ok (.ireturn, 1) := by decide +kernel
set_option maxHeartbeats 4000000 in
set_option maxRecDepth 100000 in
theorem c_X1_countDoubles (l : Launch) (G : XG) (M : XM) (P : XP) (S : XS) (V : XV) (n aa ac : Nat) (ra : Nat → Nat) (o : Nat → Int32 → Int32 → Int64) (zf zs : Nat → Int32) (zd : Nat → Int64) (hV : xV M n aa ac ra o zf zs zd) : Met l yX1_countDoubles (wC yX1_countDoubles cX1_countDoubles 4 (some .int)) (rmD 4) (xPc G [.ref (xga G 1)] M P S V) (va_Qi (fun v u => v = nI (zsum (fun s2 => zcnt (fun r => zdbl ra o r s2) s2) n) ∧ ∃ P2 : XP, u = (M, P2, S, V)) (xB G) (xA G)) 0 0 (xA G) := by
  refine xst "DoFinder$Library" (by decide) rfl (Nat.le_of_ble_eq_true rfl) ?_
  intro p e s m args below meth c ls F hr hlk hW hl
  have hl : lv_has ls 4 [(0, .ref (xga G 1))] := hl
  have hW : xW G s s.heap s.heap [] M P S V := hW
  obtain ⟨en, ea, ec, era, eo, ef, es, ed, bn, ba, bc, bf, brc, bra, bd⟩ := id hV
  have bz : ∀ k, (fun s2 => zcnt (fun r => zdbl ra o r s2) s2) k ≤ k := fun k => zcnt_le _ _
  refine lv_iconst (v := nI 0) F.1 F.2.1 dX1_countDoubles_0 (by decide) ?_
  refine lv_istore_n (lv' := [(1, .int (nI 0)), (0, .ref (xga G 1))]) F.1 F.2.1 dX1_countDoubles_1 rfl hl (by decide) rfl (fun ls hl => ?_)
  refine lv_iconst (v := nI 1) F.1 F.2.1 dX1_countDoubles_2 (by decide) ?_
  refine lv_istore_n (lv' := [(2, .int (nI 1)), (1, .int (nI 0)), (0, .ref (xga G 1))]) F.1 F.2.1 dX1_countDoubles_3 rfl hl (by decide) rfl (fun ls hl => ?_)
  have lp4 : ∀ (k4 : Nat) (Pk : XP) (q : Nat) (t : Nat), n + 1 - q = k4 → (1 ≤ q) → (q ≤ n ∨ n = 0 ∧ q = 1) → (t = zsum (fun s2 => zcnt (fun r => zdbl ra o r s2) s2) q) → ∀ (H : Heap) (locs : List Loc) (ls : Array Slot), xW G s s.heap H locs M Pk S V →  lv_has ls 4 [(0, .ref (xga G 1)), (1, .int (nI t)), (2, .int (nI q))] → W p l e (rmD 4) s m args below meth c H locs 0 0 (MQ below (va_Qi (fun v u => v = nI (zsum (fun s2 => zcnt (fun r => zdbl ra o r s2) s2) n) ∧ ∃ P2 : XP, u = (M, P2, S, V)) (xB G) (xA G)) args s 0 0 (xA G)) (F0 m 4 ls []) := by
    intro k4
    induction k4 using Nat.strongRecOn with
    | ind k4 ih4 =>
      intro Pk q t hk4 h0 h1 h2 H locs ls hW hl
      have b2 := zsum_le (b := 0) bz q
      have b3 : q * q ≤ 13 * 13 := Nat.mul_le_mul (by omega) (by omega)
      refine lv_iload_n F.1 F.2.1 dX1_countDoubles_4 rfl (lv_at hl 2 rfl) ?_
      refine lv_aload_n F.1 F.2.1 dX1_countDoubles_5 rfl (lv_at hl 0 rfl) ?_
      refine xg_Library_count F hW tm_72 dX1_countDoubles_6 ?_
      refine lv_icmp_ge (tgt := 43) F.1 F.2.1 dX1_countDoubles_9 (by decide) (fun c9 => ?_) (fun c9 => ?_)
      · have c9 := ci_le (a := ((M.1 : Nat) : Int)) (b := ((q : Nat) : Int)) (nI_toInt (by omega)) (nI_toInt (by omega)) c9
        refine lv_iload_n F.1 F.2.1 dX1_countDoubles_43 rfl (lv_at hl 1 rfl) ?_
        refine xre_i F hr hlk hW dX1_countDoubles_44 ?_
        refine ⟨congrArg nI ?_, _, rfl⟩
        rcases h1 with h1 | h1
        · rw [h2, show q = n by omega]
        · rw [h2, h1.2, h1.1]; rfl
      · have c9 := ci_nle (a := ((M.1 : Nat) : Int)) (b := ((q : Nat) : Int)) (nI_toInt (by omega)) (nI_toInt (by omega)) c9
        refine lv_iconst (v := nI 0) F.1 F.2.1 dX1_countDoubles_12 (by decide) ?_
        refine lv_istore_n (lv' := [(3, .int (nI 0)), (0, .ref (xga G 1)), (1, .int (nI t)), (2, .int (nI q))]) F.1 F.2.1 dX1_countDoubles_13 rfl hl (by decide) rfl (fun ls hl => ?_)
        have lp14 : ∀ (k14 : Nat) (Pj : XP) (r : Nat) (t1 : Nat), q - r = k14 → (r ≤ q) → (t1 = zsum (fun s2 => zcnt (fun r => zdbl ra o r s2) s2) q + zcnt (fun r => zdbl ra o r q) r) → ∀ (H : Heap) (locs : List Loc) (ls : Array Slot), xW G s s.heap H locs M Pj S V →  lv_has ls 4 [(0, .ref (xga G 1)), (2, .int (nI q)), (1, .int (nI t1)), (3, .int (nI r))] → W p l e (rmD 4) s m args below meth c H locs 0 0 (MQ below (va_Qi (fun v u => v = nI (zsum (fun s2 => zcnt (fun r => zdbl ra o r s2) s2) n) ∧ ∃ P2 : XP, u = (M, P2, S, V)) (xB G) (xA G)) args s 0 0 (xA G)) (F0 m 14 ls []) := by
          intro k14
          induction k14 using Nat.strongRecOn with
          | ind k14 ih14 =>
            intro Pj r t1 hk14 h4 h5 H locs ls hW hl
            have b4 := zcnt_le (fun r => zdbl ra o r q) r
            refine lv_iload_n F.1 F.2.1 dX1_countDoubles_14 rfl (lv_at hl 3 rfl) ?_
            refine lv_iload_n F.1 F.2.1 dX1_countDoubles_15 rfl (lv_at hl 1 rfl) ?_
            refine lv_icmp_ge (tgt := 37) F.1 F.2.1 dX1_countDoubles_16 (by decide) (fun c16 => ?_) (fun c16 => ?_)
            · have c16 := ci_le (a := ((q : Nat) : Int)) (b := ((r : Nat) : Int)) (nI_toInt (by omega)) (nI_toInt (by omega)) c16
              refine lv_iinc (v := nI (q + 1)) (lv' := [(2, .int (nI (q + 1))), (0, .ref (xga G 1)), (1, .int (nI t1)), (3, .int (nI r))]) F.1 F.2.1 dX1_countDoubles_37 hl (k := 1) rfl (nI_add _ 1) (by decide) rfl (fun ls hl => ?_)
              refine lv_goto (tgt := 4) F.1 F.2.1 dX1_countDoubles_40 (by decide) ?_
              exact ih4 (n + 1 - (q + 1)) (by omega) Pj (q + 1) t1 rfl (by omega) (by omega) (zsum_nx (by omega) h5) _ _ _ hW (lv_sub hl [1, 2, 0] rfl)
            · have c16 := ci_nle (a := ((q : Nat) : Int)) (b := ((r : Nat) : Int)) (nI_toInt (by omega)) (nI_toInt (by omega)) c16
              refine lv_aload_n F.1 F.2.1 dX1_countDoubles_19 rfl (lv_at hl 0 rfl) ?_
              refine lv_iload_n F.1 F.2.1 dX1_countDoubles_20 rfl (lv_at hl 3 rfl) ?_
              refine lv_iload_n F.1 F.2.1 dX1_countDoubles_21 rfl (lv_at hl 1 rfl) ?_
              refine xca_i (b := (xga G 1)) (As := [.int (nI r), .int (nI q)]) (rest := []) F (c_X1_areDoubles l G M Pj S V n aa ac ra o zf zs zd hV r q (by omega) (by omega)) (xcw F.2.2.2.2 ca_X1_areDoubles tm_467 rfl rfl ⟨by decide, by decide⟩) (xr_X1 hW) hW rfl hl.1 rfl (Nat.le_of_ble_eq_true rfl) dX1_countDoubles_22 (fun r22 u22 H locs hp22 hW => ?_)
              obtain ⟨hp22, P22, rfl⟩ := hp22
              have hW : xW G s s.heap H locs M P22 S V := hW
              rcases hp22 with ⟨rfl, y22⟩ | ⟨rfl, y22⟩
              · skip
                skip
                refine lv_if_eq (tgt := 31) F.1 F.2.1 dX1_countDoubles_25 (by decide) (fun q => absurd q (by decide)) (fun _ => ?_)
                refine lv_iinc (v := nI (t1 + 1)) (lv' := [(1, .int (nI (t1 + 1))), (0, .ref (xga G 1)), (2, .int (nI q)), (3, .int (nI r))]) F.1 F.2.1 dX1_countDoubles_28 hl (k := 2) rfl (nI_add _ 1) (by decide) rfl (fun ls hl => ?_)
                refine lv_iinc (v := nI (r + 1)) (lv' := [(3, .int (nI (r + 1))), (1, .int (nI (t1 + 1))), (0, .ref (xga G 1)), (2, .int (nI q))]) F.1 F.2.1 dX1_countDoubles_31 hl (k := 3) rfl (nI_add _ 1) (by decide) rfl (fun ls hl => ?_)
                refine lv_goto (tgt := 14) F.1 F.2.1 dX1_countDoubles_34 (by decide) ?_
                exact ih14 (q - (r + 1)) (by omega) P22 (r + 1) (t1 + 1) rfl (by omega) (by rw [zcnt_t (p := fun r => zdbl ra o r q) (k := r) y22]; omega) _ _ _ hW (lv_sub hl [2, 3, 1, 0] rfl)
              · skip
                skip
                refine lv_if_eq (tgt := 31) F.1 F.2.1 dX1_countDoubles_25 (by decide) (fun _ => ?_) (fun q => absurd q (by decide))
                refine lv_iinc (v := nI (r + 1)) (lv' := [(3, .int (nI (r + 1))), (0, .ref (xga G 1)), (2, .int (nI q)), (1, .int (nI t1))]) F.1 F.2.1 dX1_countDoubles_31 hl (k := 3) rfl (nI_add _ 1) (by decide) rfl (fun ls hl => ?_)
                refine lv_goto (tgt := 14) F.1 F.2.1 dX1_countDoubles_34 (by decide) ?_
                exact ih14 (q - (r + 1)) (by omega) P22 (r + 1) t1 rfl (by omega) (by rw [zcnt_f (p := fun r => zdbl ra o r q) (k := r) y22]; omega) _ _ _ hW (lv_sub hl [1, 2, 3, 0] rfl)
        exact lp14 (q - 0) Pk 0 t rfl (Nat.zero_le _) (h2) _ _ _ hW (lv_sub hl [1, 3, 2, 0] rfl)
  exact lp4 (n + 1 - 1) P 1 0 rfl (Nat.le_refl _) (by omega) (rfl) _ _ _ hW (lv_sub hl [2, 1, 0] rfl)
theorem dX1_countTaking_0 : decode cX1_countTaking 0 = .ok (.iconst 0, 1) := by decide +kernel
theorem dX1_countTaking_1 : decode cX1_countTaking 1 = .ok (.istore_n 2, 1) := by decide +kernel
theorem dX1_countTaking_2 : decode cX1_countTaking 2 = .ok (.iconst 0, 1) := by decide +kernel
theorem dX1_countTaking_3 : decode cX1_countTaking 3 = .ok (.istore_n 3, 1) := by decide +kernel
theorem dX1_countTaking_4 : decode cX1_countTaking 4 = .ok (.iload_n 3, 1) := by decide +kernel
theorem dX1_countTaking_5 : decode cX1_countTaking 5 = .ok (.aload_n 0, 1) := by decide +kernel
theorem dX1_countTaking_6 : decode cX1_countTaking 6 = .ok (.getfield 24, 3) := by decide +kernel
theorem dX1_countTaking_9 : decode cX1_countTaking 9 = .ok (.if_icmp .ge 25, 3) := by decide +kernel
theorem dX1_countTaking_12 : decode cX1_countTaking 12 = .ok (.aload_n 0, 1) := by decide +kernel
theorem dX1_countTaking_13 : decode cX1_countTaking 13 = .ok (.getfield 11, 3) := by decide +kernel
theorem dX1_countTaking_16 : decode cX1_countTaking 16 = .ok (.iload_n 3, 1) := by decide +kernel
theorem dX1_countTaking_17 : decode cX1_countTaking 17 = .ok (.aaload, 1) := by decide +kernel
theorem dX1_countTaking_18 : decode cX1_countTaking 18 = .ok (.getfield 83, 3) := by decide +kernel
theorem dX1_countTaking_21 : decode cX1_countTaking 21 = .ok (.iload_n 1, 1) := by decide +kernel
theorem dX1_countTaking_22 : decode cX1_countTaking 22 = .ok (.if_icmp .ne 6, 3) := by decide +kernel
theorem dX1_countTaking_25 : decode cX1_countTaking 25 = .ok (.iinc 2 1, 3) := by decide +kernel
theorem dX1_countTaking_28 : decode cX1_countTaking 28 = .ok (.iinc 3 1, 3) := by decide +kernel
theorem dX1_countTaking_31 : decode cX1_countTaking 31 = .ok (.goto (-27), 3) := by decide +kernel
theorem dX1_countTaking_34 : decode cX1_countTaking 34 = .ok (.iload_n 2, 1) := by decide +kernel
theorem dX1_countTaking_35 : decode cX1_countTaking 35 = .ok (.ireturn, 1) := by decide +kernel
set_option maxHeartbeats 4000000 in
set_option maxRecDepth 100000 in
theorem c_X1_countTaking (l : Launch) (G : XG) (M : XM) (P : XP) (S : XS) (V : XV) (n aa ac : Nat) (ra : Nat → Nat) (o : Nat → Int32 → Int32 → Int64) (zf zs : Nat → Int32) (zd : Nat → Int64) (hV : xV M n aa ac ra o zf zs zd) (t : Nat) (ht : t < 1000) : Met l yX1_countTaking (wC yX1_countTaking cX1_countTaking 4 (some .int)) (rmD 0) (xPc G [.ref (xga G 1), .int (nI t)] M P S V) (va_Qi (fun v u => v = nI (zcnt (fun r => decide (ra r = t)) n) ∧ u = (M, P, S, V)) (xB G) (xA G)) 0 0 (xA G) := by
  refine xst "DoFinder$Library" (by decide) rfl (Nat.le_of_ble_eq_true rfl) ?_
  intro p e s m args below meth c ls F hr hlk hW hl
  have hl : lv_has ls 4 [(0, .ref (xga G 1)), (1, .int (nI t))] := hl
  have hW : xW G s s.heap s.heap [] M P S V := hW
  obtain ⟨en, ea, ec, era, eo, ef, es, ed, bn, ba, bc, bf, brc, bra, bd⟩ := id hV
  refine lv_iconst (v := nI 0) F.1 F.2.1 dX1_countTaking_0 (by decide) ?_
  refine lv_istore_n (lv' := [(2, .int (nI 0)), (0, .ref (xga G 1)), (1, .int (nI t))]) F.1 F.2.1 dX1_countTaking_1 rfl hl (by decide) rfl (fun ls hl => ?_)
  refine lv_iconst (v := nI 0) F.1 F.2.1 dX1_countTaking_2 (by decide) ?_
  refine lv_istore_n (lv' := [(3, .int (nI 0)), (2, .int (nI 0)), (0, .ref (xga G 1)), (1, .int (nI t))]) F.1 F.2.1 dX1_countTaking_3 rfl hl (by decide) rfl (fun ls hl => ?_)
  have lp4 : ∀ (k4 : Nat) (r : Nat) (k : Nat), n - r = k4 → (r ≤ n) → (k = zcnt (fun r => decide (ra r = t)) r) → ∀ (H : Heap) (locs : List Loc) (ls : Array Slot), xW G s s.heap H locs M P S V →  lv_has ls 4 [(0, .ref (xga G 1)), (1, .int (nI t)), (2, .int (nI k)), (3, .int (nI r))] → W p l e (rmD 0) s m args below meth c H locs 0 0 (MQ below (va_Qi (fun v u => v = nI (zcnt (fun r => decide (ra r = t)) n) ∧ u = (M, P, S, V)) (xB G) (xA G)) args s 0 0 (xA G)) (F0 m 4 ls []) := by
    intro k4
    induction k4 using Nat.strongRecOn with
    | ind k4 ih4 =>
      intro r k hk4 h1 h2 H locs ls hW hl
      have b4 := zcnt_le (fun r => decide (ra r = t)) r
      refine lv_iload_n F.1 F.2.1 dX1_countTaking_4 rfl (lv_at hl 3 rfl) ?_
      refine lv_aload_n F.1 F.2.1 dX1_countTaking_5 rfl (lv_at hl 0 rfl) ?_
      refine xg_Library_count F hW tm_72 dX1_countTaking_6 ?_
      refine lv_icmp_ge (tgt := 34) F.1 F.2.1 dX1_countTaking_9 (by decide) (fun c9 => ?_) (fun c9 => ?_)
      · have c9 := ci_le (a := ((M.1 : Nat) : Int)) (b := ((r : Nat) : Int)) (nI_toInt (by omega)) (nI_toInt (by omega)) c9
        refine lv_iload_n F.1 F.2.1 dX1_countTaking_34 rfl (lv_at hl 2 rfl) ?_
        refine xre_i F hr hlk hW dX1_countTaking_35 ?_
        exact ⟨by rw [h2, show r = n by omega], rfl⟩
      · have c9 := ci_nle (a := ((M.1 : Nat) : Int)) (b := ((r : Nat) : Int)) (nI_toInt (by omega)) (nI_toInt (by omega)) c9
        have q1 := bra r (by omega)
        refine lv_aload_n F.1 F.2.1 dX1_countTaking_12 rfl (lv_at hl 0 rfl) ?_
        refine xg_Library_routines F hW tm_68 dX1_countTaking_13 ?_
        refine lv_iload_n F.1 F.2.1 dX1_countTaking_16 rfl (lv_at hl 3 rfl) ?_
        refine xl_ro (j := r) F hW rfl (by omega) dX1_countTaking_17 ?_
        refine xg_Routine_arguments F hW (j := r) (by omega) tm_33 dX1_countTaking_18 ?_
        refine ax_re (show nI (M.2.2.2.1 r) = nI (ra r) from congrArg nI (era r (by omega))) ?_
        refine lv_iload_n F.1 F.2.1 dX1_countTaking_21 rfl (lv_at hl 1 rfl) ?_
        refine lv_icmp_ne (tgt := 28) F.1 F.2.1 dX1_countTaking_22 (by decide) (fun c22 => ?_) (fun c22 => ?_)
        · have c22 := ci_ne (a := ((ra r : Nat) : Int)) (b := ((t : Nat) : Int)) (nI_toInt (by omega)) (nI_toInt (by omega)) c22
          skip
          refine lv_iinc (v := nI (r + 1)) (lv' := [(3, .int (nI (r + 1))), (0, .ref (xga G 1)), (1, .int (nI t)), (2, .int (nI k))]) F.1 F.2.1 dX1_countTaking_28 hl (k := 3) rfl (nI_add _ 1) (by decide) rfl (fun ls hl => ?_)
          refine lv_goto (tgt := 4) F.1 F.2.1 dX1_countTaking_31 (by decide) ?_
          exact ih4 (n - (r + 1)) (by omega) (r + 1) k rfl (by omega) (by rw [zcnt_f (by simp only [decide_eq_true_eq]; omega)]; exact h2) _ _ _ hW (lv_sub hl [1, 2, 3, 0] rfl)
        · have c22 := ci_eq (a := ((ra r : Nat) : Int)) (b := ((t : Nat) : Int)) (nI_toInt (by omega)) (nI_toInt (by omega)) c22
          skip
          refine lv_iinc (v := nI (k + 1)) (lv' := [(2, .int (nI (k + 1))), (0, .ref (xga G 1)), (1, .int (nI t)), (3, .int (nI r))]) F.1 F.2.1 dX1_countTaking_25 hl (k := 2) rfl (nI_add _ 1) (by decide) rfl (fun ls hl => ?_)
          refine lv_iinc (v := nI (r + 1)) (lv' := [(3, .int (nI (r + 1))), (2, .int (nI (k + 1))), (0, .ref (xga G 1)), (1, .int (nI t))]) F.1 F.2.1 dX1_countTaking_28 hl (k := 3) rfl (nI_add _ 1) (by decide) rfl (fun ls hl => ?_)
          refine lv_goto (tgt := 4) F.1 F.2.1 dX1_countTaking_31 (by decide) ?_
          exact ih4 (n - (r + 1)) (by omega) (r + 1) (k + 1) rfl (by omega) (by rw [zcnt_t (decide_eq_true (by omega))]; omega) _ _ _ hW (lv_sub hl [2, 3, 1, 0] rfl)
  exact lp4 (n - 0) 0 0 rfl (Nat.zero_le _) (rfl) _ _ _ hW (lv_sub hl [2, 3, 1, 0] rfl)
theorem dX2_rowOf_0 : decode cX2_rowOf 0 = .ok (.iconst 0, 1) := by decide +kernel
theorem dX2_rowOf_1 : decode cX2_rowOf 1 = .ok (.istore_n 3, 1) := by decide +kernel
theorem dX2_rowOf_2 : decode cX2_rowOf 2 = .ok (.iload_n 3, 1) := by decide +kernel
theorem dX2_rowOf_3 : decode cX2_rowOf 3 = .ok (.aload_n 0, 1) := by decide +kernel
theorem dX2_rowOf_4 : decode cX2_rowOf 4 = .ok (.getfield 23, 3) := by decide +kernel
theorem dX2_rowOf_7 : decode cX2_rowOf 7 = .ok (.if_icmp .ge 22, 3) := by decide +kernel
theorem dX2_rowOf_10 : decode cX2_rowOf 10 = .ok (.aload_n 0, 1) := by decide +kernel
theorem dX2_rowOf_11 : decode cX2_rowOf 11 = .ok (.getfield 9, 3) := by decide +kernel
theorem dX2_rowOf_14 : decode cX2_rowOf 14 = .ok (.iload_n 3, 1) := by decide +kernel
theorem dX2_rowOf_15 : decode cX2_rowOf 15 = .ok (.laload, 1) := by decide +kernel
theorem dX2_rowOf_16 : decode cX2_rowOf 16 = .ok (.lload_n 1, 1) := by decide +kernel
theorem dX2_rowOf_17 : decode cX2_rowOf 17 = .ok (.lcmp, 1) := by decide +kernel
theorem dX2_rowOf_18 : decode cX2_rowOf 18 = .ok (.ifCond .ne 5, 3) := by decide +kernel
theorem dX2_rowOf_21 : decode cX2_rowOf 21 = .ok (.iload_n 3, 1) := by decide +kernel
theorem dX2_rowOf_22 : decode cX2_rowOf 22 = .ok (.ireturn, 1) := by decide +kernel
theorem dX2_rowOf_23 : decode cX2_rowOf 23 = .ok (.iinc 3 1, 3) := by decide +kernel
theorem dX2_rowOf_26 : decode cX2_rowOf 26 = .ok (.goto (-24), 3) := by decide +kernel
theorem dX2_rowOf_29 : decode cX2_rowOf 29 = .ok (.aload_n 0, 1) := by decide +kernel
theorem dX2_rowOf_30 : decode cX2_rowOf 30 = .ok (.getfield 23, 3) := by decide +kernel
theorem dX2_rowOf_33 : decode cX2_rowOf 33 = .ok (.sipush 240, 3) := by decide +kernel
theorem dX2_rowOf_36 : decode cX2_rowOf 36 = .ok (.if_icmp .lt 7, 3) := by decide +kernel
theorem dX2_rowOf_39 : decode cX2_rowOf 39 = .ok (.sipush 240, 3) := by decide +kernel
theorem dX2_rowOf_42 : decode cX2_rowOf 42 = .ok (.ireturn, 1) := by decide +kernel
theorem dX2_rowOf_43 : decode cX2_rowOf 43 = .ok (.aload_n 0, 1) := by decide +kernel
theorem dX2_rowOf_44 : decode cX2_rowOf 44 = .ok (.getfield 9, 3) := by decide +kernel
theorem dX2_rowOf_47 : decode cX2_rowOf 47 = .ok (.aload_n 0, 1) := by decide +kernel
theorem dX2_rowOf_48 : decode cX2_rowOf 48 = .ok (.getfield 23, 3) := by decide +kernel
theorem dX2_rowOf_51 : decode cX2_rowOf 51 = .ok (.lload_n 1, 1) := by decide +kernel
theorem dX2_rowOf_52 : decode cX2_rowOf 52 = .ok (.lastore, 1) := by decide +kernel
theorem dX2_rowOf_53 : decode cX2_rowOf 53 = .ok (.aload_n 0, 1) := by decide +kernel
theorem dX2_rowOf_54 : decode cX2_rowOf 54 = .ok (.getfield 15, 3) := by decide +kernel
theorem dX2_rowOf_57 : decode cX2_rowOf 57 = .ok (.aload_n 0, 1) := by decide +kernel
theorem dX2_rowOf_58 : decode cX2_rowOf 58 = .ok (.getfield 23, 3) := by decide +kernel
theorem dX2_rowOf_61 : decode cX2_rowOf 61 = .ok (.iconst 0, 1) := by decide +kernel
theorem dX2_rowOf_62 : decode cX2_rowOf 62 = .ok (.iastore, 1) := by decide +kernel
theorem dX2_rowOf_63 : decode cX2_rowOf 63 = .ok (.aload_n 0, 1) := by decide +kernel
theorem dX2_rowOf_64 : decode cX2_rowOf 64 = .ok (.dup, 1) := by decide +kernel
theorem dX2_rowOf_65 : decode cX2_rowOf 65 = .ok (.getfield 23, 3) := by decide +kernel
theorem dX2_rowOf_68 : decode cX2_rowOf 68 = .ok (.iconst 1, 1) := by decide +kernel
theorem dX2_rowOf_69 : decode cX2_rowOf 69 = .ok (.iadd, 1) := by decide +kernel
theorem dX2_rowOf_70 : decode cX2_rowOf 70 = .ok (.putfield 23, 3) := by decide +kernel
theorem dX2_rowOf_73 : decode cX2_rowOf 73 = .ok (.aload_n 0, 1) := by decide +kernel
theorem dX2_rowOf_74 : decode cX2_rowOf 74 = .ok (.getfield 23, 3) := by decide +kernel
theorem dX2_rowOf_77 : decode cX2_rowOf 77 = .ok (.iconst 1, 1) := by decide +kernel
theorem dX2_rowOf_78 : decode cX2_rowOf 78 = .ok (.isub, 1) := by decide +kernel
theorem dX2_rowOf_79 : decode cX2_rowOf 79 = .ok (.ireturn, 1) := by decide +kernel
set_option maxHeartbeats 4000000 in
set_option maxRecDepth 100000 in
theorem c_X2_rowOf (l : Launch) (G : XG) (M : XM) (P : XP) (S : XS) (mh uh pl mo un : Nat) (oc : Nat → Int64) (ct : Nat → Nat) (hu : uh < 240) (v : Int64) : Met l yX2_rowOf (wC yX2_rowOf cX2_rowOf 4 (some .int)) (rmD 0) (xPc G [.ref (xga G 4), .long v] M P S (mh, uh, pl, mo, un, oc, ct)) (va_Qi (fun r u => (zleast (fun j => decide (oc j ≠ v)) uh < uh ∧ r = nI (zleast (fun j => decide (oc j ≠ v)) uh) ∧ u = (M, P, S, (mh, uh, pl, mo, un, oc, ct))) ∨ (zleast (fun j => decide (oc j ≠ v)) uh = uh ∧ r = nI uh ∧ u = (M, P, S, (mh, uh + 1, pl, mo, un, vp_updL oc uh v, upN ct uh 0)))) (xB G) (xA G)) 0 0 (xA G) := by
  refine xst "DoFinder$Parting" (by decide) rfl (Nat.le_of_ble_eq_true rfl) ?_
  intro p e s m args below meth c ls F hr hlk hW hl
  have hl : lv_has ls 4 [(0, .ref (xga G 4)), (1, .long v)] := hl
  have hW : xW G s s.heap s.heap [] M P S (mh, uh, pl, mo, un, oc, ct) := hW
  refine lv_iconst (v := nI 0) F.1 F.2.1 dX2_rowOf_0 (by decide) ?_
  refine lv_istore_n (lv' := [(3, .int (nI 0)), (0, .ref (xga G 4)), (1, .long v)]) F.1 F.2.1 dX2_rowOf_1 rfl hl (by decide) rfl (fun ls hl => ?_)
  have lp2 : ∀ (k2 : Nat) (k : Nat), uh - k = k2 → (k ≤ uh) → (∀ j, j < k → (fun j => decide (oc j ≠ v)) j = true) → ∀ (H : Heap) (locs : List Loc) (ls : Array Slot), xW G s s.heap H locs M P S (mh, uh, pl, mo, un, oc, ct) →  lv_has ls 4 [(0, .ref (xga G 4)), (1, .long v), (3, .int (nI k))] → W p l e (rmD 0) s m args below meth c H locs 0 0 (MQ below (va_Qi (fun r u => (zleast (fun j => decide (oc j ≠ v)) uh < uh ∧ r = nI (zleast (fun j => decide (oc j ≠ v)) uh) ∧ u = (M, P, S, (mh, uh, pl, mo, un, oc, ct))) ∨ (zleast (fun j => decide (oc j ≠ v)) uh = uh ∧ r = nI uh ∧ u = (M, P, S, (mh, uh + 1, pl, mo, un, vp_updL oc uh v, upN ct uh 0)))) (xB G) (xA G)) args s 0 0 (xA G)) (F0 m 2 ls []) := by
    intro k2
    induction k2 using Nat.strongRecOn with
    | ind k2 ih2 =>
      intro k hk2 h1 h2 H locs ls hW hl
      refine lv_iload_n F.1 F.2.1 dX2_rowOf_2 rfl (lv_at hl 2 rfl) ?_
      refine lv_aload_n F.1 F.2.1 dX2_rowOf_3 rfl (lv_at hl 0 rfl) ?_
      refine xg_Parting_unlikeHere F hW tm_155 dX2_rowOf_4 ?_
      refine lv_icmp_ge (tgt := 29) F.1 F.2.1 dX2_rowOf_7 (by decide) (fun c7 => ?_) (fun c7 => ?_)
      · have c7 := ci_le (a := ((uh : Nat) : Int)) (b := ((k : Nat) : Int)) (nI_toInt (by omega)) (nI_toInt (by omega)) c7
        refine lv_aload_n F.1 F.2.1 dX2_rowOf_29 rfl (lv_at hl 0 rfl) ?_
        refine xg_Parting_unlikeHere F hW tm_155 dX2_rowOf_30 ?_
        refine lv_sipush (v := nI 240) F.1 F.2.1 dX2_rowOf_33 (by decide) ?_
        refine lv_icmp_lt (tgt := 43) F.1 F.2.1 dX2_rowOf_36 (by decide) (fun c36 => ?_) (fun c36 => ?_)
        rotate_left
        · exfalso
          have c36 := ci_nlt (a := ((uh : Nat) : Int)) (b := 240) (nI_toInt (by omega)) (by decide) c36
          omega
        have c36 := ci_lt (a := ((uh : Nat) : Int)) (b := 240) (nI_toInt (by omega)) (by decide) c36
        refine lv_aload_n F.1 F.2.1 dX2_rowOf_43 rfl (lv_at hl 0 rfl) ?_
        refine xg_Parting_outcomes F hW tm_152 dX2_rowOf_44 ?_
        refine lv_aload_n F.1 F.2.1 dX2_rowOf_47 rfl (lv_at hl 0 rfl) ?_
        refine xg_Parting_unlikeHere F hW tm_155 dX2_rowOf_48 ?_
        refine lv_lload_n F.1 F.2.1 dX2_rowOf_51 rfl (lv_at hl 1 rfl) ?_
        refine xs_oc (i := uh) F hW rfl (by omega) dX2_rowOf_52 (fun H locs hW => ?_)
        have hW : xW G s s.heap H locs M P S (mh, uh, pl, mo, un, vp_updL oc uh v, ct) := hW
        refine lv_aload_n F.1 F.2.1 dX2_rowOf_53 rfl (lv_at hl 0 rfl) ?_
        refine xg_Parting_counts F hW tm_153 dX2_rowOf_54 ?_
        refine lv_aload_n F.1 F.2.1 dX2_rowOf_57 rfl (lv_at hl 0 rfl) ?_
        refine xg_Parting_unlikeHere F hW tm_155 dX2_rowOf_58 ?_
        refine lv_iconst (v := nI 0) F.1 F.2.1 dX2_rowOf_61 (by decide) ?_
        refine xs_ct (i := uh) (k := 0) F hW rfl (by omega) rfl dX2_rowOf_62 (fun H locs hW => ?_)
        have hW : xW G s s.heap H locs M P S (mh, uh, pl, mo, un, vp_updL oc uh v, upN ct uh 0) := hW
        refine lv_aload_n F.1 F.2.1 dX2_rowOf_63 rfl (lv_at hl 0 rfl) ?_
        refine lv_dup F.1 F.2.1 dX2_rowOf_64 rfl ?_
        refine xg_Parting_unlikeHere F hW tm_155 dX2_rowOf_65 ?_
        refine lv_iconst (v := nI 1) F.1 F.2.1 dX2_rowOf_68 (by decide) ?_
        refine ax_add (z := nI (uh + 1)) F (nI_add _ _) dX2_rowOf_69 ?_
        refine xp_Parting_unlikeHere (k := (uh + 1)) F hW tm_155 rfl dX2_rowOf_70 (fun H locs hW => ?_)
        have hW : xW G s s.heap H locs M P S (mh, uh + 1, pl, mo, un, vp_updL oc uh v, upN ct uh 0) := hW
        refine lv_aload_n F.1 F.2.1 dX2_rowOf_73 rfl (lv_at hl 0 rfl) ?_
        refine xg_Parting_unlikeHere F hW tm_155 dX2_rowOf_74 ?_
        refine lv_iconst (v := nI 1) F.1 F.2.1 dX2_rowOf_77 (by decide) ?_
        refine ax_sub (z := nI ((uh + 1) - 1)) F (pk_sub (a := uh + 1) (b := 1) (by omega)) dX2_rowOf_78 ?_
        refine xre_i F hr hlk hW dX2_rowOf_79 ?_
        have e9 := zleast_all _ (fun j hj => h2 j (by omega : j < k))
        rw [show k = uh by omega] at e9
        exact Or.inr ⟨e9, rfl, rfl⟩
      · have c7 := ci_nle (a := ((uh : Nat) : Int)) (b := ((k : Nat) : Int)) (nI_toInt (by omega)) (nI_toInt (by omega)) c7
        refine lv_aload_n F.1 F.2.1 dX2_rowOf_10 rfl (lv_at hl 0 rfl) ?_
        refine xg_Parting_outcomes F hW tm_152 dX2_rowOf_11 ?_
        refine lv_iload_n F.1 F.2.1 dX2_rowOf_14 rfl (lv_at hl 2 rfl) ?_
        refine xl_oc (i := k) F hW rfl (by omega) dX2_rowOf_15 ?_
        refine lv_lload_n F.1 F.2.1 dX2_rowOf_16 rfl (lv_at hl 1 rfl) ?_
        refine W.lcmp F.1 F.2.1 dX2_rowOf_17 ?_
        refine lv_if_ne (tgt := 23) F.1 F.2.1 dX2_rowOf_18 (by decide) (fun c18 => ?_) (fun c18 => ?_)
        · have c18 := fun q => c18 ((lg_cmp_eq _ _).mpr q)
          refine lv_iinc (v := nI (k + 1)) (lv' := [(3, .int (nI (k + 1))), (0, .ref (xga G 4)), (1, .long v)]) F.1 F.2.1 dX2_rowOf_23 hl (k := 2) rfl (nI_add _ 1) (by decide) rfl (fun ls hl => ?_)
          refine lv_goto (tgt := 2) F.1 F.2.1 dX2_rowOf_26 (by decide) ?_
          exact ih2 (uh - (k + 1)) (by omega) (k + 1) rfl (by omega) (lt_s h2 (decide_eq_true c18)) _ _ _ hW (lv_sub hl [1, 2, 0] rfl)
        · have c18 := (lg_cmp_eq _ _).mp c18
          refine lv_iload_n F.1 F.2.1 dX2_rowOf_21 rfl (lv_at hl 2 rfl) ?_
          refine xre_i F hr hlk hW dX2_rowOf_22 ?_
          have e9 := zleast_at h2 (by simp only [decide_eq_true_eq]; exact fun z => z c18) uh (by omega)
          exact Or.inl ⟨by omega, by rw [e9], rfl⟩
  exact lp2 (uh - 0) 0 rfl (Nat.zero_le _) (lt_0) _ _ _ hW (lv_sub hl [1, 2, 0] rfl)
