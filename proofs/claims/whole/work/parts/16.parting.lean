/-! ===== the input that parts best ===== -/
abbrev ZT : Type := Nat × Nat × (Nat → Int64) × (Nat → Nat)
def zix (T : ZT) (v : Int64) : Nat := zleast (fun j => decide (T.2.2.1 j ≠ v)) T.2.1
def zts (T : ZT) (v : Int64) : ZT := if zix T v < T.2.1 then (max T.1 (T.2.2.2 (zix T v) + 1), T.2.1, T.2.2.1, upN T.2.2.2 (zix T v) (T.2.2.2 (zix T v) + 1)) else (max T.1 1, T.2.1 + 1, vp_updL T.2.2.1 T.2.1 v, upN T.2.2.2 T.2.1 1)
def zta (f : Nat → Int64) : Nat → ZT
  | 0 => (0, 0, fun _ => 0, fun _ => 0)
  | i + 1 => zts (zta f i) (f i)
theorem zta_congr {f g : Nat → Int64} : ∀ k, (∀ i, i < k → f i = g i) → zta f k = zta g k := by
  intro k
  induction k with
  | zero => intro _; rfl
  | succ k ih => intro h; unfold zta; rw [ih (fun i hi => h i (by omega)), h k (by omega)]
theorem zta_le (f : Nat → Int64) : ∀ k, (zta f k).1 ≤ k ∧ (zta f k).2.1 ≤ k ∧ ∀ j, (zta f k).2.2.2 j ≤ k := by
  intro k
  induction k with
  | zero => exact ⟨Nat.le_refl _, Nat.le_refl _, fun _ => Nat.le_refl _⟩
  | succ k ih =>
    obtain ⟨h1, h2, h3⟩ := ih
    have h4 := h3 (zix (zta f k) (f k))
    unfold zta zts
    split
    · refine ⟨by simp only; omega, by simp only; omega, fun j => ?_⟩
      have h5 := h3 j
      simp only
      unfold upN; split <;> omega
    · refine ⟨by simp only; omega, by simp only; omega, fun j => ?_⟩
      have h5 := h3 j
      simp only
      unfold upN; split <;> omega
/-- the rows of a class agree with the reckoned ones as far as they count -/
def zag (T : ZT) (mh uh : Nat) (oc : Nat → Int64) (ct : Nat → Nat) : Prop := mh = T.1 ∧ uh = T.2.1 ∧ (∀ j, j < uh → oc j = T.2.2.1 j) ∧ ∀ j, j < uh → ct j = T.2.2.2 j
theorem zag_ix {T : ZT} {mh uh : Nat} {oc : Nat → Int64} {ct : Nat → Nat} {v : Int64} (h : zag T mh uh oc ct) : zix T v = zleast (fun j => decide (oc j ≠ v)) uh := by
  obtain ⟨-, h2, h3, -⟩ := h
  unfold zix
  rw [← h2]
  exact zleast_congr _ (fun j hj => by simp only [h3 j hj])
theorem zag_old {T : ZT} {mh uh k mh2 : Nat} {oc : Nat → Int64} {ct : Nat → Nat} {v : Int64} (h : zag T mh uh oc ct) (hk : zleast (fun j => decide (oc j ≠ v)) uh = k) (hlt : k < uh) (hm : mh2 = max mh (ct k + 1)) : zag (zts T v) mh2 uh oc (upN ct k (ct k + 1)) := by
  have e := zag_ix (v := v) h
  rw [hk] at e
  obtain ⟨h1, h2, h3, h4⟩ := id h
  unfold zts
  rw [e, if_pos (by omega)]
  refine ⟨by simp only; rw [hm, h1, h4 k hlt], h2, h3, fun j hj => ?_⟩
  simp only
  by_cases q : j = k
  · subst q; rw [upN_s, upN_s, h4 j hj]
  · rw [upN_n q, upN_n q, h4 j hj]
theorem zag_new {T : ZT} {mh uh mh2 : Nat} {oc : Nat → Int64} {ct ct2 : Nat → Nat} {v : Int64} (h : zag T mh uh oc ct) (hk : zleast (fun j => decide (oc j ≠ v)) uh = uh) (hm : mh2 = max mh 1) (hc : ct2 uh = 1) (hc2 : ∀ j, j < uh → ct2 j = ct j) : zag (zts T v) mh2 (uh + 1) (vp_updL oc uh v) ct2 := by
  have e := zag_ix (v := v) h
  rw [hk] at e
  obtain ⟨h1, h2, h3, h4⟩ := id h
  unfold zts
  rw [e, if_neg (by omega)]
  refine ⟨by simp only; rw [hm, h1], by simp only; omega, fun j hj => ?_, fun j hj => ?_⟩
  · simp only
    rw [← h2]
    by_cases q : j = uh
    · subst q; rw [pk_uLs, pk_uLs]
    · rw [pk_uLn q, pk_uLn q, h3 j (by omega)]
  · simp only
    rw [← h2]
    by_cases q : j = uh
    · subst q; rw [upN_s, hc]
    · rw [upN_n q, hc2 j (by omega), h4 j (by omega)]
/-- the place, the most there, the unlike there: of the first k -/
def zbs (g : Nat → Nat × Nat) : Nat → Nat × Nat × Nat
  | 0 => (0, 0, 0)
  | k + 1 => if k = 0 ∨ (g k).1 < (zbs g k).2.1 then (k, (g k).1, (g k).2) else zbs g k
theorem zbs_t {g : Nat → Nat × Nat} {k : Nat} (h : k = 0 ∨ (g k).1 < (zbs g k).2.1) : zbs g (k + 1) = (k, (g k).1, (g k).2) := by
  conv => lhs; unfold zbs
  rw [if_pos h]
theorem zbs_f {g : Nat → Nat × Nat} {k : Nat} (h : ¬ (k = 0 ∨ (g k).1 < (zbs g k).2.1)) : zbs g (k + 1) = zbs g k := by
  conv => lhs; unfold zbs
  rw [if_neg h]
theorem zbs_congr {g h : Nat → Nat × Nat} : ∀ k, (∀ i, i < k → g i = h i) → zbs g k = zbs h k := by
  intro k
  induction k with
  | zero => intro _; rfl
  | succ k ih => intro q; unfold zbs; rw [ih (fun i hi => q i (by omega)), q k (by omega)]
theorem zbs_le {g : Nat → Nat × Nat} : ∀ k, (zbs g k).1 ≤ k := by
  intro k
  induction k with
  | zero => exact Nat.le_refl _
  | succ k ih => unfold zbs; split
                 · simp only; omega
                 · omega
theorem zbs_le2 {g : Nat → Nat × Nat} {b : Nat} (h : ∀ i, (g i).1 ≤ b ∧ (g i).2 ≤ b) : ∀ k, (zbs g k).2.1 ≤ b ∧ (zbs g k).2.2 ≤ b := by
  intro k
  induction k with
  | zero => exact ⟨Nat.zero_le _, Nat.zero_le _⟩
  | succ k ih => unfold zbs; split
                 · exact h k
                 · exact ih
/-- most and unlike at a place -/
def zgp (o : Nat → Int32 → Int32 → Int64) (pk : Nat → Nat) (ws t k : Nat) : Nat × Nat := ((zta (fun i => zjo o (pk i) (wA t k) (wB t k)) ws).1, (zta (fun i => zjo o (pk i) (wA t k) (wB t k)) ws).2.1)
theorem zgp_le (o : Nat → Int32 → Int32 → Int64) (pk : Nat → Nat) (ws t k : Nat) : (zgp o pk ws t k).1 ≤ ws ∧ (zgp o pk ws t k).2 ≤ ws := ⟨(zta_le _ ws).1, (zta_le _ ws).2.1⟩
theorem dX2_tally_0 : decode cX2_tally 0 = .ok (.aload_n 0, 1) := by decide +kernel
theorem dX2_tally_1 : decode cX2_tally 1 = .ok (.iconst 0, 1) := by decide +kernel
theorem dX2_tally_2 : decode cX2_tally 2 = .ok (.putfield 19, 3) := by decide +kernel
theorem dX2_tally_5 : decode cX2_tally 5 = .ok (.aload_n 0, 1) := by decide +kernel
theorem dX2_tally_6 : decode cX2_tally 6 = .ok (.iconst 0, 1) := by decide +kernel
theorem dX2_tally_7 : decode cX2_tally 7 = .ok (.putfield 23, 3) := by decide +kernel
theorem dX2_tally_10 : decode cX2_tally 10 = .ok (.iconst 0, 1) := by decide +kernel
theorem dX2_tally_11 : decode cX2_tally 11 = .ok (.istore 4, 2) := by decide +kernel
theorem dX2_tally_13 : decode cX2_tally 13 = .ok (.iload 4, 2) := by decide +kernel
theorem dX2_tally_15 : decode cX2_tally 15 = .ok (.iload_n 1, 1) := by decide +kernel
theorem dX2_tally_16 : decode cX2_tally 16 = .ok (.if_icmp .ge 85, 3) := by decide +kernel
theorem dX2_tally_19 : decode cX2_tally 19 = .ok (.aload_n 0, 1) := by decide +kernel
theorem dX2_tally_20 : decode cX2_tally 20 = .ok (.aload_n 0, 1) := by decide +kernel
theorem dX2_tally_21 : decode cX2_tally 21 = .ok (.getfield 35, 3) := by decide +kernel
theorem dX2_tally_24 : decode cX2_tally 24 = .ok (.aload_n 0, 1) := by decide +kernel
theorem dX2_tally_25 : decode cX2_tally 25 = .ok (.getfield 35, 3) := by decide +kernel
theorem dX2_tally_28 : decode cX2_tally 28 = .ok (.iload 4, 2) := by decide +kernel
theorem dX2_tally_30 : decode cX2_tally 30 = .ok (.iload_n 1, 1) := by decide +kernel
theorem dX2_tally_31 : decode cX2_tally 31 = .ok (.invokevirtual 56, 3) := by decide +kernel
theorem dX2_tally_34 : decode cX2_tally 34 = .ok (.iload_n 2, 1) := by decide +kernel
theorem dX2_tally_35 : decode cX2_tally 35 = .ok (.iload_n 3, 1) := by decide +kernel
theorem dX2_tally_36 : decode cX2_tally 36 = .ok (.invokevirtual 61, 3) := by decide +kernel
theorem dX2_tally_39 : decode cX2_tally 39 = .ok (.invokevirtual 65, 3) := by decide +kernel
theorem dX2_tally_42 : decode cX2_tally 42 = .ok (.istore 5, 2) := by decide +kernel
theorem dX2_tally_44 : decode cX2_tally 44 = .ok (.iload 5, 2) := by decide +kernel
theorem dX2_tally_46 : decode cX2_tally 46 = .ok (.sipush 240, 3) := by decide +kernel
theorem dX2_tally_49 : decode cX2_tally 49 = .ok (.if_icmp .ge 46, 3) := by decide +kernel
theorem dX2_tally_52 : decode cX2_tally 52 = .ok (.aload_n 0, 1) := by decide +kernel
theorem dX2_tally_53 : decode cX2_tally 53 = .ok (.getfield 15, 3) := by decide +kernel
theorem dX2_tally_56 : decode cX2_tally 56 = .ok (.iload 5, 2) := by decide +kernel
theorem dX2_tally_58 : decode cX2_tally 58 = .ok (.dup2, 1) := by decide +kernel
theorem dX2_tally_59 : decode cX2_tally 59 = .ok (.iaload, 1) := by decide +kernel
theorem dX2_tally_60 : decode cX2_tally 60 = .ok (.iconst 1, 1) := by decide +kernel
theorem dX2_tally_61 : decode cX2_tally 61 = .ok (.iadd, 1) := by decide +kernel
theorem dX2_tally_62 : decode cX2_tally 62 = .ok (.iastore, 1) := by decide +kernel
theorem dX2_tally_63 : decode cX2_tally 63 = .ok (.aload_n 0, 1) := by decide +kernel
theorem dX2_tally_64 : decode cX2_tally 64 = .ok (.aload_n 0, 1) := by decide +kernel
theorem dX2_tally_65 : decode cX2_tally 65 = .ok (.getfield 15, 3) := by decide +kernel
theorem dX2_tally_68 : decode cX2_tally 68 = .ok (.iload 5, 2) := by decide +kernel
theorem dX2_tally_70 : decode cX2_tally 70 = .ok (.iaload, 1) := by decide +kernel
theorem dX2_tally_71 : decode cX2_tally 71 = .ok (.aload_n 0, 1) := by decide +kernel
theorem dX2_tally_72 : decode cX2_tally 72 = .ok (.getfield 19, 3) := by decide +kernel
theorem dX2_tally_75 : decode cX2_tally 75 = .ok (.if_icmp .le 13, 3) := by decide +kernel
theorem dX2_tally_78 : decode cX2_tally 78 = .ok (.aload_n 0, 1) := by decide +kernel
theorem dX2_tally_79 : decode cX2_tally 79 = .ok (.getfield 15, 3) := by decide +kernel
theorem dX2_tally_82 : decode cX2_tally 82 = .ok (.iload 5, 2) := by decide +kernel
theorem dX2_tally_84 : decode cX2_tally 84 = .ok (.iaload, 1) := by decide +kernel
theorem dX2_tally_85 : decode cX2_tally 85 = .ok (.goto 7, 3) := by decide +kernel
theorem dX2_tally_88 : decode cX2_tally 88 = .ok (.aload_n 0, 1) := by decide +kernel
theorem dX2_tally_89 : decode cX2_tally 89 = .ok (.getfield 19, 3) := by decide +kernel
theorem dX2_tally_92 : decode cX2_tally 92 = .ok (.putfield 19, 3) := by decide +kernel
theorem dX2_tally_95 : decode cX2_tally 95 = .ok (.iinc 4 1, 3) := by decide +kernel
theorem dX2_tally_98 : decode cX2_tally 98 = .ok (.goto (-85), 3) := by decide +kernel
theorem dX2_tally_101 : decode cX2_tally 101 = .ok (.return_, 1) := by decide +kernel
set_option maxHeartbeats 4000000 in
set_option maxRecDepth 100000 in
theorem c_X2_tally (l : Launch) (G : XG) (M : XM) (P : XP) (sc : Nat) (wy wm pk : Nat → Nat) (mh uh pl mo un : Nat) (oc : Nat → Int64) (ct : Nat → Nat) (n aa ac : Nat) (ra : Nat → Nat) (o : Nat → Int32 → Int32 → Int64) (zf zs : Nat → Int32) (zd : Nat → Int64) (hV : xV M n aa ac ra o zf zs zd) (ws : Nat) (hws : ws ≤ 240) (hpk : ∀ i, i < ws → zok n aa ra (pk i) = true ∧ pk i < 1200) (a b : Int32) : Met l yX2_tally (wC yX2_tally cX2_tally 6 none) (rmD 3) (xPc G [.ref (xga G 4), .int (nI ws), .int a, .int b] M P (sc, wy, wm, pk) (mh, uh, pl, mo, un, oc, ct)) (va_Qv (fun u => ∃ (P2 : XP) (oc2 : Nat → Int64) (ct2 : Nat → Nat), u = (M, P2, (sc, wy, wm, pk), ((zta (fun i => zjo o (pk i) a b) ws).1, (zta (fun i => zjo o (pk i) a b) ws).2.1, pl, mo, un, oc2, ct2))) (xB G) (xA G)) 0 0 (xA G) := by
  refine xst "DoFinder$Parting" (by decide) rfl (Nat.le_of_ble_eq_true rfl) ?_
  intro p e s m args below meth c ls F hr hlk hW hl
  have hl : lv_has ls 6 [(0, .ref (xga G 4)), (1, .int (nI ws)), (2, .int a), (3, .int b)] := hl
  have hW : xW G s s.heap s.heap [] M P (sc, wy, wm, pk) (mh, uh, pl, mo, un, oc, ct) := hW
  have b_a := i32b a
  have b_b := i32b b
  obtain ⟨en, ea, ec, era, eo, ef, es, ed, bn, ba, bc, bf, brc, bra, bd⟩ := id hV
  refine lv_aload_n F.1 F.2.1 dX2_tally_0 rfl (lv_at hl 0 rfl) ?_
  refine lv_iconst (v := nI 0) F.1 F.2.1 dX2_tally_1 (by decide) ?_
  refine xp_Parting_mostHere (k := 0) F hW tm_154 rfl dX2_tally_2 (fun H locs hW => ?_)
  have hW : xW G s s.heap H locs M P (sc, wy, wm, pk) (0, uh, pl, mo, un, oc, ct) := hW
  refine lv_aload_n F.1 F.2.1 dX2_tally_5 rfl (lv_at hl 0 rfl) ?_
  refine lv_iconst (v := nI 0) F.1 F.2.1 dX2_tally_6 (by decide) ?_
  refine xp_Parting_unlikeHere (k := 0) F hW tm_155 rfl dX2_tally_7 (fun H locs hW => ?_)
  have hW : xW G s s.heap H locs M P (sc, wy, wm, pk) (0, 0, pl, mo, un, oc, ct) := hW
  refine lv_iconst (v := nI 0) F.1 F.2.1 dX2_tally_10 (by decide) ?_
  refine lv_istore (lv' := [(4, .int (nI 0)), (0, .ref (xga G 4)), (1, .int (nI ws)), (2, .int a), (3, .int b)]) F.1 F.2.1 dX2_tally_11 hl (by decide) rfl (fun ls hl => ?_)
  have lp13 : ∀ (k13 : Nat) (Pk : XP) (i : Nat) (mh1 : Nat) (uh1 : Nat) (oc1 : Nat → Int64) (ct1 : Nat → Nat), ws - i = k13 → (i ≤ ws) → (zag (zta (fun i => zjo o (pk i) a b) i) mh1 uh1 oc1 ct1) → ∀ (H : Heap) (locs : List Loc) (ls : Array Slot), xW G s s.heap H locs M Pk (sc, wy, wm, pk) (mh1, uh1, pl, mo, un, oc1, ct1) →  lv_has ls 6 [(0, .ref (xga G 4)), (1, .int (nI ws)), (2, .int a), (3, .int b), (4, .int (nI i))] → W p l e (rmD 3) s m args below meth c H locs 0 0 (MQ below (va_Qv (fun u => ∃ (P2 : XP) (oc2 : Nat → Int64) (ct2 : Nat → Nat), u = (M, P2, (sc, wy, wm, pk), ((zta (fun i => zjo o (pk i) a b) ws).1, (zta (fun i => zjo o (pk i) a b) ws).2.1, pl, mo, un, oc2, ct2))) (xB G) (xA G)) args s 0 0 (xA G)) (F0 m 13 ls []) := by
    intro k13
    induction k13 using Nat.strongRecOn with
    | ind k13 ih13 =>
      intro Pk i mh1 uh1 oc1 ct1 hk13 h1 h2 H locs ls hW hl
      obtain ⟨g1, g2, g3, g4⟩ := id h2
      have zl := zta_le (fun i => zjo o (pk i) a b) i
      have zl1 := zl.1
      have zl2 := zl.2.1
      refine lv_iload F.1 F.2.1 dX2_tally_13 (lv_at hl 4 rfl) ?_
      refine lv_iload_n F.1 F.2.1 dX2_tally_15 rfl (lv_at hl 1 rfl) ?_
      refine lv_icmp_ge (tgt := 101) F.1 F.2.1 dX2_tally_16 (by decide) (fun c16 => ?_) (fun c16 => ?_)
      · have c16 := ci_le (a := ((ws : Nat) : Int)) (b := ((i : Nat) : Int)) (nI_toInt (by omega)) (nI_toInt (by omega)) c16
        refine xre_v F hr hlk hW dX2_tally_101 ?_
        obtain ⟨g1, g2, -, -⟩ := h2
        rw [show i = ws by omega] at g1 g2
        exact ⟨_, _, _, by rw [g1, g2]⟩
      · have c16 := ci_nle (a := ((ws : Nat) : Int)) (b := ((i : Nat) : Int)) (nI_toInt (by omega)) (nI_toInt (by omega)) c16
        have hq := hpk i (by omega)
        refine lv_aload_n F.1 F.2.1 dX2_tally_19 rfl (lv_at hl 0 rfl) ?_
        refine lv_aload_n F.1 F.2.1 dX2_tally_20 rfl (lv_at hl 0 rfl) ?_
        refine xg_Parting_search F hW tm_151 dX2_tally_21 ?_
        refine lv_aload_n F.1 F.2.1 dX2_tally_24 rfl (lv_at hl 0 rfl) ?_
        refine xg_Parting_search F hW tm_151 dX2_tally_25 ?_
        refine lv_iload F.1 F.2.1 dX2_tally_28 (lv_at hl 4 rfl) ?_
        refine lv_iload_n F.1 F.2.1 dX2_tally_30 rfl (lv_at hl 1 rfl) ?_
        refine xca_i (b := (xga G 3)) (As := [.int (nI i), .int (nI ws)]) (rest := [.ref (xga G 3), .ref (xga G 4)]) F (c_X5_pickedAt_n l G M Pk sc wy wm pk (mh1, uh1, pl, mo, un, oc1, ct1) i ws (by omega) (by omega)) (xcw F.2.2.2.2 ca_X5_pickedAt tm_448 rfl rfl ⟨by decide, by decide⟩) (xr_X5 hW) hW rfl hl.1 rfl (Nat.le_of_ble_eq_true rfl) dX2_tally_31 (fun r31 u31 H locs hp31 hW => ?_)
        obtain ⟨rfl, rfl⟩ := hp31
        have hW : xW G s s.heap H locs M Pk (sc, wy, wm, pk) (mh1, uh1, pl, mo, un, oc1, ct1) := hW
        refine lv_iload_n F.1 F.2.1 dX2_tally_34 rfl (lv_at hl 2 rfl) ?_
        refine lv_iload_n F.1 F.2.1 dX2_tally_35 rfl (lv_at hl 3 rfl) ?_
        refine xca_l (b := (xga G 3)) (As := [.int (nI (pk i)), .int a, .int b]) (rest := [.ref (xga G 4)]) F (c_X5_outcome l G M Pk (sc, wy, wm, pk) (mh1, uh1, pl, mo, un, oc1, ct1) n aa ac ra o zf zs zd hV (pk i) (by omega) hq.1 a b) (xcw F.2.2.2.2 ca_X5_outcome tm_449 rfl rfl ⟨by decide, by decide⟩) (xr_X5 hW) hW rfl hl.1 rfl (Nat.le_of_ble_eq_true rfl) dX2_tally_36 (fun r36 u36 H locs hp36 hW => ?_)
        obtain ⟨rfl, P36, rfl⟩ := hp36
        have hW : xW G s s.heap H locs M P36 (sc, wy, wm, pk) (mh1, uh1, pl, mo, un, oc1, ct1) := hW
        refine xca_i (b := (xga G 4)) (As := [.long (zjo o (pk i) a b)]) (rest := []) F (c_X2_rowOf l G M P36 (sc, wy, wm, pk) mh1 uh1 pl mo un oc1 ct1 (by omega) (zjo o (pk i) a b)) (xcw F.2.2.2.2 ca_X2_rowOf tm_450 rfl rfl ⟨by decide, by decide⟩) (xr_X2 hW) hW rfl hl.1 rfl (Nat.le_of_ble_eq_true rfl) dX2_tally_39 (fun r39 u39 H locs hp39 hW => ?_)
        rcases hp39 with ⟨y39, rfl, rfl⟩ | ⟨y39, rfl, rfl⟩
        · skip
          have hW : xW G s s.heap H locs M P36 (sc, wy, wm, pk) (mh1, uh1, pl, mo, un, oc1, ct1) := hW
          generalize hz39 : zleast (fun j => decide (oc1 j ≠ (zjo o (pk i) a b))) uh1 = k39 at y39 ⊢
          refine lv_istore (lv' := [(5, .int (nI k39)), (0, .ref (xga G 4)), (1, .int (nI ws)), (2, .int a), (3, .int b), (4, .int (nI i))]) F.1 F.2.1 dX2_tally_42 hl (by decide) rfl (fun ls hl => ?_)
          have gk := g4 k39 y39
          have gl := zl.2.2 k39
          refine lv_iload F.1 F.2.1 dX2_tally_44 (lv_at hl 0 rfl) ?_
          refine lv_sipush (v := nI 240) F.1 F.2.1 dX2_tally_46 (by decide) ?_
          refine lv_icmp_ge (tgt := 95) F.1 F.2.1 dX2_tally_49 (by decide) (fun c49 => ?_) (fun c49 => ?_)
          · exfalso
            have c49 := ci_le (a := 240) (b := ((k39 : Nat) : Int)) (by decide) (nI_toInt (by omega)) c49
            omega
          have c49 := ci_nle (a := 240) (b := ((k39 : Nat) : Int)) (by decide) (nI_toInt (by omega)) c49
          refine lv_aload_n F.1 F.2.1 dX2_tally_52 rfl (lv_at hl 1 rfl) ?_
          refine xg_Parting_counts F hW tm_153 dX2_tally_53 ?_
          refine lv_iload F.1 F.2.1 dX2_tally_56 (lv_at hl 0 rfl) ?_
          refine lv_dup2_11 F.1 F.2.1 dX2_tally_58 rfl rfl ?_
          refine xl_ct (i := k39) F hW rfl (by omega) dX2_tally_59 ?_
          refine lv_iconst (v := nI 1) F.1 F.2.1 dX2_tally_60 (by decide) ?_
          refine ax_add (z := nI ((ct1 k39) + 1)) F (nI_add _ _) dX2_tally_61 ?_
          refine xs_ct (i := k39) (k := ((ct1 k39) + 1)) F hW rfl (by omega) rfl dX2_tally_62 (fun H locs hW => ?_)
          have hW : xW G s s.heap H locs M P36 (sc, wy, wm, pk) (mh1, uh1, pl, mo, un, oc1, upN ct1 k39 ((ct1 k39) + 1)) := hW
          refine lv_aload_n F.1 F.2.1 dX2_tally_63 rfl (lv_at hl 1 rfl) ?_
          refine lv_aload_n F.1 F.2.1 dX2_tally_64 rfl (lv_at hl 1 rfl) ?_
          refine xg_Parting_counts F hW tm_153 dX2_tally_65 ?_
          refine lv_iload F.1 F.2.1 dX2_tally_68 (lv_at hl 0 rfl) ?_
          refine xl_ct (i := k39) F hW rfl (by omega) dX2_tally_70 ?_
          refine ax_re (show nI ((upN ct1 k39 ((ct1 k39) + 1)) k39) = nI (ct1 k39 + 1) from congrArg nI upN_s) ?_
          refine lv_aload_n F.1 F.2.1 dX2_tally_71 rfl (lv_at hl 1 rfl) ?_
          refine xg_Parting_mostHere F hW tm_154 dX2_tally_72 ?_
          refine lv_icmp_le (tgt := 88) F.1 F.2.1 dX2_tally_75 (by decide) (fun c75 => ?_) (fun c75 => ?_)
          · have c75 := ci_le (a := ((ct1 k39 + 1 : Nat) : Int)) (b := ((mh1 : Nat) : Int)) (nI_toInt (by omega)) (nI_toInt (by omega)) c75
            refine lv_aload_n F.1 F.2.1 dX2_tally_88 rfl (lv_at hl 1 rfl) ?_
            refine xg_Parting_mostHere F hW tm_154 dX2_tally_89 ?_
            refine xp_Parting_mostHere (k := mh1) F hW tm_154 rfl dX2_tally_92 (fun H locs hW => ?_)
            have hW : xW G s s.heap H locs M P36 (sc, wy, wm, pk) (mh1, uh1, pl, mo, un, oc1, upN ct1 k39 ((ct1 k39) + 1)) := hW
            refine lv_iinc (v := nI (i + 1)) (lv' := [(4, .int (nI (i + 1))), (5, .int (nI k39)), (0, .ref (xga G 4)), (1, .int (nI ws)), (2, .int a), (3, .int b)]) F.1 F.2.1 dX2_tally_95 hl (k := 5) rfl (nI_add _ 1) (by decide) rfl (fun ls hl => ?_)
            refine lv_goto (tgt := 13) F.1 F.2.1 dX2_tally_98 (by decide) ?_
            exact ih13 (ws - (i + 1)) (by omega) P36 (i + 1) mh1 uh1 oc1 (upN ct1 k39 ((ct1 k39) + 1)) rfl (by omega) (zag_old h2 hz39 y39 (by omega)) _ _ _ hW (lv_sub hl [2, 3, 4, 5, 0] rfl)
          · have c75 := ci_nle (a := ((ct1 k39 + 1 : Nat) : Int)) (b := ((mh1 : Nat) : Int)) (nI_toInt (by omega)) (nI_toInt (by omega)) c75
            refine lv_aload_n F.1 F.2.1 dX2_tally_78 rfl (lv_at hl 1 rfl) ?_
            refine xg_Parting_counts F hW tm_153 dX2_tally_79 ?_
            refine lv_iload F.1 F.2.1 dX2_tally_82 (lv_at hl 0 rfl) ?_
            refine xl_ct (i := k39) F hW rfl (by omega) dX2_tally_84 ?_
            refine ax_re (show nI ((upN ct1 k39 ((ct1 k39) + 1)) k39) = nI (ct1 k39 + 1) from congrArg nI upN_s) ?_
            refine lv_goto (tgt := 92) F.1 F.2.1 dX2_tally_85 (by decide) ?_
            refine xp_Parting_mostHere (k := (ct1 k39 + 1)) F hW tm_154 rfl dX2_tally_92 (fun H locs hW => ?_)
            have hW : xW G s s.heap H locs M P36 (sc, wy, wm, pk) (ct1 k39 + 1, uh1, pl, mo, un, oc1, upN ct1 k39 ((ct1 k39) + 1)) := hW
            refine lv_iinc (v := nI (i + 1)) (lv' := [(4, .int (nI (i + 1))), (5, .int (nI k39)), (0, .ref (xga G 4)), (1, .int (nI ws)), (2, .int a), (3, .int b)]) F.1 F.2.1 dX2_tally_95 hl (k := 5) rfl (nI_add _ 1) (by decide) rfl (fun ls hl => ?_)
            refine lv_goto (tgt := 13) F.1 F.2.1 dX2_tally_98 (by decide) ?_
            exact ih13 (ws - (i + 1)) (by omega) P36 (i + 1) (ct1 k39 + 1) uh1 oc1 (upN ct1 k39 ((ct1 k39) + 1)) rfl (by omega) (zag_old h2 hz39 y39 (by omega)) _ _ _ hW (lv_sub hl [2, 3, 4, 5, 0] rfl)
        · skip
          have hW : xW G s s.heap H locs M P36 (sc, wy, wm, pk) (mh1, uh1 + 1, pl, mo, un, vp_updL oc1 uh1 (zjo o (pk i) a b), upN ct1 uh1 0) := hW
          refine lv_istore (lv' := [(5, .int (nI uh1)), (0, .ref (xga G 4)), (1, .int (nI ws)), (2, .int a), (3, .int b), (4, .int (nI i))]) F.1 F.2.1 dX2_tally_42 hl (by decide) rfl (fun ls hl => ?_)
          refine lv_iload F.1 F.2.1 dX2_tally_44 (lv_at hl 0 rfl) ?_
          refine lv_sipush (v := nI 240) F.1 F.2.1 dX2_tally_46 (by decide) ?_
          refine lv_icmp_ge (tgt := 95) F.1 F.2.1 dX2_tally_49 (by decide) (fun c49 => ?_) (fun c49 => ?_)
          · exfalso
            have c49 := ci_le (a := 240) (b := ((uh1 : Nat) : Int)) (by decide) (nI_toInt (by omega)) c49
            omega
          have c49 := ci_nle (a := 240) (b := ((uh1 : Nat) : Int)) (by decide) (nI_toInt (by omega)) c49
          refine lv_aload_n F.1 F.2.1 dX2_tally_52 rfl (lv_at hl 1 rfl) ?_
          refine xg_Parting_counts F hW tm_153 dX2_tally_53 ?_
          refine lv_iload F.1 F.2.1 dX2_tally_56 (lv_at hl 0 rfl) ?_
          refine lv_dup2_11 F.1 F.2.1 dX2_tally_58 rfl rfl ?_
          refine xl_ct (i := uh1) F hW rfl (by omega) dX2_tally_59 ?_
          refine ax_re (show nI ((upN ct1 uh1 0) uh1) = nI 0 from congrArg nI upN_s) ?_
          refine lv_iconst (v := nI 1) F.1 F.2.1 dX2_tally_60 (by decide) ?_
          refine ax_add (z := nI 1) F (nI_add _ _) dX2_tally_61 ?_
          refine xs_ct (i := uh1) (k := 1) F hW rfl (by omega) rfl dX2_tally_62 (fun H locs hW => ?_)
          have hW : xW G s s.heap H locs M P36 (sc, wy, wm, pk) (mh1, uh1 + 1, pl, mo, un, vp_updL oc1 uh1 (zjo o (pk i) a b), upN (upN ct1 uh1 0) uh1 1) := hW
          refine lv_aload_n F.1 F.2.1 dX2_tally_63 rfl (lv_at hl 1 rfl) ?_
          refine lv_aload_n F.1 F.2.1 dX2_tally_64 rfl (lv_at hl 1 rfl) ?_
          refine xg_Parting_counts F hW tm_153 dX2_tally_65 ?_
          refine lv_iload F.1 F.2.1 dX2_tally_68 (lv_at hl 0 rfl) ?_
          refine xl_ct (i := uh1) F hW rfl (by omega) dX2_tally_70 ?_
          refine ax_re (show nI ((upN (upN ct1 uh1 0) uh1 1) uh1) = nI 1 from congrArg nI upN_s) ?_
          refine lv_aload_n F.1 F.2.1 dX2_tally_71 rfl (lv_at hl 1 rfl) ?_
          refine xg_Parting_mostHere F hW tm_154 dX2_tally_72 ?_
          refine lv_icmp_le (tgt := 88) F.1 F.2.1 dX2_tally_75 (by decide) (fun c75 => ?_) (fun c75 => ?_)
          · have c75 := ci_le (a := 1) (b := ((mh1 : Nat) : Int)) (by decide) (nI_toInt (by omega)) c75
            refine lv_aload_n F.1 F.2.1 dX2_tally_88 rfl (lv_at hl 1 rfl) ?_
            refine xg_Parting_mostHere F hW tm_154 dX2_tally_89 ?_
            refine xp_Parting_mostHere (k := mh1) F hW tm_154 rfl dX2_tally_92 (fun H locs hW => ?_)
            have hW : xW G s s.heap H locs M P36 (sc, wy, wm, pk) (mh1, uh1 + 1, pl, mo, un, vp_updL oc1 uh1 (zjo o (pk i) a b), upN (upN ct1 uh1 0) uh1 1) := hW
            refine lv_iinc (v := nI (i + 1)) (lv' := [(4, .int (nI (i + 1))), (5, .int (nI uh1)), (0, .ref (xga G 4)), (1, .int (nI ws)), (2, .int a), (3, .int b)]) F.1 F.2.1 dX2_tally_95 hl (k := 5) rfl (nI_add _ 1) (by decide) rfl (fun ls hl => ?_)
            refine lv_goto (tgt := 13) F.1 F.2.1 dX2_tally_98 (by decide) ?_
            exact ih13 (ws - (i + 1)) (by omega) P36 (i + 1) mh1 (uh1 + 1) (vp_updL oc1 uh1 (zjo o (pk i) a b)) (upN (upN ct1 uh1 0) uh1 1) rfl (by omega) (zag_new h2 y39 (by omega) upN_s (fun j hj => by rw [upN_n (by omega), upN_n (by omega)])) _ _ _ hW (lv_sub hl [2, 3, 4, 5, 0] rfl)
          · have c75 := ci_nle (a := 1) (b := ((mh1 : Nat) : Int)) (by decide) (nI_toInt (by omega)) c75
            refine lv_aload_n F.1 F.2.1 dX2_tally_78 rfl (lv_at hl 1 rfl) ?_
            refine xg_Parting_counts F hW tm_153 dX2_tally_79 ?_
            refine lv_iload F.1 F.2.1 dX2_tally_82 (lv_at hl 0 rfl) ?_
            refine xl_ct (i := uh1) F hW rfl (by omega) dX2_tally_84 ?_
            refine ax_re (show nI ((upN (upN ct1 uh1 0) uh1 1) uh1) = nI 1 from congrArg nI upN_s) ?_
            refine lv_goto (tgt := 92) F.1 F.2.1 dX2_tally_85 (by decide) ?_
            refine xp_Parting_mostHere (k := 1) F hW tm_154 rfl dX2_tally_92 (fun H locs hW => ?_)
            have hW : xW G s s.heap H locs M P36 (sc, wy, wm, pk) (1, uh1 + 1, pl, mo, un, vp_updL oc1 uh1 (zjo o (pk i) a b), upN (upN ct1 uh1 0) uh1 1) := hW
            refine lv_iinc (v := nI (i + 1)) (lv' := [(4, .int (nI (i + 1))), (5, .int (nI uh1)), (0, .ref (xga G 4)), (1, .int (nI ws)), (2, .int a), (3, .int b)]) F.1 F.2.1 dX2_tally_95 hl (k := 5) rfl (nI_add _ 1) (by decide) rfl (fun ls hl => ?_)
            refine lv_goto (tgt := 13) F.1 F.2.1 dX2_tally_98 (by decide) ?_
            exact ih13 (ws - (i + 1)) (by omega) P36 (i + 1) 1 (uh1 + 1) (vp_updL oc1 uh1 (zjo o (pk i) a b)) (upN (upN ct1 uh1 0) uh1 1) rfl (by omega) (zag_new h2 y39 (by omega) upN_s (fun j hj => by rw [upN_n (by omega), upN_n (by omega)])) _ _ _ hW (lv_sub hl [2, 3, 4, 5, 0] rfl)
  exact lp13 (ws - 0) P 0 0 0 oc ct rfl (Nat.zero_le _) (⟨rfl, rfl, lt_0, lt_0⟩) _ _ _ hW (lv_sub hl [1, 2, 3, 4, 0] rfl)
theorem dX2_seek_0 : decode cX2_seek 0 = .ok (.iload_n 2, 1) := by decide +kernel
theorem dX2_seek_1 : decode cX2_seek 1 = .ok (.invokestatic 39, 3) := by decide +kernel
theorem dX2_seek_4 : decode cX2_seek 4 = .ok (.istore_n 3, 1) := by decide +kernel
theorem dX2_seek_5 : decode cX2_seek 5 = .ok (.iconst 0, 1) := by decide +kernel
theorem dX2_seek_6 : decode cX2_seek 6 = .ok (.istore 4, 2) := by decide +kernel
theorem dX2_seek_8 : decode cX2_seek 8 = .ok (.iload 4, 2) := by decide +kernel
theorem dX2_seek_10 : decode cX2_seek 10 = .ok (.iload_n 3, 1) := by decide +kernel
theorem dX2_seek_11 : decode cX2_seek 11 = .ok (.if_icmp .ge 64, 3) := by decide +kernel
theorem dX2_seek_14 : decode cX2_seek 14 = .ok (.aload_n 0, 1) := by decide +kernel
theorem dX2_seek_15 : decode cX2_seek 15 = .ok (.iload_n 1, 1) := by decide +kernel
theorem dX2_seek_16 : decode cX2_seek 16 = .ok (.iload_n 2, 1) := by decide +kernel
theorem dX2_seek_17 : decode cX2_seek 17 = .ok (.iload 4, 2) := by decide +kernel
theorem dX2_seek_19 : decode cX2_seek 19 = .ok (.invokestatic 45, 3) := by decide +kernel
theorem dX2_seek_22 : decode cX2_seek 22 = .ok (.iload_n 2, 1) := by decide +kernel
theorem dX2_seek_23 : decode cX2_seek 23 = .ok (.iload 4, 2) := by decide +kernel
theorem dX2_seek_25 : decode cX2_seek 25 = .ok (.invokestatic 49, 3) := by decide +kernel
theorem dX2_seek_28 : decode cX2_seek 28 = .ok (.invokevirtual 52, 3) := by decide +kernel
theorem dX2_seek_31 : decode cX2_seek 31 = .ok (.iload 4, 2) := by decide +kernel
theorem dX2_seek_33 : decode cX2_seek 33 = .ok (.ifCond .eq 14, 3) := by decide +kernel
theorem dX2_seek_36 : decode cX2_seek 36 = .ok (.aload_n 0, 1) := by decide +kernel
theorem dX2_seek_37 : decode cX2_seek 37 = .ok (.getfield 19, 3) := by decide +kernel
theorem dX2_seek_40 : decode cX2_seek 40 = .ok (.aload_n 0, 1) := by decide +kernel
theorem dX2_seek_41 : decode cX2_seek 41 = .ok (.getfield 29, 3) := by decide +kernel
theorem dX2_seek_44 : decode cX2_seek 44 = .ok (.if_icmp .ge 25, 3) := by decide +kernel
theorem dX2_seek_47 : decode cX2_seek 47 = .ok (.aload_n 0, 1) := by decide +kernel
theorem dX2_seek_48 : decode cX2_seek 48 = .ok (.iload 4, 2) := by decide +kernel
theorem dX2_seek_50 : decode cX2_seek 50 = .ok (.putfield 26, 3) := by decide +kernel
theorem dX2_seek_53 : decode cX2_seek 53 = .ok (.aload_n 0, 1) := by decide +kernel
theorem dX2_seek_54 : decode cX2_seek 54 = .ok (.aload_n 0, 1) := by decide +kernel
theorem dX2_seek_55 : decode cX2_seek 55 = .ok (.getfield 19, 3) := by decide +kernel
theorem dX2_seek_58 : decode cX2_seek 58 = .ok (.putfield 29, 3) := by decide +kernel
theorem dX2_seek_61 : decode cX2_seek 61 = .ok (.aload_n 0, 1) := by decide +kernel
theorem dX2_seek_62 : decode cX2_seek 62 = .ok (.aload_n 0, 1) := by decide +kernel
theorem dX2_seek_63 : decode cX2_seek 63 = .ok (.getfield 23, 3) := by decide +kernel
theorem dX2_seek_66 : decode cX2_seek 66 = .ok (.putfield 32, 3) := by decide +kernel
theorem dX2_seek_69 : decode cX2_seek 69 = .ok (.iinc 4 1, 3) := by decide +kernel
theorem dX2_seek_72 : decode cX2_seek 72 = .ok (.goto (-64), 3) := by decide +kernel
theorem dX2_seek_75 : decode cX2_seek 75 = .ok (.return_, 1) := by decide +kernel
set_option maxHeartbeats 4000000 in
set_option maxRecDepth 100000 in
theorem c_X2_seek (l : Launch) (G : XG) (M : XM) (P : XP) (sc : Nat) (wy wm pk : Nat → Nat) (mh uh pl mo un : Nat) (oc : Nat → Int64) (ct : Nat → Nat) (n aa ac : Nat) (ra : Nat → Nat) (o : Nat → Int32 → Int32 → Int64) (zf zs : Nat → Int32) (zd : Nat → Int64) (hV : xV M n aa ac ra o zf zs zd) (ws : Nat) (hws : ws ≤ 240) (hpk : ∀ i, i < ws → zok n aa ra (pk i) = true ∧ pk i < 1200) (t : Nat) (ht : t < 1000) : Met l yX2_seek (wC yX2_seek cX2_seek 5 none) (rmD 4) (xPc G [.ref (xga G 4), .int (nI ws), .int (nI t)] M P (sc, wy, wm, pk) (mh, uh, pl, mo, un, oc, ct)) (va_Qv (fun u => ∃ (P2 : XP) (mh2 uh2 : Nat) (oc2 : Nat → Int64) (ct2 : Nat → Nat), u = (M, P2, (sc, wy, wm, pk), (mh2, uh2, (zbs (zgp o pk ws t) (wN t)).1, (zbs (zgp o pk ws t) (wN t)).2.1, (zbs (zgp o pk ws t) (wN t)).2.2, oc2, ct2))) (xB G) (xA G)) 0 0 (xA G) := by
  refine xst "DoFinder$Parting" (by decide) rfl (Nat.le_of_ble_eq_true rfl) ?_
  intro p e s m args below meth c ls F hr hlk hW hl
  have hl : lv_has ls 5 [(0, .ref (xga G 4)), (1, .int (nI ws)), (2, .int (nI t))] := hl
  have hW : xW G s s.heap s.heap [] M P (sc, wy, wm, pk) (mh, uh, pl, mo, un, oc, ct) := hW
  have w9 := wN_le t
  have w8 : 0 < wN t := by unfold wN; split <;> omega
  refine lv_iload_n F.1 F.2.1 dX2_seek_0 rfl (lv_at hl 2 rfl) ?_
  refine pca (As := [.int (nI t)]) (rest := []) F (c_X6_size l t (by omega)) (xcwS F.2.2.2.2 ca_X6_size tm_439 rfl rfl ⟨by decide, by decide⟩) rfl hl.1 rfl (Nat.le_of_ble_eq_true rfl) dX2_seek_1 (fun r1 hr1 => ?_)
  subst hr1
  refine lv_istore_n (lv' := [(3, .int (nI (wN t))), (0, .ref (xga G 4)), (1, .int (nI ws)), (2, .int (nI t))]) F.1 F.2.1 dX2_seek_4 rfl hl (by decide) rfl (fun ls hl => ?_)
  refine lv_iconst (v := nI 0) F.1 F.2.1 dX2_seek_5 (by decide) ?_
  refine lv_istore (lv' := [(4, .int (nI 0)), (3, .int (nI (wN t))), (0, .ref (xga G 4)), (1, .int (nI ws)), (2, .int (nI t))]) F.1 F.2.1 dX2_seek_6 hl (by decide) rfl (fun ls hl => ?_)
  have lp8 : ∀ (k8 : Nat) (Pk : XP) (k : Nat) (mh1 : Nat) (uh1 : Nat) (pl1 : Nat) (mo1 : Nat) (un1 : Nat) (oc1 : Nat → Int64) (ct1 : Nat → Nat), wN t - k = k8 → (k ≤ wN t) → (0 < k → pl1 = (zbs (zgp o pk ws t) k).1 ∧ mo1 = (zbs (zgp o pk ws t) k).2.1 ∧ un1 = (zbs (zgp o pk ws t) k).2.2) → ∀ (H : Heap) (locs : List Loc) (ls : Array Slot), xW G s s.heap H locs M Pk (sc, wy, wm, pk) (mh1, uh1, pl1, mo1, un1, oc1, ct1) →  lv_has ls 5 [(0, .ref (xga G 4)), (1, .int (nI ws)), (2, .int (nI t)), (3, .int (nI (wN t))), (4, .int (nI k))] → W p l e (rmD 4) s m args below meth c H locs 0 0 (MQ below (va_Qv (fun u => ∃ (P2 : XP) (mh2 uh2 : Nat) (oc2 : Nat → Int64) (ct2 : Nat → Nat), u = (M, P2, (sc, wy, wm, pk), (mh2, uh2, (zbs (zgp o pk ws t) (wN t)).1, (zbs (zgp o pk ws t) (wN t)).2.1, (zbs (zgp o pk ws t) (wN t)).2.2, oc2, ct2))) (xB G) (xA G)) args s 0 0 (xA G)) (F0 m 8 ls []) := by
    intro k8
    induction k8 using Nat.strongRecOn with
    | ind k8 ih8 =>
      intro Pk k mh1 uh1 pl1 mo1 un1 oc1 ct1 hk8 h1 h2 H locs ls hW hl
      have zl := zgp_le o pk ws t k
      have zm := zbs_le2 (fun i => zgp_le o pk ws t i) k
      have zg1 : (zgp o pk ws t k).1 = (zta (fun i => zjo o (pk i) (wA t k) (wB t k)) ws).1 := rfl
      have zg2 : (zgp o pk ws t k).2 = (zta (fun i => zjo o (pk i) (wA t k) (wB t k)) ws).2.1 := rfl
      refine lv_iload F.1 F.2.1 dX2_seek_8 (lv_at hl 4 rfl) ?_
      refine lv_iload_n F.1 F.2.1 dX2_seek_10 rfl (lv_at hl 3 rfl) ?_
      refine lv_icmp_ge (tgt := 75) F.1 F.2.1 dX2_seek_11 (by decide) (fun c11 => ?_) (fun c11 => ?_)
      · have c11 := ci_le (a := (((wN t) : Nat) : Int)) (b := ((k : Nat) : Int)) (nI_toInt (by omega)) (nI_toInt (by omega)) c11
        refine xre_v F hr hlk hW dX2_seek_75 ?_
        have h3 := h2 (by omega)
        rw [show k = wN t by omega] at h3
        exact ⟨_, _, _, _, _, by rw [← h3.1, ← h3.2.1, ← h3.2.2]⟩
      · have c11 := ci_nle (a := (((wN t) : Nat) : Int)) (b := ((k : Nat) : Int)) (nI_toInt (by omega)) (nI_toInt (by omega)) c11
        refine lv_aload_n F.1 F.2.1 dX2_seek_14 rfl (lv_at hl 0 rfl) ?_
        refine lv_iload_n F.1 F.2.1 dX2_seek_15 rfl (lv_at hl 1 rfl) ?_
        refine lv_iload_n F.1 F.2.1 dX2_seek_16 rfl (lv_at hl 2 rfl) ?_
        refine lv_iload F.1 F.2.1 dX2_seek_17 (lv_at hl 4 rfl) ?_
        refine pca (As := [.int (nI t), .int (nI k)]) (rest := [.int (nI ws), .ref (xga G 4)]) F (c_X6_firstAt l t k (by omega) (by omega)) (xcwS F.2.2.2.2 ca_X6_firstAt tm_442 rfl rfl ⟨by decide, by decide⟩) rfl hl.1 rfl (Nat.le_of_ble_eq_true rfl) dX2_seek_19 (fun r19 hr19 => ?_)
        subst hr19
        refine lv_iload_n F.1 F.2.1 dX2_seek_22 rfl (lv_at hl 2 rfl) ?_
        refine lv_iload F.1 F.2.1 dX2_seek_23 (lv_at hl 4 rfl) ?_
        refine pca (As := [.int (nI t), .int (nI k)]) (rest := [.int (wA t k), .int (nI ws), .ref (xga G 4)]) F (c_X6_secondAt l t k (by omega) (by omega)) (xcwS F.2.2.2.2 ca_X6_secondAt tm_443 rfl rfl ⟨by decide, by decide⟩) rfl hl.1 rfl (Nat.le_of_ble_eq_true rfl) dX2_seek_25 (fun r25 hr25 => ?_)
        subst hr25
        refine xca_v (b := (xga G 4)) (As := [.int (nI ws), .int (wA t k), .int (wB t k)]) (rest := []) F (c_X2_tally l G M Pk sc wy wm pk mh1 uh1 pl1 mo1 un1 oc1 ct1 n aa ac ra o zf zs zd hV ws (by omega) hpk (wA t k) (wB t k)) (xcw F.2.2.2.2 ca_X2_tally tm_444 rfl rfl ⟨by decide, by decide⟩) (xr_X2 hW) hW rfl hl.1 rfl (Nat.le_of_ble_eq_true rfl) dX2_seek_28 (fun u28 H locs hp28 hW => ?_)
        obtain ⟨P28, oc28, ct28, rfl⟩ := hp28
        have hW : xW G s s.heap H locs M P28 (sc, wy, wm, pk) ((zta (fun i => zjo o (pk i) (wA t k) (wB t k)) ws).1, (zta (fun i => zjo o (pk i) (wA t k) (wB t k)) ws).2.1, pl1, mo1, un1, oc28, ct28) := hW
        refine lv_iload F.1 F.2.1 dX2_seek_31 (lv_at hl 4 rfl) ?_
        refine lv_if_eq (tgt := 47) F.1 F.2.1 dX2_seek_33 (by decide) (fun c33 => ?_) (fun c33 => ?_)
        · have c33 := ci_eq (a := ((k : Nat) : Int)) (b := 0) (nI_toInt (by omega)) ci_0 c33
          skip
          refine lv_aload_n F.1 F.2.1 dX2_seek_47 rfl (lv_at hl 0 rfl) ?_
          refine lv_iload F.1 F.2.1 dX2_seek_48 (lv_at hl 4 rfl) ?_
          refine xp_Parting_place (k := k) F hW tm_156 rfl dX2_seek_50 (fun H locs hW => ?_)
          have hW : xW G s s.heap H locs M P28 (sc, wy, wm, pk) ((zta (fun i => zjo o (pk i) (wA t k) (wB t k)) ws).1, (zta (fun i => zjo o (pk i) (wA t k) (wB t k)) ws).2.1, k, mo1, un1, oc28, ct28) := hW
          refine lv_aload_n F.1 F.2.1 dX2_seek_53 rfl (lv_at hl 0 rfl) ?_
          refine lv_aload_n F.1 F.2.1 dX2_seek_54 rfl (lv_at hl 0 rfl) ?_
          refine xg_Parting_mostHere F hW tm_154 dX2_seek_55 ?_
          refine xp_Parting_most (k := ((zta (fun i => zjo o (pk i) (wA t k) (wB t k)) ws).1)) F hW tm_158 rfl dX2_seek_58 (fun H locs hW => ?_)
          have hW : xW G s s.heap H locs M P28 (sc, wy, wm, pk) ((zta (fun i => zjo o (pk i) (wA t k) (wB t k)) ws).1, (zta (fun i => zjo o (pk i) (wA t k) (wB t k)) ws).2.1, k, (zta (fun i => zjo o (pk i) (wA t k) (wB t k)) ws).1, un1, oc28, ct28) := hW
          refine lv_aload_n F.1 F.2.1 dX2_seek_61 rfl (lv_at hl 0 rfl) ?_
          refine lv_aload_n F.1 F.2.1 dX2_seek_62 rfl (lv_at hl 0 rfl) ?_
          refine xg_Parting_unlikeHere F hW tm_155 dX2_seek_63 ?_
          refine xp_Parting_unlike (k := ((zta (fun i => zjo o (pk i) (wA t k) (wB t k)) ws).2.1)) F hW tm_160 rfl dX2_seek_66 (fun H locs hW => ?_)
          have hW : xW G s s.heap H locs M P28 (sc, wy, wm, pk) ((zta (fun i => zjo o (pk i) (wA t k) (wB t k)) ws).1, (zta (fun i => zjo o (pk i) (wA t k) (wB t k)) ws).2.1, k, (zta (fun i => zjo o (pk i) (wA t k) (wB t k)) ws).1, (zta (fun i => zjo o (pk i) (wA t k) (wB t k)) ws).2.1, oc28, ct28) := hW
          refine lv_iinc (v := nI (k + 1)) (lv' := [(4, .int (nI (k + 1))), (0, .ref (xga G 4)), (1, .int (nI ws)), (2, .int (nI t)), (3, .int (nI (wN t)))]) F.1 F.2.1 dX2_seek_69 hl (k := 4) rfl (nI_add _ 1) (by decide) rfl (fun ls hl => ?_)
          refine lv_goto (tgt := 8) F.1 F.2.1 dX2_seek_72 (by decide) ?_
          exact ih8 (wN t - (k + 1)) (by omega) P28 (k + 1) ((zta (fun i => zjo o (pk i) (wA t k) (wB t k)) ws).1) ((zta (fun i => zjo o (pk i) (wA t k) (wB t k)) ws).2.1) k ((zta (fun i => zjo o (pk i) (wA t k) (wB t k)) ws).1) ((zta (fun i => zjo o (pk i) (wA t k) (wB t k)) ws).2.1) oc28 ct28 rfl (by omega) (fun _ => by rw [zbs_t (by omega)]; exact ⟨rfl, rfl, rfl⟩) _ _ _ hW (lv_sub hl [1, 2, 3, 4, 0] rfl)
        · have c33 := ci_ne (a := ((k : Nat) : Int)) (b := 0) (nI_toInt (by omega)) ci_0 c33
          have h3 := h2 (by omega)
          refine lv_aload_n F.1 F.2.1 dX2_seek_36 rfl (lv_at hl 0 rfl) ?_
          refine xg_Parting_mostHere F hW tm_154 dX2_seek_37 ?_
          refine lv_aload_n F.1 F.2.1 dX2_seek_40 rfl (lv_at hl 0 rfl) ?_
          refine xg_Parting_most F hW tm_158 dX2_seek_41 ?_
          refine lv_icmp_ge (tgt := 69) F.1 F.2.1 dX2_seek_44 (by decide) (fun c44 => ?_) (fun c44 => ?_)
          · have c44 := ci_le (a := ((mo1 : Nat) : Int)) (b := (((zta (fun i => zjo o (pk i) (wA t k) (wB t k)) ws).1 : Nat) : Int)) (nI_toInt (by omega)) (nI_toInt (by omega)) c44
            skip
            refine lv_iinc (v := nI (k + 1)) (lv' := [(4, .int (nI (k + 1))), (0, .ref (xga G 4)), (1, .int (nI ws)), (2, .int (nI t)), (3, .int (nI (wN t)))]) F.1 F.2.1 dX2_seek_69 hl (k := 4) rfl (nI_add _ 1) (by decide) rfl (fun ls hl => ?_)
            refine lv_goto (tgt := 8) F.1 F.2.1 dX2_seek_72 (by decide) ?_
            exact ih8 (wN t - (k + 1)) (by omega) P28 (k + 1) ((zta (fun i => zjo o (pk i) (wA t k) (wB t k)) ws).1) ((zta (fun i => zjo o (pk i) (wA t k) (wB t k)) ws).2.1) pl1 mo1 un1 oc28 ct28 rfl (by omega) (fun _ => by rw [zbs_f (by omega)]; exact h2 (by omega)) _ _ _ hW (lv_sub hl [1, 2, 3, 4, 0] rfl)
          · have c44 := ci_nle (a := ((mo1 : Nat) : Int)) (b := (((zta (fun i => zjo o (pk i) (wA t k) (wB t k)) ws).1 : Nat) : Int)) (nI_toInt (by omega)) (nI_toInt (by omega)) c44
            skip
            refine lv_aload_n F.1 F.2.1 dX2_seek_47 rfl (lv_at hl 0 rfl) ?_
            refine lv_iload F.1 F.2.1 dX2_seek_48 (lv_at hl 4 rfl) ?_
            refine xp_Parting_place (k := k) F hW tm_156 rfl dX2_seek_50 (fun H locs hW => ?_)
            have hW : xW G s s.heap H locs M P28 (sc, wy, wm, pk) ((zta (fun i => zjo o (pk i) (wA t k) (wB t k)) ws).1, (zta (fun i => zjo o (pk i) (wA t k) (wB t k)) ws).2.1, k, mo1, un1, oc28, ct28) := hW
            refine lv_aload_n F.1 F.2.1 dX2_seek_53 rfl (lv_at hl 0 rfl) ?_
            refine lv_aload_n F.1 F.2.1 dX2_seek_54 rfl (lv_at hl 0 rfl) ?_
            refine xg_Parting_mostHere F hW tm_154 dX2_seek_55 ?_
            refine xp_Parting_most (k := ((zta (fun i => zjo o (pk i) (wA t k) (wB t k)) ws).1)) F hW tm_158 rfl dX2_seek_58 (fun H locs hW => ?_)
            have hW : xW G s s.heap H locs M P28 (sc, wy, wm, pk) ((zta (fun i => zjo o (pk i) (wA t k) (wB t k)) ws).1, (zta (fun i => zjo o (pk i) (wA t k) (wB t k)) ws).2.1, k, (zta (fun i => zjo o (pk i) (wA t k) (wB t k)) ws).1, un1, oc28, ct28) := hW
            refine lv_aload_n F.1 F.2.1 dX2_seek_61 rfl (lv_at hl 0 rfl) ?_
            refine lv_aload_n F.1 F.2.1 dX2_seek_62 rfl (lv_at hl 0 rfl) ?_
            refine xg_Parting_unlikeHere F hW tm_155 dX2_seek_63 ?_
            refine xp_Parting_unlike (k := ((zta (fun i => zjo o (pk i) (wA t k) (wB t k)) ws).2.1)) F hW tm_160 rfl dX2_seek_66 (fun H locs hW => ?_)
            have hW : xW G s s.heap H locs M P28 (sc, wy, wm, pk) ((zta (fun i => zjo o (pk i) (wA t k) (wB t k)) ws).1, (zta (fun i => zjo o (pk i) (wA t k) (wB t k)) ws).2.1, k, (zta (fun i => zjo o (pk i) (wA t k) (wB t k)) ws).1, (zta (fun i => zjo o (pk i) (wA t k) (wB t k)) ws).2.1, oc28, ct28) := hW
            refine lv_iinc (v := nI (k + 1)) (lv' := [(4, .int (nI (k + 1))), (0, .ref (xga G 4)), (1, .int (nI ws)), (2, .int (nI t)), (3, .int (nI (wN t)))]) F.1 F.2.1 dX2_seek_69 hl (k := 4) rfl (nI_add _ 1) (by decide) rfl (fun ls hl => ?_)
            refine lv_goto (tgt := 8) F.1 F.2.1 dX2_seek_72 (by decide) ?_
            exact ih8 (wN t - (k + 1)) (by omega) P28 (k + 1) ((zta (fun i => zjo o (pk i) (wA t k) (wB t k)) ws).1) ((zta (fun i => zjo o (pk i) (wA t k) (wB t k)) ws).2.1) k ((zta (fun i => zjo o (pk i) (wA t k) (wB t k)) ws).1) ((zta (fun i => zjo o (pk i) (wA t k) (wB t k)) ws).2.1) oc28 ct28 rfl (by omega) (fun _ => by rw [zbs_t (by omega)]; exact ⟨rfl, rfl, rfl⟩) _ _ _ hW (lv_sub hl [1, 2, 3, 4, 0] rfl)
  exact lp8 (wN t - 0) P 0 mh uh pl mo un oc ct rfl (Nat.zero_le _) (fun q => absurd q (Nat.lt_irrefl _)) _ _ _ hW (lv_sub hl [2, 3, 4, 1, 0] rfl)
