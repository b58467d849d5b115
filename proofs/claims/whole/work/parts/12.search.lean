theorem zj_le (o : Nat → Int32 → Int32 → Int64) (zf zs : Nat → Int32) (zd : Nat → Int64) (w k : Nat) : zj o zf zs zd w k ≤ 2 := by
  unfold zj; repeat' split
  all_goals omega
theorem zcnt_pos {p : Nat → Bool} {k i : Nat} (h : p i = true) (hi : i < k) : 0 < zcnt p k := by
  have h1 := zcnt_t h
  have h2 := zcnt_mono p (show i + 1 ≤ k by omega)
  omega
theorem zst_0 {o : Nat → Int32 → Int32 → Int64} {zf zs : Nat → Int32} {zd : Nat → Int64} {ac w : Nat} (h : zst o zf zs zd ac w = 0) : ∀ i, i < ac → zj o zf zs zd w i = 0 := by
  intro i hi
  have hl := zj_le o zf zs zd w i
  rcases (show zj o zf zs zd w i = 0 ∨ zj o zf zs zd w i = 1 ∨ zj o zf zs zd w i = 2 by omega) with q | q | q
  · exact q
  · have : 0 < zdo o zf zs zd ac w := zcnt_pos (p := fun k => decide (zj o zf zs zd w k = 1)) (decide_eq_true q) hi
    unfold zst at h
    rw [if_pos this] at h
    split at h <;> omega
  · have : 0 < zmi o zf zs zd ac w := zcnt_pos (p := fun k => decide (zj o zf zs zd w k = 2)) (decide_eq_true q) hi
    unfold zst at h
    rw [if_pos this] at h
    omega
theorem zst_n2 {o : Nat → Int32 → Int32 → Int64} {zf zs : Nat → Int32} {zd : Nat → Int64} {ac w : Nat} (h : zst o zf zs zd ac w ≠ 2) : ∀ i, i < ac → zj o zf zs zd w i ≠ 2 := by
  intro i hi q
  have : 0 < zmi o zf zs zd ac w := zcnt_pos (p := fun k => decide (zj o zf zs zd w k = 2)) (decide_eq_true q) hi
  unfold zst at h
  rw [if_pos this] at h
  omega
theorem dX5_fits_0 : decode cX5_fits 0 = .ok (.aload_n 0, 1) := by decide +kernel
theorem dX5_fits_1 : decode cX5_fits 1 = .ok (.getfield 29, 3) := by decide +kernel
theorem dX5_fits_4 : decode cX5_fits 4 = .ok (.getfield 58, 3) := by decide +kernel
theorem dX5_fits_7 : decode cX5_fits 7 = .ok (.iconst 2, 1) := by decide +kernel
theorem dX5_fits_8 : decode cX5_fits 8 = .ok (.if_icmp .ne 18, 3) := by decide +kernel
theorem dX5_fits_11 : decode cX5_fits 11 = .ok (.iload_n 1, 1) := by decide +kernel
theorem dX5_fits_12 : decode cX5_fits 12 = .ok (.ifCond .eq 8, 3) := by decide +kernel
theorem dX5_fits_15 : decode cX5_fits 15 = .ok (.iload_n 1, 1) := by decide +kernel
theorem dX5_fits_16 : decode cX5_fits 16 = .ok (.iconst 1, 1) := by decide +kernel
theorem dX5_fits_17 : decode cX5_fits 17 = .ok (.if_icmp .ne 7, 3) := by decide +kernel
theorem dX5_fits_20 : decode cX5_fits 20 = .ok (.iconst 1, 1) := by decide +kernel
theorem dX5_fits_21 : decode cX5_fits 21 = .ok (.goto 4, 3) := by decide +kernel
theorem dX5_fits_24 : decode cX5_fits 24 = .ok (.iconst 0, 1) := by decide +kernel
theorem dX5_fits_25 : decode cX5_fits 25 = .ok (.ireturn, 1) := by decide +kernel
theorem dX5_fits_26 : decode cX5_fits 26 = .ok (.iload_n 2, 1) := by decide +kernel
theorem dX5_fits_27 : decode cX5_fits 27 = .ok (.iconst 1, 1) := by decide +kernel
theorem dX5_fits_28 : decode cX5_fits 28 = .ok (.if_icmp .ne 15, 3) := by decide +kernel
theorem dX5_fits_31 : decode cX5_fits 31 = .ok (.iload_n 1, 1) := by decide +kernel
theorem dX5_fits_32 : decode cX5_fits 32 = .ok (.ifCond .ne 7, 3) := by decide +kernel
theorem dX5_fits_35 : decode cX5_fits 35 = .ok (.iconst 1, 1) := by decide +kernel
theorem dX5_fits_36 : decode cX5_fits 36 = .ok (.goto 24, 3) := by decide +kernel
theorem dX5_fits_39 : decode cX5_fits 39 = .ok (.iconst 0, 1) := by decide +kernel
theorem dX5_fits_40 : decode cX5_fits 40 = .ok (.goto 20, 3) := by decide +kernel
theorem dX5_fits_43 : decode cX5_fits 43 = .ok (.iload_n 1, 1) := by decide +kernel
theorem dX5_fits_44 : decode cX5_fits 44 = .ok (.bipush 10, 2) := by decide +kernel
theorem dX5_fits_46 : decode cX5_fits 46 = .ok (.if_icmp .lt 13, 3) := by decide +kernel
theorem dX5_fits_49 : decode cX5_fits 49 = .ok (.iload_n 1, 1) := by decide +kernel
theorem dX5_fits_50 : decode cX5_fits 50 = .ok (.bipush 30, 2) := by decide +kernel
theorem dX5_fits_52 : decode cX5_fits 52 = .ok (.if_icmp .ge 7, 3) := by decide +kernel
theorem dX5_fits_55 : decode cX5_fits 55 = .ok (.iconst 1, 1) := by decide +kernel
theorem dX5_fits_56 : decode cX5_fits 56 = .ok (.goto 4, 3) := by decide +kernel
theorem dX5_fits_59 : decode cX5_fits 59 = .ok (.iconst 0, 1) := by decide +kernel
theorem dX5_fits_60 : decode cX5_fits 60 = .ok (.ireturn, 1) := by decide +kernel
set_option maxHeartbeats 4000000 in
set_option maxRecDepth 100000 in
theorem c_X5_fits (l : Launch) (G : XG) (M : XM) (P : XP) (S : XS) (V : XV) (n aa ac : Nat) (ra : Nat → Nat) (o : Nat → Int32 → Int32 → Int64) (zf zs : Nat → Int32) (zd : Nat → Int64) (hV : xV M n aa ac ra o zf zs zd) (w t : Nat) (hw : w < 1000) (ht : t < 1000) : Met l yX5_fits (wC yX5_fits cX5_fits 3 (some .boolean)) (rmD 0) (xPc G [.ref (xga G 3), .int (nI w), .int (nI t)] M P S V) (va_Qi (fun r u => yn r (zfit aa t w) ∧ u = (M, P, S, V)) (xB G) (xA G)) 0 0 (xA G) := by
  refine xst "DoFinder$Search" (by decide) rfl (Nat.le_of_ble_eq_true rfl) ?_
  intro p e s m args below meth c ls F hr hlk hW hl
  have hl : lv_has ls 3 [(0, .ref (xga G 3)), (1, .int (nI w)), (2, .int (nI t))] := hl
  have hW : xW G s s.heap s.heap [] M P S V := hW
  obtain ⟨en, ea, ec, era, eo, ef, es, ed, bn, ba, bc, bf, brc, bra, bd⟩ := id hV
  refine lv_aload_n F.1 F.2.1 dX5_fits_0 rfl (lv_at hl 0 rfl) ?_
  refine xg_Search_asked F hW tm_127 dX5_fits_1 ?_
  refine xg_Ask_arguments F hW tm_106 dX5_fits_4 ?_
  refine lv_iconst (v := nI 2) F.1 F.2.1 dX5_fits_7 (by decide) ?_
  refine lv_icmp_ne (tgt := 26) F.1 F.2.1 dX5_fits_8 (by decide) (fun c8 => ?_) (fun c8 => ?_)
  · have c8 := ci_ne (a := ((M.2.2.2.2.2.2.1 : Nat) : Int)) (b := 2) (nI_toInt (by omega)) (by decide) c8
    refine lv_iload_n F.1 F.2.1 dX5_fits_26 rfl (lv_at hl 2 rfl) ?_
    refine lv_iconst (v := nI 1) F.1 F.2.1 dX5_fits_27 (by decide) ?_
    refine lv_icmp_ne (tgt := 43) F.1 F.2.1 dX5_fits_28 (by decide) (fun c28 => ?_) (fun c28 => ?_)
    · have c28 := ci_ne (a := ((t : Nat) : Int)) (b := 1) (nI_toInt (by omega)) (by decide) c28
      refine lv_iload_n F.1 F.2.1 dX5_fits_43 rfl (lv_at hl 1 rfl) ?_
      refine lv_bipush (v := nI 10) F.1 F.2.1 dX5_fits_44 (by decide) ?_
      refine lv_icmp_lt (tgt := 59) F.1 F.2.1 dX5_fits_46 (by decide) (fun c46 => ?_) (fun c46 => ?_)
      · have c46 := ci_lt (a := ((w : Nat) : Int)) (b := 10) (nI_toInt (by omega)) (by decide) c46
        refine lv_iconst (v := nI 0) F.1 F.2.1 dX5_fits_59 (by decide) ?_
        refine xre_z F hr hlk hW (by decide) dX5_fits_60 ?_
        exact ⟨by first | exact yn_1 (by unfold zfit; omega) | exact yn_0 (by unfold zfit; omega), rfl⟩
      · have c46 := ci_nlt (a := ((w : Nat) : Int)) (b := 10) (nI_toInt (by omega)) (by decide) c46
        refine lv_iload_n F.1 F.2.1 dX5_fits_49 rfl (lv_at hl 1 rfl) ?_
        refine lv_bipush (v := nI 30) F.1 F.2.1 dX5_fits_50 (by decide) ?_
        refine lv_icmp_ge (tgt := 59) F.1 F.2.1 dX5_fits_52 (by decide) (fun c52 => ?_) (fun c52 => ?_)
        · have c52 := ci_le (a := 30) (b := ((w : Nat) : Int)) (by decide) (nI_toInt (by omega)) c52
          refine lv_iconst (v := nI 0) F.1 F.2.1 dX5_fits_59 (by decide) ?_
          refine xre_z F hr hlk hW (by decide) dX5_fits_60 ?_
          exact ⟨by first | exact yn_1 (by unfold zfit; omega) | exact yn_0 (by unfold zfit; omega), rfl⟩
        · have c52 := ci_nle (a := 30) (b := ((w : Nat) : Int)) (by decide) (nI_toInt (by omega)) c52
          refine lv_iconst (v := nI 1) F.1 F.2.1 dX5_fits_55 (by decide) ?_
          refine lv_goto (tgt := 60) F.1 F.2.1 dX5_fits_56 (by decide) ?_
          refine xre_z F hr hlk hW (by decide) dX5_fits_60 ?_
          exact ⟨by first | exact yn_1 (by unfold zfit; omega) | exact yn_0 (by unfold zfit; omega), rfl⟩
    · have c28 := ci_eq (a := ((t : Nat) : Int)) (b := 1) (nI_toInt (by omega)) (by decide) c28
      refine lv_iload_n F.1 F.2.1 dX5_fits_31 rfl (lv_at hl 1 rfl) ?_
      refine lv_if_ne (tgt := 39) F.1 F.2.1 dX5_fits_32 (by decide) (fun c32 => ?_) (fun c32 => ?_)
      · have c32 := ci_ne (a := ((w : Nat) : Int)) (b := 0) (nI_toInt (by omega)) ci_0 c32
        refine lv_iconst (v := nI 0) F.1 F.2.1 dX5_fits_39 (by decide) ?_
        refine lv_goto (tgt := 60) F.1 F.2.1 dX5_fits_40 (by decide) ?_
        refine xre_z F hr hlk hW (by decide) dX5_fits_60 ?_
        exact ⟨by first | exact yn_1 (by unfold zfit; omega) | exact yn_0 (by unfold zfit; omega), rfl⟩
      · have c32 := ci_eq (a := ((w : Nat) : Int)) (b := 0) (nI_toInt (by omega)) ci_0 c32
        refine lv_iconst (v := nI 1) F.1 F.2.1 dX5_fits_35 (by decide) ?_
        refine lv_goto (tgt := 60) F.1 F.2.1 dX5_fits_36 (by decide) ?_
        refine xre_z F hr hlk hW (by decide) dX5_fits_60 ?_
        exact ⟨by first | exact yn_1 (by unfold zfit; omega) | exact yn_0 (by unfold zfit; omega), rfl⟩
  · have c8 := ci_eq (a := ((M.2.2.2.2.2.2.1 : Nat) : Int)) (b := 2) (nI_toInt (by omega)) (by decide) c8
    refine lv_iload_n F.1 F.2.1 dX5_fits_11 rfl (lv_at hl 1 rfl) ?_
    refine lv_if_eq (tgt := 20) F.1 F.2.1 dX5_fits_12 (by decide) (fun c12 => ?_) (fun c12 => ?_)
    · have c12 := ci_eq (a := ((w : Nat) : Int)) (b := 0) (nI_toInt (by omega)) ci_0 c12
      refine lv_iconst (v := nI 1) F.1 F.2.1 dX5_fits_20 (by decide) ?_
      refine lv_goto (tgt := 25) F.1 F.2.1 dX5_fits_21 (by decide) ?_
      refine xre_z F hr hlk hW (by decide) dX5_fits_25 ?_
      exact ⟨by first | exact yn_1 (by unfold zfit; omega) | exact yn_0 (by unfold zfit; omega), rfl⟩
    · have c12 := ci_ne (a := ((w : Nat) : Int)) (b := 0) (nI_toInt (by omega)) ci_0 c12
      refine lv_iload_n F.1 F.2.1 dX5_fits_15 rfl (lv_at hl 1 rfl) ?_
      refine lv_iconst (v := nI 1) F.1 F.2.1 dX5_fits_16 (by decide) ?_
      refine lv_icmp_ne (tgt := 24) F.1 F.2.1 dX5_fits_17 (by decide) (fun c17 => ?_) (fun c17 => ?_)
      · have c17 := ci_ne (a := ((w : Nat) : Int)) (b := 1) (nI_toInt (by omega)) (by decide) c17
        refine lv_iconst (v := nI 0) F.1 F.2.1 dX5_fits_24 (by decide) ?_
        refine xre_z F hr hlk hW (by decide) dX5_fits_25 ?_
        exact ⟨by first | exact yn_1 (by unfold zfit; omega) | exact yn_0 (by unfold zfit; omega), rfl⟩
      · have c17 := ci_eq (a := ((w : Nat) : Int)) (b := 1) (nI_toInt (by omega)) (by decide) c17
        refine lv_iconst (v := nI 1) F.1 F.2.1 dX5_fits_20 (by decide) ?_
        refine lv_goto (tgt := 25) F.1 F.2.1 dX5_fits_21 (by decide) ?_
        refine xre_z F hr hlk hW (by decide) dX5_fits_25 ?_
        exact ⟨by first | exact yn_1 (by unfold zfit; omega) | exact yn_0 (by unfold zfit; omega), rfl⟩
theorem dX5_isBehind_0 : decode cX5_isBehind 0 = .ok (.aload_n 0, 1) := by decide +kernel
theorem dX5_isBehind_1 : decode cX5_isBehind 1 = .ok (.getfield 25, 3) := by decide +kernel
theorem dX5_isBehind_4 : decode cX5_isBehind 4 = .ok (.iload_n 1, 1) := by decide +kernel
theorem dX5_isBehind_5 : decode cX5_isBehind 5 = .ok (.invokevirtual 40, 3) := by decide +kernel
theorem dX5_isBehind_8 : decode cX5_isBehind 8 = .ok (.ifCond .eq 23, 3) := by decide +kernel
theorem dX5_isBehind_11 : decode cX5_isBehind 11 = .ok (.aload_n 0, 1) := by decide +kernel
theorem dX5_isBehind_12 : decode cX5_isBehind 12 = .ok (.getfield 25, 3) := by decide +kernel
theorem dX5_isBehind_15 : decode cX5_isBehind 15 = .ok (.getfield 45, 3) := by decide +kernel
theorem dX5_isBehind_18 : decode cX5_isBehind 18 = .ok (.iload_n 1, 1) := by decide +kernel
theorem dX5_isBehind_19 : decode cX5_isBehind 19 = .ok (.aaload, 1) := by decide +kernel
theorem dX5_isBehind_20 : decode cX5_isBehind 20 = .ok (.getfield 49, 3) := by decide +kernel
theorem dX5_isBehind_23 : decode cX5_isBehind 23 = .ok (.iconst 1, 1) := by decide +kernel
theorem dX5_isBehind_24 : decode cX5_isBehind 24 = .ok (.if_icmp .ne 7, 3) := by decide +kernel
theorem dX5_isBehind_27 : decode cX5_isBehind 27 = .ok (.iconst 1, 1) := by decide +kernel
theorem dX5_isBehind_28 : decode cX5_isBehind 28 = .ok (.goto 4, 3) := by decide +kernel
theorem dX5_isBehind_31 : decode cX5_isBehind 31 = .ok (.iconst 0, 1) := by decide +kernel
theorem dX5_isBehind_32 : decode cX5_isBehind 32 = .ok (.ireturn, 1) := by decide +kernel
set_option maxHeartbeats 4000000 in
set_option maxRecDepth 100000 in
theorem c_X5_isBehind (l : Launch) (G : XG) (M : XM) (P : XP) (S : XS) (V : XV) (n aa ac : Nat) (ra : Nat → Nat) (o : Nat → Int32 → Int32 → Int64) (zf zs : Nat → Int32) (zd : Nat → Int64) (hV : xV M n aa ac ra o zf zs zd) (w : Nat) (hw : w < 2147483648) : Met l yX5_isBehind (wC yX5_isBehind cX5_isBehind 2 (some .boolean)) (rmD 1) (xPc G [.ref (xga G 3), .int (nI w)] M P S V) (va_Qi (fun r u => yn r (w < n ∧ ra w = 1) ∧ u = (M, P, S, V)) (xB G) (xA G)) 0 0 (xA G) := by
  refine xst "DoFinder$Search" (by decide) rfl (Nat.le_of_ble_eq_true rfl) ?_
  intro p e s m args below meth c ls F hr hlk hW hl
  have hl : lv_has ls 2 [(0, .ref (xga G 3)), (1, .int (nI w))] := hl
  have hW : xW G s s.heap s.heap [] M P S V := hW
  obtain ⟨en, ea, ec, era, eo, ef, es, ed, bn, ba, bc, bf, brc, bra, bd⟩ := id hV
  refine lv_aload_n F.1 F.2.1 dX5_isBehind_0 rfl (lv_at hl 0 rfl) ?_
  refine xg_Search_library F hW tm_126 dX5_isBehind_1 ?_
  refine lv_iload_n F.1 F.2.1 dX5_isBehind_4 rfl (lv_at hl 1 rfl) ?_
  refine xca_i (b := (xga G 1)) (As := [.int (nI w)]) (rest := []) F (c_X1_has l G M P S V (by omega) (nI w)) (xcw F.2.2.2.2 ca_X1_has tm_351 rfl rfl ⟨by decide, by decide⟩) (xr_X1 hW) hW rfl hl.1 rfl (Nat.le_of_ble_eq_true rfl) dX5_isBehind_5 (fun r5 u5 H locs hp5 hW => ?_)
  obtain ⟨hp5, rfl⟩ := hp5
  have hW : xW G s s.heap H locs M P S V := hW
  rcases hp5 with ⟨rfl, y5⟩ | ⟨rfl, y5⟩
  · skip
    rw [show (nI w).toInt = ((w : Nat) : Int) from nI_toInt (by omega)] at y5
    have q1 := bra w (by omega)
    have q2 := era w (by omega)
    refine lv_if_eq (tgt := 31) F.1 F.2.1 dX5_isBehind_8 (by decide) (fun q => absurd q (by decide)) (fun _ => ?_)
    refine lv_aload_n F.1 F.2.1 dX5_isBehind_11 rfl (lv_at hl 0 rfl) ?_
    refine xg_Search_library F hW tm_126 dX5_isBehind_12 ?_
    refine xg_Library_routines F hW tm_69 dX5_isBehind_15 ?_
    refine lv_iload_n F.1 F.2.1 dX5_isBehind_18 rfl (lv_at hl 1 rfl) ?_
    refine xl_ro (j := w) F hW rfl (by omega) dX5_isBehind_19 ?_
    refine xg_Routine_arguments F hW (j := w) (by omega) tm_31 dX5_isBehind_20 ?_
    refine lv_iconst (v := nI 1) F.1 F.2.1 dX5_isBehind_23 (by decide) ?_
    refine lv_icmp_ne (tgt := 31) F.1 F.2.1 dX5_isBehind_24 (by decide) (fun c24 => ?_) (fun c24 => ?_)
    · have c24 := ci_ne (a := ((M.2.2.2.1 w : Nat) : Int)) (b := 1) (nI_toInt (by omega)) (by decide) c24
      refine lv_iconst (v := nI 0) F.1 F.2.1 dX5_isBehind_31 (by decide) ?_
      refine xre_z F hr hlk hW (by decide) dX5_isBehind_32 ?_
      exact ⟨by first | exact yn_1 (by omega) | exact yn_0 (by omega), rfl⟩
    · have c24 := ci_eq (a := ((M.2.2.2.1 w : Nat) : Int)) (b := 1) (nI_toInt (by omega)) (by decide) c24
      refine lv_iconst (v := nI 1) F.1 F.2.1 dX5_isBehind_27 (by decide) ?_
      refine lv_goto (tgt := 32) F.1 F.2.1 dX5_isBehind_28 (by decide) ?_
      refine xre_z F hr hlk hW (by decide) dX5_isBehind_32 ?_
      exact ⟨by first | exact yn_1 (by omega) | exact yn_0 (by omega), rfl⟩
  · skip
    rw [show (nI w).toInt = ((w : Nat) : Int) from nI_toInt (by omega)] at y5
    refine lv_if_eq (tgt := 31) F.1 F.2.1 dX5_isBehind_8 (by decide) (fun _ => ?_) (fun q => absurd q (by decide))
    refine lv_iconst (v := nI 0) F.1 F.2.1 dX5_isBehind_31 (by decide) ?_
    refine xre_z F hr hlk hW (by decide) dX5_isBehind_32 ?_
    exact ⟨by first | exact yn_1 (by omega) | exact yn_0 (by omega), rfl⟩
theorem dX5_isWay_0 : decode cX5_isWay 0 = .ok (.iload_n 1, 1) := by decide +kernel
theorem dX5_isWay_1 : decode cX5_isWay 1 = .ok (.ifCond .ge 5, 3) := by decide +kernel
theorem dX5_isWay_4 : decode cX5_isWay 4 = .ok (.iconst 0, 1) := by decide +kernel
theorem dX5_isWay_5 : decode cX5_isWay 5 = .ok (.ireturn, 1) := by decide +kernel
theorem dX5_isWay_6 : decode cX5_isWay 6 = .ok (.iload_n 1, 1) := by decide +kernel
theorem dX5_isWay_7 : decode cX5_isWay 7 = .ok (.bipush 100, 2) := by decide +kernel
theorem dX5_isWay_9 : decode cX5_isWay 9 = .ok (.idiv, 1) := by decide +kernel
theorem dX5_isWay_10 : decode cX5_isWay 10 = .ok (.istore_n 2, 1) := by decide +kernel
theorem dX5_isWay_11 : decode cX5_isWay 11 = .ok (.aload_n 0, 1) := by decide +kernel
theorem dX5_isWay_12 : decode cX5_isWay 12 = .ok (.getfield 25, 3) := by decide +kernel
theorem dX5_isWay_15 : decode cX5_isWay 15 = .ok (.iload_n 2, 1) := by decide +kernel
theorem dX5_isWay_16 : decode cX5_isWay 16 = .ok (.invokevirtual 40, 3) := by decide +kernel
theorem dX5_isWay_19 : decode cX5_isWay 19 = .ok (.ifCond .eq 30, 3) := by decide +kernel
theorem dX5_isWay_22 : decode cX5_isWay 22 = .ok (.aload_n 0, 1) := by decide +kernel
theorem dX5_isWay_23 : decode cX5_isWay 23 = .ok (.iload_n 1, 1) := by decide +kernel
theorem dX5_isWay_24 : decode cX5_isWay 24 = .ok (.bipush 100, 2) := by decide +kernel
theorem dX5_isWay_26 : decode cX5_isWay 26 = .ok (.irem, 1) := by decide +kernel
theorem dX5_isWay_27 : decode cX5_isWay 27 = .ok (.aload_n 0, 1) := by decide +kernel
theorem dX5_isWay_28 : decode cX5_isWay 28 = .ok (.getfield 25, 3) := by decide +kernel
theorem dX5_isWay_31 : decode cX5_isWay 31 = .ok (.getfield 45, 3) := by decide +kernel
theorem dX5_isWay_34 : decode cX5_isWay 34 = .ok (.iload_n 2, 1) := by decide +kernel
theorem dX5_isWay_35 : decode cX5_isWay 35 = .ok (.aaload, 1) := by decide +kernel
theorem dX5_isWay_36 : decode cX5_isWay 36 = .ok (.getfield 49, 3) := by decide +kernel
theorem dX5_isWay_39 : decode cX5_isWay 39 = .ok (.invokevirtual 54, 3) := by decide +kernel
theorem dX5_isWay_42 : decode cX5_isWay 42 = .ok (.ifCond .eq 7, 3) := by decide +kernel
theorem dX5_isWay_45 : decode cX5_isWay 45 = .ok (.iconst 1, 1) := by decide +kernel
theorem dX5_isWay_46 : decode cX5_isWay 46 = .ok (.goto 4, 3) := by decide +kernel
theorem dX5_isWay_49 : decode cX5_isWay 49 = .ok (.iconst 0, 1) := by decide +kernel
theorem dX5_isWay_50 : decode cX5_isWay 50 = .ok (.ireturn, 1) := by decide +kernel
set_option maxHeartbeats 4000000 in
set_option maxRecDepth 100000 in
theorem c_X5_isWay (l : Launch) (G : XG) (M : XM) (P : XP) (S : XS) (V : XV) (n aa ac : Nat) (ra : Nat → Nat) (o : Nat → Int32 → Int32 → Int64) (zf zs : Nat → Int32) (zd : Nat → Int64) (hV : xV M n aa ac ra o zf zs zd) (w : Nat) (hw : w < 2147483648) : Met l yX5_isWay (wC yX5_isWay cX5_isWay 3 (some .boolean)) (rmD 1) (xPc G [.ref (xga G 3), .int (nI w)] M P S V) (va_Qi (fun r u => yn r (zway n aa ra w = true) ∧ u = (M, P, S, V)) (xB G) (xA G)) 0 0 (xA G) := by
  refine xst "DoFinder$Search" (by decide) rfl (Nat.le_of_ble_eq_true rfl) ?_
  intro p e s m args below meth c ls F hr hlk hW hl
  have hl : lv_has ls 3 [(0, .ref (xga G 3)), (1, .int (nI w))] := hl
  have hW : xW G s s.heap s.heap [] M P S V := hW
  obtain ⟨en, ea, ec, era, eo, ef, es, ed, bn, ba, bc, bf, brc, bra, bd⟩ := id hV
  refine lv_iload_n F.1 F.2.1 dX5_isWay_0 rfl (lv_at hl 1 rfl) ?_
  refine lv_if_ge (tgt := 6) F.1 F.2.1 dX5_isWay_1 (by decide) (fun c1 => ?_) (fun c1 => ?_)
  rotate_left
  · exfalso
    have c1 := ci_nle (a := 0) (b := ((w : Nat) : Int)) ci_0 (nI_toInt (by omega)) c1
    omega
  have c1 := ci_le (a := 0) (b := ((w : Nat) : Int)) ci_0 (nI_toInt (by omega)) c1
  refine lv_iload_n F.1 F.2.1 dX5_isWay_6 rfl (lv_at hl 1 rfl) ?_
  refine lv_bipush (v := nI 100) F.1 F.2.1 dX5_isWay_7 (by decide) ?_
  refine ax_div (z := nI (w / 100)) F (by decide) (pk_div (a := w) (d := 100) (by omega) (by omega) (by omega)) dX5_isWay_9 ?_
  refine lv_istore_n (lv' := [(2, .int (nI (w / 100))), (0, .ref (xga G 3)), (1, .int (nI w))]) F.1 F.2.1 dX5_isWay_10 rfl hl (by decide) rfl (fun ls hl => ?_)
  refine lv_aload_n F.1 F.2.1 dX5_isWay_11 rfl (lv_at hl 1 rfl) ?_
  refine xg_Search_library F hW tm_126 dX5_isWay_12 ?_
  refine lv_iload_n F.1 F.2.1 dX5_isWay_15 rfl (lv_at hl 0 rfl) ?_
  refine xca_i (b := (xga G 1)) (As := [.int (nI (w / 100))]) (rest := []) F (c_X1_has l G M P S V (by omega) (nI (w / 100))) (xcw F.2.2.2.2 ca_X1_has tm_351 rfl rfl ⟨by decide, by decide⟩) (xr_X1 hW) hW rfl hl.1 rfl (Nat.le_of_ble_eq_true rfl) dX5_isWay_16 (fun r16 u16 H locs hp16 hW => ?_)
  obtain ⟨hp16, rfl⟩ := hp16
  have hW : xW G s s.heap H locs M P S V := hW
  rcases hp16 with ⟨rfl, y16⟩ | ⟨rfl, y16⟩
  · skip
    rw [show (nI (w / 100)).toInt = ((w / 100 : Nat) : Int) from nI_toInt (by omega)] at y16
    have q1 := bra (w / 100) (by omega)
    have q2 := era (w / 100) (by omega)
    refine lv_if_eq (tgt := 49) F.1 F.2.1 dX5_isWay_19 (by decide) (fun q => absurd q (by decide)) (fun _ => ?_)
    refine lv_aload_n F.1 F.2.1 dX5_isWay_22 rfl (lv_at hl 1 rfl) ?_
    refine lv_iload_n F.1 F.2.1 dX5_isWay_23 rfl (lv_at hl 2 rfl) ?_
    refine lv_bipush (v := nI 100) F.1 F.2.1 dX5_isWay_24 (by decide) ?_
    refine ax_rem (z := nI (w % 100)) F (by decide) (pk_rem (a := w) (d := 100) (by omega) (by omega) (by omega)) dX5_isWay_26 ?_
    refine lv_aload_n F.1 F.2.1 dX5_isWay_27 rfl (lv_at hl 1 rfl) ?_
    refine xg_Search_library F hW tm_126 dX5_isWay_28 ?_
    refine xg_Library_routines F hW tm_69 dX5_isWay_31 ?_
    refine lv_iload_n F.1 F.2.1 dX5_isWay_34 rfl (lv_at hl 0 rfl) ?_
    refine xl_ro (j := (w / 100)) F hW rfl (by omega) dX5_isWay_35 ?_
    refine xg_Routine_arguments F hW (j := (w / 100)) (by omega) tm_31 dX5_isWay_36 ?_
    refine xca_i (b := (xga G 3)) (As := [.int (nI (w % 100)), .int (nI (M.2.2.2.1 (w / 100)))]) (rest := []) F (c_X5_fits l G M P S V n aa ac ra o zf zs zd hV (w % 100) (M.2.2.2.1 (w / 100)) (by omega) (by omega)) (xcw F.2.2.2.2 ca_X5_fits tm_352 rfl rfl ⟨by decide, by decide⟩) (xr_X5 hW) hW rfl hl.1 rfl (Nat.le_of_ble_eq_true rfl) dX5_isWay_39 (fun r39 u39 H locs hp39 hW => ?_)
    obtain ⟨hp39, rfl⟩ := hp39
    have hW : xW G s s.heap H locs M P S V := hW
    rcases hp39 with ⟨rfl, y39⟩ | ⟨rfl, y39⟩
    · skip
      rw [q2] at y39
      refine lv_if_eq (tgt := 49) F.1 F.2.1 dX5_isWay_42 (by decide) (fun q => absurd q (by decide)) (fun _ => ?_)
      refine lv_iconst (v := nI 1) F.1 F.2.1 dX5_isWay_45 (by decide) ?_
      refine lv_goto (tgt := 50) F.1 F.2.1 dX5_isWay_46 (by decide) ?_
      refine xre_z F hr hlk hW (by decide) dX5_isWay_50 ?_
      first | exact ⟨yn_1 (zway_iff.mpr ⟨by omega, y39⟩), rfl⟩ | exact ⟨yn_0 (fun z => y39 (zway_iff.mp z).2), rfl⟩ | exact ⟨yn_0 (fun z => by have := (zway_iff.mp z).1; omega), rfl⟩
    · skip
      rw [q2] at y39
      refine lv_if_eq (tgt := 49) F.1 F.2.1 dX5_isWay_42 (by decide) (fun _ => ?_) (fun q => absurd q (by decide))
      refine lv_iconst (v := nI 0) F.1 F.2.1 dX5_isWay_49 (by decide) ?_
      refine xre_z F hr hlk hW (by decide) dX5_isWay_50 ?_
      first | exact ⟨yn_1 (zway_iff.mpr ⟨by omega, y39⟩), rfl⟩ | exact ⟨yn_0 (fun z => y39 (zway_iff.mp z).2), rfl⟩ | exact ⟨yn_0 (fun z => by have := (zway_iff.mp z).1; omega), rfl⟩
  · skip
    rw [show (nI (w / 100)).toInt = ((w / 100 : Nat) : Int) from nI_toInt (by omega)] at y16
    refine lv_if_eq (tgt := 49) F.1 F.2.1 dX5_isWay_19 (by decide) (fun _ => ?_) (fun q => absurd q (by decide))
    refine lv_iconst (v := nI 0) F.1 F.2.1 dX5_isWay_49 (by decide) ?_
    refine xre_z F hr hlk hW (by decide) dX5_isWay_50 ?_
    first | exact ⟨yn_1 (zway_iff.mpr ⟨by omega, y39⟩), rfl⟩ | exact ⟨yn_0 (fun z => y39 (zway_iff.mp z).2), rfl⟩ | exact ⟨yn_0 (fun z => by have := (zway_iff.mp z).1; omega), rfl⟩
set_option maxHeartbeats 4000000 in
set_option maxRecDepth 100000 in
theorem c_X5_isWay_neg (l : Launch) (G : XG) (M : XM) (P : XP) (S : XS) (V : XV) (n aa ac : Nat) (ra : Nat → Nat) (o : Nat → Int32 → Int32 → Int64) (zf zs : Nat → Int32) (zd : Nat → Int64) (hV : xV M n aa ac ra o zf zs zd) (x : Int32) (hx : x.toInt < 0) : Met l yX5_isWay (wC yX5_isWay cX5_isWay 3 (some .boolean)) (rmD 1) (xPc G [.ref (xga G 3), .int x] M P S V) (va_Qi (fun r u => r = nI 0 ∧ u = (M, P, S, V)) (xB G) (xA G)) 0 0 (xA G) := by
  refine xst "DoFinder$Search" (by decide) rfl (Nat.le_of_ble_eq_true rfl) ?_
  intro p e s m args below meth c ls F hr hlk hW hl
  have hl : lv_has ls 3 [(0, .ref (xga G 3)), (1, .int x)] := hl
  have hW : xW G s s.heap s.heap [] M P S V := hW
  have b_x := i32b x
  refine lv_iload_n F.1 F.2.1 dX5_isWay_0 rfl (lv_at hl 1 rfl) ?_
  refine lv_if_ge (tgt := 6) F.1 F.2.1 dX5_isWay_1 (by decide) (fun c1 => ?_) (fun c1 => ?_)
  · exfalso
    have c1 := ci_le (a := 0) (b := x.toInt) ci_0 rfl c1
    omega
  have c1 := ci_nle (a := 0) (b := x.toInt) ci_0 rfl c1
  refine lv_iconst (v := nI 0) F.1 F.2.1 dX5_isWay_4 (by decide) ?_
  refine xre_z F hr hlk hW (by decide) dX5_isWay_5 ?_
  exact ⟨rfl, rfl⟩
theorem dX5_isWayOrJoint_0 : decode cX5_isWayOrJoint 0 = .ok (.iload_n 1, 1) := by decide +kernel
theorem dX5_isWayOrJoint_1 : decode cX5_isWayOrJoint 1 = .ok (.sipush 10000, 3) := by decide +kernel
theorem dX5_isWayOrJoint_4 : decode cX5_isWayOrJoint 4 = .ok (.if_icmp .ge 9, 3) := by decide +kernel
theorem dX5_isWayOrJoint_7 : decode cX5_isWayOrJoint 7 = .ok (.aload_n 0, 1) := by decide +kernel
theorem dX5_isWayOrJoint_8 : decode cX5_isWayOrJoint 8 = .ok (.iload_n 1, 1) := by decide +kernel
theorem dX5_isWayOrJoint_9 : decode cX5_isWayOrJoint 9 = .ok (.invokevirtual 33, 3) := by decide +kernel
theorem dX5_isWayOrJoint_12 : decode cX5_isWayOrJoint 12 = .ok (.ireturn, 1) := by decide +kernel
theorem dX5_isWayOrJoint_13 : decode cX5_isWayOrJoint 13 = .ok (.iload_n 1, 1) := by decide +kernel
theorem dX5_isWayOrJoint_14 : decode cX5_isWayOrJoint 14 = .ok (.sipush 10000, 3) := by decide +kernel
theorem dX5_isWayOrJoint_17 : decode cX5_isWayOrJoint 17 = .ok (.idiv, 1) := by decide +kernel
theorem dX5_isWayOrJoint_18 : decode cX5_isWayOrJoint 18 = .ok (.iconst 1, 1) := by decide +kernel
theorem dX5_isWayOrJoint_19 : decode cX5_isWayOrJoint 19 = .ok (.isub, 1) := by decide +kernel
theorem dX5_isWayOrJoint_20 : decode cX5_isWayOrJoint 20 = .ok (.istore_n 2, 1) := by decide +kernel
theorem dX5_isWayOrJoint_21 : decode cX5_isWayOrJoint 21 = .ok (.aload_n 0, 1) := by decide +kernel
theorem dX5_isWayOrJoint_22 : decode cX5_isWayOrJoint 22 = .ok (.iload_n 2, 1) := by decide +kernel
theorem dX5_isWayOrJoint_23 : decode cX5_isWayOrJoint 23 = .ok (.invokevirtual 37, 3) := by decide +kernel
theorem dX5_isWayOrJoint_26 : decode cX5_isWayOrJoint 26 = .ok (.ifCond .eq 19, 3) := by decide +kernel
theorem dX5_isWayOrJoint_29 : decode cX5_isWayOrJoint 29 = .ok (.aload_n 0, 1) := by decide +kernel
theorem dX5_isWayOrJoint_30 : decode cX5_isWayOrJoint 30 = .ok (.iload_n 1, 1) := by decide +kernel
theorem dX5_isWayOrJoint_31 : decode cX5_isWayOrJoint 31 = .ok (.sipush 10000, 3) := by decide +kernel
theorem dX5_isWayOrJoint_34 : decode cX5_isWayOrJoint 34 = .ok (.irem, 1) := by decide +kernel
theorem dX5_isWayOrJoint_35 : decode cX5_isWayOrJoint 35 = .ok (.invokevirtual 33, 3) := by decide +kernel
theorem dX5_isWayOrJoint_38 : decode cX5_isWayOrJoint 38 = .ok (.ifCond .eq 7, 3) := by decide +kernel
theorem dX5_isWayOrJoint_41 : decode cX5_isWayOrJoint 41 = .ok (.iconst 1, 1) := by decide +kernel
theorem dX5_isWayOrJoint_42 : decode cX5_isWayOrJoint 42 = .ok (.goto 4, 3) := by decide +kernel
theorem dX5_isWayOrJoint_45 : decode cX5_isWayOrJoint 45 = .ok (.iconst 0, 1) := by decide +kernel
theorem dX5_isWayOrJoint_46 : decode cX5_isWayOrJoint 46 = .ok (.ireturn, 1) := by decide +kernel
set_option maxHeartbeats 4000000 in
set_option maxRecDepth 100000 in
theorem c_X5_isWayOrJoint (l : Launch) (G : XG) (M : XM) (P : XP) (S : XS) (V : XV) (n aa ac : Nat) (ra : Nat → Nat) (o : Nat → Int32 → Int32 → Int64) (zf zs : Nat → Int32) (zd : Nat → Int64) (hV : xV M n aa ac ra o zf zs zd) (w : Nat) (hw : w < 2147483648) : Met l yX5_isWayOrJoint (wC yX5_isWayOrJoint cX5_isWayOrJoint 3 (some .boolean)) (rmD 2) (xPc G [.ref (xga G 3), .int (nI w)] M P S V) (va_Qi (fun r u => yn r (zok n aa ra w = true) ∧ u = (M, P, S, V)) (xB G) (xA G)) 0 0 (xA G) := by
  refine xst "DoFinder$Search" (by decide) rfl (Nat.le_of_ble_eq_true rfl) ?_
  intro p e s m args below meth c ls F hr hlk hW hl
  have hl : lv_has ls 3 [(0, .ref (xga G 3)), (1, .int (nI w))] := hl
  have hW : xW G s s.heap s.heap [] M P S V := hW
  refine lv_iload_n F.1 F.2.1 dX5_isWayOrJoint_0 rfl (lv_at hl 1 rfl) ?_
  refine lv_sipush (v := nI 10000) F.1 F.2.1 dX5_isWayOrJoint_1 (by decide) ?_
  refine lv_icmp_ge (tgt := 13) F.1 F.2.1 dX5_isWayOrJoint_4 (by decide) (fun c4 => ?_) (fun c4 => ?_)
  · have c4 := ci_le (a := 10000) (b := ((w : Nat) : Int)) (by decide) (nI_toInt (by omega)) c4
    refine lv_iload_n F.1 F.2.1 dX5_isWayOrJoint_13 rfl (lv_at hl 1 rfl) ?_
    refine lv_sipush (v := nI 10000) F.1 F.2.1 dX5_isWayOrJoint_14 (by decide) ?_
    refine ax_div (z := nI (w / 10000)) F (by decide) (pk_div (a := w) (d := 10000) (by omega) (by omega) (by omega)) dX5_isWayOrJoint_17 ?_
    refine lv_iconst (v := nI 1) F.1 F.2.1 dX5_isWayOrJoint_18 (by decide) ?_
    refine ax_sub (z := nI ((w / 10000) - 1)) F (pk_sub (a := w / 10000) (b := 1) (by omega)) dX5_isWayOrJoint_19 ?_
    refine lv_istore_n (lv' := [(2, .int (nI ((w / 10000) - 1))), (0, .ref (xga G 3)), (1, .int (nI w))]) F.1 F.2.1 dX5_isWayOrJoint_20 rfl hl (by decide) rfl (fun ls hl => ?_)
    refine lv_aload_n F.1 F.2.1 dX5_isWayOrJoint_21 rfl (lv_at hl 1 rfl) ?_
    refine lv_iload_n F.1 F.2.1 dX5_isWayOrJoint_22 rfl (lv_at hl 0 rfl) ?_
    refine xca_i (b := (xga G 3)) (As := [.int (nI ((w / 10000) - 1))]) (rest := []) F (c_X5_isBehind l G M P S V n aa ac ra o zf zs zd hV ((w / 10000) - 1) (by omega)) (xcw F.2.2.2.2 ca_X5_isBehind tm_356 rfl rfl ⟨by decide, by decide⟩) (xr_X5 hW) hW rfl hl.1 rfl (Nat.le_of_ble_eq_true rfl) dX5_isWayOrJoint_23 (fun r23 u23 H locs hp23 hW => ?_)
    obtain ⟨hp23, rfl⟩ := hp23
    have hW : xW G s s.heap H locs M P S V := hW
    rcases hp23 with ⟨rfl, y23⟩ | ⟨rfl, y23⟩
    · skip
      refine lv_if_eq (tgt := 45) F.1 F.2.1 dX5_isWayOrJoint_26 (by decide) (fun q => absurd q (by decide)) (fun _ => ?_)
      refine lv_aload_n F.1 F.2.1 dX5_isWayOrJoint_29 rfl (lv_at hl 1 rfl) ?_
      refine lv_iload_n F.1 F.2.1 dX5_isWayOrJoint_30 rfl (lv_at hl 2 rfl) ?_
      refine lv_sipush (v := nI 10000) F.1 F.2.1 dX5_isWayOrJoint_31 (by decide) ?_
      refine ax_rem (z := nI (w % 10000)) F (by decide) (pk_rem (a := w) (d := 10000) (by omega) (by omega) (by omega)) dX5_isWayOrJoint_34 ?_
      refine xca_i (b := (xga G 3)) (As := [.int (nI (w % 10000))]) (rest := []) F (c_X5_isWay l G M P S V n aa ac ra o zf zs zd hV (w % 10000) (by omega)) (xcw F.2.2.2.2 ca_X5_isWay tm_347 rfl rfl ⟨by decide, by decide⟩) (xr_X5 hW) hW rfl hl.1 rfl (Nat.le_of_ble_eq_true rfl) dX5_isWayOrJoint_35 (fun r35 u35 H locs hp35 hW => ?_)
      obtain ⟨hp35, rfl⟩ := hp35
      have hW : xW G s s.heap H locs M P S V := hW
      rcases hp35 with ⟨rfl, y35⟩ | ⟨rfl, y35⟩
      · skip
        refine lv_if_eq (tgt := 45) F.1 F.2.1 dX5_isWayOrJoint_38 (by decide) (fun q => absurd q (by decide)) (fun _ => ?_)
        refine lv_iconst (v := nI 1) F.1 F.2.1 dX5_isWayOrJoint_41 (by decide) ?_
        refine lv_goto (tgt := 46) F.1 F.2.1 dX5_isWayOrJoint_42 (by decide) ?_
        refine xre_z F hr hlk hW (by decide) dX5_isWayOrJoint_46 ?_
        first | exact ⟨yn_1 (zok_iff.mpr ⟨fun q => by omega, fun _ => ⟨y23.1, y23.2, y35⟩⟩), rfl⟩ | exact ⟨yn_0 (fun z => y35 ((zok_iff.mp z).2 (by omega)).2.2), rfl⟩ | exact ⟨yn_0 (fun z => y23 ⟨((zok_iff.mp z).2 (by omega)).1, ((zok_iff.mp z).2 (by omega)).2.1⟩), rfl⟩
      · skip
        refine lv_if_eq (tgt := 45) F.1 F.2.1 dX5_isWayOrJoint_38 (by decide) (fun _ => ?_) (fun q => absurd q (by decide))
        refine lv_iconst (v := nI 0) F.1 F.2.1 dX5_isWayOrJoint_45 (by decide) ?_
        refine xre_z F hr hlk hW (by decide) dX5_isWayOrJoint_46 ?_
        first | exact ⟨yn_1 (zok_iff.mpr ⟨fun q => by omega, fun _ => ⟨y23.1, y23.2, y35⟩⟩), rfl⟩ | exact ⟨yn_0 (fun z => y35 ((zok_iff.mp z).2 (by omega)).2.2), rfl⟩ | exact ⟨yn_0 (fun z => y23 ⟨((zok_iff.mp z).2 (by omega)).1, ((zok_iff.mp z).2 (by omega)).2.1⟩), rfl⟩
    · skip
      refine lv_if_eq (tgt := 45) F.1 F.2.1 dX5_isWayOrJoint_26 (by decide) (fun _ => ?_) (fun q => absurd q (by decide))
      refine lv_iconst (v := nI 0) F.1 F.2.1 dX5_isWayOrJoint_45 (by decide) ?_
      refine xre_z F hr hlk hW (by decide) dX5_isWayOrJoint_46 ?_
      first | exact ⟨yn_1 (zok_iff.mpr ⟨fun q => by omega, fun _ => ⟨y23.1, y23.2, y35⟩⟩), rfl⟩ | exact ⟨yn_0 (fun z => y35 ((zok_iff.mp z).2 (by omega)).2.2), rfl⟩ | exact ⟨yn_0 (fun z => y23 ⟨((zok_iff.mp z).2 (by omega)).1, ((zok_iff.mp z).2 (by omega)).2.1⟩), rfl⟩
  · have c4 := ci_nle (a := 10000) (b := ((w : Nat) : Int)) (by decide) (nI_toInt (by omega)) c4
    refine lv_aload_n F.1 F.2.1 dX5_isWayOrJoint_7 rfl (lv_at hl 0 rfl) ?_
    refine lv_iload_n F.1 F.2.1 dX5_isWayOrJoint_8 rfl (lv_at hl 1 rfl) ?_
    refine xca_i (b := (xga G 3)) (As := [.int (nI w)]) (rest := []) F (c_X5_isWay l G M P S V n aa ac ra o zf zs zd hV w (by omega)) (xcw F.2.2.2.2 ca_X5_isWay tm_347 rfl rfl ⟨by decide, by decide⟩) (xr_X5 hW) hW rfl hl.1 rfl (Nat.le_of_ble_eq_true rfl) dX5_isWayOrJoint_9 (fun r9 u9 H locs hp9 hW => ?_)
    obtain ⟨hp9, rfl⟩ := hp9
    have hW : xW G s s.heap H locs M P S V := hW
    rcases hp9 with ⟨rfl, y9⟩ | ⟨rfl, y9⟩
    · skip
      refine xre_z F hr hlk hW (by decide) dX5_isWayOrJoint_12 ?_
      first | exact ⟨yn_1 (zok_iff.mpr ⟨fun _ => y9, fun q => by omega⟩), rfl⟩ | exact ⟨yn_0 (fun z => y9 ((zok_iff.mp z).1 (by omega))), rfl⟩
    · skip
      refine xre_z F hr hlk hW (by decide) dX5_isWayOrJoint_12 ?_
      first | exact ⟨yn_1 (zok_iff.mpr ⟨fun _ => y9, fun q => by omega⟩), rfl⟩ | exact ⟨yn_0 (fun z => y9 ((zok_iff.mp z).1 (by omega))), rfl⟩
set_option maxHeartbeats 4000000 in
set_option maxRecDepth 100000 in
theorem c_X5_isWayOrJoint_neg (l : Launch) (G : XG) (M : XM) (P : XP) (S : XS) (V : XV) (n aa ac : Nat) (ra : Nat → Nat) (o : Nat → Int32 → Int32 → Int64) (zf zs : Nat → Int32) (zd : Nat → Int64) (hV : xV M n aa ac ra o zf zs zd) (x : Int32) (hx : x.toInt < 0) : Met l yX5_isWayOrJoint (wC yX5_isWayOrJoint cX5_isWayOrJoint 3 (some .boolean)) (rmD 2) (xPc G [.ref (xga G 3), .int x] M P S V) (va_Qi (fun r u => r = nI 0 ∧ u = (M, P, S, V)) (xB G) (xA G)) 0 0 (xA G) := by
  refine xst "DoFinder$Search" (by decide) rfl (Nat.le_of_ble_eq_true rfl) ?_
  intro p e s m args below meth c ls F hr hlk hW hl
  have hl : lv_has ls 3 [(0, .ref (xga G 3)), (1, .int x)] := hl
  have hW : xW G s s.heap s.heap [] M P S V := hW
  have b_x := i32b x
  refine lv_iload_n F.1 F.2.1 dX5_isWayOrJoint_0 rfl (lv_at hl 1 rfl) ?_
  refine lv_sipush (v := nI 10000) F.1 F.2.1 dX5_isWayOrJoint_1 (by decide) ?_
  refine lv_icmp_ge (tgt := 13) F.1 F.2.1 dX5_isWayOrJoint_4 (by decide) (fun c4 => ?_) (fun c4 => ?_)
  · exfalso
    have c4 := ci_le (a := 10000) (b := x.toInt) (by decide) rfl c4
    omega
  have c4 := ci_nle (a := 10000) (b := x.toInt) (by decide) rfl c4
  refine lv_aload_n F.1 F.2.1 dX5_isWayOrJoint_7 rfl (lv_at hl 0 rfl) ?_
  refine lv_iload_n F.1 F.2.1 dX5_isWayOrJoint_8 rfl (lv_at hl 1 rfl) ?_
  refine xca_i (b := (xga G 3)) (As := [.int x]) (rest := []) F (c_X5_isWay_neg l G M P S V n aa ac ra o zf zs zd hV x hx) (xcw F.2.2.2.2 ca_X5_isWay tm_347 rfl rfl ⟨by decide, by decide⟩) (xr_X5 hW) hW rfl hl.1 rfl (Nat.le_of_ble_eq_true rfl) dX5_isWayOrJoint_9 (fun r9 u9 H locs hp9 hW => ?_)
  obtain ⟨rfl, rfl⟩ := hp9
  have hW : xW G s s.heap H locs M P S V := hW
  refine xre_z F hr hlk hW (by decide) dX5_isWayOrJoint_12 ?_
  exact ⟨rfl, rfl⟩
theorem dX5_outcome_0 : decode cX5_outcome 0 = .ok (.iload_n 1, 1) := by decide +kernel
theorem dX5_outcome_1 : decode cX5_outcome 1 = .ok (.sipush 10000, 3) := by decide +kernel
theorem dX5_outcome_4 : decode cX5_outcome 4 = .ok (.irem, 1) := by decide +kernel
theorem dX5_outcome_5 : decode cX5_outcome 5 = .ok (.istore 4, 2) := by decide +kernel
theorem dX5_outcome_7 : decode cX5_outcome 7 = .ok (.iload 4, 2) := by decide +kernel
theorem dX5_outcome_9 : decode cX5_outcome 9 = .ok (.bipush 100, 2) := by decide +kernel
theorem dX5_outcome_11 : decode cX5_outcome 11 = .ok (.irem, 1) := by decide +kernel
theorem dX5_outcome_12 : decode cX5_outcome 12 = .ok (.istore 5, 2) := by decide +kernel
theorem dX5_outcome_14 : decode cX5_outcome 14 = .ok (.iload_n 2, 1) := by decide +kernel
theorem dX5_outcome_15 : decode cX5_outcome 15 = .ok (.istore 6, 2) := by decide +kernel
theorem dX5_outcome_17 : decode cX5_outcome 17 = .ok (.iload_n 3, 1) := by decide +kernel
theorem dX5_outcome_18 : decode cX5_outcome 18 = .ok (.istore 7, 2) := by decide +kernel
theorem dX5_outcome_20 : decode cX5_outcome 20 = .ok (.iload 5, 2) := by decide +kernel
theorem dX5_outcome_22 : decode cX5_outcome 22 = .ok (.bipush 20, 2) := by decide +kernel
theorem dX5_outcome_24 : decode cX5_outcome 24 = .ok (.if_icmp .lt 13, 3) := by decide +kernel
theorem dX5_outcome_27 : decode cX5_outcome 27 = .ok (.iload 5, 2) := by decide +kernel
theorem dX5_outcome_29 : decode cX5_outcome 29 = .ok (.bipush 20, 2) := by decide +kernel
theorem dX5_outcome_31 : decode cX5_outcome 31 = .ok (.isub, 1) := by decide +kernel
theorem dX5_outcome_32 : decode cX5_outcome 32 = .ok (.istore 7, 2) := by decide +kernel
theorem dX5_outcome_34 : decode cX5_outcome 34 = .ok (.goto 35, 3) := by decide +kernel
theorem dX5_outcome_37 : decode cX5_outcome 37 = .ok (.iload 5, 2) := by decide +kernel
theorem dX5_outcome_39 : decode cX5_outcome 39 = .ok (.bipush 10, 2) := by decide +kernel
theorem dX5_outcome_41 : decode cX5_outcome 41 = .ok (.if_icmp .lt 16, 3) := by decide +kernel
theorem dX5_outcome_44 : decode cX5_outcome 44 = .ok (.iload 5, 2) := by decide +kernel
theorem dX5_outcome_46 : decode cX5_outcome 46 = .ok (.bipush 10, 2) := by decide +kernel
theorem dX5_outcome_48 : decode cX5_outcome 48 = .ok (.isub, 1) := by decide +kernel
theorem dX5_outcome_49 : decode cX5_outcome 49 = .ok (.istore 6, 2) := by decide +kernel
theorem dX5_outcome_51 : decode cX5_outcome 51 = .ok (.iload_n 2, 1) := by decide +kernel
theorem dX5_outcome_52 : decode cX5_outcome 52 = .ok (.istore 7, 2) := by decide +kernel
theorem dX5_outcome_54 : decode cX5_outcome 54 = .ok (.goto 15, 3) := by decide +kernel
theorem dX5_outcome_57 : decode cX5_outcome 57 = .ok (.iload 5, 2) := by decide +kernel
theorem dX5_outcome_59 : decode cX5_outcome 59 = .ok (.iconst 1, 1) := by decide +kernel
theorem dX5_outcome_60 : decode cX5_outcome 60 = .ok (.if_icmp .ne 9, 3) := by decide +kernel
theorem dX5_outcome_63 : decode cX5_outcome 63 = .ok (.iload_n 3, 1) := by decide +kernel
theorem dX5_outcome_64 : decode cX5_outcome 64 = .ok (.istore 6, 2) := by decide +kernel
theorem dX5_outcome_66 : decode cX5_outcome 66 = .ok (.iload_n 2, 1) := by decide +kernel
theorem dX5_outcome_67 : decode cX5_outcome 67 = .ok (.istore 7, 2) := by decide +kernel
theorem dX5_outcome_69 : decode cX5_outcome 69 = .ok (.aload_n 0, 1) := by decide +kernel
theorem dX5_outcome_70 : decode cX5_outcome 70 = .ok (.getfield 25, 3) := by decide +kernel
theorem dX5_outcome_73 : decode cX5_outcome 73 = .ok (.iload 4, 2) := by decide +kernel
theorem dX5_outcome_75 : decode cX5_outcome 75 = .ok (.bipush 100, 2) := by decide +kernel
theorem dX5_outcome_77 : decode cX5_outcome 77 = .ok (.idiv, 1) := by decide +kernel
theorem dX5_outcome_78 : decode cX5_outcome 78 = .ok (.iload 6, 2) := by decide +kernel
theorem dX5_outcome_80 : decode cX5_outcome 80 = .ok (.iload 7, 2) := by decide +kernel
theorem dX5_outcome_82 : decode cX5_outcome 82 = .ok (.invokevirtual 61, 3) := by decide +kernel
theorem dX5_outcome_85 : decode cX5_outcome 85 = .ok (.lstore 8, 2) := by decide +kernel
theorem dX5_outcome_87 : decode cX5_outcome 87 = .ok (.iload_n 1, 1) := by decide +kernel
theorem dX5_outcome_88 : decode cX5_outcome 88 = .ok (.sipush 10000, 3) := by decide +kernel
theorem dX5_outcome_91 : decode cX5_outcome 91 = .ok (.if_icmp .lt 21, 3) := by decide +kernel
theorem dX5_outcome_94 : decode cX5_outcome 94 = .ok (.lload 8, 2) := by decide +kernel
theorem dX5_outcome_96 : decode cX5_outcome 96 = .ok (.ldc2_w 65, 3) := by decide +kernel
theorem dX5_outcome_99 : decode cX5_outcome 99 = .ok (.lcmp, 1) := by decide +kernel
theorem dX5_outcome_100 : decode cX5_outcome 100 = .ok (.ifCond .eq 12, 3) := by decide +kernel
theorem dX5_outcome_103 : decode cX5_outcome 103 = .ok (.lload 8, 2) := by decide +kernel
theorem dX5_outcome_105 : decode cX5_outcome 105 = .ok (.ldc2_w 67, 3) := by decide +kernel
theorem dX5_outcome_108 : decode cX5_outcome 108 = .ok (.lcmp, 1) := by decide +kernel
theorem dX5_outcome_109 : decode cX5_outcome 109 = .ok (.ifCond .ne 6, 3) := by decide +kernel
theorem dX5_outcome_112 : decode cX5_outcome 112 = .ok (.lload 8, 2) := by decide +kernel
theorem dX5_outcome_114 : decode cX5_outcome 114 = .ok (.lreturn, 1) := by decide +kernel
theorem dX5_outcome_115 : decode cX5_outcome 115 = .ok (.aload_n 0, 1) := by decide +kernel
theorem dX5_outcome_116 : decode cX5_outcome 116 = .ok (.getfield 25, 3) := by decide +kernel
theorem dX5_outcome_119 : decode cX5_outcome 119 = .ok (.iload_n 1, 1) := by decide +kernel
theorem dX5_outcome_120 : decode cX5_outcome 120 = .ok (.sipush 10000, 3) := by decide +kernel
theorem dX5_outcome_123 : decode cX5_outcome 123 = .ok (.idiv, 1) := by decide +kernel
theorem dX5_outcome_124 : decode cX5_outcome 124 = .ok (.iconst 1, 1) := by decide +kernel
theorem dX5_outcome_125 : decode cX5_outcome 125 = .ok (.isub, 1) := by decide +kernel
theorem dX5_outcome_126 : decode cX5_outcome 126 = .ok (.lload 8, 2) := by decide +kernel
theorem dX5_outcome_128 : decode cX5_outcome 128 = .ok (.l2i, 1) := by decide +kernel
theorem dX5_outcome_129 : decode cX5_outcome 129 = .ok (.iconst 0, 1) := by decide +kernel
theorem dX5_outcome_130 : decode cX5_outcome 130 = .ok (.invokevirtual 61, 3) := by decide +kernel
theorem dX5_outcome_133 : decode cX5_outcome 133 = .ok (.lreturn, 1) := by decide +kernel
set_option maxHeartbeats 4000000 in
set_option maxRecDepth 100000 in
theorem c_X5_outcome (l : Launch) (G : XG) (M : XM) (P : XP) (S : XS) (V : XV) (n aa ac : Nat) (ra : Nat → Nat) (o : Nat → Int32 → Int32 → Int64) (zf zs : Nat → Int32) (zd : Nat → Int64) (hV : xV M n aa ac ra o zf zs zd) (w : Nat) (hw : w < 2147483648) (hk : zok n aa ra w = true) (a b : Int32) : Met l yX5_outcome (wC yX5_outcome cX5_outcome 10 (some .long)) (rmD 2) (xPc G [.ref (xga G 3), .int (nI w), .int a, .int b] M P S V) (va_Ql (fun v u => v = zjo o w a b ∧ ∃ P2 : XP, u = (M, P2, S, V)) (xB G) (xA G)) 0 0 (xA G) := by
  refine xst "DoFinder$Search" (by decide) rfl (Nat.le_of_ble_eq_true rfl) ?_
  intro p e s m args below meth c ls F hr hlk hW hl
  have hl : lv_has ls 10 [(0, .ref (xga G 3)), (1, .int (nI w)), (2, .int a), (3, .int b)] := hl
  have hW : xW G s s.heap s.heap [] M P S V := hW
  have b_a := i32b a
  have b_b := i32b b
  obtain ⟨en, ea, ec, era, eo, ef, es, ed, bn, ba, bc, bf, brc, bra, bd⟩ := id hV
  have hz := zok_iff.mp hk
  have hz1 : zway n aa ra (w % 10000) = true := by
    by_cases q : w < 10000
    · rw [Nat.mod_eq_of_lt q]; exact hz.1 q
    · exact (hz.2 (by omega)).2.2
  have hz2 := zway_iff.mp hz1
  have hz3 : w % 10000 % 100 < 2 ∨ (10 ≤ w % 10000 % 100 ∧ w % 10000 % 100 < 30) := by have := hz2.2; unfold zfit at this; omega
  have hz4 := hz2.1
  refine lv_iload_n F.1 F.2.1 dX5_outcome_0 rfl (lv_at hl 1 rfl) ?_
  refine lv_sipush (v := nI 10000) F.1 F.2.1 dX5_outcome_1 (by decide) ?_
  refine ax_rem (z := nI (w % 10000)) F (by decide) (pk_rem (a := w) (d := 10000) (by omega) (by omega) (by omega)) dX5_outcome_4 ?_
  refine lv_istore (lv' := [(4, .int (nI (w % 10000))), (0, .ref (xga G 3)), (1, .int (nI w)), (2, .int a), (3, .int b)]) F.1 F.2.1 dX5_outcome_5 hl (by decide) rfl (fun ls hl => ?_)
  refine lv_iload F.1 F.2.1 dX5_outcome_7 (lv_at hl 0 rfl) ?_
  refine lv_bipush (v := nI 100) F.1 F.2.1 dX5_outcome_9 (by decide) ?_
  refine ax_rem (z := nI ((w % 10000) % 100)) F (by decide) (pk_rem (a := w % 10000) (d := 100) (by omega) (by omega) (by omega)) dX5_outcome_11 ?_
  refine lv_istore (lv' := [(5, .int (nI ((w % 10000) % 100))), (4, .int (nI (w % 10000))), (0, .ref (xga G 3)), (1, .int (nI w)), (2, .int a), (3, .int b)]) F.1 F.2.1 dX5_outcome_12 hl (by decide) rfl (fun ls hl => ?_)
  refine lv_iload_n F.1 F.2.1 dX5_outcome_14 rfl (lv_at hl 4 rfl) ?_
  refine lv_istore (lv' := [(6, .int a), (5, .int (nI ((w % 10000) % 100))), (4, .int (nI (w % 10000))), (0, .ref (xga G 3)), (1, .int (nI w)), (2, .int a), (3, .int b)]) F.1 F.2.1 dX5_outcome_15 hl (by decide) rfl (fun ls hl => ?_)
  refine lv_iload_n F.1 F.2.1 dX5_outcome_17 rfl (lv_at hl 6 rfl) ?_
  refine lv_istore (lv' := [(7, .int b), (6, .int a), (5, .int (nI ((w % 10000) % 100))), (4, .int (nI (w % 10000))), (0, .ref (xga G 3)), (1, .int (nI w)), (2, .int a), (3, .int b)]) F.1 F.2.1 dX5_outcome_18 hl (by decide) rfl (fun ls hl => ?_)
  refine lv_iload F.1 F.2.1 dX5_outcome_20 (lv_at hl 2 rfl) ?_
  refine lv_bipush (v := nI 20) F.1 F.2.1 dX5_outcome_22 (by decide) ?_
  refine lv_icmp_lt (tgt := 37) F.1 F.2.1 dX5_outcome_24 (by decide) (fun c24 => ?_) (fun c24 => ?_)
  · have c24 := ci_lt (a := (((w % 10000) % 100 : Nat) : Int)) (b := 20) (nI_toInt (by omega)) (by decide) c24
    refine lv_iload F.1 F.2.1 dX5_outcome_37 (lv_at hl 2 rfl) ?_
    refine lv_bipush (v := nI 10) F.1 F.2.1 dX5_outcome_39 (by decide) ?_
    refine lv_icmp_lt (tgt := 57) F.1 F.2.1 dX5_outcome_41 (by decide) (fun c41 => ?_) (fun c41 => ?_)
    · have c41 := ci_lt (a := (((w % 10000) % 100 : Nat) : Int)) (b := 10) (nI_toInt (by omega)) (by decide) c41
      refine lv_iload F.1 F.2.1 dX5_outcome_57 (lv_at hl 2 rfl) ?_
      refine lv_iconst (v := nI 1) F.1 F.2.1 dX5_outcome_59 (by decide) ?_
      refine lv_icmp_ne (tgt := 69) F.1 F.2.1 dX5_outcome_60 (by decide) (fun c60 => ?_) (fun c60 => ?_)
      · have c60 := ci_ne (a := (((w % 10000) % 100 : Nat) : Int)) (b := 1) (nI_toInt (by omega)) (by decide) c60
        refine lv_aload_n F.1 F.2.1 dX5_outcome_69 rfl (lv_at hl 4 rfl) ?_
        refine xg_Search_library F hW tm_126 dX5_outcome_70 ?_
        refine lv_iload F.1 F.2.1 dX5_outcome_73 (lv_at hl 3 rfl) ?_
        refine lv_bipush (v := nI 100) F.1 F.2.1 dX5_outcome_75 (by decide) ?_
        refine ax_div (z := nI ((w % 10000) / 100)) F (by decide) (pk_div (a := w % 10000) (d := 100) (by omega) (by omega) (by omega)) dX5_outcome_77 ?_
        refine lv_iload F.1 F.2.1 dX5_outcome_78 (lv_at hl 1 rfl) ?_
        refine lv_iload F.1 F.2.1 dX5_outcome_80 (lv_at hl 0 rfl) ?_
        refine xca_l (b := (xga G 1)) (As := [.int (nI ((w % 10000) / 100)), .int a, .int b]) (rest := []) F (c_X1_outcome l G M P S V (by omega) ((w % 10000) / 100) (by omega) (brc _ (by omega)) bf a b) (xcw F.2.2.2.2 ca_X1_outcome tm_364 rfl rfl ⟨by decide, by decide⟩) (xr_X1 hW) hW rfl hl.1 rfl (Nat.le_of_ble_eq_true rfl) dX5_outcome_82 (fun r82 u82 H locs hp82 hW => ?_)
        obtain ⟨rfl, P82, rfl, e82⟩ := hp82
        have hW : xW G s s.heap H locs M P82 S V := hW
        refine ax_reL (eo ((w % 10000) / 100) (by omega) a b) ?_
        refine ax_reL (show (o ((w % 10000) / 100) a b) = zwo o (w % 10000) a b from by unfold zwo; repeat first | rw [if_pos (by omega)] | rw [if_neg (by omega)]) ?_
        refine lv_lstore (lv' := [(8, .long (zwo o (w % 10000) a b)), (7, .int b), (6, .int a), (5, .int (nI ((w % 10000) % 100))), (4, .int (nI (w % 10000))), (0, .ref (xga G 3)), (1, .int (nI w)), (2, .int a), (3, .int b)]) F.1 F.2.1 dX5_outcome_85 hl (by decide) rfl (fun ls hl => ?_)
        refine lv_iload_n F.1 F.2.1 dX5_outcome_87 rfl (lv_at hl 6 rfl) ?_
        refine lv_sipush (v := nI 10000) F.1 F.2.1 dX5_outcome_88 (by decide) ?_
        refine lv_icmp_lt (tgt := 112) F.1 F.2.1 dX5_outcome_91 (by decide) (fun c91 => ?_) (fun c91 => ?_)
        · have c91 := ci_lt (a := ((w : Nat) : Int)) (b := 10000) (nI_toInt (by omega)) (by decide) c91
          refine lv_lload F.1 F.2.1 dX5_outcome_112 (lv_at hl 0 rfl) ?_
          refine xre_l F hr hlk hW dX5_outcome_114 ?_
          exact ⟨by unfold zjo; rw [if_pos (by first | exact Or.inl (by omega) | exact Or.inr (Or.inl c100) | exact Or.inr (Or.inr c109))], _, rfl⟩
        · have c91 := ci_nlt (a := ((w : Nat) : Int)) (b := 10000) (nI_toInt (by omega)) (by decide) c91
          have hz5 := hz.2 (by omega)
          refine lv_lload F.1 F.2.1 dX5_outcome_94 (lv_at hl 0 rfl) ?_
          refine lv_ldc2 (v := zBAD) F.1 F.2.1 F.2.2.2.1 (F.2.2.2.2 _ tm_365) dX5_outcome_96 ?_
          refine W.lcmp F.1 F.2.1 dX5_outcome_99 ?_
          refine lv_if_eq (tgt := 112) F.1 F.2.1 dX5_outcome_100 (by decide) (fun c100 => ?_) (fun c100 => ?_)
          · have c100 := (lg_cmp_eq _ _).mp c100
            refine lv_lload F.1 F.2.1 dX5_outcome_112 (lv_at hl 0 rfl) ?_
            refine xre_l F hr hlk hW dX5_outcome_114 ?_
            exact ⟨by unfold zjo; rw [if_pos (by first | exact Or.inl (by omega) | exact Or.inr (Or.inl c100) | exact Or.inr (Or.inr c109))], _, rfl⟩
          · have c100 := fun q => c100 ((lg_cmp_eq _ _).mpr q)
            refine lv_lload F.1 F.2.1 dX5_outcome_103 (lv_at hl 0 rfl) ?_
            refine lv_ldc2 (v := zUNK) F.1 F.2.1 F.2.2.2.1 (F.2.2.2.2 _ tm_366) dX5_outcome_105 ?_
            refine W.lcmp F.1 F.2.1 dX5_outcome_108 ?_
            refine lv_if_ne (tgt := 115) F.1 F.2.1 dX5_outcome_109 (by decide) (fun c109 => ?_) (fun c109 => ?_)
            · have c109 := fun q => c109 ((lg_cmp_eq _ _).mpr q)
              refine lv_aload_n F.1 F.2.1 dX5_outcome_115 rfl (lv_at hl 5 rfl) ?_
              refine xg_Search_library F hW tm_126 dX5_outcome_116 ?_
              refine lv_iload_n F.1 F.2.1 dX5_outcome_119 rfl (lv_at hl 6 rfl) ?_
              refine lv_sipush (v := nI 10000) F.1 F.2.1 dX5_outcome_120 (by decide) ?_
              refine ax_div (z := nI (w / 10000)) F (by decide) (pk_div (a := w) (d := 10000) (by omega) (by omega) (by omega)) dX5_outcome_123 ?_
              refine lv_iconst (v := nI 1) F.1 F.2.1 dX5_outcome_124 (by decide) ?_
              refine ax_sub (z := nI ((w / 10000) - 1)) F (pk_sub (a := w / 10000) (b := 1) (by omega)) dX5_outcome_125 ?_
              refine lv_lload F.1 F.2.1 dX5_outcome_126 (lv_at hl 0 rfl) ?_
              refine lv_l2i F.1 F.2.1 dX5_outcome_128 rfl ?_
              refine lv_iconst (v := nI 0) F.1 F.2.1 dX5_outcome_129 (by decide) ?_
              refine xca_l (b := (xga G 1)) (As := [.int (nI ((w / 10000) - 1)), .int (((zwo o (w % 10000) a b)).toInt32), .int (nI 0)]) (rest := []) F (c_X1_outcome l G M P82 S V (by omega) ((w / 10000) - 1) (by omega) (brc _ (by omega)) bf (((zwo o (w % 10000) a b)).toInt32) (nI 0)) (xcw F.2.2.2.2 ca_X1_outcome tm_364 rfl rfl ⟨by decide, by decide⟩) (xr_X1 hW) hW rfl hl.1 rfl (Nat.le_of_ble_eq_true rfl) dX5_outcome_130 (fun r130 u130 H locs hp130 hW => ?_)
              obtain ⟨rfl, P130, rfl, e130⟩ := hp130
              have hW : xW G s s.heap H locs M P130 S V := hW
              refine ax_reL (eo ((w / 10000) - 1) (by omega) (((zwo o (w % 10000) a b)).toInt32) (nI 0)) ?_
              refine xre_l F hr hlk hW dX5_outcome_133 ?_
              exact ⟨by unfold zjo; rw [if_neg (fun q => q.elim (fun q => by omega) (fun q => q.elim c100 c109))], _, rfl⟩
            · have c109 := (lg_cmp_eq _ _).mp c109
              refine lv_lload F.1 F.2.1 dX5_outcome_112 (lv_at hl 0 rfl) ?_
              refine xre_l F hr hlk hW dX5_outcome_114 ?_
              exact ⟨by unfold zjo; rw [if_pos (by first | exact Or.inl (by omega) | exact Or.inr (Or.inl c100) | exact Or.inr (Or.inr c109))], _, rfl⟩
      · have c60 := ci_eq (a := (((w % 10000) % 100 : Nat) : Int)) (b := 1) (nI_toInt (by omega)) (by decide) c60
        refine lv_iload_n F.1 F.2.1 dX5_outcome_63 rfl (lv_at hl 7 rfl) ?_
        refine lv_istore (lv' := [(6, .int b), (7, .int b), (5, .int (nI ((w % 10000) % 100))), (4, .int (nI (w % 10000))), (0, .ref (xga G 3)), (1, .int (nI w)), (2, .int a), (3, .int b)]) F.1 F.2.1 dX5_outcome_64 hl (by decide) rfl (fun ls hl => ?_)
        refine lv_iload_n F.1 F.2.1 dX5_outcome_66 rfl (lv_at hl 6 rfl) ?_
        refine lv_istore (lv' := [(7, .int a), (6, .int b), (5, .int (nI ((w % 10000) % 100))), (4, .int (nI (w % 10000))), (0, .ref (xga G 3)), (1, .int (nI w)), (2, .int a), (3, .int b)]) F.1 F.2.1 dX5_outcome_67 hl (by decide) rfl (fun ls hl => ?_)
        refine lv_aload_n F.1 F.2.1 dX5_outcome_69 rfl (lv_at hl 4 rfl) ?_
        refine xg_Search_library F hW tm_126 dX5_outcome_70 ?_
        refine lv_iload F.1 F.2.1 dX5_outcome_73 (lv_at hl 3 rfl) ?_
        refine lv_bipush (v := nI 100) F.1 F.2.1 dX5_outcome_75 (by decide) ?_
        refine ax_div (z := nI ((w % 10000) / 100)) F (by decide) (pk_div (a := w % 10000) (d := 100) (by omega) (by omega) (by omega)) dX5_outcome_77 ?_
        refine lv_iload F.1 F.2.1 dX5_outcome_78 (lv_at hl 1 rfl) ?_
        refine lv_iload F.1 F.2.1 dX5_outcome_80 (lv_at hl 0 rfl) ?_
        refine xca_l (b := (xga G 1)) (As := [.int (nI ((w % 10000) / 100)), .int b, .int a]) (rest := []) F (c_X1_outcome l G M P S V (by omega) ((w % 10000) / 100) (by omega) (brc _ (by omega)) bf b a) (xcw F.2.2.2.2 ca_X1_outcome tm_364 rfl rfl ⟨by decide, by decide⟩) (xr_X1 hW) hW rfl hl.1 rfl (Nat.le_of_ble_eq_true rfl) dX5_outcome_82 (fun r82 u82 H locs hp82 hW => ?_)
        obtain ⟨rfl, P82, rfl, e82⟩ := hp82
        have hW : xW G s s.heap H locs M P82 S V := hW
        refine ax_reL (eo ((w % 10000) / 100) (by omega) b a) ?_
        refine ax_reL (show (o ((w % 10000) / 100) b a) = zwo o (w % 10000) a b from by unfold zwo; repeat first | rw [if_pos (by omega)] | rw [if_neg (by omega)]) ?_
        refine lv_lstore (lv' := [(8, .long (zwo o (w % 10000) a b)), (7, .int a), (6, .int b), (5, .int (nI ((w % 10000) % 100))), (4, .int (nI (w % 10000))), (0, .ref (xga G 3)), (1, .int (nI w)), (2, .int a), (3, .int b)]) F.1 F.2.1 dX5_outcome_85 hl (by decide) rfl (fun ls hl => ?_)
        refine lv_iload_n F.1 F.2.1 dX5_outcome_87 rfl (lv_at hl 6 rfl) ?_
        refine lv_sipush (v := nI 10000) F.1 F.2.1 dX5_outcome_88 (by decide) ?_
        refine lv_icmp_lt (tgt := 112) F.1 F.2.1 dX5_outcome_91 (by decide) (fun c91 => ?_) (fun c91 => ?_)
        · have c91 := ci_lt (a := ((w : Nat) : Int)) (b := 10000) (nI_toInt (by omega)) (by decide) c91
          refine lv_lload F.1 F.2.1 dX5_outcome_112 (lv_at hl 0 rfl) ?_
          refine xre_l F hr hlk hW dX5_outcome_114 ?_
          exact ⟨by unfold zjo; rw [if_pos (by first | exact Or.inl (by omega) | exact Or.inr (Or.inl c100) | exact Or.inr (Or.inr c109))], _, rfl⟩
        · have c91 := ci_nlt (a := ((w : Nat) : Int)) (b := 10000) (nI_toInt (by omega)) (by decide) c91
          have hz5 := hz.2 (by omega)
          refine lv_lload F.1 F.2.1 dX5_outcome_94 (lv_at hl 0 rfl) ?_
          refine lv_ldc2 (v := zBAD) F.1 F.2.1 F.2.2.2.1 (F.2.2.2.2 _ tm_365) dX5_outcome_96 ?_
          refine W.lcmp F.1 F.2.1 dX5_outcome_99 ?_
          refine lv_if_eq (tgt := 112) F.1 F.2.1 dX5_outcome_100 (by decide) (fun c100 => ?_) (fun c100 => ?_)
          · have c100 := (lg_cmp_eq _ _).mp c100
            refine lv_lload F.1 F.2.1 dX5_outcome_112 (lv_at hl 0 rfl) ?_
            refine xre_l F hr hlk hW dX5_outcome_114 ?_
            exact ⟨by unfold zjo; rw [if_pos (by first | exact Or.inl (by omega) | exact Or.inr (Or.inl c100) | exact Or.inr (Or.inr c109))], _, rfl⟩
          · have c100 := fun q => c100 ((lg_cmp_eq _ _).mpr q)
            refine lv_lload F.1 F.2.1 dX5_outcome_103 (lv_at hl 0 rfl) ?_
            refine lv_ldc2 (v := zUNK) F.1 F.2.1 F.2.2.2.1 (F.2.2.2.2 _ tm_366) dX5_outcome_105 ?_
            refine W.lcmp F.1 F.2.1 dX5_outcome_108 ?_
            refine lv_if_ne (tgt := 115) F.1 F.2.1 dX5_outcome_109 (by decide) (fun c109 => ?_) (fun c109 => ?_)
            · have c109 := fun q => c109 ((lg_cmp_eq _ _).mpr q)
              refine lv_aload_n F.1 F.2.1 dX5_outcome_115 rfl (lv_at hl 5 rfl) ?_
              refine xg_Search_library F hW tm_126 dX5_outcome_116 ?_
              refine lv_iload_n F.1 F.2.1 dX5_outcome_119 rfl (lv_at hl 6 rfl) ?_
              refine lv_sipush (v := nI 10000) F.1 F.2.1 dX5_outcome_120 (by decide) ?_
              refine ax_div (z := nI (w / 10000)) F (by decide) (pk_div (a := w) (d := 10000) (by omega) (by omega) (by omega)) dX5_outcome_123 ?_
              refine lv_iconst (v := nI 1) F.1 F.2.1 dX5_outcome_124 (by decide) ?_
              refine ax_sub (z := nI ((w / 10000) - 1)) F (pk_sub (a := w / 10000) (b := 1) (by omega)) dX5_outcome_125 ?_
              refine lv_lload F.1 F.2.1 dX5_outcome_126 (lv_at hl 0 rfl) ?_
              refine lv_l2i F.1 F.2.1 dX5_outcome_128 rfl ?_
              refine lv_iconst (v := nI 0) F.1 F.2.1 dX5_outcome_129 (by decide) ?_
              refine xca_l (b := (xga G 1)) (As := [.int (nI ((w / 10000) - 1)), .int (((zwo o (w % 10000) a b)).toInt32), .int (nI 0)]) (rest := []) F (c_X1_outcome l G M P82 S V (by omega) ((w / 10000) - 1) (by omega) (brc _ (by omega)) bf (((zwo o (w % 10000) a b)).toInt32) (nI 0)) (xcw F.2.2.2.2 ca_X1_outcome tm_364 rfl rfl ⟨by decide, by decide⟩) (xr_X1 hW) hW rfl hl.1 rfl (Nat.le_of_ble_eq_true rfl) dX5_outcome_130 (fun r130 u130 H locs hp130 hW => ?_)
              obtain ⟨rfl, P130, rfl, e130⟩ := hp130
              have hW : xW G s s.heap H locs M P130 S V := hW
              refine ax_reL (eo ((w / 10000) - 1) (by omega) (((zwo o (w % 10000) a b)).toInt32) (nI 0)) ?_
              refine xre_l F hr hlk hW dX5_outcome_133 ?_
              exact ⟨by unfold zjo; rw [if_neg (fun q => q.elim (fun q => by omega) (fun q => q.elim c100 c109))], _, rfl⟩
            · have c109 := (lg_cmp_eq _ _).mp c109
              refine lv_lload F.1 F.2.1 dX5_outcome_112 (lv_at hl 0 rfl) ?_
              refine xre_l F hr hlk hW dX5_outcome_114 ?_
              exact ⟨by unfold zjo; rw [if_pos (by first | exact Or.inl (by omega) | exact Or.inr (Or.inl c100) | exact Or.inr (Or.inr c109))], _, rfl⟩
    · have c41 := ci_nlt (a := (((w % 10000) % 100 : Nat) : Int)) (b := 10) (nI_toInt (by omega)) (by decide) c41
      refine lv_iload F.1 F.2.1 dX5_outcome_44 (lv_at hl 2 rfl) ?_
      refine lv_bipush (v := nI 10) F.1 F.2.1 dX5_outcome_46 (by decide) ?_
      refine ax_sub (z := nI (((w % 10000) % 100) - 10)) F (pk_sub (a := (w % 10000) % 100) (b := 10) (by omega)) dX5_outcome_48 ?_
      refine lv_istore (lv' := [(6, .int (nI (((w % 10000) % 100) - 10))), (7, .int b), (5, .int (nI ((w % 10000) % 100))), (4, .int (nI (w % 10000))), (0, .ref (xga G 3)), (1, .int (nI w)), (2, .int a), (3, .int b)]) F.1 F.2.1 dX5_outcome_49 hl (by decide) rfl (fun ls hl => ?_)
      refine lv_iload_n F.1 F.2.1 dX5_outcome_51 rfl (lv_at hl 6 rfl) ?_
      refine lv_istore (lv' := [(7, .int a), (6, .int (nI (((w % 10000) % 100) - 10))), (5, .int (nI ((w % 10000) % 100))), (4, .int (nI (w % 10000))), (0, .ref (xga G 3)), (1, .int (nI w)), (2, .int a), (3, .int b)]) F.1 F.2.1 dX5_outcome_52 hl (by decide) rfl (fun ls hl => ?_)
      refine lv_goto (tgt := 69) F.1 F.2.1 dX5_outcome_54 (by decide) ?_
      refine lv_aload_n F.1 F.2.1 dX5_outcome_69 rfl (lv_at hl 4 rfl) ?_
      refine xg_Search_library F hW tm_126 dX5_outcome_70 ?_
      refine lv_iload F.1 F.2.1 dX5_outcome_73 (lv_at hl 3 rfl) ?_
      refine lv_bipush (v := nI 100) F.1 F.2.1 dX5_outcome_75 (by decide) ?_
      refine ax_div (z := nI ((w % 10000) / 100)) F (by decide) (pk_div (a := w % 10000) (d := 100) (by omega) (by omega) (by omega)) dX5_outcome_77 ?_
      refine lv_iload F.1 F.2.1 dX5_outcome_78 (lv_at hl 1 rfl) ?_
      refine lv_iload F.1 F.2.1 dX5_outcome_80 (lv_at hl 0 rfl) ?_
      refine xca_l (b := (xga G 1)) (As := [.int (nI ((w % 10000) / 100)), .int (nI (((w % 10000) % 100) - 10)), .int a]) (rest := []) F (c_X1_outcome l G M P S V (by omega) ((w % 10000) / 100) (by omega) (brc _ (by omega)) bf (nI (((w % 10000) % 100) - 10)) a) (xcw F.2.2.2.2 ca_X1_outcome tm_364 rfl rfl ⟨by decide, by decide⟩) (xr_X1 hW) hW rfl hl.1 rfl (Nat.le_of_ble_eq_true rfl) dX5_outcome_82 (fun r82 u82 H locs hp82 hW => ?_)
      obtain ⟨rfl, P82, rfl, e82⟩ := hp82
      have hW : xW G s s.heap H locs M P82 S V := hW
      refine ax_reL (eo ((w % 10000) / 100) (by omega) (nI (((w % 10000) % 100) - 10)) a) ?_
      refine ax_reL (show (o ((w % 10000) / 100) (nI (((w % 10000) % 100) - 10)) a) = zwo o (w % 10000) a b from by unfold zwo; repeat first | rw [if_pos (by omega)] | rw [if_neg (by omega)]) ?_
      refine lv_lstore (lv' := [(8, .long (zwo o (w % 10000) a b)), (7, .int a), (6, .int (nI (((w % 10000) % 100) - 10))), (5, .int (nI ((w % 10000) % 100))), (4, .int (nI (w % 10000))), (0, .ref (xga G 3)), (1, .int (nI w)), (2, .int a), (3, .int b)]) F.1 F.2.1 dX5_outcome_85 hl (by decide) rfl (fun ls hl => ?_)
      refine lv_iload_n F.1 F.2.1 dX5_outcome_87 rfl (lv_at hl 6 rfl) ?_
      refine lv_sipush (v := nI 10000) F.1 F.2.1 dX5_outcome_88 (by decide) ?_
      refine lv_icmp_lt (tgt := 112) F.1 F.2.1 dX5_outcome_91 (by decide) (fun c91 => ?_) (fun c91 => ?_)
      · have c91 := ci_lt (a := ((w : Nat) : Int)) (b := 10000) (nI_toInt (by omega)) (by decide) c91
        refine lv_lload F.1 F.2.1 dX5_outcome_112 (lv_at hl 0 rfl) ?_
        refine xre_l F hr hlk hW dX5_outcome_114 ?_
        exact ⟨by unfold zjo; rw [if_pos (by first | exact Or.inl (by omega) | exact Or.inr (Or.inl c100) | exact Or.inr (Or.inr c109))], _, rfl⟩
      · have c91 := ci_nlt (a := ((w : Nat) : Int)) (b := 10000) (nI_toInt (by omega)) (by decide) c91
        have hz5 := hz.2 (by omega)
        refine lv_lload F.1 F.2.1 dX5_outcome_94 (lv_at hl 0 rfl) ?_
        refine lv_ldc2 (v := zBAD) F.1 F.2.1 F.2.2.2.1 (F.2.2.2.2 _ tm_365) dX5_outcome_96 ?_
        refine W.lcmp F.1 F.2.1 dX5_outcome_99 ?_
        refine lv_if_eq (tgt := 112) F.1 F.2.1 dX5_outcome_100 (by decide) (fun c100 => ?_) (fun c100 => ?_)
        · have c100 := (lg_cmp_eq _ _).mp c100
          refine lv_lload F.1 F.2.1 dX5_outcome_112 (lv_at hl 0 rfl) ?_
          refine xre_l F hr hlk hW dX5_outcome_114 ?_
          exact ⟨by unfold zjo; rw [if_pos (by first | exact Or.inl (by omega) | exact Or.inr (Or.inl c100) | exact Or.inr (Or.inr c109))], _, rfl⟩
        · have c100 := fun q => c100 ((lg_cmp_eq _ _).mpr q)
          refine lv_lload F.1 F.2.1 dX5_outcome_103 (lv_at hl 0 rfl) ?_
          refine lv_ldc2 (v := zUNK) F.1 F.2.1 F.2.2.2.1 (F.2.2.2.2 _ tm_366) dX5_outcome_105 ?_
          refine W.lcmp F.1 F.2.1 dX5_outcome_108 ?_
          refine lv_if_ne (tgt := 115) F.1 F.2.1 dX5_outcome_109 (by decide) (fun c109 => ?_) (fun c109 => ?_)
          · have c109 := fun q => c109 ((lg_cmp_eq _ _).mpr q)
            refine lv_aload_n F.1 F.2.1 dX5_outcome_115 rfl (lv_at hl 5 rfl) ?_
            refine xg_Search_library F hW tm_126 dX5_outcome_116 ?_
            refine lv_iload_n F.1 F.2.1 dX5_outcome_119 rfl (lv_at hl 6 rfl) ?_
            refine lv_sipush (v := nI 10000) F.1 F.2.1 dX5_outcome_120 (by decide) ?_
            refine ax_div (z := nI (w / 10000)) F (by decide) (pk_div (a := w) (d := 10000) (by omega) (by omega) (by omega)) dX5_outcome_123 ?_
            refine lv_iconst (v := nI 1) F.1 F.2.1 dX5_outcome_124 (by decide) ?_
            refine ax_sub (z := nI ((w / 10000) - 1)) F (pk_sub (a := w / 10000) (b := 1) (by omega)) dX5_outcome_125 ?_
            refine lv_lload F.1 F.2.1 dX5_outcome_126 (lv_at hl 0 rfl) ?_
            refine lv_l2i F.1 F.2.1 dX5_outcome_128 rfl ?_
            refine lv_iconst (v := nI 0) F.1 F.2.1 dX5_outcome_129 (by decide) ?_
            refine xca_l (b := (xga G 1)) (As := [.int (nI ((w / 10000) - 1)), .int (((zwo o (w % 10000) a b)).toInt32), .int (nI 0)]) (rest := []) F (c_X1_outcome l G M P82 S V (by omega) ((w / 10000) - 1) (by omega) (brc _ (by omega)) bf (((zwo o (w % 10000) a b)).toInt32) (nI 0)) (xcw F.2.2.2.2 ca_X1_outcome tm_364 rfl rfl ⟨by decide, by decide⟩) (xr_X1 hW) hW rfl hl.1 rfl (Nat.le_of_ble_eq_true rfl) dX5_outcome_130 (fun r130 u130 H locs hp130 hW => ?_)
            obtain ⟨rfl, P130, rfl, e130⟩ := hp130
            have hW : xW G s s.heap H locs M P130 S V := hW
            refine ax_reL (eo ((w / 10000) - 1) (by omega) (((zwo o (w % 10000) a b)).toInt32) (nI 0)) ?_
            refine xre_l F hr hlk hW dX5_outcome_133 ?_
            exact ⟨by unfold zjo; rw [if_neg (fun q => q.elim (fun q => by omega) (fun q => q.elim c100 c109))], _, rfl⟩
          · have c109 := (lg_cmp_eq _ _).mp c109
            refine lv_lload F.1 F.2.1 dX5_outcome_112 (lv_at hl 0 rfl) ?_
            refine xre_l F hr hlk hW dX5_outcome_114 ?_
            exact ⟨by unfold zjo; rw [if_pos (by first | exact Or.inl (by omega) | exact Or.inr (Or.inl c100) | exact Or.inr (Or.inr c109))], _, rfl⟩
  · have c24 := ci_nlt (a := (((w % 10000) % 100 : Nat) : Int)) (b := 20) (nI_toInt (by omega)) (by decide) c24
    refine lv_iload F.1 F.2.1 dX5_outcome_27 (lv_at hl 2 rfl) ?_
    refine lv_bipush (v := nI 20) F.1 F.2.1 dX5_outcome_29 (by decide) ?_
    refine ax_sub (z := nI (((w % 10000) % 100) - 20)) F (pk_sub (a := (w % 10000) % 100) (b := 20) (by omega)) dX5_outcome_31 ?_
    refine lv_istore (lv' := [(7, .int (nI (((w % 10000) % 100) - 20))), (6, .int a), (5, .int (nI ((w % 10000) % 100))), (4, .int (nI (w % 10000))), (0, .ref (xga G 3)), (1, .int (nI w)), (2, .int a), (3, .int b)]) F.1 F.2.1 dX5_outcome_32 hl (by decide) rfl (fun ls hl => ?_)
    refine lv_goto (tgt := 69) F.1 F.2.1 dX5_outcome_34 (by decide) ?_
    refine lv_aload_n F.1 F.2.1 dX5_outcome_69 rfl (lv_at hl 4 rfl) ?_
    refine xg_Search_library F hW tm_126 dX5_outcome_70 ?_
    refine lv_iload F.1 F.2.1 dX5_outcome_73 (lv_at hl 3 rfl) ?_
    refine lv_bipush (v := nI 100) F.1 F.2.1 dX5_outcome_75 (by decide) ?_
    refine ax_div (z := nI ((w % 10000) / 100)) F (by decide) (pk_div (a := w % 10000) (d := 100) (by omega) (by omega) (by omega)) dX5_outcome_77 ?_
    refine lv_iload F.1 F.2.1 dX5_outcome_78 (lv_at hl 1 rfl) ?_
    refine lv_iload F.1 F.2.1 dX5_outcome_80 (lv_at hl 0 rfl) ?_
    refine xca_l (b := (xga G 1)) (As := [.int (nI ((w % 10000) / 100)), .int a, .int (nI (((w % 10000) % 100) - 20))]) (rest := []) F (c_X1_outcome l G M P S V (by omega) ((w % 10000) / 100) (by omega) (brc _ (by omega)) bf a (nI (((w % 10000) % 100) - 20))) (xcw F.2.2.2.2 ca_X1_outcome tm_364 rfl rfl ⟨by decide, by decide⟩) (xr_X1 hW) hW rfl hl.1 rfl (Nat.le_of_ble_eq_true rfl) dX5_outcome_82 (fun r82 u82 H locs hp82 hW => ?_)
    obtain ⟨rfl, P82, rfl, e82⟩ := hp82
    have hW : xW G s s.heap H locs M P82 S V := hW
    refine ax_reL (eo ((w % 10000) / 100) (by omega) a (nI (((w % 10000) % 100) - 20))) ?_
    refine ax_reL (show (o ((w % 10000) / 100) a (nI (((w % 10000) % 100) - 20))) = zwo o (w % 10000) a b from by unfold zwo; repeat first | rw [if_pos (by omega)] | rw [if_neg (by omega)]) ?_
    refine lv_lstore (lv' := [(8, .long (zwo o (w % 10000) a b)), (7, .int (nI (((w % 10000) % 100) - 20))), (6, .int a), (5, .int (nI ((w % 10000) % 100))), (4, .int (nI (w % 10000))), (0, .ref (xga G 3)), (1, .int (nI w)), (2, .int a), (3, .int b)]) F.1 F.2.1 dX5_outcome_85 hl (by decide) rfl (fun ls hl => ?_)
    refine lv_iload_n F.1 F.2.1 dX5_outcome_87 rfl (lv_at hl 6 rfl) ?_
    refine lv_sipush (v := nI 10000) F.1 F.2.1 dX5_outcome_88 (by decide) ?_
    refine lv_icmp_lt (tgt := 112) F.1 F.2.1 dX5_outcome_91 (by decide) (fun c91 => ?_) (fun c91 => ?_)
    · have c91 := ci_lt (a := ((w : Nat) : Int)) (b := 10000) (nI_toInt (by omega)) (by decide) c91
      refine lv_lload F.1 F.2.1 dX5_outcome_112 (lv_at hl 0 rfl) ?_
      refine xre_l F hr hlk hW dX5_outcome_114 ?_
      exact ⟨by unfold zjo; rw [if_pos (by first | exact Or.inl (by omega) | exact Or.inr (Or.inl c100) | exact Or.inr (Or.inr c109))], _, rfl⟩
    · have c91 := ci_nlt (a := ((w : Nat) : Int)) (b := 10000) (nI_toInt (by omega)) (by decide) c91
      have hz5 := hz.2 (by omega)
      refine lv_lload F.1 F.2.1 dX5_outcome_94 (lv_at hl 0 rfl) ?_
      refine lv_ldc2 (v := zBAD) F.1 F.2.1 F.2.2.2.1 (F.2.2.2.2 _ tm_365) dX5_outcome_96 ?_
      refine W.lcmp F.1 F.2.1 dX5_outcome_99 ?_
      refine lv_if_eq (tgt := 112) F.1 F.2.1 dX5_outcome_100 (by decide) (fun c100 => ?_) (fun c100 => ?_)
      · have c100 := (lg_cmp_eq _ _).mp c100
        refine lv_lload F.1 F.2.1 dX5_outcome_112 (lv_at hl 0 rfl) ?_
        refine xre_l F hr hlk hW dX5_outcome_114 ?_
        exact ⟨by unfold zjo; rw [if_pos (by first | exact Or.inl (by omega) | exact Or.inr (Or.inl c100) | exact Or.inr (Or.inr c109))], _, rfl⟩
      · have c100 := fun q => c100 ((lg_cmp_eq _ _).mpr q)
        refine lv_lload F.1 F.2.1 dX5_outcome_103 (lv_at hl 0 rfl) ?_
        refine lv_ldc2 (v := zUNK) F.1 F.2.1 F.2.2.2.1 (F.2.2.2.2 _ tm_366) dX5_outcome_105 ?_
        refine W.lcmp F.1 F.2.1 dX5_outcome_108 ?_
        refine lv_if_ne (tgt := 115) F.1 F.2.1 dX5_outcome_109 (by decide) (fun c109 => ?_) (fun c109 => ?_)
        · have c109 := fun q => c109 ((lg_cmp_eq _ _).mpr q)
          refine lv_aload_n F.1 F.2.1 dX5_outcome_115 rfl (lv_at hl 5 rfl) ?_
          refine xg_Search_library F hW tm_126 dX5_outcome_116 ?_
          refine lv_iload_n F.1 F.2.1 dX5_outcome_119 rfl (lv_at hl 6 rfl) ?_
          refine lv_sipush (v := nI 10000) F.1 F.2.1 dX5_outcome_120 (by decide) ?_
          refine ax_div (z := nI (w / 10000)) F (by decide) (pk_div (a := w) (d := 10000) (by omega) (by omega) (by omega)) dX5_outcome_123 ?_
          refine lv_iconst (v := nI 1) F.1 F.2.1 dX5_outcome_124 (by decide) ?_
          refine ax_sub (z := nI ((w / 10000) - 1)) F (pk_sub (a := w / 10000) (b := 1) (by omega)) dX5_outcome_125 ?_
          refine lv_lload F.1 F.2.1 dX5_outcome_126 (lv_at hl 0 rfl) ?_
          refine lv_l2i F.1 F.2.1 dX5_outcome_128 rfl ?_
          refine lv_iconst (v := nI 0) F.1 F.2.1 dX5_outcome_129 (by decide) ?_
          refine xca_l (b := (xga G 1)) (As := [.int (nI ((w / 10000) - 1)), .int (((zwo o (w % 10000) a b)).toInt32), .int (nI 0)]) (rest := []) F (c_X1_outcome l G M P82 S V (by omega) ((w / 10000) - 1) (by omega) (brc _ (by omega)) bf (((zwo o (w % 10000) a b)).toInt32) (nI 0)) (xcw F.2.2.2.2 ca_X1_outcome tm_364 rfl rfl ⟨by decide, by decide⟩) (xr_X1 hW) hW rfl hl.1 rfl (Nat.le_of_ble_eq_true rfl) dX5_outcome_130 (fun r130 u130 H locs hp130 hW => ?_)
          obtain ⟨rfl, P130, rfl, e130⟩ := hp130
          have hW : xW G s s.heap H locs M P130 S V := hW
          refine ax_reL (eo ((w / 10000) - 1) (by omega) (((zwo o (w % 10000) a b)).toInt32) (nI 0)) ?_
          refine xre_l F hr hlk hW dX5_outcome_133 ?_
          exact ⟨by unfold zjo; rw [if_neg (fun q => q.elim (fun q => by omega) (fun q => q.elim c100 c109))], _, rfl⟩
        · have c109 := (lg_cmp_eq _ _).mp c109
          refine lv_lload F.1 F.2.1 dX5_outcome_112 (lv_at hl 0 rfl) ?_
          refine xre_l F hr hlk hW dX5_outcome_114 ?_
          exact ⟨by unfold zjo; rw [if_pos (by first | exact Or.inl (by omega) | exact Or.inr (Or.inl c100) | exact Or.inr (Or.inr c109))], _, rfl⟩
theorem dX5_judge_0 : decode cX5_judge 0 = .ok (.aload_n 0, 1) := by decide +kernel
theorem dX5_judge_1 : decode cX5_judge 1 = .ok (.getfield 29, 3) := by decide +kernel
theorem dX5_judge_4 : decode cX5_judge 4 = .ok (.getfield 69, 3) := by decide +kernel
theorem dX5_judge_7 : decode cX5_judge 7 = .ok (.iload_n 2, 1) := by decide +kernel
theorem dX5_judge_8 : decode cX5_judge 8 = .ok (.laload, 1) := by decide +kernel
theorem dX5_judge_9 : decode cX5_judge 9 = .ok (.lstore_n 3, 1) := by decide +kernel
theorem dX5_judge_10 : decode cX5_judge 10 = .ok (.lload_n 3, 1) := by decide +kernel
theorem dX5_judge_11 : decode cX5_judge 11 = .ok (.ldc2_w 73, 3) := by decide +kernel
theorem dX5_judge_14 : decode cX5_judge 14 = .ok (.lcmp, 1) := by decide +kernel
theorem dX5_judge_15 : decode cX5_judge 15 = .ok (.ifCond .ne 5, 3) := by decide +kernel
theorem dX5_judge_18 : decode cX5_judge 18 = .ok (.iconst 0, 1) := by decide +kernel
theorem dX5_judge_19 : decode cX5_judge 19 = .ok (.ireturn, 1) := by decide +kernel
theorem dX5_judge_20 : decode cX5_judge 20 = .ok (.aload_n 0, 1) := by decide +kernel
theorem dX5_judge_21 : decode cX5_judge 21 = .ok (.iload_n 1, 1) := by decide +kernel
theorem dX5_judge_22 : decode cX5_judge 22 = .ok (.aload_n 0, 1) := by decide +kernel
theorem dX5_judge_23 : decode cX5_judge 23 = .ok (.getfield 29, 3) := by decide +kernel
theorem dX5_judge_26 : decode cX5_judge 26 = .ok (.getfield 75, 3) := by decide +kernel
theorem dX5_judge_29 : decode cX5_judge 29 = .ok (.iload_n 2, 1) := by decide +kernel
theorem dX5_judge_30 : decode cX5_judge 30 = .ok (.iaload, 1) := by decide +kernel
theorem dX5_judge_31 : decode cX5_judge 31 = .ok (.aload_n 0, 1) := by decide +kernel
theorem dX5_judge_32 : decode cX5_judge 32 = .ok (.getfield 29, 3) := by decide +kernel
theorem dX5_judge_35 : decode cX5_judge 35 = .ok (.getfield 78, 3) := by decide +kernel
theorem dX5_judge_38 : decode cX5_judge 38 = .ok (.iload_n 2, 1) := by decide +kernel
theorem dX5_judge_39 : decode cX5_judge 39 = .ok (.iaload, 1) := by decide +kernel
theorem dX5_judge_40 : decode cX5_judge 40 = .ok (.invokevirtual 81, 3) := by decide +kernel
theorem dX5_judge_43 : decode cX5_judge 43 = .ok (.lstore 5, 2) := by decide +kernel
theorem dX5_judge_45 : decode cX5_judge 45 = .ok (.lload 5, 2) := by decide +kernel
theorem dX5_judge_47 : decode cX5_judge 47 = .ok (.lload_n 3, 1) := by decide +kernel
theorem dX5_judge_48 : decode cX5_judge 48 = .ok (.lcmp, 1) := by decide +kernel
theorem dX5_judge_49 : decode cX5_judge 49 = .ok (.ifCond .ne 5, 3) := by decide +kernel
theorem dX5_judge_52 : decode cX5_judge 52 = .ok (.iconst 0, 1) := by decide +kernel
theorem dX5_judge_53 : decode cX5_judge 53 = .ok (.ireturn, 1) := by decide +kernel
theorem dX5_judge_54 : decode cX5_judge 54 = .ok (.lload 5, 2) := by decide +kernel
theorem dX5_judge_56 : decode cX5_judge 56 = .ok (.ldc2_w 67, 3) := by decide +kernel
theorem dX5_judge_59 : decode cX5_judge 59 = .ok (.lcmp, 1) := by decide +kernel
theorem dX5_judge_60 : decode cX5_judge 60 = .ok (.ifCond .ne 7, 3) := by decide +kernel
theorem dX5_judge_63 : decode cX5_judge 63 = .ok (.iconst 1, 1) := by decide +kernel
theorem dX5_judge_64 : decode cX5_judge 64 = .ok (.goto 4, 3) := by decide +kernel
theorem dX5_judge_67 : decode cX5_judge 67 = .ok (.iconst 2, 1) := by decide +kernel
theorem dX5_judge_68 : decode cX5_judge 68 = .ok (.ireturn, 1) := by decide +kernel
set_option maxHeartbeats 4000000 in
set_option maxRecDepth 100000 in
theorem c_X5_judge (l : Launch) (G : XG) (M : XM) (P : XP) (S : XS) (V : XV) (n aa ac : Nat) (ra : Nat → Nat) (o : Nat → Int32 → Int32 → Int64) (zf zs : Nat → Int32) (zd : Nat → Int64) (hV : xV M n aa ac ra o zf zs zd) (w : Nat) (hw : w < 2147483648) (hk : zok n aa ra w = true) (k : Nat) (hk2 : k < ac) : Met l yX5_judge (wC yX5_judge cX5_judge 7 (some .int)) (rmD 3) (xPc G [.ref (xga G 3), .int (nI w), .int (nI k)] M P S V) (va_Qi (fun r u => r = nI (zj o zf zs zd w k) ∧ ∃ P2 : XP, u = (M, P2, S, V)) (xB G) (xA G)) 0 0 (xA G) := by
  refine xst "DoFinder$Search" (by decide) rfl (Nat.le_of_ble_eq_true rfl) ?_
  intro p e s m args below meth c ls F hr hlk hW hl
  have hl : lv_has ls 7 [(0, .ref (xga G 3)), (1, .int (nI w)), (2, .int (nI k))] := hl
  have hW : xW G s s.heap s.heap [] M P S V := hW
  obtain ⟨en, ea, ec, era, eo, ef, es, ed, bn, ba, bc, bf, brc, bra, bd⟩ := id hV
  have f1 := ef k hk2
  have f2 := es k hk2
  have f3 := ed k hk2
  refine lv_aload_n F.1 F.2.1 dX5_judge_0 rfl (lv_at hl 0 rfl) ?_
  refine xg_Search_asked F hW tm_127 dX5_judge_1 ?_
  refine xg_Ask_dues F hW tm_101 dX5_judge_4 ?_
  refine lv_iload_n F.1 F.2.1 dX5_judge_7 rfl (lv_at hl 2 rfl) ?_
  refine xl_ad (i := k) F hW rfl (by omega) dX5_judge_8 ?_
  refine lv_lstore_n (lv' := [(3, .long (M.2.2.2.2.2.2.2.2.2 k)), (0, .ref (xga G 3)), (1, .int (nI w)), (2, .int (nI k))]) F.1 F.2.1 dX5_judge_9 rfl hl (by decide) rfl (fun ls hl => ?_)
  refine lv_lload_n F.1 F.2.1 dX5_judge_10 rfl (lv_at hl 0 rfl) ?_
  refine lv_ldc2 (v := zANY) F.1 F.2.1 F.2.2.2.1 (F.2.2.2.2 _ tm_388) dX5_judge_11 ?_
  refine W.lcmp F.1 F.2.1 dX5_judge_14 ?_
  refine lv_if_ne (tgt := 20) F.1 F.2.1 dX5_judge_15 (by decide) (fun c15 => ?_) (fun c15 => ?_)
  · have c15 := fun q => c15 ((lg_cmp_eq _ _).mpr q)
    refine lv_aload_n F.1 F.2.1 dX5_judge_20 rfl (lv_at hl 1 rfl) ?_
    refine lv_iload_n F.1 F.2.1 dX5_judge_21 rfl (lv_at hl 2 rfl) ?_
    refine lv_aload_n F.1 F.2.1 dX5_judge_22 rfl (lv_at hl 1 rfl) ?_
    refine xg_Search_asked F hW tm_127 dX5_judge_23 ?_
    refine xg_Ask_firsts F hW tm_97 dX5_judge_26 ?_
    refine lv_iload_n F.1 F.2.1 dX5_judge_29 rfl (lv_at hl 3 rfl) ?_
    refine xl_af (i := k) F hW rfl (by omega) dX5_judge_30 ?_
    have b30 := i32b (M.2.2.2.2.2.2.2.1 k)
    refine lv_aload_n F.1 F.2.1 dX5_judge_31 rfl (lv_at hl 1 rfl) ?_
    refine xg_Search_asked F hW tm_127 dX5_judge_32 ?_
    refine xg_Ask_seconds F hW tm_99 dX5_judge_35 ?_
    refine lv_iload_n F.1 F.2.1 dX5_judge_38 rfl (lv_at hl 3 rfl) ?_
    refine xl_as (i := k) F hW rfl (by omega) dX5_judge_39 ?_
    have b39 := i32b (M.2.2.2.2.2.2.2.2.1 k)
    refine xca_l (b := (xga G 3)) (As := [.int (nI w), .int (M.2.2.2.2.2.2.2.1 k), .int (M.2.2.2.2.2.2.2.2.1 k)]) (rest := []) F (c_X5_outcome l G M P S V n aa ac ra o zf zs zd hV w (by omega) hk (M.2.2.2.2.2.2.2.1 k) (M.2.2.2.2.2.2.2.2.1 k)) (xcw F.2.2.2.2 ca_X5_outcome tm_389 rfl rfl ⟨by decide, by decide⟩) (xr_X5 hW) hW rfl hl.1 rfl (Nat.le_of_ble_eq_true rfl) dX5_judge_40 (fun r40 u40 H locs hp40 hW => ?_)
    obtain ⟨rfl, P40, rfl⟩ := hp40
    have hW : xW G s s.heap H locs M P40 S V := hW
    refine lv_lstore (lv' := [(5, .long (zjo o w (M.2.2.2.2.2.2.2.1 k) (M.2.2.2.2.2.2.2.2.1 k))), (3, .long (M.2.2.2.2.2.2.2.2.2 k)), (0, .ref (xga G 3)), (1, .int (nI w)), (2, .int (nI k))]) F.1 F.2.1 dX5_judge_43 hl (by decide) rfl (fun ls hl => ?_)
    refine lv_lload F.1 F.2.1 dX5_judge_45 (lv_at hl 0 rfl) ?_
    refine lv_lload_n F.1 F.2.1 dX5_judge_47 rfl (lv_at hl 1 rfl) ?_
    refine W.lcmp F.1 F.2.1 dX5_judge_48 ?_
    refine lv_if_ne (tgt := 54) F.1 F.2.1 dX5_judge_49 (by decide) (fun c49 => ?_) (fun c49 => ?_)
    · have c49 := fun q => c49 ((lg_cmp_eq _ _).mpr q)
      refine lv_lload F.1 F.2.1 dX5_judge_54 (lv_at hl 0 rfl) ?_
      refine lv_ldc2 (v := zUNK) F.1 F.2.1 F.2.2.2.1 (F.2.2.2.2 _ tm_366) dX5_judge_56 ?_
      refine W.lcmp F.1 F.2.1 dX5_judge_59 ?_
      refine lv_if_ne (tgt := 67) F.1 F.2.1 dX5_judge_60 (by decide) (fun c60 => ?_) (fun c60 => ?_)
      · have c60 := fun q => c60 ((lg_cmp_eq _ _).mpr q)
        refine lv_iconst (v := nI 2) F.1 F.2.1 dX5_judge_67 (by decide) ?_
        refine xre_i F hr hlk hW dX5_judge_68 ?_
        rw [f3] at c49 c15; rw [f1, f2] at c49 c60
        exact ⟨congrArg nI (by unfold zj; rw [if_neg c15, if_neg c49]; first | rw [if_pos c60] | rw [if_neg c60]), _, rfl⟩
      · have c60 := (lg_cmp_eq _ _).mp c60
        refine lv_iconst (v := nI 1) F.1 F.2.1 dX5_judge_63 (by decide) ?_
        refine lv_goto (tgt := 68) F.1 F.2.1 dX5_judge_64 (by decide) ?_
        refine xre_i F hr hlk hW dX5_judge_68 ?_
        rw [f3] at c49 c15; rw [f1, f2] at c49 c60
        exact ⟨congrArg nI (by unfold zj; rw [if_neg c15, if_neg c49]; first | rw [if_pos c60] | rw [if_neg c60]), _, rfl⟩
    · have c49 := (lg_cmp_eq _ _).mp c49
      refine lv_iconst (v := nI 0) F.1 F.2.1 dX5_judge_52 (by decide) ?_
      refine xre_i F hr hlk hW dX5_judge_53 ?_
      rw [f3] at c49 c15; rw [f1, f2] at c49
      exact ⟨congrArg nI (by unfold zj; rw [if_neg c15, if_pos c49]), _, rfl⟩
  · have c15 := (lg_cmp_eq _ _).mp c15
    refine lv_iconst (v := nI 0) F.1 F.2.1 dX5_judge_18 (by decide) ?_
    refine xre_i F hr hlk hW dX5_judge_19 ?_
    exact ⟨congrArg nI (by unfold zj; rw [if_pos (by rw [← f3]; exact c15)]), _, rfl⟩
theorem dX5_isFound_0 : decode cX5_isFound 0 = .ok (.iconst 0, 1) := by decide +kernel
theorem dX5_isFound_1 : decode cX5_isFound 1 = .ok (.istore_n 2, 1) := by decide +kernel
theorem dX5_isFound_2 : decode cX5_isFound 2 = .ok (.iload_n 2, 1) := by decide +kernel
theorem dX5_isFound_3 : decode cX5_isFound 3 = .ok (.aload_n 0, 1) := by decide +kernel
theorem dX5_isFound_4 : decode cX5_isFound 4 = .ok (.getfield 29, 3) := by decide +kernel
theorem dX5_isFound_7 : decode cX5_isFound 7 = .ok (.getfield 82, 3) := by decide +kernel
theorem dX5_isFound_10 : decode cX5_isFound 10 = .ok (.if_icmp .ge 20, 3) := by decide +kernel
theorem dX5_isFound_13 : decode cX5_isFound 13 = .ok (.aload_n 0, 1) := by decide +kernel
theorem dX5_isFound_14 : decode cX5_isFound 14 = .ok (.iload_n 1, 1) := by decide +kernel
theorem dX5_isFound_15 : decode cX5_isFound 15 = .ok (.iload_n 2, 1) := by decide +kernel
theorem dX5_isFound_16 : decode cX5_isFound 16 = .ok (.invokevirtual 85, 3) := by decide +kernel
theorem dX5_isFound_19 : decode cX5_isFound 19 = .ok (.ifCond .eq 5, 3) := by decide +kernel
theorem dX5_isFound_22 : decode cX5_isFound 22 = .ok (.iconst 0, 1) := by decide +kernel
theorem dX5_isFound_23 : decode cX5_isFound 23 = .ok (.ireturn, 1) := by decide +kernel
theorem dX5_isFound_24 : decode cX5_isFound 24 = .ok (.iinc 2 1, 3) := by decide +kernel
theorem dX5_isFound_27 : decode cX5_isFound 27 = .ok (.goto (-25), 3) := by decide +kernel
theorem dX5_isFound_30 : decode cX5_isFound 30 = .ok (.iconst 1, 1) := by decide +kernel
theorem dX5_isFound_31 : decode cX5_isFound 31 = .ok (.ireturn, 1) := by decide +kernel
set_option maxHeartbeats 4000000 in
set_option maxRecDepth 100000 in
theorem c_X5_isFound (l : Launch) (G : XG) (M : XM) (P : XP) (S : XS) (V : XV) (n aa ac : Nat) (ra : Nat → Nat) (o : Nat → Int32 → Int32 → Int64) (zf zs : Nat → Int32) (zd : Nat → Int64) (hV : xV M n aa ac ra o zf zs zd) (w : Nat) (hw : w < 2147483648) (hk : zok n aa ra w = true) : Met l yX5_isFound (wC yX5_isFound cX5_isFound 3 (some .boolean)) (rmD 4) (xPc G [.ref (xga G 3), .int (nI w)] M P S V) (va_Qi (fun r u => yn r (zst o zf zs zd ac w = 0) ∧ ∃ P2 : XP, u = (M, P2, S, V)) (xB G) (xA G)) 0 0 (xA G) := by
  refine xst "DoFinder$Search" (by decide) rfl (Nat.le_of_ble_eq_true rfl) ?_
  intro p e s m args below meth c ls F hr hlk hW hl
  have hl : lv_has ls 3 [(0, .ref (xga G 3)), (1, .int (nI w))] := hl
  have hW : xW G s s.heap s.heap [] M P S V := hW
  obtain ⟨en, ea, ec, era, eo, ef, es, ed, bn, ba, bc, bf, brc, bra, bd⟩ := id hV
  refine lv_iconst (v := nI 0) F.1 F.2.1 dX5_isFound_0 (by decide) ?_
  refine lv_istore_n (lv' := [(2, .int (nI 0)), (0, .ref (xga G 3)), (1, .int (nI w))]) F.1 F.2.1 dX5_isFound_1 rfl hl (by decide) rfl (fun ls hl => ?_)
  have lp2 : ∀ (k2 : Nat) (Pk : XP) (i : Nat), ac - i = k2 → (i ≤ ac) → (zcnt (fun k => decide (zj o zf zs zd w k = 2)) i = 0) → (zcnt (fun k => decide (zj o zf zs zd w k = 1)) i = 0) → ∀ (H : Heap) (locs : List Loc) (ls : Array Slot), xW G s s.heap H locs M Pk S V →  lv_has ls 3 [(0, .ref (xga G 3)), (1, .int (nI w)), (2, .int (nI i))] → W p l e (rmD 4) s m args below meth c H locs 0 0 (MQ below (va_Qi (fun r u => yn r (zst o zf zs zd ac w = 0) ∧ ∃ P2 : XP, u = (M, P2, S, V)) (xB G) (xA G)) args s 0 0 (xA G)) (F0 m 2 ls []) := by
    intro k2
    induction k2 using Nat.strongRecOn with
    | ind k2 ih2 =>
      intro Pk i hk2 hi h2 h1 H locs ls hW hl
      refine lv_iload_n F.1 F.2.1 dX5_isFound_2 rfl (lv_at hl 2 rfl) ?_
      refine lv_aload_n F.1 F.2.1 dX5_isFound_3 rfl (lv_at hl 0 rfl) ?_
      refine xg_Search_asked F hW tm_127 dX5_isFound_4 ?_
      refine xg_Ask_count F hW tm_103 dX5_isFound_7 ?_
      refine lv_icmp_ge (tgt := 30) F.1 F.2.1 dX5_isFound_10 (by decide) (fun c10 => ?_) (fun c10 => ?_)
      · have c10 := ci_le (a := ((M.2.2.2.2.2.1 : Nat) : Int)) (b := ((i : Nat) : Int)) (nI_toInt (by omega)) (nI_toInt (by omega)) c10
        refine lv_iconst (v := nI 1) F.1 F.2.1 dX5_isFound_30 (by decide) ?_
        refine xre_z F hr hlk hW (by decide) dX5_isFound_31 ?_
        refine ⟨yn_1 ?_, _, rfl⟩
        rw [show i = ac by omega] at h1 h2
        unfold zst zmi zdo; rw [h1, h2]; rfl
      · have c10 := ci_nle (a := ((M.2.2.2.2.2.1 : Nat) : Int)) (b := ((i : Nat) : Int)) (nI_toInt (by omega)) (nI_toInt (by omega)) c10
        refine lv_aload_n F.1 F.2.1 dX5_isFound_13 rfl (lv_at hl 0 rfl) ?_
        refine lv_iload_n F.1 F.2.1 dX5_isFound_14 rfl (lv_at hl 1 rfl) ?_
        refine lv_iload_n F.1 F.2.1 dX5_isFound_15 rfl (lv_at hl 2 rfl) ?_
        refine xca_i (b := (xga G 3)) (As := [.int (nI w), .int (nI i)]) (rest := []) F (c_X5_judge l G M Pk S V n aa ac ra o zf zs zd hV w (by omega) hk i (by omega)) (xcw F.2.2.2.2 ca_X5_judge tm_384 rfl rfl ⟨by decide, by decide⟩) (xr_X5 hW) hW rfl hl.1 rfl (Nat.le_of_ble_eq_true rfl) dX5_isFound_16 (fun r16 u16 H locs hp16 hW => ?_)
        obtain ⟨rfl, P16, rfl⟩ := hp16
        have hW : xW G s s.heap H locs M P16 S V := hW
        have zl16 := zj_le o zf zs zd w i
        refine lv_if_eq (tgt := 24) F.1 F.2.1 dX5_isFound_19 (by decide) (fun c19 => ?_) (fun c19 => ?_)
        · have c19 := ci_eq (a := (((zj o zf zs zd w i) : Nat) : Int)) (b := 0) (nI_toInt (by omega)) ci_0 c19
          refine lv_iinc (v := nI (i + 1)) (lv' := [(2, .int (nI (i + 1))), (0, .ref (xga G 3)), (1, .int (nI w))]) F.1 F.2.1 dX5_isFound_24 hl (k := 2) rfl (nI_add _ 1) (by decide) rfl (fun ls hl => ?_)
          refine lv_goto (tgt := 2) F.1 F.2.1 dX5_isFound_27 (by decide) ?_
          exact ih2 (ac - (i + 1)) (by omega) P16 (i + 1) rfl (by omega) (by rw [zcnt_f (by simp only [decide_eq_true_eq]; omega)]; exact h2) (by rw [zcnt_f (by simp only [decide_eq_true_eq]; omega)]; exact h1) _ _ _ hW (lv_sub hl [1, 2, 0] rfl)
        · have c19 := ci_ne (a := (((zj o zf zs zd w i) : Nat) : Int)) (b := 0) (nI_toInt (by omega)) ci_0 c19
          refine lv_iconst (v := nI 0) F.1 F.2.1 dX5_isFound_22 (by decide) ?_
          refine xre_z F hr hlk hW (by decide) dX5_isFound_23 ?_
          refine ⟨yn_0 (fun z => ?_), _, rfl⟩
          have := zst_0 z i (by omega)
          omega
  exact lp2 (ac - 0) P 0 rfl (Nat.zero_le _) (rfl) (rfl) _ _ _ hW (lv_sub hl [1, 2, 0] rfl)
theorem dX5_isOpen_0 : decode cX5_isOpen 0 = .ok (.iconst 0, 1) := by decide +kernel
theorem dX5_isOpen_1 : decode cX5_isOpen 1 = .ok (.istore_n 2, 1) := by decide +kernel
theorem dX5_isOpen_2 : decode cX5_isOpen 2 = .ok (.iconst 0, 1) := by decide +kernel
theorem dX5_isOpen_3 : decode cX5_isOpen 3 = .ok (.istore_n 3, 1) := by decide +kernel
theorem dX5_isOpen_4 : decode cX5_isOpen 4 = .ok (.iload_n 3, 1) := by decide +kernel
theorem dX5_isOpen_5 : decode cX5_isOpen 5 = .ok (.aload_n 0, 1) := by decide +kernel
theorem dX5_isOpen_6 : decode cX5_isOpen 6 = .ok (.getfield 29, 3) := by decide +kernel
theorem dX5_isOpen_9 : decode cX5_isOpen 9 = .ok (.getfield 82, 3) := by decide +kernel
theorem dX5_isOpen_12 : decode cX5_isOpen 12 = .ok (.if_icmp .ge 33, 3) := by decide +kernel
theorem dX5_isOpen_15 : decode cX5_isOpen 15 = .ok (.aload_n 0, 1) := by decide +kernel
theorem dX5_isOpen_16 : decode cX5_isOpen 16 = .ok (.iload_n 1, 1) := by decide +kernel
theorem dX5_isOpen_17 : decode cX5_isOpen 17 = .ok (.iload_n 3, 1) := by decide +kernel
theorem dX5_isOpen_18 : decode cX5_isOpen 18 = .ok (.invokevirtual 85, 3) := by decide +kernel
theorem dX5_isOpen_21 : decode cX5_isOpen 21 = .ok (.istore 4, 2) := by decide +kernel
theorem dX5_isOpen_23 : decode cX5_isOpen 23 = .ok (.iload 4, 2) := by decide +kernel
theorem dX5_isOpen_25 : decode cX5_isOpen 25 = .ok (.iconst 2, 1) := by decide +kernel
theorem dX5_isOpen_26 : decode cX5_isOpen 26 = .ok (.if_icmp .ne 5, 3) := by decide +kernel
theorem dX5_isOpen_29 : decode cX5_isOpen 29 = .ok (.iconst 0, 1) := by decide +kernel
theorem dX5_isOpen_30 : decode cX5_isOpen 30 = .ok (.ireturn, 1) := by decide +kernel
theorem dX5_isOpen_31 : decode cX5_isOpen 31 = .ok (.iload 4, 2) := by decide +kernel
theorem dX5_isOpen_33 : decode cX5_isOpen 33 = .ok (.iconst 1, 1) := by decide +kernel
theorem dX5_isOpen_34 : decode cX5_isOpen 34 = .ok (.if_icmp .ne 5, 3) := by decide +kernel
theorem dX5_isOpen_37 : decode cX5_isOpen 37 = .ok (.iconst 1, 1) := by decide +kernel
theorem dX5_isOpen_38 : decode cX5_isOpen 38 = .ok (.istore_n 2, 1) := by decide +kernel
theorem dX5_isOpen_39 : decode cX5_isOpen 39 = .ok (.iinc 3 1, 3) := by decide +kernel
theorem dX5_isOpen_42 : decode cX5_isOpen 42 = .ok (.goto (-38), 3) := by decide +kernel
theorem dX5_isOpen_45 : decode cX5_isOpen 45 = .ok (.iload_n 2, 1) := by decide +kernel
theorem dX5_isOpen_46 : decode cX5_isOpen 46 = .ok (.ireturn, 1) := by decide +kernel
set_option maxHeartbeats 4000000 in
set_option maxRecDepth 100000 in
theorem c_X5_isOpen (l : Launch) (G : XG) (M : XM) (P : XP) (S : XS) (V : XV) (n aa ac : Nat) (ra : Nat → Nat) (o : Nat → Int32 → Int32 → Int64) (zf zs : Nat → Int32) (zd : Nat → Int64) (hV : xV M n aa ac ra o zf zs zd) (w : Nat) (hw : w < 2147483648) (hk : zok n aa ra w = true) : Met l yX5_isOpen (wC yX5_isOpen cX5_isOpen 5 (some .boolean)) (rmD 4) (xPc G [.ref (xga G 3), .int (nI w)] M P S V) (va_Qi (fun r u => yn r (zst o zf zs zd ac w = 1) ∧ ∃ P2 : XP, u = (M, P2, S, V)) (xB G) (xA G)) 0 0 (xA G) := by
  refine xst "DoFinder$Search" (by decide) rfl (Nat.le_of_ble_eq_true rfl) ?_
  intro p e s m args below meth c ls F hr hlk hW hl
  have hl : lv_has ls 5 [(0, .ref (xga G 3)), (1, .int (nI w))] := hl
  have hW : xW G s s.heap s.heap [] M P S V := hW
  obtain ⟨en, ea, ec, era, eo, ef, es, ed, bn, ba, bc, bf, brc, bra, bd⟩ := id hV
  refine lv_iconst (v := nI 0) F.1 F.2.1 dX5_isOpen_0 (by decide) ?_
  refine lv_istore_n (lv' := [(2, .int (nI 0)), (0, .ref (xga G 3)), (1, .int (nI w))]) F.1 F.2.1 dX5_isOpen_1 rfl hl (by decide) rfl (fun ls hl => ?_)
  refine lv_iconst (v := nI 0) F.1 F.2.1 dX5_isOpen_2 (by decide) ?_
  refine lv_istore_n (lv' := [(3, .int (nI 0)), (2, .int (nI 0)), (0, .ref (xga G 3)), (1, .int (nI w))]) F.1 F.2.1 dX5_isOpen_3 rfl hl (by decide) rfl (fun ls hl => ?_)
  have lp4 : ∀ (k4 : Nat) (Pk : XP) (i : Nat) (un : Nat), ac - i = k4 → (i ≤ ac) → (zcnt (fun k => decide (zj o zf zs zd w k = 2)) i = 0) → ((un = 1 ∧ 0 < zcnt (fun k => decide (zj o zf zs zd w k = 1)) i) ∨ (un = 0 ∧ zcnt (fun k => decide (zj o zf zs zd w k = 1)) i = 0)) → ∀ (H : Heap) (locs : List Loc) (ls : Array Slot), xW G s s.heap H locs M Pk S V →  lv_has ls 5 [(0, .ref (xga G 3)), (1, .int (nI w)), (2, .int (nI un)), (3, .int (nI i))] → W p l e (rmD 4) s m args below meth c H locs 0 0 (MQ below (va_Qi (fun r u => yn r (zst o zf zs zd ac w = 1) ∧ ∃ P2 : XP, u = (M, P2, S, V)) (xB G) (xA G)) args s 0 0 (xA G)) (F0 m 4 ls []) := by
    intro k4
    induction k4 using Nat.strongRecOn with
    | ind k4 ih4 =>
      intro Pk i un hk4 hi h2 h1 H locs ls hW hl
      refine lv_iload_n F.1 F.2.1 dX5_isOpen_4 rfl (lv_at hl 3 rfl) ?_
      refine lv_aload_n F.1 F.2.1 dX5_isOpen_5 rfl (lv_at hl 0 rfl) ?_
      refine xg_Search_asked F hW tm_127 dX5_isOpen_6 ?_
      refine xg_Ask_count F hW tm_103 dX5_isOpen_9 ?_
      refine lv_icmp_ge (tgt := 45) F.1 F.2.1 dX5_isOpen_12 (by decide) (fun c12 => ?_) (fun c12 => ?_)
      · have c12 := ci_le (a := ((M.2.2.2.2.2.1 : Nat) : Int)) (b := ((i : Nat) : Int)) (nI_toInt (by omega)) (nI_toInt (by omega)) c12
        rw [show i = ac by omega] at h1 h2
        have hu : un = 1 ∨ un = 0 := by omega
        rcases hu with rfl | rfl
        · have hz : (zst o zf zs zd ac w = 1) ↔ 0 < zcnt (fun k => decide (zj o zf zs zd w k = 1)) ac := by unfold zst zmi zdo; rw [h2]; simp only [Nat.lt_irrefl, if_false]; split <;> omega
          refine lv_iload_n F.1 F.2.1 dX5_isOpen_45 rfl (lv_at hl 2 rfl) ?_
          refine xre_z F hr hlk hW (by decide) dX5_isOpen_46 ?_
          exact ⟨by first | exact yn_1 (by omega) | exact yn_0 (by omega), _, rfl⟩
        · have hz : (zst o zf zs zd ac w = 1) ↔ 0 < zcnt (fun k => decide (zj o zf zs zd w k = 1)) ac := by unfold zst zmi zdo; rw [h2]; simp only [Nat.lt_irrefl, if_false]; split <;> omega
          refine lv_iload_n F.1 F.2.1 dX5_isOpen_45 rfl (lv_at hl 2 rfl) ?_
          refine xre_z F hr hlk hW (by decide) dX5_isOpen_46 ?_
          exact ⟨by first | exact yn_1 (by omega) | exact yn_0 (by omega), _, rfl⟩
      · have c12 := ci_nle (a := ((M.2.2.2.2.2.1 : Nat) : Int)) (b := ((i : Nat) : Int)) (nI_toInt (by omega)) (nI_toInt (by omega)) c12
        refine lv_aload_n F.1 F.2.1 dX5_isOpen_15 rfl (lv_at hl 0 rfl) ?_
        refine lv_iload_n F.1 F.2.1 dX5_isOpen_16 rfl (lv_at hl 1 rfl) ?_
        refine lv_iload_n F.1 F.2.1 dX5_isOpen_17 rfl (lv_at hl 3 rfl) ?_
        refine xca_i (b := (xga G 3)) (As := [.int (nI w), .int (nI i)]) (rest := []) F (c_X5_judge l G M Pk S V n aa ac ra o zf zs zd hV w (by omega) hk i (by omega)) (xcw F.2.2.2.2 ca_X5_judge tm_384 rfl rfl ⟨by decide, by decide⟩) (xr_X5 hW) hW rfl hl.1 rfl (Nat.le_of_ble_eq_true rfl) dX5_isOpen_18 (fun r18 u18 H locs hp18 hW => ?_)
        obtain ⟨rfl, P18, rfl⟩ := hp18
        have hW : xW G s s.heap H locs M P18 S V := hW
        have zl18 := zj_le o zf zs zd w i
        refine lv_istore (lv' := [(4, .int (nI (zj o zf zs zd w i))), (0, .ref (xga G 3)), (1, .int (nI w)), (2, .int (nI un)), (3, .int (nI i))]) F.1 F.2.1 dX5_isOpen_21 hl (by decide) rfl (fun ls hl => ?_)
        refine lv_iload F.1 F.2.1 dX5_isOpen_23 (lv_at hl 0 rfl) ?_
        refine lv_iconst (v := nI 2) F.1 F.2.1 dX5_isOpen_25 (by decide) ?_
        refine lv_icmp_ne (tgt := 31) F.1 F.2.1 dX5_isOpen_26 (by decide) (fun c26 => ?_) (fun c26 => ?_)
        · have c26 := ci_ne (a := (((zj o zf zs zd w i) : Nat) : Int)) (b := 2) (nI_toInt (by omega)) (by decide) c26
          refine lv_iload F.1 F.2.1 dX5_isOpen_31 (lv_at hl 0 rfl) ?_
          refine lv_iconst (v := nI 1) F.1 F.2.1 dX5_isOpen_33 (by decide) ?_
          refine lv_icmp_ne (tgt := 39) F.1 F.2.1 dX5_isOpen_34 (by decide) (fun c34 => ?_) (fun c34 => ?_)
          · have c34 := ci_ne (a := (((zj o zf zs zd w i) : Nat) : Int)) (b := 1) (nI_toInt (by omega)) (by decide) c34
            skip
            refine lv_iinc (v := nI (i + 1)) (lv' := [(3, .int (nI (i + 1))), (4, .int (nI (zj o zf zs zd w i))), (0, .ref (xga G 3)), (1, .int (nI w)), (2, .int (nI un))]) F.1 F.2.1 dX5_isOpen_39 hl (k := 4) rfl (nI_add _ 1) (by decide) rfl (fun ls hl => ?_)
            refine lv_goto (tgt := 4) F.1 F.2.1 dX5_isOpen_42 (by decide) ?_
            exact ih4 (ac - (i + 1)) (by omega) P18 (i + 1) un rfl (by omega) (by rw [zcnt_f (by simp only [decide_eq_true_eq]; omega)]; exact h2) (by rw [zcnt_f (by simp only [decide_eq_true_eq]; omega)]; omega) _ _ _ hW (lv_sub hl [2, 3, 4, 0] rfl)
          · have c34 := ci_eq (a := (((zj o zf zs zd w i) : Nat) : Int)) (b := 1) (nI_toInt (by omega)) (by decide) c34
            skip
            refine lv_iconst (v := nI 1) F.1 F.2.1 dX5_isOpen_37 (by decide) ?_
            refine lv_istore_n (lv' := [(2, .int (nI 1)), (4, .int (nI (zj o zf zs zd w i))), (0, .ref (xga G 3)), (1, .int (nI w)), (3, .int (nI i))]) F.1 F.2.1 dX5_isOpen_38 rfl hl (by decide) rfl (fun ls hl => ?_)
            refine lv_iinc (v := nI (i + 1)) (lv' := [(3, .int (nI (i + 1))), (2, .int (nI 1)), (4, .int (nI (zj o zf zs zd w i))), (0, .ref (xga G 3)), (1, .int (nI w))]) F.1 F.2.1 dX5_isOpen_39 hl (k := 4) rfl (nI_add _ 1) (by decide) rfl (fun ls hl => ?_)
            refine lv_goto (tgt := 4) F.1 F.2.1 dX5_isOpen_42 (by decide) ?_
            exact ih4 (ac - (i + 1)) (by omega) P18 (i + 1) 1 rfl (by omega) (by rw [zcnt_f (by simp only [decide_eq_true_eq]; omega)]; exact h2) (by rw [zcnt_t (by simp only [decide_eq_true_eq]; omega)]; omega) _ _ _ hW (lv_sub hl [3, 4, 1, 0] rfl)
        · have c26 := ci_eq (a := (((zj o zf zs zd w i) : Nat) : Int)) (b := 2) (nI_toInt (by omega)) (by decide) c26
          refine lv_iconst (v := nI 0) F.1 F.2.1 dX5_isOpen_29 (by decide) ?_
          refine xre_z F hr hlk hW (by decide) dX5_isOpen_30 ?_
          refine ⟨yn_0 (fun z => ?_), _, rfl⟩
          have := zst_n2 (o := o) (zf := zf) (zs := zs) (zd := zd) (ac := ac) (w := w) (by omega) i (by omega)
          omega
  exact lp4 (ac - 0) P 0 0 rfl (Nat.zero_le _) (rfl) (Or.inr ⟨rfl, rfl⟩) _ _ _ hW (lv_sub hl [2, 3, 1, 0] rfl)
theorem dX5_countMisses_0 : decode cX5_countMisses 0 = .ok (.iconst 0, 1) := by decide +kernel
theorem dX5_countMisses_1 : decode cX5_countMisses 1 = .ok (.istore_n 2, 1) := by decide +kernel
theorem dX5_countMisses_2 : decode cX5_countMisses 2 = .ok (.iconst 0, 1) := by decide +kernel
theorem dX5_countMisses_3 : decode cX5_countMisses 3 = .ok (.istore_n 3, 1) := by decide +kernel
theorem dX5_countMisses_4 : decode cX5_countMisses 4 = .ok (.iload_n 3, 1) := by decide +kernel
theorem dX5_countMisses_5 : decode cX5_countMisses 5 = .ok (.aload_n 0, 1) := by decide +kernel
theorem dX5_countMisses_6 : decode cX5_countMisses 6 = .ok (.getfield 29, 3) := by decide +kernel
theorem dX5_countMisses_9 : decode cX5_countMisses 9 = .ok (.getfield 82, 3) := by decide +kernel
theorem dX5_countMisses_12 : decode cX5_countMisses 12 = .ok (.if_icmp .ge 22, 3) := by decide +kernel
theorem dX5_countMisses_15 : decode cX5_countMisses 15 = .ok (.aload_n 0, 1) := by decide +kernel
theorem dX5_countMisses_16 : decode cX5_countMisses 16 = .ok (.iload_n 1, 1) := by decide +kernel
theorem dX5_countMisses_17 : decode cX5_countMisses 17 = .ok (.iload_n 3, 1) := by decide +kernel
theorem dX5_countMisses_18 : decode cX5_countMisses 18 = .ok (.invokevirtual 85, 3) := by decide +kernel
theorem dX5_countMisses_21 : decode cX5_countMisses 21 = .ok (.iconst 2, 1) := by decide +kernel
theorem dX5_countMisses_22 : decode cX5_countMisses 22 = .ok (.if_icmp .ne 6, 3) := by decide +kernel
theorem dX5_countMisses_25 : decode cX5_countMisses 25 = .ok (.iinc 2 1, 3) := by decide +kernel
theorem dX5_countMisses_28 : decode cX5_countMisses 28 = .ok (.iinc 3 1, 3) := by decide +kernel
theorem dX5_countMisses_31 : decode cX5_countMisses 31 = .ok (.goto (-27), 3) := by decide +kernel
theorem dX5_countMisses_34 : decode cX5_countMisses 34 = .ok (.iload_n 2, 1) := by decide +kernel
theorem dX5_countMisses_35 : decode cX5_countMisses 35 = .ok (.ireturn, 1) := by decide +kernel
set_option maxHeartbeats 4000000 in
set_option maxRecDepth 100000 in
theorem c_X5_countMisses (l : Launch) (G : XG) (M : XM) (P : XP) (S : XS) (V : XV) (n aa ac : Nat) (ra : Nat → Nat) (o : Nat → Int32 → Int32 → Int64) (zf zs : Nat → Int32) (zd : Nat → Int64) (hV : xV M n aa ac ra o zf zs zd) (w : Nat) (hw : w < 2147483648) (hk : zok n aa ra w = true) : Met l yX5_countMisses (wC yX5_countMisses cX5_countMisses 4 (some .int)) (rmD 4) (xPc G [.ref (xga G 3), .int (nI w)] M P S V) (va_Qi (fun r u => r = nI (zmi o zf zs zd ac w) ∧ ∃ P2 : XP, u = (M, P2, S, V)) (xB G) (xA G)) 0 0 (xA G) := by
  refine xst "DoFinder$Search" (by decide) rfl (Nat.le_of_ble_eq_true rfl) ?_
  intro p e s m args below meth c ls F hr hlk hW hl
  have hl : lv_has ls 4 [(0, .ref (xga G 3)), (1, .int (nI w))] := hl
  have hW : xW G s s.heap s.heap [] M P S V := hW
  obtain ⟨en, ea, ec, era, eo, ef, es, ed, bn, ba, bc, bf, brc, bra, bd⟩ := id hV
  refine lv_iconst (v := nI 0) F.1 F.2.1 dX5_countMisses_0 (by decide) ?_
  refine lv_istore_n (lv' := [(2, .int (nI 0)), (0, .ref (xga G 3)), (1, .int (nI w))]) F.1 F.2.1 dX5_countMisses_1 rfl hl (by decide) rfl (fun ls hl => ?_)
  refine lv_iconst (v := nI 0) F.1 F.2.1 dX5_countMisses_2 (by decide) ?_
  refine lv_istore_n (lv' := [(3, .int (nI 0)), (2, .int (nI 0)), (0, .ref (xga G 3)), (1, .int (nI w))]) F.1 F.2.1 dX5_countMisses_3 rfl hl (by decide) rfl (fun ls hl => ?_)
  have lp4 : ∀ (k4 : Nat) (Pk : XP) (i : Nat) (t : Nat), ac - i = k4 → (i ≤ ac) → (t = zcnt (fun k => decide (zj o zf zs zd w k = 2)) i) → ∀ (H : Heap) (locs : List Loc) (ls : Array Slot), xW G s s.heap H locs M Pk S V →  lv_has ls 4 [(0, .ref (xga G 3)), (1, .int (nI w)), (2, .int (nI t)), (3, .int (nI i))] → W p l e (rmD 4) s m args below meth c H locs 0 0 (MQ below (va_Qi (fun r u => r = nI (zmi o zf zs zd ac w) ∧ ∃ P2 : XP, u = (M, P2, S, V)) (xB G) (xA G)) args s 0 0 (xA G)) (F0 m 4 ls []) := by
    intro k4
    induction k4 using Nat.strongRecOn with
    | ind k4 ih4 =>
      intro Pk i t hk4 hi h2 H locs ls hW hl
      have ht := zcnt_le (fun k => decide (zj o zf zs zd w k = 2)) i
      refine lv_iload_n F.1 F.2.1 dX5_countMisses_4 rfl (lv_at hl 3 rfl) ?_
      refine lv_aload_n F.1 F.2.1 dX5_countMisses_5 rfl (lv_at hl 0 rfl) ?_
      refine xg_Search_asked F hW tm_127 dX5_countMisses_6 ?_
      refine xg_Ask_count F hW tm_103 dX5_countMisses_9 ?_
      refine lv_icmp_ge (tgt := 34) F.1 F.2.1 dX5_countMisses_12 (by decide) (fun c12 => ?_) (fun c12 => ?_)
      · have c12 := ci_le (a := ((M.2.2.2.2.2.1 : Nat) : Int)) (b := ((i : Nat) : Int)) (nI_toInt (by omega)) (nI_toInt (by omega)) c12
        refine lv_iload_n F.1 F.2.1 dX5_countMisses_34 rfl (lv_at hl 2 rfl) ?_
        refine xre_i F hr hlk hW dX5_countMisses_35 ?_
        exact ⟨by rw [h2, show i = ac by omega]; rfl, _, rfl⟩
      · have c12 := ci_nle (a := ((M.2.2.2.2.2.1 : Nat) : Int)) (b := ((i : Nat) : Int)) (nI_toInt (by omega)) (nI_toInt (by omega)) c12
        refine lv_aload_n F.1 F.2.1 dX5_countMisses_15 rfl (lv_at hl 0 rfl) ?_
        refine lv_iload_n F.1 F.2.1 dX5_countMisses_16 rfl (lv_at hl 1 rfl) ?_
        refine lv_iload_n F.1 F.2.1 dX5_countMisses_17 rfl (lv_at hl 3 rfl) ?_
        refine xca_i (b := (xga G 3)) (As := [.int (nI w), .int (nI i)]) (rest := []) F (c_X5_judge l G M Pk S V n aa ac ra o zf zs zd hV w (by omega) hk i (by omega)) (xcw F.2.2.2.2 ca_X5_judge tm_384 rfl rfl ⟨by decide, by decide⟩) (xr_X5 hW) hW rfl hl.1 rfl (Nat.le_of_ble_eq_true rfl) dX5_countMisses_18 (fun r18 u18 H locs hp18 hW => ?_)
        obtain ⟨rfl, P18, rfl⟩ := hp18
        have hW : xW G s s.heap H locs M P18 S V := hW
        have zl18 := zj_le o zf zs zd w i
        refine lv_iconst (v := nI 2) F.1 F.2.1 dX5_countMisses_21 (by decide) ?_
        refine lv_icmp_ne (tgt := 28) F.1 F.2.1 dX5_countMisses_22 (by decide) (fun c22 => ?_) (fun c22 => ?_)
        · have c22 := ci_ne (a := (((zj o zf zs zd w i) : Nat) : Int)) (b := 2) (nI_toInt (by omega)) (by decide) c22
          skip
          refine lv_iinc (v := nI (i + 1)) (lv' := [(3, .int (nI (i + 1))), (0, .ref (xga G 3)), (1, .int (nI w)), (2, .int (nI t))]) F.1 F.2.1 dX5_countMisses_28 hl (k := 3) rfl (nI_add _ 1) (by decide) rfl (fun ls hl => ?_)
          refine lv_goto (tgt := 4) F.1 F.2.1 dX5_countMisses_31 (by decide) ?_
          exact ih4 (ac - (i + 1)) (by omega) P18 (i + 1) t rfl (by omega) (by rw [zcnt_f (by simp only [decide_eq_true_eq]; omega)]; omega) _ _ _ hW (lv_sub hl [1, 2, 3, 0] rfl)
        · have c22 := ci_eq (a := (((zj o zf zs zd w i) : Nat) : Int)) (b := 2) (nI_toInt (by omega)) (by decide) c22
          skip
          refine lv_iinc (v := nI (t + 1)) (lv' := [(2, .int (nI (t + 1))), (0, .ref (xga G 3)), (1, .int (nI w)), (3, .int (nI i))]) F.1 F.2.1 dX5_countMisses_25 hl (k := 2) rfl (nI_add _ 1) (by decide) rfl (fun ls hl => ?_)
          refine lv_iinc (v := nI (i + 1)) (lv' := [(3, .int (nI (i + 1))), (2, .int (nI (t + 1))), (0, .ref (xga G 3)), (1, .int (nI w))]) F.1 F.2.1 dX5_countMisses_28 hl (k := 3) rfl (nI_add _ 1) (by decide) rfl (fun ls hl => ?_)
          refine lv_goto (tgt := 4) F.1 F.2.1 dX5_countMisses_31 (by decide) ?_
          exact ih4 (ac - (i + 1)) (by omega) P18 (i + 1) (t + 1) rfl (by omega) (by rw [zcnt_t (by simp only [decide_eq_true_eq]; omega)]; omega) _ _ _ hW (lv_sub hl [2, 3, 1, 0] rfl)
  exact lp4 (ac - 0) P 0 0 rfl (Nat.zero_le _) (rfl) _ _ _ hW (lv_sub hl [2, 3, 1, 0] rfl)
