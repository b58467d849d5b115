theorem zjm_nx {n aa : Nat} {ra : Nat → Nat} {k w t : Nat} (h : (ra k = 1 ∧ w = 1200) ∨ (ra k ≠ 1 ∧ w = 0)) (h4 : t = (zwl n aa ra 1200).length * zcnt (fun r => decide (ra r = 1)) k + (zwl n aa ra w).length) : t = (zwl n aa ra 1200).length * zcnt (fun r => decide (ra r = 1)) (k + 1) := by
  rcases h with ⟨h, rfl⟩ | ⟨h, rfl⟩
  · rw [zcnt_t (decide_eq_true h), Nat.mul_add, Nat.mul_one]; exact h4
  · rw [zcnt_f (by simpa using h), h4]; rfl
theorem zdbl_iff {ra : Nat → Nat} {o : Nat → Int32 → Int32 → Int64} {r q : Nat} : zdbl ra o r q = true ↔ (ra q = ra r ∧ zdif o (ra q) q r = wN (ra q)) := by
  rw [zdbl_sym]; unfold zdbl; exact decide_eq_true_iff
theorem dX8_findWays_0 : decode cX8_findWays 0 = .ok (.iconst 0, 1) := by decide +kernel
theorem dX8_findWays_1 : decode cX8_findWays 1 = .ok (.istore_n 1, 1) := by decide +kernel
theorem dX8_findWays_2 : decode cX8_findWays 2 = .ok (.iconst 0, 1) := by decide +kernel
theorem dX8_findWays_3 : decode cX8_findWays 3 = .ok (.istore_n 2, 1) := by decide +kernel
theorem dX8_findWays_4 : decode cX8_findWays 4 = .ok (.iload_n 2, 1) := by decide +kernel
theorem dX8_findWays_5 : decode cX8_findWays 5 = .ok (.sipush 1200, 3) := by decide +kernel
theorem dX8_findWays_8 : decode cX8_findWays 8 = .ok (.if_icmp .ge 35, 3) := by decide +kernel
theorem dX8_findWays_11 : decode cX8_findWays 11 = .ok (.aload_n 0, 1) := by decide +kernel
theorem dX8_findWays_12 : decode cX8_findWays 12 = .ok (.iload_n 2, 1) := by decide +kernel
theorem dX8_findWays_13 : decode cX8_findWays 13 = .ok (.invokevirtual 125, 3) := by decide +kernel
theorem dX8_findWays_16 : decode cX8_findWays 16 = .ok (.ifCond .eq 21, 3) := by decide +kernel
theorem dX8_findWays_19 : decode cX8_findWays 19 = .ok (.aload_n 0, 1) := by decide +kernel
theorem dX8_findWays_20 : decode cX8_findWays 20 = .ok (.iload_n 2, 1) := by decide +kernel
theorem dX8_findWays_21 : decode cX8_findWays 21 = .ok (.invokevirtual 146, 3) := by decide +kernel
theorem dX8_findWays_24 : decode cX8_findWays 24 = .ok (.ifCond .ne 13, 3) := by decide +kernel
theorem dX8_findWays_27 : decode cX8_findWays 27 = .ok (.aload_n 0, 1) := by decide +kernel
theorem dX8_findWays_28 : decode cX8_findWays 28 = .ok (.getfield 48, 3) := by decide +kernel
theorem dX8_findWays_31 : decode cX8_findWays 31 = .ok (.iload_n 1, 1) := by decide +kernel
theorem dX8_findWays_32 : decode cX8_findWays 32 = .ok (.iload_n 2, 1) := by decide +kernel
theorem dX8_findWays_33 : decode cX8_findWays 33 = .ok (.iastore, 1) := by decide +kernel
theorem dX8_findWays_34 : decode cX8_findWays 34 = .ok (.iinc 1 1, 3) := by decide +kernel
theorem dX8_findWays_37 : decode cX8_findWays 37 = .ok (.iinc 2 1, 3) := by decide +kernel
theorem dX8_findWays_40 : decode cX8_findWays 40 = .ok (.goto (-36), 3) := by decide +kernel
theorem dX8_findWays_43 : decode cX8_findWays 43 = .ok (.iload_n 1, 1) := by decide +kernel
theorem dX8_findWays_44 : decode cX8_findWays 44 = .ok (.ireturn, 1) := by decide +kernel
set_option maxHeartbeats 4000000 in
set_option maxRecDepth 100000 in
theorem c_X8_findWays (l : Launch) (G : MG) (M : MM) (P : MP) (L : ML) (N : MN) (fw : Nat → Nat) (oc : Nat → Int64) (hp : Nat → Nat) (mo un : Nat) (n aa ac : Nat) (ra : Nat → Nat) (o : Nat → Int32 → Int32 → Int64) (zf zs : Nat → Int32) (zd : Nat → Int64) (hV : mV M n aa ac ra o zf zs zd) : Met l yX8_findWays (wC yX8_findWays cX8_findWays 3 (some .int)) (rmD 7) (mPc G [.ref (mga G 0)] M P L N (fw, oc, hp, mo, un)) (va_Qi (fun v u => v = nI ((zwl n aa ra 1200).filter (fun w => decide (zst o zf zs zd ac w = 0))).length ∧ ∃ (P2 : MP) (L2 : ML) (fw2 : Nat → Nat), u = (M, P2, L2, N, (fw2, oc, hp, mo, un)) ∧ zpre fw2 ((zwl n aa ra 1200).filter (fun w => decide (zst o zf zs zd ac w = 0)))) (mB G) (mA G)) 0 0 (mA G) := by
  refine mst "DoFinderModel" (by decide) rfl (Nat.le_of_ble_eq_true rfl) ?_
  intro p e s m args below meth c ls F hr hlk hW hl
  have hl : lv_has ls 3 [(0, .ref (mga G 0))] := hl
  have hW : mW G s s.heap s.heap [] M P L N (fw, oc, hp, mo, un) := hW
  obtain ⟨en, ea, ec, era, eo, ef, es, ed, bn, ba, bc, bf, brc, bra, bd⟩ := id hV
  refine lv_iconst (v := nI 0) F.1 F.2.1 dX8_findWays_0 (by decide) ?_
  refine lv_istore_n (lv' := [(1, .int (nI 0)), (0, .ref (mga G 0))]) F.1 F.2.1 dX8_findWays_1 rfl hl (by decide) rfl (fun ls hl => ?_)
  refine lv_iconst (v := nI 0) F.1 F.2.1 dX8_findWays_2 (by decide) ?_
  refine lv_istore_n (lv' := [(2, .int (nI 0)), (1, .int (nI 0)), (0, .ref (mga G 0))]) F.1 F.2.1 dX8_findWays_3 rfl hl (by decide) rfl (fun ls hl => ?_)
  have lp4 : ∀ (k4 : Nat) (Pk : MP) (Lk : ML) (t : Nat) (w : Nat) (fz : Nat → Nat), 1200 - w = k4 → (w ≤ 1200) → (t = (zfl n aa ra (fun w => decide (zst o zf zs zd ac w = 0)) w).length) → (zpre fz (zfl n aa ra (fun w => decide (zst o zf zs zd ac w = 0)) w)) → ∀ (H : Heap) (locs : List Loc) (ls : Array Slot), mW G s s.heap H locs M Pk Lk N (fz, oc, hp, mo, un) →  lv_has ls 3 [(0, .ref (mga G 0)), (1, .int (nI t)), (2, .int (nI w))] → W p l e (rmD 7) s m args below meth c H locs 0 0 (MQ below (va_Qi (fun v u => v = nI ((zwl n aa ra 1200).filter (fun w => decide (zst o zf zs zd ac w = 0))).length ∧ ∃ (P2 : MP) (L2 : ML) (fw2 : Nat → Nat), u = (M, P2, L2, N, (fw2, oc, hp, mo, un)) ∧ zpre fw2 ((zwl n aa ra 1200).filter (fun w => decide (zst o zf zs zd ac w = 0)))) (mB G) (mA G)) args s 0 0 (mA G)) (F0 m 4 ls []) := by
    intro k4
    induction k4 using Nat.strongRecOn with
    | ind k4 ih4 =>
      intro Pk Lk t w fz hk4 h1 h2 h3 H locs ls hW hl
      refine lv_iload_n F.1 F.2.1 dX8_findWays_4 rfl (lv_at hl 2 rfl) ?_
      refine lv_sipush (v := nI 1200) F.1 F.2.1 dX8_findWays_5 (by decide) ?_
      refine lv_icmp_ge (tgt := 43) F.1 F.2.1 dX8_findWays_8 (by decide) (fun c8 => ?_) (fun c8 => ?_)
      · have c8 := ci_le (a := 1200) (b := ((w : Nat) : Int)) (by decide) (nI_toInt (by omega)) c8
        refine lv_iload_n F.1 F.2.1 dX8_findWays_43 rfl (lv_at hl 1 rfl) ?_
        refine mre_i F hr hlk hW dX8_findWays_44 ?_
        rw [show w = 1200 by omega] at h2 h3
        exact ⟨by rw [h2]; rfl, _, _, _, rfl, h3⟩
      · have c8 := ci_nle (a := 1200) (b := ((w : Nat) : Int)) (by decide) (nI_toInt (by omega)) c8
        refine lv_aload_n F.1 F.2.1 dX8_findWays_11 rfl (lv_at hl 0 rfl) ?_
        refine lv_iload_n F.1 F.2.1 dX8_findWays_12 rfl (lv_at hl 2 rfl) ?_
        refine mca_i (b := (mga G 0)) (As := [.int (nI w)]) (rest := []) F (c_X8_isWay l G M Pk Lk N (fz, oc, hp, mo, un) n aa ac ra o zf zs zd hV w (by omega)) (xcw F.2.2.2.2 ca_X8_isWay tm_675 rfl rfl ⟨by decide, by decide⟩) (mr_X8 hW) hW rfl hl.1 rfl (Nat.le_of_ble_eq_true rfl) dX8_findWays_13 (fun r13 u13 H locs hp13 hW => ?_)
        obtain ⟨hp13, rfl⟩ := hp13
        have hW : mW G s s.heap H locs M Pk Lk N (fz, oc, hp, mo, un) := hW
        rcases hp13 with ⟨rfl, y13⟩ | ⟨rfl, y13⟩
        · skip
          have hkk : zok n aa ra w = true := zok_of_way bn y13
          refine lv_if_eq (tgt := 37) F.1 F.2.1 dX8_findWays_16 (by decide) (fun q => absurd q (by decide)) (fun _ => ?_)
          refine lv_aload_n F.1 F.2.1 dX8_findWays_19 rfl (lv_at hl 0 rfl) ?_
          refine lv_iload_n F.1 F.2.1 dX8_findWays_20 rfl (lv_at hl 2 rfl) ?_
          refine mca_i (b := (mga G 0)) (As := [.int (nI w)]) (rest := []) F (c_X8_stateOf l G M Pk Lk N (fz, oc, hp, mo, un) n aa ac ra o zf zs zd hV w (by omega) hkk) (xcw F.2.2.2.2 ca_X8_stateOf tm_699 rfl rfl ⟨by decide, by decide⟩) (mr_X8 hW) hW rfl hl.1 rfl (Nat.le_of_ble_eq_true rfl) dX8_findWays_21 (fun r21 u21 H locs hp21 hW => ?_)
          obtain ⟨rfl, P21, rfl⟩ := hp21
          have hW : mW G s s.heap H locs M P21 (zmi o zf zs zd ac w, zdo o zf zs zd ac w) N (fz, oc, hp, mo, un) := hW
          have zs21 : (zst o zf zs zd ac w) ≤ 2 := zst_le _ _ _ _ _ _
          refine lv_if_ne (tgt := 37) F.1 F.2.1 dX8_findWays_24 (by decide) (fun c24 => ?_) (fun c24 => ?_)
          · have c24 := ci_ne (a := (((zst o zf zs zd ac w) : Nat) : Int)) (b := 0) (nI_toInt (by omega)) ci_0 c24
            skip
            refine lv_iinc (v := nI (w + 1)) (lv' := [(2, .int (nI (w + 1))), (0, .ref (mga G 0)), (1, .int (nI t))]) F.1 F.2.1 dX8_findWays_37 hl (k := 2) rfl (nI_add _ 1) (by decide) rfl (fun ls hl => ?_)
            refine lv_goto (tgt := 4) F.1 F.2.1 dX8_findWays_40 (by decide) ?_
            exact ih4 (1200 - (w + 1)) (by omega) P21 (zmi o zf zs zd ac w, zdo o zf zs zd ac w) t (w + 1) fz rfl (by omega) (by rw [zfl_f (fun z => by have := of_decide_eq_true z.2; omega)]; exact h2) (by rw [zfl_f (fun z => by have := of_decide_eq_true z.2; omega)]; exact h3) _ _ _ hW (lv_sub hl [1, 2, 0] rfl)
          · have c24 := ci_eq (a := (((zst o zf zs zd ac w) : Nat) : Int)) (b := 0) (nI_toInt (by omega)) ci_0 c24
            have b7 := zfl_lt (p := (fun w => decide (zst o zf zs zd ac w = 0))) bn y13 (decide_eq_true (by omega)) (show w < 1200 by omega)
            refine lv_aload_n F.1 F.2.1 dX8_findWays_27 rfl (lv_at hl 0 rfl) ?_
            refine mg_foundWays F hW tm_519 dX8_findWays_28 ?_
            refine lv_iload_n F.1 F.2.1 dX8_findWays_31 rfl (lv_at hl 1 rfl) ?_
            refine lv_iload_n F.1 F.2.1 dX8_findWays_32 rfl (lv_at hl 2 rfl) ?_
            refine ms_fw (i := t) (k := w) F hW rfl (by omega) rfl dX8_findWays_33 (fun H locs hW => ?_)
            have hW : mW G s s.heap H locs M P21 (zmi o zf zs zd ac w, zdo o zf zs zd ac w) N (upN fz t w, oc, hp, mo, un) := hW
            refine lv_iinc (v := nI (t + 1)) (lv' := [(1, .int (nI (t + 1))), (0, .ref (mga G 0)), (2, .int (nI w))]) F.1 F.2.1 dX8_findWays_34 hl (k := 1) rfl (nI_add _ 1) (by decide) rfl (fun ls hl => ?_)
            refine lv_iinc (v := nI (w + 1)) (lv' := [(2, .int (nI (w + 1))), (1, .int (nI (t + 1))), (0, .ref (mga G 0))]) F.1 F.2.1 dX8_findWays_37 hl (k := 2) rfl (nI_add _ 1) (by decide) rfl (fun ls hl => ?_)
            refine lv_goto (tgt := 4) F.1 F.2.1 dX8_findWays_40 (by decide) ?_
            exact ih4 (1200 - (w + 1)) (by omega) P21 (zmi o zf zs zd ac w, zdo o zf zs zd ac w) (t + 1) (w + 1) (upN fz t w) rfl (by omega) (by rw [zfl_t y13 (decide_eq_true (by omega)), List.length_append, ← h2]; rfl) (by rw [zfl_t y13 (decide_eq_true (by omega)), h2]; exact zpre_push _ h3) _ _ _ hW (lv_sub hl [2, 1, 0] rfl)
        · skip
          skip
          refine lv_if_eq (tgt := 37) F.1 F.2.1 dX8_findWays_16 (by decide) (fun _ => ?_) (fun q => absurd q (by decide))
          refine lv_iinc (v := nI (w + 1)) (lv' := [(2, .int (nI (w + 1))), (0, .ref (mga G 0)), (1, .int (nI t))]) F.1 F.2.1 dX8_findWays_37 hl (k := 2) rfl (nI_add _ 1) (by decide) rfl (fun ls hl => ?_)
          refine lv_goto (tgt := 4) F.1 F.2.1 dX8_findWays_40 (by decide) ?_
          exact ih4 (1200 - (w + 1)) (by omega) Pk Lk t (w + 1) fz rfl (by omega) (by rw [zfl_f (fun z => y13 z.1)]; exact h2) (by rw [zfl_f (fun z => y13 z.1)]; exact h3) _ _ _ hW (lv_sub hl [1, 2, 0] rfl)
  exact lp4 (1200 - 0) P L 0 0 fw rfl (Nat.zero_le _) (rfl) (zpre_nil) _ _ _ hW (lv_sub hl [2, 1, 0] rfl)
theorem dX8_wayMany_0 : decode cX8_wayMany 0 = .ok (.iconst 0, 1) := by decide +kernel
theorem dX8_wayMany_1 : decode cX8_wayMany 1 = .ok (.istore_n 2, 1) := by decide +kernel
theorem dX8_wayMany_2 : decode cX8_wayMany 2 = .ok (.iconst 0, 1) := by decide +kernel
theorem dX8_wayMany_3 : decode cX8_wayMany 3 = .ok (.istore_n 3, 1) := by decide +kernel
theorem dX8_wayMany_4 : decode cX8_wayMany 4 = .ok (.iload_n 3, 1) := by decide +kernel
theorem dX8_wayMany_5 : decode cX8_wayMany 5 = .ok (.sipush 1200, 3) := by decide +kernel
theorem dX8_wayMany_8 : decode cX8_wayMany 8 = .ok (.if_icmp .ge 38, 3) := by decide +kernel
theorem dX8_wayMany_11 : decode cX8_wayMany 11 = .ok (.iload_n 2, 1) := by decide +kernel
theorem dX8_wayMany_12 : decode cX8_wayMany 12 = .ok (.aload_n 0, 1) := by decide +kernel
theorem dX8_wayMany_13 : decode cX8_wayMany 13 = .ok (.iload_n 3, 1) := by decide +kernel
theorem dX8_wayMany_14 : decode cX8_wayMany 14 = .ok (.invokevirtual 125, 3) := by decide +kernel
theorem dX8_wayMany_17 : decode cX8_wayMany 17 = .ok (.ifCond .eq 20, 3) := by decide +kernel
theorem dX8_wayMany_20 : decode cX8_wayMany 20 = .ok (.iload_n 1, 1) := by decide +kernel
theorem dX8_wayMany_21 : decode cX8_wayMany 21 = .ok (.ifCond .lt 12, 3) := by decide +kernel
theorem dX8_wayMany_24 : decode cX8_wayMany 24 = .ok (.aload_n 0, 1) := by decide +kernel
theorem dX8_wayMany_25 : decode cX8_wayMany 25 = .ok (.iload_n 3, 1) := by decide +kernel
theorem dX8_wayMany_26 : decode cX8_wayMany 26 = .ok (.invokevirtual 146, 3) := by decide +kernel
theorem dX8_wayMany_29 : decode cX8_wayMany 29 = .ok (.iload_n 1, 1) := by decide +kernel
theorem dX8_wayMany_30 : decode cX8_wayMany 30 = .ok (.if_icmp .ne 7, 3) := by decide +kernel
theorem dX8_wayMany_33 : decode cX8_wayMany 33 = .ok (.iconst 1, 1) := by decide +kernel
theorem dX8_wayMany_34 : decode cX8_wayMany 34 = .ok (.goto 4, 3) := by decide +kernel
theorem dX8_wayMany_37 : decode cX8_wayMany 37 = .ok (.iconst 0, 1) := by decide +kernel
theorem dX8_wayMany_38 : decode cX8_wayMany 38 = .ok (.iadd, 1) := by decide +kernel
theorem dX8_wayMany_39 : decode cX8_wayMany 39 = .ok (.istore_n 2, 1) := by decide +kernel
theorem dX8_wayMany_40 : decode cX8_wayMany 40 = .ok (.iinc 3 1, 3) := by decide +kernel
theorem dX8_wayMany_43 : decode cX8_wayMany 43 = .ok (.goto (-39), 3) := by decide +kernel
theorem dX8_wayMany_46 : decode cX8_wayMany 46 = .ok (.iload_n 2, 1) := by decide +kernel
theorem dX8_wayMany_47 : decode cX8_wayMany 47 = .ok (.ireturn, 1) := by decide +kernel
set_option maxHeartbeats 4000000 in
set_option maxRecDepth 100000 in
theorem c_X8_wayMany_all (l : Launch) (G : MG) (M : MM) (P : MP) (L : ML) (N : MN) (V : MV) (n aa ac : Nat) (ra : Nat → Nat) (o : Nat → Int32 → Int32 → Int64) (zf zs : Nat → Int32) (zd : Nat → Int64) (hV : mV M n aa ac ra o zf zs zd) : Met l yX8_wayMany (wC yX8_wayMany cX8_wayMany 4 (some .int)) (rmD 7) (mPc G [.ref (mga G 0), .int (-1)] M P L N V) (va_Qi (fun v u => v = nI (zwl n aa ra 1200).length ∧ ∃ (P2 : MP) (L2 : ML), u = (M, P2, L2, N, V)) (mB G) (mA G)) 0 0 (mA G) := by
  refine mst "DoFinderModel" (by decide) rfl (Nat.le_of_ble_eq_true rfl) ?_
  intro p e s m args below meth c ls F hr hlk hW hl
  have hl : lv_has ls 4 [(0, .ref (mga G 0)), (1, .int (-1))] := hl
  have hW : mW G s s.heap s.heap [] M P L N V := hW
  obtain ⟨en, ea, ec, era, eo, ef, es, ed, bn, ba, bc, bf, brc, bra, bd⟩ := id hV
  refine lv_iconst (v := nI 0) F.1 F.2.1 dX8_wayMany_0 (by decide) ?_
  refine lv_istore_n (lv' := [(2, .int (nI 0)), (0, .ref (mga G 0)), (1, .int (-1))]) F.1 F.2.1 dX8_wayMany_1 rfl hl (by decide) rfl (fun ls hl => ?_)
  refine lv_iconst (v := nI 0) F.1 F.2.1 dX8_wayMany_2 (by decide) ?_
  refine lv_istore_n (lv' := [(3, .int (nI 0)), (2, .int (nI 0)), (0, .ref (mga G 0)), (1, .int (-1))]) F.1 F.2.1 dX8_wayMany_3 rfl hl (by decide) rfl (fun ls hl => ?_)
  have lp4 : ∀ (k4 : Nat) (Pk : MP) (Lk : ML) (t : Nat) (w : Nat), 1200 - w = k4 → (w ≤ 1200) → (t = (zwl n aa ra w).length) → ∀ (H : Heap) (locs : List Loc) (ls : Array Slot), mW G s s.heap H locs M Pk Lk N V →  lv_has ls 4 [(0, .ref (mga G 0)), (1, .int (-1)), (2, .int (nI t)), (3, .int (nI w))] → W p l e (rmD 7) s m args below meth c H locs 0 0 (MQ below (va_Qi (fun v u => v = nI (zwl n aa ra 1200).length ∧ ∃ (P2 : MP) (L2 : ML), u = (M, P2, L2, N, V)) (mB G) (mA G)) args s 0 0 (mA G)) (F0 m 4 ls []) := by
    intro k4
    induction k4 using Nat.strongRecOn with
    | ind k4 ih4 =>
      intro Pk Lk t w hk4 h1 h2 H locs ls hW hl
      refine lv_iload_n F.1 F.2.1 dX8_wayMany_4 rfl (lv_at hl 3 rfl) ?_
      refine lv_sipush (v := nI 1200) F.1 F.2.1 dX8_wayMany_5 (by decide) ?_
      refine lv_icmp_ge (tgt := 46) F.1 F.2.1 dX8_wayMany_8 (by decide) (fun c8 => ?_) (fun c8 => ?_)
      · have c8 := ci_le (a := 1200) (b := ((w : Nat) : Int)) (by decide) (nI_toInt (by omega)) c8
        refine lv_iload_n F.1 F.2.1 dX8_wayMany_46 rfl (lv_at hl 2 rfl) ?_
        refine mre_i F hr hlk hW dX8_wayMany_47 ?_
        rw [show w = 1200 by omega] at h2
        exact ⟨by rw [h2], _, _, rfl⟩
      · have c8 := ci_nle (a := 1200) (b := ((w : Nat) : Int)) (by decide) (nI_toInt (by omega)) c8
        refine lv_iload_n F.1 F.2.1 dX8_wayMany_11 rfl (lv_at hl 2 rfl) ?_
        refine lv_aload_n F.1 F.2.1 dX8_wayMany_12 rfl (lv_at hl 0 rfl) ?_
        refine lv_iload_n F.1 F.2.1 dX8_wayMany_13 rfl (lv_at hl 3 rfl) ?_
        refine mca_i (b := (mga G 0)) (As := [.int (nI w)]) (rest := [.int (nI t)]) F (c_X8_isWay l G M Pk Lk N V n aa ac ra o zf zs zd hV w (by omega)) (xcw F.2.2.2.2 ca_X8_isWay tm_675 rfl rfl ⟨by decide, by decide⟩) (mr_X8 hW) hW rfl hl.1 rfl (Nat.le_of_ble_eq_true rfl) dX8_wayMany_14 (fun r14 u14 H locs hp14 hW => ?_)
        obtain ⟨hp14, rfl⟩ := hp14
        have hW : mW G s s.heap H locs M Pk Lk N V := hW
        rcases hp14 with ⟨rfl, y14⟩ | ⟨rfl, y14⟩
        · skip
          skip
          refine lv_if_eq (tgt := 37) F.1 F.2.1 dX8_wayMany_17 (by decide) (fun q => absurd q (by decide)) (fun _ => ?_)
          refine lv_iload_n F.1 F.2.1 dX8_wayMany_20 rfl (lv_at hl 1 rfl) ?_
          refine lv_if_lt (tgt := 33) F.1 F.2.1 dX8_wayMany_21 (by decide) (fun _ => ?_) (fun q => absurd q (by decide))
          refine lv_iconst (v := nI 1) F.1 F.2.1 dX8_wayMany_33 (by decide) ?_
          refine lv_goto (tgt := 38) F.1 F.2.1 dX8_wayMany_34 (by decide) ?_
          refine ax_add (z := nI (t + 1)) F (nI_add _ _) dX8_wayMany_38 ?_
          refine lv_istore_n (lv' := [(2, .int (nI (t + 1))), (0, .ref (mga G 0)), (1, .int (-1)), (3, .int (nI w))]) F.1 F.2.1 dX8_wayMany_39 rfl hl (by decide) rfl (fun ls hl => ?_)
          refine lv_iinc (v := nI (w + 1)) (lv' := [(3, .int (nI (w + 1))), (2, .int (nI (t + 1))), (0, .ref (mga G 0)), (1, .int (-1))]) F.1 F.2.1 dX8_wayMany_40 hl (k := 3) rfl (nI_add _ 1) (by decide) rfl (fun ls hl => ?_)
          refine lv_goto (tgt := 4) F.1 F.2.1 dX8_wayMany_43 (by decide) ?_
          exact ih4 (1200 - (w + 1)) (by omega) Pk Lk (t + 1) (w + 1) rfl (by omega) (by rw [zwl_t y14, List.length_append, ← h2]; rfl) _ _ _ hW (lv_sub hl [2, 3, 1, 0] rfl)
        · skip
          skip
          refine lv_if_eq (tgt := 37) F.1 F.2.1 dX8_wayMany_17 (by decide) (fun _ => ?_) (fun q => absurd q (by decide))
          refine lv_iconst (v := nI 0) F.1 F.2.1 dX8_wayMany_37 (by decide) ?_
          refine ax_add (z := nI (t + 0)) F (nI_add _ _) dX8_wayMany_38 ?_
          refine lv_istore_n (lv' := [(2, .int (nI (t + 0))), (0, .ref (mga G 0)), (1, .int (-1)), (3, .int (nI w))]) F.1 F.2.1 dX8_wayMany_39 rfl hl (by decide) rfl (fun ls hl => ?_)
          refine lv_iinc (v := nI (w + 1)) (lv' := [(3, .int (nI (w + 1))), (2, .int (nI (t + 0))), (0, .ref (mga G 0)), (1, .int (-1))]) F.1 F.2.1 dX8_wayMany_40 hl (k := 3) rfl (nI_add _ 1) (by decide) rfl (fun ls hl => ?_)
          refine lv_goto (tgt := 4) F.1 F.2.1 dX8_wayMany_43 (by decide) ?_
          exact ih4 (1200 - (w + 1)) (by omega) Pk Lk (t + 0) (w + 1) rfl (by omega) (by rw [zwl_f y14]; exact h2) _ _ _ hW (lv_sub hl [2, 3, 1, 0] rfl)
  exact lp4 (1200 - 0) P L 0 0 rfl (Nat.zero_le _) (rfl) _ _ _ hW (lv_sub hl [2, 3, 1, 0] rfl)
set_option maxHeartbeats 4000000 in
set_option maxRecDepth 100000 in
theorem c_X8_wayMany (l : Launch) (G : MG) (M : MM) (P : MP) (L : ML) (N : MN) (V : MV) (n aa ac : Nat) (ra : Nat → Nat) (o : Nat → Int32 → Int32 → Int64) (zf zs : Nat → Int32) (zd : Nat → Int64) (hV : mV M n aa ac ra o zf zs zd) (b : Nat) (hb : b < 1000) : Met l yX8_wayMany (wC yX8_wayMany cX8_wayMany 4 (some .int)) (rmD 7) (mPc G [.ref (mga G 0), .int (nI b)] M P L N V) (va_Qi (fun v u => v = nI (zfl n aa ra (fun w => decide (zst o zf zs zd ac w = b)) 1200).length ∧ ∃ (P2 : MP) (L2 : ML), u = (M, P2, L2, N, V)) (mB G) (mA G)) 0 0 (mA G) := by
  refine mst "DoFinderModel" (by decide) rfl (Nat.le_of_ble_eq_true rfl) ?_
  intro p e s m args below meth c ls F hr hlk hW hl
  have hl : lv_has ls 4 [(0, .ref (mga G 0)), (1, .int (nI b))] := hl
  have hW : mW G s s.heap s.heap [] M P L N V := hW
  obtain ⟨en, ea, ec, era, eo, ef, es, ed, bn, ba, bc, bf, brc, bra, bd⟩ := id hV
  refine lv_iconst (v := nI 0) F.1 F.2.1 dX8_wayMany_0 (by decide) ?_
  refine lv_istore_n (lv' := [(2, .int (nI 0)), (0, .ref (mga G 0)), (1, .int (nI b))]) F.1 F.2.1 dX8_wayMany_1 rfl hl (by decide) rfl (fun ls hl => ?_)
  refine lv_iconst (v := nI 0) F.1 F.2.1 dX8_wayMany_2 (by decide) ?_
  refine lv_istore_n (lv' := [(3, .int (nI 0)), (2, .int (nI 0)), (0, .ref (mga G 0)), (1, .int (nI b))]) F.1 F.2.1 dX8_wayMany_3 rfl hl (by decide) rfl (fun ls hl => ?_)
  have lp4 : ∀ (k4 : Nat) (Pk : MP) (Lk : ML) (t : Nat) (w : Nat), 1200 - w = k4 → (w ≤ 1200) → (t = (zfl n aa ra (fun w => decide (zst o zf zs zd ac w = b)) w).length) → ∀ (H : Heap) (locs : List Loc) (ls : Array Slot), mW G s s.heap H locs M Pk Lk N V →  lv_has ls 4 [(0, .ref (mga G 0)), (1, .int (nI b)), (2, .int (nI t)), (3, .int (nI w))] → W p l e (rmD 7) s m args below meth c H locs 0 0 (MQ below (va_Qi (fun v u => v = nI (zfl n aa ra (fun w => decide (zst o zf zs zd ac w = b)) 1200).length ∧ ∃ (P2 : MP) (L2 : ML), u = (M, P2, L2, N, V)) (mB G) (mA G)) args s 0 0 (mA G)) (F0 m 4 ls []) := by
    intro k4
    induction k4 using Nat.strongRecOn with
    | ind k4 ih4 =>
      intro Pk Lk t w hk4 h1 h2 H locs ls hW hl
      refine lv_iload_n F.1 F.2.1 dX8_wayMany_4 rfl (lv_at hl 3 rfl) ?_
      refine lv_sipush (v := nI 1200) F.1 F.2.1 dX8_wayMany_5 (by decide) ?_
      refine lv_icmp_ge (tgt := 46) F.1 F.2.1 dX8_wayMany_8 (by decide) (fun c8 => ?_) (fun c8 => ?_)
      · have c8 := ci_le (a := 1200) (b := ((w : Nat) : Int)) (by decide) (nI_toInt (by omega)) c8
        refine lv_iload_n F.1 F.2.1 dX8_wayMany_46 rfl (lv_at hl 2 rfl) ?_
        refine mre_i F hr hlk hW dX8_wayMany_47 ?_
        rw [show w = 1200 by omega] at h2
        exact ⟨by rw [h2], _, _, rfl⟩
      · have c8 := ci_nle (a := 1200) (b := ((w : Nat) : Int)) (by decide) (nI_toInt (by omega)) c8
        refine lv_iload_n F.1 F.2.1 dX8_wayMany_11 rfl (lv_at hl 2 rfl) ?_
        refine lv_aload_n F.1 F.2.1 dX8_wayMany_12 rfl (lv_at hl 0 rfl) ?_
        refine lv_iload_n F.1 F.2.1 dX8_wayMany_13 rfl (lv_at hl 3 rfl) ?_
        refine mca_i (b := (mga G 0)) (As := [.int (nI w)]) (rest := [.int (nI t)]) F (c_X8_isWay l G M Pk Lk N V n aa ac ra o zf zs zd hV w (by omega)) (xcw F.2.2.2.2 ca_X8_isWay tm_675 rfl rfl ⟨by decide, by decide⟩) (mr_X8 hW) hW rfl hl.1 rfl (Nat.le_of_ble_eq_true rfl) dX8_wayMany_14 (fun r14 u14 H locs hp14 hW => ?_)
        obtain ⟨hp14, rfl⟩ := hp14
        have hW : mW G s s.heap H locs M Pk Lk N V := hW
        rcases hp14 with ⟨rfl, y14⟩ | ⟨rfl, y14⟩
        · skip
          have hkk : zok n aa ra w = true := zok_of_way bn y14
          refine lv_if_eq (tgt := 37) F.1 F.2.1 dX8_wayMany_17 (by decide) (fun q => absurd q (by decide)) (fun _ => ?_)
          refine lv_iload_n F.1 F.2.1 dX8_wayMany_20 rfl (lv_at hl 1 rfl) ?_
          refine lv_if_lt (tgt := 33) F.1 F.2.1 dX8_wayMany_21 (by decide) (fun c21 => ?_) (fun c21 => ?_)
          · exfalso
            have c21 := ci_lt (a := ((b : Nat) : Int)) (b := 0) (nI_toInt (by omega)) ci_0 c21
            omega
          have c21 := ci_nlt (a := ((b : Nat) : Int)) (b := 0) (nI_toInt (by omega)) ci_0 c21
          refine lv_aload_n F.1 F.2.1 dX8_wayMany_24 rfl (lv_at hl 0 rfl) ?_
          refine lv_iload_n F.1 F.2.1 dX8_wayMany_25 rfl (lv_at hl 3 rfl) ?_
          refine mca_i (b := (mga G 0)) (As := [.int (nI w)]) (rest := [.int (nI t)]) F (c_X8_stateOf l G M Pk Lk N V n aa ac ra o zf zs zd hV w (by omega) hkk) (xcw F.2.2.2.2 ca_X8_stateOf tm_699 rfl rfl ⟨by decide, by decide⟩) (mr_X8 hW) hW rfl hl.1 rfl (Nat.le_of_ble_eq_true rfl) dX8_wayMany_26 (fun r26 u26 H locs hp26 hW => ?_)
          obtain ⟨rfl, P26, rfl⟩ := hp26
          have hW : mW G s s.heap H locs M P26 (zmi o zf zs zd ac w, zdo o zf zs zd ac w) N V := hW
          have zs26 : (zst o zf zs zd ac w) ≤ 2 := zst_le _ _ _ _ _ _
          refine lv_iload_n F.1 F.2.1 dX8_wayMany_29 rfl (lv_at hl 1 rfl) ?_
          refine lv_icmp_ne (tgt := 37) F.1 F.2.1 dX8_wayMany_30 (by decide) (fun c30 => ?_) (fun c30 => ?_)
          · have c30 := ci_ne (a := (((zst o zf zs zd ac w) : Nat) : Int)) (b := ((b : Nat) : Int)) (nI_toInt (by omega)) (nI_toInt (by omega)) c30
            skip
            refine lv_iconst (v := nI 0) F.1 F.2.1 dX8_wayMany_37 (by decide) ?_
            refine ax_add (z := nI (t + 0)) F (nI_add _ _) dX8_wayMany_38 ?_
            refine lv_istore_n (lv' := [(2, .int (nI (t + 0))), (0, .ref (mga G 0)), (1, .int (nI b)), (3, .int (nI w))]) F.1 F.2.1 dX8_wayMany_39 rfl hl (by decide) rfl (fun ls hl => ?_)
            refine lv_iinc (v := nI (w + 1)) (lv' := [(3, .int (nI (w + 1))), (2, .int (nI (t + 0))), (0, .ref (mga G 0)), (1, .int (nI b))]) F.1 F.2.1 dX8_wayMany_40 hl (k := 3) rfl (nI_add _ 1) (by decide) rfl (fun ls hl => ?_)
            refine lv_goto (tgt := 4) F.1 F.2.1 dX8_wayMany_43 (by decide) ?_
            exact ih4 (1200 - (w + 1)) (by omega) P26 (zmi o zf zs zd ac w, zdo o zf zs zd ac w) (t + 0) (w + 1) rfl (by omega) (by rw [zfl_f (fun z => by have := of_decide_eq_true z.2; omega)]; exact h2) _ _ _ hW (lv_sub hl [2, 3, 1, 0] rfl)
          · have c30 := ci_eq (a := (((zst o zf zs zd ac w) : Nat) : Int)) (b := ((b : Nat) : Int)) (nI_toInt (by omega)) (nI_toInt (by omega)) c30
            skip
            refine lv_iconst (v := nI 1) F.1 F.2.1 dX8_wayMany_33 (by decide) ?_
            refine lv_goto (tgt := 38) F.1 F.2.1 dX8_wayMany_34 (by decide) ?_
            refine ax_add (z := nI (t + 1)) F (nI_add _ _) dX8_wayMany_38 ?_
            refine lv_istore_n (lv' := [(2, .int (nI (t + 1))), (0, .ref (mga G 0)), (1, .int (nI b)), (3, .int (nI w))]) F.1 F.2.1 dX8_wayMany_39 rfl hl (by decide) rfl (fun ls hl => ?_)
            refine lv_iinc (v := nI (w + 1)) (lv' := [(3, .int (nI (w + 1))), (2, .int (nI (t + 1))), (0, .ref (mga G 0)), (1, .int (nI b))]) F.1 F.2.1 dX8_wayMany_40 hl (k := 3) rfl (nI_add _ 1) (by decide) rfl (fun ls hl => ?_)
            refine lv_goto (tgt := 4) F.1 F.2.1 dX8_wayMany_43 (by decide) ?_
            exact ih4 (1200 - (w + 1)) (by omega) P26 (zmi o zf zs zd ac w, zdo o zf zs zd ac w) (t + 1) (w + 1) rfl (by omega) (by rw [zfl_t y14 (decide_eq_true (by omega)), List.length_append, ← h2]; rfl) _ _ _ hW (lv_sub hl [2, 3, 1, 0] rfl)
        · skip
          skip
          refine lv_if_eq (tgt := 37) F.1 F.2.1 dX8_wayMany_17 (by decide) (fun _ => ?_) (fun q => absurd q (by decide))
          refine lv_iconst (v := nI 0) F.1 F.2.1 dX8_wayMany_37 (by decide) ?_
          refine ax_add (z := nI (t + 0)) F (nI_add _ _) dX8_wayMany_38 ?_
          refine lv_istore_n (lv' := [(2, .int (nI (t + 0))), (0, .ref (mga G 0)), (1, .int (nI b)), (3, .int (nI w))]) F.1 F.2.1 dX8_wayMany_39 rfl hl (by decide) rfl (fun ls hl => ?_)
          refine lv_iinc (v := nI (w + 1)) (lv' := [(3, .int (nI (w + 1))), (2, .int (nI (t + 0))), (0, .ref (mga G 0)), (1, .int (nI b))]) F.1 F.2.1 dX8_wayMany_40 hl (k := 3) rfl (nI_add _ 1) (by decide) rfl (fun ls hl => ?_)
          refine lv_goto (tgt := 4) F.1 F.2.1 dX8_wayMany_43 (by decide) ?_
          exact ih4 (1200 - (w + 1)) (by omega) Pk Lk (t + 0) (w + 1) rfl (by omega) (by rw [zfl_f (fun z => y14 z.1)]; exact h2) _ _ _ hW (lv_sub hl [2, 3, 1, 0] rfl)
  exact lp4 (1200 - 0) P L 0 0 rfl (Nat.zero_le _) (rfl) _ _ _ hW (lv_sub hl [2, 3, 1, 0] rfl)
theorem dX8_jointMany_0 : decode cX8_jointMany 0 = .ok (.iconst 0, 1) := by decide +kernel
theorem dX8_jointMany_1 : decode cX8_jointMany 1 = .ok (.istore_n 2, 1) := by decide +kernel
theorem dX8_jointMany_2 : decode cX8_jointMany 2 = .ok (.iconst 0, 1) := by decide +kernel
theorem dX8_jointMany_3 : decode cX8_jointMany 3 = .ok (.istore_n 3, 1) := by decide +kernel
theorem dX8_jointMany_4 : decode cX8_jointMany 4 = .ok (.iload_n 3, 1) := by decide +kernel
theorem dX8_jointMany_5 : decode cX8_jointMany 5 = .ok (.aload_n 0, 1) := by decide +kernel
theorem dX8_jointMany_6 : decode cX8_jointMany 6 = .ok (.getfield 57, 3) := by decide +kernel
theorem dX8_jointMany_9 : decode cX8_jointMany 9 = .ok (.if_icmp .ge 74, 3) := by decide +kernel
theorem dX8_jointMany_12 : decode cX8_jointMany 12 = .ok (.iconst 0, 1) := by decide +kernel
theorem dX8_jointMany_13 : decode cX8_jointMany 13 = .ok (.istore 4, 2) := by decide +kernel
theorem dX8_jointMany_15 : decode cX8_jointMany 15 = .ok (.iload 4, 2) := by decide +kernel
theorem dX8_jointMany_17 : decode cX8_jointMany 17 = .ok (.sipush 1200, 3) := by decide +kernel
theorem dX8_jointMany_20 : decode cX8_jointMany 20 = .ok (.if_icmp .ge 57, 3) := by decide +kernel
theorem dX8_jointMany_23 : decode cX8_jointMany 23 = .ok (.aload_n 0, 1) := by decide +kernel
theorem dX8_jointMany_24 : decode cX8_jointMany 24 = .ok (.getfield 7, 3) := by decide +kernel
theorem dX8_jointMany_27 : decode cX8_jointMany 27 = .ok (.iload_n 3, 1) := by decide +kernel
theorem dX8_jointMany_28 : decode cX8_jointMany 28 = .ok (.iaload, 1) := by decide +kernel
theorem dX8_jointMany_29 : decode cX8_jointMany 29 = .ok (.iconst 1, 1) := by decide +kernel
theorem dX8_jointMany_30 : decode cX8_jointMany 30 = .ok (.if_icmp .ne 47, 3) := by decide +kernel
theorem dX8_jointMany_33 : decode cX8_jointMany 33 = .ok (.iload_n 2, 1) := by decide +kernel
theorem dX8_jointMany_34 : decode cX8_jointMany 34 = .ok (.aload_n 0, 1) := by decide +kernel
theorem dX8_jointMany_35 : decode cX8_jointMany 35 = .ok (.iload 4, 2) := by decide +kernel
theorem dX8_jointMany_37 : decode cX8_jointMany 37 = .ok (.invokevirtual 125, 3) := by decide +kernel
theorem dX8_jointMany_40 : decode cX8_jointMany 40 = .ok (.ifCond .eq 28, 3) := by decide +kernel
theorem dX8_jointMany_43 : decode cX8_jointMany 43 = .ok (.iload_n 1, 1) := by decide +kernel
theorem dX8_jointMany_44 : decode cX8_jointMany 44 = .ok (.ifCond .eq 20, 3) := by decide +kernel
theorem dX8_jointMany_47 : decode cX8_jointMany 47 = .ok (.aload_n 0, 1) := by decide +kernel
theorem dX8_jointMany_48 : decode cX8_jointMany 48 = .ok (.sipush 10000, 3) := by decide +kernel
theorem dX8_jointMany_51 : decode cX8_jointMany 51 = .ok (.iload_n 3, 1) := by decide +kernel
theorem dX8_jointMany_52 : decode cX8_jointMany 52 = .ok (.iconst 1, 1) := by decide +kernel
theorem dX8_jointMany_53 : decode cX8_jointMany 53 = .ok (.iadd, 1) := by decide +kernel
theorem dX8_jointMany_54 : decode cX8_jointMany 54 = .ok (.imul, 1) := by decide +kernel
theorem dX8_jointMany_55 : decode cX8_jointMany 55 = .ok (.iload 4, 2) := by decide +kernel
theorem dX8_jointMany_57 : decode cX8_jointMany 57 = .ok (.iadd, 1) := by decide +kernel
theorem dX8_jointMany_58 : decode cX8_jointMany 58 = .ok (.invokevirtual 146, 3) := by decide +kernel
theorem dX8_jointMany_61 : decode cX8_jointMany 61 = .ok (.ifCond .ne 7, 3) := by decide +kernel
theorem dX8_jointMany_64 : decode cX8_jointMany 64 = .ok (.iconst 1, 1) := by decide +kernel
theorem dX8_jointMany_65 : decode cX8_jointMany 65 = .ok (.goto 4, 3) := by decide +kernel
theorem dX8_jointMany_68 : decode cX8_jointMany 68 = .ok (.iconst 0, 1) := by decide +kernel
theorem dX8_jointMany_69 : decode cX8_jointMany 69 = .ok (.iadd, 1) := by decide +kernel
theorem dX8_jointMany_70 : decode cX8_jointMany 70 = .ok (.istore_n 2, 1) := by decide +kernel
theorem dX8_jointMany_71 : decode cX8_jointMany 71 = .ok (.iinc 4 1, 3) := by decide +kernel
theorem dX8_jointMany_74 : decode cX8_jointMany 74 = .ok (.goto (-59), 3) := by decide +kernel
theorem dX8_jointMany_77 : decode cX8_jointMany 77 = .ok (.iinc 3 1, 3) := by decide +kernel
theorem dX8_jointMany_80 : decode cX8_jointMany 80 = .ok (.goto (-76), 3) := by decide +kernel
theorem dX8_jointMany_83 : decode cX8_jointMany 83 = .ok (.iload_n 2, 1) := by decide +kernel
theorem dX8_jointMany_84 : decode cX8_jointMany 84 = .ok (.ireturn, 1) := by decide +kernel
set_option maxHeartbeats 4000000 in
set_option maxRecDepth 100000 in
theorem c_X8_jointMany_f (l : Launch) (G : MG) (M : MM) (P : MP) (L : ML) (N : MN) (V : MV) (n aa ac : Nat) (ra : Nat → Nat) (o : Nat → Int32 → Int32 → Int64) (zf zs : Nat → Int32) (zd : Nat → Int64) (hV : mV M n aa ac ra o zf zs zd) : Met l yX8_jointMany (wC yX8_jointMany cX8_jointMany 5 (some .int)) (rmD 7) (mPc G [.ref (mga G 0), .int (nI 1)] M P L N V) (va_Qi (fun v u => v = nI (zjl (zwl n aa ra 1200) ra (fun w => decide (zst o zf zs zd ac w = 0)) n).length ∧ ∃ (P2 : MP) (L2 : ML), u = (M, P2, L2, N, V)) (mB G) (mA G)) 0 0 (mA G) := by
  refine mst "DoFinderModel" (by decide) rfl (Nat.le_of_ble_eq_true rfl) ?_
  intro p e s m args below meth c ls F hr hlk hW hl
  have hl : lv_has ls 5 [(0, .ref (mga G 0)), (1, .int (nI 1))] := hl
  have hW : mW G s s.heap s.heap [] M P L N V := hW
  obtain ⟨en, ea, ec, era, eo, ef, es, ed, bn, ba, bc, bf, brc, bra, bd⟩ := id hV
  refine lv_iconst (v := nI 0) F.1 F.2.1 dX8_jointMany_0 (by decide) ?_
  refine lv_istore_n (lv' := [(2, .int (nI 0)), (0, .ref (mga G 0)), (1, .int (nI 1))]) F.1 F.2.1 dX8_jointMany_1 rfl hl (by decide) rfl (fun ls hl => ?_)
  refine lv_iconst (v := nI 0) F.1 F.2.1 dX8_jointMany_2 (by decide) ?_
  refine lv_istore_n (lv' := [(3, .int (nI 0)), (2, .int (nI 0)), (0, .ref (mga G 0)), (1, .int (nI 1))]) F.1 F.2.1 dX8_jointMany_3 rfl hl (by decide) rfl (fun ls hl => ?_)
  have lp4 : ∀ (k4 : Nat) (Pk : MP) (Lk : ML) (js : Nat) (t : Nat), n - js = k4 → (js ≤ n) → (t = (zjl (zwl n aa ra 1200) ra (fun w => decide (zst o zf zs zd ac w = 0)) js).length) → ∀ (H : Heap) (locs : List Loc) (ls : Array Slot), mW G s s.heap H locs M Pk Lk N V →  lv_has ls 5 [(0, .ref (mga G 0)), (1, .int (nI 1)), (2, .int (nI t)), (3, .int (nI js))] → W p l e (rmD 7) s m args below meth c H locs 0 0 (MQ below (va_Qi (fun v u => v = nI (zjl (zwl n aa ra 1200) ra (fun w => decide (zst o zf zs zd ac w = 0)) n).length ∧ ∃ (P2 : MP) (L2 : ML), u = (M, P2, L2, N, V)) (mB G) (mA G)) args s 0 0 (mA G)) (F0 m 4 ls []) := by
    intro k4
    induction k4 using Nat.strongRecOn with
    | ind k4 ih4 =>
      intro Pk Lk js t hk4 h1 h2 H locs ls hW hl
      refine lv_iload_n F.1 F.2.1 dX8_jointMany_4 rfl (lv_at hl 3 rfl) ?_
      refine lv_aload_n F.1 F.2.1 dX8_jointMany_5 rfl (lv_at hl 0 rfl) ?_
      refine mg_routines F hW tm_500 dX8_jointMany_6 ?_
      refine lv_icmp_ge (tgt := 83) F.1 F.2.1 dX8_jointMany_9 (by decide) (fun c9 => ?_) (fun c9 => ?_)
      · have c9 := ci_le (a := ((M.1 : Nat) : Int)) (b := ((js : Nat) : Int)) (nI_toInt (by omega)) (nI_toInt (by omega)) c9
        refine lv_iload_n F.1 F.2.1 dX8_jointMany_83 rfl (lv_at hl 2 rfl) ?_
        refine mre_i F hr hlk hW dX8_jointMany_84 ?_
        rw [show js = n by omega] at h2
        exact ⟨congrArg nI h2, _, _, rfl⟩
      · have c9 := ci_nle (a := ((M.1 : Nat) : Int)) (b := ((js : Nat) : Int)) (nI_toInt (by omega)) (nI_toInt (by omega)) c9
        have q1 := bra js (by omega)
        have q2 := era js (by omega)
        refine lv_iconst (v := nI 0) F.1 F.2.1 dX8_jointMany_12 (by decide) ?_
        refine lv_istore (lv' := [(4, .int (nI 0)), (0, .ref (mga G 0)), (1, .int (nI 1)), (2, .int (nI t)), (3, .int (nI js))]) F.1 F.2.1 dX8_jointMany_13 hl (by decide) rfl (fun ls hl => ?_)
        have lp15 : ∀ (k15 : Nat) (Pj : MP) (Lj : ML) (w : Nat) (t1 : Nat), 1200 - w = k15 → (w ≤ 1200) → (ra js = 1 ∨ w = 0) → (t1 = (zjq n aa ra (fun w => decide (zst o zf zs zd ac w = 0)) js w).length) → ∀ (H : Heap) (locs : List Loc) (ls : Array Slot), mW G s s.heap H locs M Pj Lj N V →  lv_has ls 5 [(0, .ref (mga G 0)), (1, .int (nI 1)), (3, .int (nI js)), (2, .int (nI t1)), (4, .int (nI w))] → W p l e (rmD 7) s m args below meth c H locs 0 0 (MQ below (va_Qi (fun v u => v = nI (zjl (zwl n aa ra 1200) ra (fun w => decide (zst o zf zs zd ac w = 0)) n).length ∧ ∃ (P2 : MP) (L2 : ML), u = (M, P2, L2, N, V)) (mB G) (mA G)) args s 0 0 (mA G)) (F0 m 15 ls []) := by
          intro k15
          induction k15 using Nat.strongRecOn with
          | ind k15 ih15 =>
            intro Pj Lj w t1 hk15 h3 h5 h4 H locs ls hW hl
            refine lv_iload F.1 F.2.1 dX8_jointMany_15 (lv_at hl 4 rfl) ?_
            refine lv_sipush (v := nI 1200) F.1 F.2.1 dX8_jointMany_17 (by decide) ?_
            refine lv_icmp_ge (tgt := 77) F.1 F.2.1 dX8_jointMany_20 (by decide) (fun c20 => ?_) (fun c20 => ?_)
            · have c20 := ci_le (a := 1200) (b := ((w : Nat) : Int)) (by decide) (nI_toInt (by omega)) c20
              refine lv_iinc (v := nI (js + 1)) (lv' := [(3, .int (nI (js + 1))), (0, .ref (mga G 0)), (1, .int (nI 1)), (2, .int (nI t1)), (4, .int (nI w))]) F.1 F.2.1 dX8_jointMany_77 hl (k := 2) rfl (nI_add _ 1) (by decide) rfl (fun ls hl => ?_)
              refine lv_goto (tgt := 4) F.1 F.2.1 dX8_jointMany_80 (by decide) ?_
              exact ih4 (n - (js + 1)) (by omega) Pj Lj (js + 1) t1 rfl (by omega) (by rw [zjq_end (w := w) (by omega)]; exact h4) _ _ _ hW (lv_sub hl [1, 2, 3, 0] rfl)
            · have c20 := ci_nle (a := 1200) (b := ((w : Nat) : Int)) (by decide) (nI_toInt (by omega)) c20
              refine lv_aload_n F.1 F.2.1 dX8_jointMany_23 rfl (lv_at hl 0 rfl) ?_
              refine mg_argumentsOf F hW tm_501 dX8_jointMany_24 ?_
              refine lv_iload_n F.1 F.2.1 dX8_jointMany_27 rfl (lv_at hl 2 rfl) ?_
              refine ml_ra (i := js) F hW rfl (by omega) dX8_jointMany_28 ?_
              refine ax_re (show nI (M.2.1 js) = nI (ra js) from congrArg nI q2) ?_
              refine lv_iconst (v := nI 1) F.1 F.2.1 dX8_jointMany_29 (by decide) ?_
              refine lv_icmp_ne (tgt := 77) F.1 F.2.1 dX8_jointMany_30 (by decide) (fun c30 => ?_) (fun c30 => ?_)
              · have c30 := ci_ne (a := ((ra js : Nat) : Int)) (b := 1) (nI_toInt (by omega)) (by decide) c30
                refine lv_iinc (v := nI (js + 1)) (lv' := [(3, .int (nI (js + 1))), (0, .ref (mga G 0)), (1, .int (nI 1)), (2, .int (nI t1)), (4, .int (nI w))]) F.1 F.2.1 dX8_jointMany_77 hl (k := 2) rfl (nI_add _ 1) (by decide) rfl (fun ls hl => ?_)
                refine lv_goto (tgt := 4) F.1 F.2.1 dX8_jointMany_80 (by decide) ?_
                exact ih4 (n - (js + 1)) (by omega) Pj Lj (js + 1) t1 rfl (by omega) (by rw [zjq_end (w := w) (by omega)]; exact h4) _ _ _ hW (lv_sub hl [1, 2, 3, 0] rfl)
              · have c30 := ci_eq (a := ((ra js : Nat) : Int)) (b := 1) (nI_toInt (by omega)) (by decide) c30
                refine lv_iload_n F.1 F.2.1 dX8_jointMany_33 rfl (lv_at hl 3 rfl) ?_
                refine lv_aload_n F.1 F.2.1 dX8_jointMany_34 rfl (lv_at hl 0 rfl) ?_
                refine lv_iload F.1 F.2.1 dX8_jointMany_35 (lv_at hl 4 rfl) ?_
                refine mca_i (b := (mga G 0)) (As := [.int (nI w)]) (rest := [.int (nI t1)]) F (c_X8_isWay l G M Pj Lj N V n aa ac ra o zf zs zd hV w (by omega)) (xcw F.2.2.2.2 ca_X8_isWay tm_675 rfl rfl ⟨by decide, by decide⟩) (mr_X8 hW) hW rfl hl.1 rfl (Nat.le_of_ble_eq_true rfl) dX8_jointMany_37 (fun r37 u37 H locs hp37 hW => ?_)
                obtain ⟨hp37, rfl⟩ := hp37
                have hW : mW G s s.heap H locs M Pj Lj N V := hW
                rcases hp37 with ⟨rfl, y37⟩ | ⟨rfl, y37⟩
                · skip
                  have hkk : zok n aa ra (10000 * (js + 1) + w) = true := zok_joint (by omega) (by omega) (by omega) y37
                  refine lv_if_eq (tgt := 68) F.1 F.2.1 dX8_jointMany_40 (by decide) (fun q => absurd q (by decide)) (fun _ => ?_)
                  refine lv_iload_n F.1 F.2.1 dX8_jointMany_43 rfl (lv_at hl 1 rfl) ?_
                  refine lv_if_eq (tgt := 64) F.1 F.2.1 dX8_jointMany_44 (by decide) (fun q => absurd q (by decide)) (fun _ => ?_)
                  refine lv_aload_n F.1 F.2.1 dX8_jointMany_47 rfl (lv_at hl 0 rfl) ?_
                  refine lv_sipush (v := nI 10000) F.1 F.2.1 dX8_jointMany_48 (by decide) ?_
                  refine lv_iload_n F.1 F.2.1 dX8_jointMany_51 rfl (lv_at hl 2 rfl) ?_
                  refine lv_iconst (v := nI 1) F.1 F.2.1 dX8_jointMany_52 (by decide) ?_
                  refine ax_add (z := nI (js + 1)) F (nI_add _ _) dX8_jointMany_53 ?_
                  refine ax_mul (z := nI (10000 * (js + 1))) F (pk_mul _ _) dX8_jointMany_54 ?_
                  refine lv_iload F.1 F.2.1 dX8_jointMany_55 (lv_at hl 4 rfl) ?_
                  refine ax_add (z := nI ((10000 * (js + 1)) + w)) F (nI_add _ _) dX8_jointMany_57 ?_
                  refine mca_i (b := (mga G 0)) (As := [.int (nI ((10000 * (js + 1)) + w))]) (rest := [.int (nI t1)]) F (c_X8_stateOf l G M Pj Lj N V n aa ac ra o zf zs zd hV ((10000 * (js + 1)) + w) (by omega) hkk) (xcw F.2.2.2.2 ca_X8_stateOf tm_699 rfl rfl ⟨by decide, by decide⟩) (mr_X8 hW) hW rfl hl.1 rfl (Nat.le_of_ble_eq_true rfl) dX8_jointMany_58 (fun r58 u58 H locs hp58 hW => ?_)
                  obtain ⟨rfl, P58, rfl⟩ := hp58
                  have hW : mW G s s.heap H locs M P58 (zmi o zf zs zd ac ((10000 * (js + 1)) + w), zdo o zf zs zd ac ((10000 * (js + 1)) + w)) N V := hW
                  have zs58 : (zst o zf zs zd ac ((10000 * (js + 1)) + w)) ≤ 2 := zst_le _ _ _ _ _ _
                  refine lv_if_ne (tgt := 68) F.1 F.2.1 dX8_jointMany_61 (by decide) (fun c61 => ?_) (fun c61 => ?_)
                  · have c61 := ci_ne (a := (((zst o zf zs zd ac ((10000 * (js + 1)) + w)) : Nat) : Int)) (b := 0) (nI_toInt (by omega)) ci_0 c61
                    skip
                    refine lv_iconst (v := nI 0) F.1 F.2.1 dX8_jointMany_68 (by decide) ?_
                    refine ax_add (z := nI (t1 + 0)) F (nI_add _ _) dX8_jointMany_69 ?_
                    refine lv_istore_n (lv' := [(2, .int (nI (t1 + 0))), (0, .ref (mga G 0)), (1, .int (nI 1)), (3, .int (nI js)), (4, .int (nI w))]) F.1 F.2.1 dX8_jointMany_70 rfl hl (by decide) rfl (fun ls hl => ?_)
                    refine lv_iinc (v := nI (w + 1)) (lv' := [(4, .int (nI (w + 1))), (2, .int (nI (t1 + 0))), (0, .ref (mga G 0)), (1, .int (nI 1)), (3, .int (nI js))]) F.1 F.2.1 dX8_jointMany_71 hl (k := 4) rfl (nI_add _ 1) (by decide) rfl (fun ls hl => ?_)
                    refine lv_goto (tgt := 15) F.1 F.2.1 dX8_jointMany_74 (by decide) ?_
                    exact ih15 (1200 - (w + 1)) (by omega) P58 (zmi o zf zs zd ac ((10000 * (js + 1)) + w), zdo o zf zs zd ac ((10000 * (js + 1)) + w)) (w + 1) (t1 + 0) rfl (by omega) (Or.inl (by omega)) (by rw [zjq_f (fun z => by have := of_decide_eq_true z.2; omega)]; exact h4) _ _ _ hW (lv_sub hl [2, 3, 4, 1, 0] rfl)
                  · have c61 := ci_eq (a := (((zst o zf zs zd ac ((10000 * (js + 1)) + w)) : Nat) : Int)) (b := 0) (nI_toInt (by omega)) ci_0 c61
                    skip
                    refine lv_iconst (v := nI 1) F.1 F.2.1 dX8_jointMany_64 (by decide) ?_
                    refine lv_goto (tgt := 69) F.1 F.2.1 dX8_jointMany_65 (by decide) ?_
                    refine ax_add (z := nI (t1 + 1)) F (nI_add _ _) dX8_jointMany_69 ?_
                    refine lv_istore_n (lv' := [(2, .int (nI (t1 + 1))), (0, .ref (mga G 0)), (1, .int (nI 1)), (3, .int (nI js)), (4, .int (nI w))]) F.1 F.2.1 dX8_jointMany_70 rfl hl (by decide) rfl (fun ls hl => ?_)
                    refine lv_iinc (v := nI (w + 1)) (lv' := [(4, .int (nI (w + 1))), (2, .int (nI (t1 + 1))), (0, .ref (mga G 0)), (1, .int (nI 1)), (3, .int (nI js))]) F.1 F.2.1 dX8_jointMany_71 hl (k := 4) rfl (nI_add _ 1) (by decide) rfl (fun ls hl => ?_)
                    refine lv_goto (tgt := 15) F.1 F.2.1 dX8_jointMany_74 (by decide) ?_
                    exact ih15 (1200 - (w + 1)) (by omega) P58 (zmi o zf zs zd ac ((10000 * (js + 1)) + w), zdo o zf zs zd ac ((10000 * (js + 1)) + w)) (w + 1) (t1 + 1) rfl (by omega) (Or.inl (by omega)) (by rw [zjq_t y37 (decide_eq_true (by omega)), List.length_append, ← h4]; rfl) _ _ _ hW (lv_sub hl [2, 3, 4, 1, 0] rfl)
                · skip
                  skip
                  refine lv_if_eq (tgt := 68) F.1 F.2.1 dX8_jointMany_40 (by decide) (fun _ => ?_) (fun q => absurd q (by decide))
                  refine lv_iconst (v := nI 0) F.1 F.2.1 dX8_jointMany_68 (by decide) ?_
                  refine ax_add (z := nI (t1 + 0)) F (nI_add _ _) dX8_jointMany_69 ?_
                  refine lv_istore_n (lv' := [(2, .int (nI (t1 + 0))), (0, .ref (mga G 0)), (1, .int (nI 1)), (3, .int (nI js)), (4, .int (nI w))]) F.1 F.2.1 dX8_jointMany_70 rfl hl (by decide) rfl (fun ls hl => ?_)
                  refine lv_iinc (v := nI (w + 1)) (lv' := [(4, .int (nI (w + 1))), (2, .int (nI (t1 + 0))), (0, .ref (mga G 0)), (1, .int (nI 1)), (3, .int (nI js))]) F.1 F.2.1 dX8_jointMany_71 hl (k := 4) rfl (nI_add _ 1) (by decide) rfl (fun ls hl => ?_)
                  refine lv_goto (tgt := 15) F.1 F.2.1 dX8_jointMany_74 (by decide) ?_
                  exact ih15 (1200 - (w + 1)) (by omega) Pj Lj (w + 1) (t1 + 0) rfl (by omega) (Or.inl (by omega)) (by rw [zjq_f (fun z => y37 z.1)]; exact h4) _ _ _ hW (lv_sub hl [2, 3, 4, 1, 0] rfl)
        exact lp15 (1200 - 0) Pk Lk 0 t rfl (Nat.zero_le _) (Or.inr rfl) (by rw [zjq_0]; exact h2) _ _ _ hW (lv_sub hl [1, 2, 4, 3, 0] rfl)
  exact lp4 (n - 0) P L 0 0 rfl (Nat.zero_le _) (rfl) _ _ _ hW (lv_sub hl [2, 3, 1, 0] rfl)
set_option maxHeartbeats 4000000 in
set_option maxRecDepth 100000 in
theorem c_X8_jointMany_a (l : Launch) (G : MG) (M : MM) (P : MP) (L : ML) (N : MN) (V : MV) (n aa ac : Nat) (ra : Nat → Nat) (o : Nat → Int32 → Int32 → Int64) (zf zs : Nat → Int32) (zd : Nat → Int64) (hV : mV M n aa ac ra o zf zs zd) : Met l yX8_jointMany (wC yX8_jointMany cX8_jointMany 5 (some .int)) (rmD 7) (mPc G [.ref (mga G 0), .int (nI 0)] M P L N V) (va_Qi (fun v u => v = nI ((zwl n aa ra 1200).length * zcnt (fun r => decide (ra r = 1)) n) ∧ ∃ (P2 : MP) (L2 : ML), u = (M, P2, L2, N, V)) (mB G) (mA G)) 0 0 (mA G) := by
  refine mst "DoFinderModel" (by decide) rfl (Nat.le_of_ble_eq_true rfl) ?_
  intro p e s m args below meth c ls F hr hlk hW hl
  have hl : lv_has ls 5 [(0, .ref (mga G 0)), (1, .int (nI 0))] := hl
  have hW : mW G s s.heap s.heap [] M P L N V := hW
  obtain ⟨en, ea, ec, era, eo, ef, es, ed, bn, ba, bc, bf, brc, bra, bd⟩ := id hV
  refine lv_iconst (v := nI 0) F.1 F.2.1 dX8_jointMany_0 (by decide) ?_
  refine lv_istore_n (lv' := [(2, .int (nI 0)), (0, .ref (mga G 0)), (1, .int (nI 0))]) F.1 F.2.1 dX8_jointMany_1 rfl hl (by decide) rfl (fun ls hl => ?_)
  refine lv_iconst (v := nI 0) F.1 F.2.1 dX8_jointMany_2 (by decide) ?_
  refine lv_istore_n (lv' := [(3, .int (nI 0)), (2, .int (nI 0)), (0, .ref (mga G 0)), (1, .int (nI 0))]) F.1 F.2.1 dX8_jointMany_3 rfl hl (by decide) rfl (fun ls hl => ?_)
  have lp4 : ∀ (k4 : Nat) (js : Nat) (t : Nat), n - js = k4 → (js ≤ n) → (t = (zwl n aa ra 1200).length * zcnt (fun r => decide (ra r = 1)) js) → ∀ (H : Heap) (locs : List Loc) (ls : Array Slot), mW G s s.heap H locs M P L N V →  lv_has ls 5 [(0, .ref (mga G 0)), (1, .int (nI 0)), (2, .int (nI t)), (3, .int (nI js))] → W p l e (rmD 7) s m args below meth c H locs 0 0 (MQ below (va_Qi (fun v u => v = nI ((zwl n aa ra 1200).length * zcnt (fun r => decide (ra r = 1)) n) ∧ ∃ (P2 : MP) (L2 : ML), u = (M, P2, L2, N, V)) (mB G) (mA G)) args s 0 0 (mA G)) (F0 m 4 ls []) := by
    intro k4
    induction k4 using Nat.strongRecOn with
    | ind k4 ih4 =>
      intro js t hk4 h1 h2 H locs ls hW hl
      refine lv_iload_n F.1 F.2.1 dX8_jointMany_4 rfl (lv_at hl 3 rfl) ?_
      refine lv_aload_n F.1 F.2.1 dX8_jointMany_5 rfl (lv_at hl 0 rfl) ?_
      refine mg_routines F hW tm_500 dX8_jointMany_6 ?_
      refine lv_icmp_ge (tgt := 83) F.1 F.2.1 dX8_jointMany_9 (by decide) (fun c9 => ?_) (fun c9 => ?_)
      · have c9 := ci_le (a := ((M.1 : Nat) : Int)) (b := ((js : Nat) : Int)) (nI_toInt (by omega)) (nI_toInt (by omega)) c9
        refine lv_iload_n F.1 F.2.1 dX8_jointMany_83 rfl (lv_at hl 2 rfl) ?_
        refine mre_i F hr hlk hW dX8_jointMany_84 ?_
        rw [show js = n by omega] at h2
        exact ⟨congrArg nI h2, _, _, rfl⟩
      · have c9 := ci_nle (a := ((M.1 : Nat) : Int)) (b := ((js : Nat) : Int)) (nI_toInt (by omega)) (nI_toInt (by omega)) c9
        have q1 := bra js (by omega)
        have q2 := era js (by omega)
        refine lv_iconst (v := nI 0) F.1 F.2.1 dX8_jointMany_12 (by decide) ?_
        refine lv_istore (lv' := [(4, .int (nI 0)), (0, .ref (mga G 0)), (1, .int (nI 0)), (2, .int (nI t)), (3, .int (nI js))]) F.1 F.2.1 dX8_jointMany_13 hl (by decide) rfl (fun ls hl => ?_)
        have lp15 : ∀ (k15 : Nat) (w : Nat) (t1 : Nat), 1200 - w = k15 → (w ≤ 1200) → (ra js = 1 ∨ w = 0) → (t1 = (zwl n aa ra 1200).length * zcnt (fun r => decide (ra r = 1)) js + (zwl n aa ra w).length) → ∀ (H : Heap) (locs : List Loc) (ls : Array Slot), mW G s s.heap H locs M P L N V →  lv_has ls 5 [(0, .ref (mga G 0)), (1, .int (nI 0)), (3, .int (nI js)), (2, .int (nI t1)), (4, .int (nI w))] → W p l e (rmD 7) s m args below meth c H locs 0 0 (MQ below (va_Qi (fun v u => v = nI ((zwl n aa ra 1200).length * zcnt (fun r => decide (ra r = 1)) n) ∧ ∃ (P2 : MP) (L2 : ML), u = (M, P2, L2, N, V)) (mB G) (mA G)) args s 0 0 (mA G)) (F0 m 15 ls []) := by
          intro k15
          induction k15 using Nat.strongRecOn with
          | ind k15 ih15 =>
            intro w t1 hk15 h3 h5 h4 H locs ls hW hl
            refine lv_iload F.1 F.2.1 dX8_jointMany_15 (lv_at hl 4 rfl) ?_
            refine lv_sipush (v := nI 1200) F.1 F.2.1 dX8_jointMany_17 (by decide) ?_
            refine lv_icmp_ge (tgt := 77) F.1 F.2.1 dX8_jointMany_20 (by decide) (fun c20 => ?_) (fun c20 => ?_)
            · have c20 := ci_le (a := 1200) (b := ((w : Nat) : Int)) (by decide) (nI_toInt (by omega)) c20
              refine lv_iinc (v := nI (js + 1)) (lv' := [(3, .int (nI (js + 1))), (0, .ref (mga G 0)), (1, .int (nI 0)), (2, .int (nI t1)), (4, .int (nI w))]) F.1 F.2.1 dX8_jointMany_77 hl (k := 2) rfl (nI_add _ 1) (by decide) rfl (fun ls hl => ?_)
              refine lv_goto (tgt := 4) F.1 F.2.1 dX8_jointMany_80 (by decide) ?_
              exact ih4 (n - (js + 1)) (by omega) (js + 1) t1 rfl (by omega) (zjm_nx (w := w) (by omega) h4) _ _ _ hW (lv_sub hl [1, 2, 3, 0] rfl)
            · have c20 := ci_nle (a := 1200) (b := ((w : Nat) : Int)) (by decide) (nI_toInt (by omega)) c20
              refine lv_aload_n F.1 F.2.1 dX8_jointMany_23 rfl (lv_at hl 0 rfl) ?_
              refine mg_argumentsOf F hW tm_501 dX8_jointMany_24 ?_
              refine lv_iload_n F.1 F.2.1 dX8_jointMany_27 rfl (lv_at hl 2 rfl) ?_
              refine ml_ra (i := js) F hW rfl (by omega) dX8_jointMany_28 ?_
              refine ax_re (show nI (M.2.1 js) = nI (ra js) from congrArg nI q2) ?_
              refine lv_iconst (v := nI 1) F.1 F.2.1 dX8_jointMany_29 (by decide) ?_
              refine lv_icmp_ne (tgt := 77) F.1 F.2.1 dX8_jointMany_30 (by decide) (fun c30 => ?_) (fun c30 => ?_)
              · have c30 := ci_ne (a := ((ra js : Nat) : Int)) (b := 1) (nI_toInt (by omega)) (by decide) c30
                refine lv_iinc (v := nI (js + 1)) (lv' := [(3, .int (nI (js + 1))), (0, .ref (mga G 0)), (1, .int (nI 0)), (2, .int (nI t1)), (4, .int (nI w))]) F.1 F.2.1 dX8_jointMany_77 hl (k := 2) rfl (nI_add _ 1) (by decide) rfl (fun ls hl => ?_)
                refine lv_goto (tgt := 4) F.1 F.2.1 dX8_jointMany_80 (by decide) ?_
                exact ih4 (n - (js + 1)) (by omega) (js + 1) t1 rfl (by omega) (zjm_nx (w := w) (by omega) h4) _ _ _ hW (lv_sub hl [1, 2, 3, 0] rfl)
              · have c30 := ci_eq (a := ((ra js : Nat) : Int)) (b := 1) (nI_toInt (by omega)) (by decide) c30
                refine lv_iload_n F.1 F.2.1 dX8_jointMany_33 rfl (lv_at hl 3 rfl) ?_
                refine lv_aload_n F.1 F.2.1 dX8_jointMany_34 rfl (lv_at hl 0 rfl) ?_
                refine lv_iload F.1 F.2.1 dX8_jointMany_35 (lv_at hl 4 rfl) ?_
                refine mca_i (b := (mga G 0)) (As := [.int (nI w)]) (rest := [.int (nI t1)]) F (c_X8_isWay l G M P L N V n aa ac ra o zf zs zd hV w (by omega)) (xcw F.2.2.2.2 ca_X8_isWay tm_675 rfl rfl ⟨by decide, by decide⟩) (mr_X8 hW) hW rfl hl.1 rfl (Nat.le_of_ble_eq_true rfl) dX8_jointMany_37 (fun r37 u37 H locs hp37 hW => ?_)
                obtain ⟨hp37, rfl⟩ := hp37
                have hW : mW G s s.heap H locs M P L N V := hW
                rcases hp37 with ⟨rfl, y37⟩ | ⟨rfl, y37⟩
                · skip
                  skip
                  refine lv_if_eq (tgt := 68) F.1 F.2.1 dX8_jointMany_40 (by decide) (fun q => absurd q (by decide)) (fun _ => ?_)
                  refine lv_iload_n F.1 F.2.1 dX8_jointMany_43 rfl (lv_at hl 1 rfl) ?_
                  refine lv_if_eq (tgt := 64) F.1 F.2.1 dX8_jointMany_44 (by decide) (fun _ => ?_) (fun q => absurd q (by decide))
                  refine lv_iconst (v := nI 1) F.1 F.2.1 dX8_jointMany_64 (by decide) ?_
                  refine lv_goto (tgt := 69) F.1 F.2.1 dX8_jointMany_65 (by decide) ?_
                  refine ax_add (z := nI (t1 + 1)) F (nI_add _ _) dX8_jointMany_69 ?_
                  refine lv_istore_n (lv' := [(2, .int (nI (t1 + 1))), (0, .ref (mga G 0)), (1, .int (nI 0)), (3, .int (nI js)), (4, .int (nI w))]) F.1 F.2.1 dX8_jointMany_70 rfl hl (by decide) rfl (fun ls hl => ?_)
                  refine lv_iinc (v := nI (w + 1)) (lv' := [(4, .int (nI (w + 1))), (2, .int (nI (t1 + 1))), (0, .ref (mga G 0)), (1, .int (nI 0)), (3, .int (nI js))]) F.1 F.2.1 dX8_jointMany_71 hl (k := 4) rfl (nI_add _ 1) (by decide) rfl (fun ls hl => ?_)
                  refine lv_goto (tgt := 15) F.1 F.2.1 dX8_jointMany_74 (by decide) ?_
                  exact ih15 (1200 - (w + 1)) (by omega) (w + 1) (t1 + 1) rfl (by omega) (Or.inl (by omega)) (by rw [zwl_t y37, List.length_append, List.length_singleton]; omega) _ _ _ hW (lv_sub hl [2, 3, 4, 1, 0] rfl)
                · skip
                  skip
                  refine lv_if_eq (tgt := 68) F.1 F.2.1 dX8_jointMany_40 (by decide) (fun _ => ?_) (fun q => absurd q (by decide))
                  refine lv_iconst (v := nI 0) F.1 F.2.1 dX8_jointMany_68 (by decide) ?_
                  refine ax_add (z := nI (t1 + 0)) F (nI_add _ _) dX8_jointMany_69 ?_
                  refine lv_istore_n (lv' := [(2, .int (nI (t1 + 0))), (0, .ref (mga G 0)), (1, .int (nI 0)), (3, .int (nI js)), (4, .int (nI w))]) F.1 F.2.1 dX8_jointMany_70 rfl hl (by decide) rfl (fun ls hl => ?_)
                  refine lv_iinc (v := nI (w + 1)) (lv' := [(4, .int (nI (w + 1))), (2, .int (nI (t1 + 0))), (0, .ref (mga G 0)), (1, .int (nI 0)), (3, .int (nI js))]) F.1 F.2.1 dX8_jointMany_71 hl (k := 4) rfl (nI_add _ 1) (by decide) rfl (fun ls hl => ?_)
                  refine lv_goto (tgt := 15) F.1 F.2.1 dX8_jointMany_74 (by decide) ?_
                  exact ih15 (1200 - (w + 1)) (by omega) (w + 1) (t1 + 0) rfl (by omega) (Or.inl (by omega)) (by rw [zwl_f y37]; exact h4) _ _ _ hW (lv_sub hl [2, 3, 4, 1, 0] rfl)
        exact lp15 (1200 - 0) 0 t rfl (Nat.zero_le _) (Or.inr rfl) (h2) _ _ _ hW (lv_sub hl [1, 2, 4, 3, 0] rfl)
  exact lp4 (n - 0) 0 0 rfl (Nat.zero_le _) (rfl) _ _ _ hW (lv_sub hl [2, 3, 1, 0] rfl)
theorem dX8_differAt_0 : decode cX8_differAt 0 = .ok (.aload_n 0, 1) := by decide +kernel
theorem dX8_differAt_1 : decode cX8_differAt 1 = .ok (.getfield 7, 3) := by decide +kernel
theorem dX8_differAt_4 : decode cX8_differAt 4 = .ok (.iload_n 1, 1) := by decide +kernel
theorem dX8_differAt_5 : decode cX8_differAt 5 = .ok (.iaload, 1) := by decide +kernel
theorem dX8_differAt_6 : decode cX8_differAt 6 = .ok (.istore_n 3, 1) := by decide +kernel
theorem dX8_differAt_7 : decode cX8_differAt 7 = .ok (.iconst 0, 1) := by decide +kernel
theorem dX8_differAt_8 : decode cX8_differAt 8 = .ok (.istore 4, 2) := by decide +kernel
theorem dX8_differAt_10 : decode cX8_differAt 10 = .ok (.iload 4, 2) := by decide +kernel
theorem dX8_differAt_12 : decode cX8_differAt 12 = .ok (.iload_n 3, 1) := by decide +kernel
theorem dX8_differAt_13 : decode cX8_differAt 13 = .ok (.invokestatic 162, 3) := by decide +kernel
theorem dX8_differAt_16 : decode cX8_differAt 16 = .ok (.if_icmp .ge 67, 3) := by decide +kernel
theorem dX8_differAt_19 : decode cX8_differAt 19 = .ok (.aload_n 0, 1) := by decide +kernel
theorem dX8_differAt_20 : decode cX8_differAt 20 = .ok (.iload_n 1, 1) := by decide +kernel
theorem dX8_differAt_21 : decode cX8_differAt 21 = .ok (.iload_n 3, 1) := by decide +kernel
theorem dX8_differAt_22 : decode cX8_differAt 22 = .ok (.iload 4, 2) := by decide +kernel
theorem dX8_differAt_24 : decode cX8_differAt 24 = .ok (.invokestatic 118, 3) := by decide +kernel
theorem dX8_differAt_27 : decode cX8_differAt 27 = .ok (.iload_n 3, 1) := by decide +kernel
theorem dX8_differAt_28 : decode cX8_differAt 28 = .ok (.iload 4, 2) := by decide +kernel
theorem dX8_differAt_30 : decode cX8_differAt 30 = .ok (.invokestatic 122, 3) := by decide +kernel
theorem dX8_differAt_33 : decode cX8_differAt 33 = .ok (.invokevirtual 103, 3) := by decide +kernel
theorem dX8_differAt_36 : decode cX8_differAt 36 = .ok (.lstore 5, 2) := by decide +kernel
theorem dX8_differAt_38 : decode cX8_differAt 38 = .ok (.aload_n 0, 1) := by decide +kernel
theorem dX8_differAt_39 : decode cX8_differAt 39 = .ok (.iload_n 2, 1) := by decide +kernel
theorem dX8_differAt_40 : decode cX8_differAt 40 = .ok (.iload_n 3, 1) := by decide +kernel
theorem dX8_differAt_41 : decode cX8_differAt 41 = .ok (.iload 4, 2) := by decide +kernel
theorem dX8_differAt_43 : decode cX8_differAt 43 = .ok (.invokestatic 118, 3) := by decide +kernel
theorem dX8_differAt_46 : decode cX8_differAt 46 = .ok (.iload_n 3, 1) := by decide +kernel
theorem dX8_differAt_47 : decode cX8_differAt 47 = .ok (.iload 4, 2) := by decide +kernel
theorem dX8_differAt_49 : decode cX8_differAt 49 = .ok (.invokestatic 122, 3) := by decide +kernel
theorem dX8_differAt_52 : decode cX8_differAt 52 = .ok (.invokevirtual 103, 3) := by decide +kernel
theorem dX8_differAt_55 : decode cX8_differAt 55 = .ok (.lstore 7, 2) := by decide +kernel
theorem dX8_differAt_57 : decode cX8_differAt 57 = .ok (.lload 5, 2) := by decide +kernel
theorem dX8_differAt_59 : decode cX8_differAt 59 = .ok (.ldc2_w 92, 3) := by decide +kernel
theorem dX8_differAt_62 : decode cX8_differAt 62 = .ok (.lcmp, 1) := by decide +kernel
theorem dX8_differAt_63 : decode cX8_differAt 63 = .ok (.ifCond .eq 11, 3) := by decide +kernel
theorem dX8_differAt_66 : decode cX8_differAt 66 = .ok (.lload 5, 2) := by decide +kernel
theorem dX8_differAt_68 : decode cX8_differAt 68 = .ok (.lload 7, 2) := by decide +kernel
theorem dX8_differAt_70 : decode cX8_differAt 70 = .ok (.lcmp, 1) := by decide +kernel
theorem dX8_differAt_71 : decode cX8_differAt 71 = .ok (.ifCond .eq 6, 3) := by decide +kernel
theorem dX8_differAt_74 : decode cX8_differAt 74 = .ok (.iload 4, 2) := by decide +kernel
theorem dX8_differAt_76 : decode cX8_differAt 76 = .ok (.ireturn, 1) := by decide +kernel
theorem dX8_differAt_77 : decode cX8_differAt 77 = .ok (.iinc 4 1, 3) := by decide +kernel
theorem dX8_differAt_80 : decode cX8_differAt 80 = .ok (.goto (-70), 3) := by decide +kernel
theorem dX8_differAt_83 : decode cX8_differAt 83 = .ok (.iconst (-1), 1) := by decide +kernel
theorem dX8_differAt_84 : decode cX8_differAt 84 = .ok (.ireturn, 1) := by decide +kernel
set_option maxHeartbeats 4000000 in
set_option maxRecDepth 100000 in
theorem c_X8_differAt (l : Launch) (G : MG) (M : MM) (P : MP) (L : ML) (N : MN) (V : MV) (n aa ac : Nat) (ra : Nat → Nat) (o : Nat → Int32 → Int32 → Int64) (zf zs : Nat → Int32) (zd : Nat → Int64) (hV : mV M n aa ac ra o zf zs zd) (r q : Nat) (hr0 : r < n) (hq0 : q < n) : Met l yX8_differAt (wC yX8_differAt cX8_differAt 9 (some .int)) (rmD 3) (mPc G [.ref (mga G 0), .int (nI r), .int (nI q)] M P L N V) (va_Qi (fun v u => ((zdif o (ra r) r q < wN (ra r) ∧ v = nI (zdif o (ra r) r q)) ∨ (zdif o (ra r) r q = wN (ra r) ∧ v = (-1))) ∧ ∃ P2 : MP, u = (M, P2, L, N, V)) (mB G) (mA G)) 0 0 (mA G) := by
  refine mst "DoFinderModel" (by decide) rfl (Nat.le_of_ble_eq_true rfl) ?_
  intro p e s m args below meth c ls F hr hlk hW hl
  have hl : lv_has ls 9 [(0, .ref (mga G 0)), (1, .int (nI r)), (2, .int (nI q))] := hl
  have hW : mW G s s.heap s.heap [] M P L N V := hW
  obtain ⟨en, ea, ec, era, eo, ef, es, ed, bn, ba, bc, bf, brc, bra, bd⟩ := id hV
  have q1 := bra r hr0
  have q2 := era r hr0
  have q5 := wN_le (ra r)
  refine lv_aload_n F.1 F.2.1 dX8_differAt_0 rfl (lv_at hl 0 rfl) ?_
  refine mg_argumentsOf F hW tm_501 dX8_differAt_1 ?_
  refine lv_iload_n F.1 F.2.1 dX8_differAt_4 rfl (lv_at hl 1 rfl) ?_
  refine ml_ra (i := r) F hW rfl (by omega) dX8_differAt_5 ?_
  refine ax_re (show nI (M.2.1 r) = nI (ra r) from congrArg nI q2) ?_
  refine lv_istore_n (lv' := [(3, .int (nI (ra r))), (0, .ref (mga G 0)), (1, .int (nI r)), (2, .int (nI q))]) F.1 F.2.1 dX8_differAt_6 rfl hl (by decide) rfl (fun ls hl => ?_)
  refine lv_iconst (v := nI 0) F.1 F.2.1 dX8_differAt_7 (by decide) ?_
  refine lv_istore (lv' := [(4, .int (nI 0)), (3, .int (nI (ra r))), (0, .ref (mga G 0)), (1, .int (nI r)), (2, .int (nI q))]) F.1 F.2.1 dX8_differAt_8 hl (by decide) rfl (fun ls hl => ?_)
  have lp10 : ∀ (k10 : Nat) (Pk : MP) (k : Nat), wN (ra r) - k = k10 → (k ≤ wN (ra r)) → (∀ j, j < k → zsm o (ra r) r q j = true) → ∀ (H : Heap) (locs : List Loc) (ls : Array Slot), mW G s s.heap H locs M Pk L N V →  lv_has ls 9 [(0, .ref (mga G 0)), (1, .int (nI r)), (2, .int (nI q)), (3, .int (nI (ra r))), (4, .int (nI k))] → W p l e (rmD 3) s m args below meth c H locs 0 0 (MQ below (va_Qi (fun v u => ((zdif o (ra r) r q < wN (ra r) ∧ v = nI (zdif o (ra r) r q)) ∨ (zdif o (ra r) r q = wN (ra r) ∧ v = (-1))) ∧ ∃ P2 : MP, u = (M, P2, L, N, V)) (mB G) (mA G)) args s 0 0 (mA G)) (F0 m 10 ls []) := by
    intro k10
    induction k10 using Nat.strongRecOn with
    | ind k10 ih10 =>
      intro Pk k hk10 h1 h2 H locs ls hW hl
      refine lv_iload F.1 F.2.1 dX8_differAt_10 (lv_at hl 4 rfl) ?_
      refine lv_iload_n F.1 F.2.1 dX8_differAt_12 rfl (lv_at hl 3 rfl) ?_
      refine pca (As := [.int (nI (ra r))]) (rest := [.int (nI k)]) F (c_X8_inputs l (ra r) (by omega)) (xcwS F.2.2.2.2 ca_X8_inputs tm_731 rfl rfl ⟨by decide, by decide⟩) rfl hl.1 rfl (Nat.le_of_ble_eq_true rfl) dX8_differAt_13 (fun r13 hr13 => ?_)
      subst hr13
      refine lv_icmp_ge (tgt := 83) F.1 F.2.1 dX8_differAt_16 (by decide) (fun c16 => ?_) (fun c16 => ?_)
      · have c16 := ci_le (a := (((wN (ra r)) : Nat) : Int)) (b := ((k : Nat) : Int)) (nI_toInt (by omega)) (nI_toInt (by omega)) c16
        refine lv_iconst (v := (-1)) F.1 F.2.1 dX8_differAt_83 (by decide) ?_
        refine mre_i F hr hlk hW dX8_differAt_84 ?_
        have e9 : zdif o (ra r) r q = wN (ra r) := zleast_all _ (fun j hj => h2 j (by omega))
        exact ⟨Or.inr ⟨e9, rfl⟩, _, rfl⟩
      · have c16 := ci_nle (a := (((wN (ra r)) : Nat) : Int)) (b := ((k : Nat) : Int)) (nI_toInt (by omega)) (nI_toInt (by omega)) c16
        refine lv_aload_n F.1 F.2.1 dX8_differAt_19 rfl (lv_at hl 0 rfl) ?_
        refine lv_iload_n F.1 F.2.1 dX8_differAt_20 rfl (lv_at hl 1 rfl) ?_
        refine lv_iload_n F.1 F.2.1 dX8_differAt_21 rfl (lv_at hl 3 rfl) ?_
        refine lv_iload F.1 F.2.1 dX8_differAt_22 (lv_at hl 4 rfl) ?_
        refine pca (As := [.int (nI (ra r)), .int (nI k)]) (rest := [.int (nI r), .ref (mga G 0)]) F (c_X8_firstOf l (ra r) k (by omega) (by omega)) (xcwS F.2.2.2.2 ca_X8_firstOf tm_665 rfl rfl ⟨by decide, by decide⟩) rfl hl.1 rfl (Nat.le_of_ble_eq_true rfl) dX8_differAt_24 (fun r24 hr24 => ?_)
        subst hr24
        refine lv_iload_n F.1 F.2.1 dX8_differAt_27 rfl (lv_at hl 3 rfl) ?_
        refine lv_iload F.1 F.2.1 dX8_differAt_28 (lv_at hl 4 rfl) ?_
        refine pca (As := [.int (nI (ra r)), .int (nI k)]) (rest := [.int (wA (ra r) k), .int (nI r), .ref (mga G 0)]) F (c_X8_secondOf l (ra r) k (by omega) (by omega)) (xcwS F.2.2.2.2 ca_X8_secondOf tm_668 rfl rfl ⟨by decide, by decide⟩) rfl hl.1 rfl (Nat.le_of_ble_eq_true rfl) dX8_differAt_30 (fun r30 hr30 => ?_)
        subst hr30
        refine mca_l (b := (mga G 0)) (As := [.int (nI r), .int (wA (ra r) k), .int (wB (ra r) k)]) (rest := []) F (c_X8_runIt l G M Pk L N V r (by omega) (brc _ (by omega)) bf (wA (ra r) k) (wB (ra r) k)) (xcw F.2.2.2.2 ca_X8_runIt tm_607 rfl rfl ⟨by decide, by decide⟩) (mr_X8 hW) hW rfl hl.1 rfl (Nat.le_of_ble_eq_true rfl) dX8_differAt_33 (fun r33 u33 H locs hp33 hW => ?_)
        obtain ⟨rfl, P33, rfl, e33⟩ := hp33
        have hW : mW G s s.heap H locs M P33 L N V := hW
        refine ax_reL (eo r (by omega) (wA (ra r) k) (wB (ra r) k)) ?_
        refine lv_lstore (lv' := [(5, .long (o r (wA (ra r) k) (wB (ra r) k))), (0, .ref (mga G 0)), (1, .int (nI r)), (2, .int (nI q)), (3, .int (nI (ra r))), (4, .int (nI k))]) F.1 F.2.1 dX8_differAt_36 hl (by decide) rfl (fun ls hl => ?_)
        refine lv_aload_n F.1 F.2.1 dX8_differAt_38 rfl (lv_at hl 1 rfl) ?_
        refine lv_iload_n F.1 F.2.1 dX8_differAt_39 rfl (lv_at hl 3 rfl) ?_
        refine lv_iload_n F.1 F.2.1 dX8_differAt_40 rfl (lv_at hl 4 rfl) ?_
        refine lv_iload F.1 F.2.1 dX8_differAt_41 (lv_at hl 5 rfl) ?_
        refine pca (As := [.int (nI (ra r)), .int (nI k)]) (rest := [.int (nI q), .ref (mga G 0)]) F (c_X8_firstOf l (ra r) k (by omega) (by omega)) (xcwS F.2.2.2.2 ca_X8_firstOf tm_665 rfl rfl ⟨by decide, by decide⟩) rfl hl.1 rfl (Nat.le_of_ble_eq_true rfl) dX8_differAt_43 (fun r43 hr43 => ?_)
        subst hr43
        refine lv_iload_n F.1 F.2.1 dX8_differAt_46 rfl (lv_at hl 4 rfl) ?_
        refine lv_iload F.1 F.2.1 dX8_differAt_47 (lv_at hl 5 rfl) ?_
        refine pca (As := [.int (nI (ra r)), .int (nI k)]) (rest := [.int (wA (ra r) k), .int (nI q), .ref (mga G 0)]) F (c_X8_secondOf l (ra r) k (by omega) (by omega)) (xcwS F.2.2.2.2 ca_X8_secondOf tm_668 rfl rfl ⟨by decide, by decide⟩) rfl hl.1 rfl (Nat.le_of_ble_eq_true rfl) dX8_differAt_49 (fun r49 hr49 => ?_)
        subst hr49
        refine mca_l (b := (mga G 0)) (As := [.int (nI q), .int (wA (ra r) k), .int (wB (ra r) k)]) (rest := []) F (c_X8_runIt l G M P33 L N V q (by omega) (brc _ (by omega)) bf (wA (ra r) k) (wB (ra r) k)) (xcw F.2.2.2.2 ca_X8_runIt tm_607 rfl rfl ⟨by decide, by decide⟩) (mr_X8 hW) hW rfl hl.1 rfl (Nat.le_of_ble_eq_true rfl) dX8_differAt_52 (fun r52 u52 H locs hp52 hW => ?_)
        obtain ⟨rfl, P52, rfl, e52⟩ := hp52
        have hW : mW G s s.heap H locs M P52 L N V := hW
        refine ax_reL (eo q (by omega) (wA (ra r) k) (wB (ra r) k)) ?_
        refine lv_lstore (lv' := [(7, .long (o q (wA (ra r) k) (wB (ra r) k))), (5, .long (o r (wA (ra r) k) (wB (ra r) k))), (0, .ref (mga G 0)), (1, .int (nI r)), (2, .int (nI q)), (3, .int (nI (ra r))), (4, .int (nI k))]) F.1 F.2.1 dX8_differAt_55 hl (by decide) rfl (fun ls hl => ?_)
        refine lv_lload F.1 F.2.1 dX8_differAt_57 (lv_at hl 1 rfl) ?_
        refine lv_ldc2 (v := zUNK) F.1 F.2.1 F.2.2.2.1 (F.2.2.2.2 _ tm_611) dX8_differAt_59 ?_
        refine W.lcmp F.1 F.2.1 dX8_differAt_62 ?_
        refine lv_if_eq (tgt := 74) F.1 F.2.1 dX8_differAt_63 (by decide) (fun c63 => ?_) (fun c63 => ?_)
        · have c63 := (lg_cmp_eq _ _).mp c63
          refine lv_iload F.1 F.2.1 dX8_differAt_74 (lv_at hl 6 rfl) ?_
          refine mre_i F hr hlk hW dX8_differAt_76 ?_
          have e9 : zdif o (ra r) r q = k := zleast_at h2 (by unfold zsm; simp only [decide_eq_true_eq]; intro z; first | exact c71 z.2 | exact z.1 c63) _ (by omega)
          exact ⟨Or.inl ⟨by omega, by rw [e9]⟩, _, rfl⟩
        · have c63 := fun q => c63 ((lg_cmp_eq _ _).mpr q)
          refine lv_lload F.1 F.2.1 dX8_differAt_66 (lv_at hl 1 rfl) ?_
          refine lv_lload F.1 F.2.1 dX8_differAt_68 (lv_at hl 0 rfl) ?_
          refine W.lcmp F.1 F.2.1 dX8_differAt_70 ?_
          refine lv_if_eq (tgt := 77) F.1 F.2.1 dX8_differAt_71 (by decide) (fun c71 => ?_) (fun c71 => ?_)
          · have c71 := (lg_cmp_eq _ _).mp c71
            refine lv_iinc (v := nI (k + 1)) (lv' := [(4, .int (nI (k + 1))), (7, .long (o q (wA (ra r) k) (wB (ra r) k))), (5, .long (o r (wA (ra r) k) (wB (ra r) k))), (0, .ref (mga G 0)), (1, .int (nI r)), (2, .int (nI q)), (3, .int (nI (ra r)))]) F.1 F.2.1 dX8_differAt_77 hl (k := 6) rfl (nI_add _ 1) (by decide) rfl (fun ls hl => ?_)
            refine lv_goto (tgt := 10) F.1 F.2.1 dX8_differAt_80 (by decide) ?_
            exact ih10 (wN (ra r) - (k + 1)) (by omega) P52 (k + 1) rfl (by omega) (lt_s h2 (decide_eq_true ⟨c63, c71⟩)) _ _ _ hW (lv_sub hl [3, 4, 5, 6, 0] rfl)
          · have c71 := fun q => c71 ((lg_cmp_eq _ _).mpr q)
            refine lv_iload F.1 F.2.1 dX8_differAt_74 (lv_at hl 6 rfl) ?_
            refine mre_i F hr hlk hW dX8_differAt_76 ?_
            have e9 : zdif o (ra r) r q = k := zleast_at h2 (by unfold zsm; simp only [decide_eq_true_eq]; intro z; first | exact c71 z.2 | exact z.1 c63) _ (by omega)
            exact ⟨Or.inl ⟨by omega, by rw [e9]⟩, _, rfl⟩
  exact lp10 (wN (ra r) - 0) P 0 rfl (Nat.zero_le _) (lt_0) _ _ _ hW (lv_sub hl [2, 3, 4, 1, 0] rfl)
theorem dX8_doubleMany_0 : decode cX8_doubleMany 0 = .ok (.iconst 0, 1) := by decide +kernel
theorem dX8_doubleMany_1 : decode cX8_doubleMany 1 = .ok (.istore_n 1, 1) := by decide +kernel
theorem dX8_doubleMany_2 : decode cX8_doubleMany 2 = .ok (.iconst 0, 1) := by decide +kernel
theorem dX8_doubleMany_3 : decode cX8_doubleMany 3 = .ok (.istore_n 2, 1) := by decide +kernel
theorem dX8_doubleMany_4 : decode cX8_doubleMany 4 = .ok (.iload_n 2, 1) := by decide +kernel
theorem dX8_doubleMany_5 : decode cX8_doubleMany 5 = .ok (.aload_n 0, 1) := by decide +kernel
theorem dX8_doubleMany_6 : decode cX8_doubleMany 6 = .ok (.getfield 57, 3) := by decide +kernel
theorem dX8_doubleMany_9 : decode cX8_doubleMany 9 = .ok (.if_icmp .ge 54, 3) := by decide +kernel
theorem dX8_doubleMany_12 : decode cX8_doubleMany 12 = .ok (.iconst 0, 1) := by decide +kernel
theorem dX8_doubleMany_13 : decode cX8_doubleMany 13 = .ok (.istore_n 3, 1) := by decide +kernel
theorem dX8_doubleMany_14 : decode cX8_doubleMany 14 = .ok (.iload_n 3, 1) := by decide +kernel
theorem dX8_doubleMany_15 : decode cX8_doubleMany 15 = .ok (.iload_n 2, 1) := by decide +kernel
theorem dX8_doubleMany_16 : decode cX8_doubleMany 16 = .ok (.if_icmp .ge 41, 3) := by decide +kernel
theorem dX8_doubleMany_19 : decode cX8_doubleMany 19 = .ok (.iload_n 1, 1) := by decide +kernel
theorem dX8_doubleMany_20 : decode cX8_doubleMany 20 = .ok (.aload_n 0, 1) := by decide +kernel
theorem dX8_doubleMany_21 : decode cX8_doubleMany 21 = .ok (.getfield 7, 3) := by decide +kernel
theorem dX8_doubleMany_24 : decode cX8_doubleMany 24 = .ok (.iload_n 2, 1) := by decide +kernel
theorem dX8_doubleMany_25 : decode cX8_doubleMany 25 = .ok (.iaload, 1) := by decide +kernel
theorem dX8_doubleMany_26 : decode cX8_doubleMany 26 = .ok (.aload_n 0, 1) := by decide +kernel
theorem dX8_doubleMany_27 : decode cX8_doubleMany 27 = .ok (.getfield 7, 3) := by decide +kernel
theorem dX8_doubleMany_30 : decode cX8_doubleMany 30 = .ok (.iload_n 3, 1) := by decide +kernel
theorem dX8_doubleMany_31 : decode cX8_doubleMany 31 = .ok (.iaload, 1) := by decide +kernel
theorem dX8_doubleMany_32 : decode cX8_doubleMany 32 = .ok (.if_icmp .ne 16, 3) := by decide +kernel
theorem dX8_doubleMany_35 : decode cX8_doubleMany 35 = .ok (.aload_n 0, 1) := by decide +kernel
theorem dX8_doubleMany_36 : decode cX8_doubleMany 36 = .ok (.iload_n 2, 1) := by decide +kernel
theorem dX8_doubleMany_37 : decode cX8_doubleMany 37 = .ok (.iload_n 3, 1) := by decide +kernel
theorem dX8_doubleMany_38 : decode cX8_doubleMany 38 = .ok (.invokevirtual 169, 3) := by decide +kernel
theorem dX8_doubleMany_41 : decode cX8_doubleMany 41 = .ok (.ifCond .ge 7, 3) := by decide +kernel
theorem dX8_doubleMany_44 : decode cX8_doubleMany 44 = .ok (.iconst 1, 1) := by decide +kernel
theorem dX8_doubleMany_45 : decode cX8_doubleMany 45 = .ok (.goto 4, 3) := by decide +kernel
theorem dX8_doubleMany_48 : decode cX8_doubleMany 48 = .ok (.iconst 0, 1) := by decide +kernel
theorem dX8_doubleMany_49 : decode cX8_doubleMany 49 = .ok (.iadd, 1) := by decide +kernel
theorem dX8_doubleMany_50 : decode cX8_doubleMany 50 = .ok (.istore_n 1, 1) := by decide +kernel
theorem dX8_doubleMany_51 : decode cX8_doubleMany 51 = .ok (.iinc 3 1, 3) := by decide +kernel
theorem dX8_doubleMany_54 : decode cX8_doubleMany 54 = .ok (.goto (-40), 3) := by decide +kernel
theorem dX8_doubleMany_57 : decode cX8_doubleMany 57 = .ok (.iinc 2 1, 3) := by decide +kernel
theorem dX8_doubleMany_60 : decode cX8_doubleMany 60 = .ok (.goto (-56), 3) := by decide +kernel
theorem dX8_doubleMany_63 : decode cX8_doubleMany 63 = .ok (.iload_n 1, 1) := by decide +kernel
theorem dX8_doubleMany_64 : decode cX8_doubleMany 64 = .ok (.ireturn, 1) := by decide +kernel
set_option maxHeartbeats 4000000 in
set_option maxRecDepth 100000 in
theorem c_X8_doubleMany (l : Launch) (G : MG) (M : MM) (P : MP) (L : ML) (N : MN) (V : MV) (n aa ac : Nat) (ra : Nat → Nat) (o : Nat → Int32 → Int32 → Int64) (zf zs : Nat → Int32) (zd : Nat → Int64) (hV : mV M n aa ac ra o zf zs zd) : Met l yX8_doubleMany (wC yX8_doubleMany cX8_doubleMany 4 (some .int)) (rmD 4) (mPc G [.ref (mga G 0)] M P L N V) (va_Qi (fun v u => v = nI (zsum (fun s2 => zcnt (fun r => zdbl ra o r s2) s2) n) ∧ ∃ P2 : MP, u = (M, P2, L, N, V)) (mB G) (mA G)) 0 0 (mA G) := by
  refine mst "DoFinderModel" (by decide) rfl (Nat.le_of_ble_eq_true rfl) ?_
  intro p e s m args below meth c ls F hr hlk hW hl
  have hl : lv_has ls 4 [(0, .ref (mga G 0))] := hl
  have hW : mW G s s.heap s.heap [] M P L N V := hW
  obtain ⟨en, ea, ec, era, eo, ef, es, ed, bn, ba, bc, bf, brc, bra, bd⟩ := id hV
  refine lv_iconst (v := nI 0) F.1 F.2.1 dX8_doubleMany_0 (by decide) ?_
  refine lv_istore_n (lv' := [(1, .int (nI 0)), (0, .ref (mga G 0))]) F.1 F.2.1 dX8_doubleMany_1 rfl hl (by decide) rfl (fun ls hl => ?_)
  refine lv_iconst (v := nI 0) F.1 F.2.1 dX8_doubleMany_2 (by decide) ?_
  refine lv_istore_n (lv' := [(2, .int (nI 0)), (1, .int (nI 0)), (0, .ref (mga G 0))]) F.1 F.2.1 dX8_doubleMany_3 rfl hl (by decide) rfl (fun ls hl => ?_)
  have lp4 : ∀ (k4 : Nat) (Pk : MP) (q : Nat) (t : Nat), n - q = k4 → (q ≤ n) → (t = zsum (fun s2 => zcnt (fun r => zdbl ra o r s2) s2) q) → ∀ (H : Heap) (locs : List Loc) (ls : Array Slot), mW G s s.heap H locs M Pk L N V →  lv_has ls 4 [(0, .ref (mga G 0)), (1, .int (nI t)), (2, .int (nI q))] → W p l e (rmD 4) s m args below meth c H locs 0 0 (MQ below (va_Qi (fun v u => v = nI (zsum (fun s2 => zcnt (fun r => zdbl ra o r s2) s2) n) ∧ ∃ P2 : MP, u = (M, P2, L, N, V)) (mB G) (mA G)) args s 0 0 (mA G)) (F0 m 4 ls []) := by
    intro k4
    induction k4 using Nat.strongRecOn with
    | ind k4 ih4 =>
      intro Pk q t hk4 h1 h2 H locs ls hW hl
      refine lv_iload_n F.1 F.2.1 dX8_doubleMany_4 rfl (lv_at hl 2 rfl) ?_
      refine lv_aload_n F.1 F.2.1 dX8_doubleMany_5 rfl (lv_at hl 0 rfl) ?_
      refine mg_routines F hW tm_500 dX8_doubleMany_6 ?_
      refine lv_icmp_ge (tgt := 63) F.1 F.2.1 dX8_doubleMany_9 (by decide) (fun c9 => ?_) (fun c9 => ?_)
      · have c9 := ci_le (a := ((M.1 : Nat) : Int)) (b := ((q : Nat) : Int)) (nI_toInt (by omega)) (nI_toInt (by omega)) c9
        refine lv_iload_n F.1 F.2.1 dX8_doubleMany_63 rfl (lv_at hl 1 rfl) ?_
        refine mre_i F hr hlk hW dX8_doubleMany_64 ?_
        exact ⟨by rw [h2, show q = n by omega], _, rfl⟩
      · have c9 := ci_nle (a := ((M.1 : Nat) : Int)) (b := ((q : Nat) : Int)) (nI_toInt (by omega)) (nI_toInt (by omega)) c9
        refine lv_iconst (v := nI 0) F.1 F.2.1 dX8_doubleMany_12 (by decide) ?_
        refine lv_istore_n (lv' := [(3, .int (nI 0)), (0, .ref (mga G 0)), (1, .int (nI t)), (2, .int (nI q))]) F.1 F.2.1 dX8_doubleMany_13 rfl hl (by decide) rfl (fun ls hl => ?_)
        have lp14 : ∀ (k14 : Nat) (Pj : MP) (r : Nat) (t1 : Nat), q - r = k14 → (r ≤ q) → (t1 = zsum (fun s2 => zcnt (fun r => zdbl ra o r s2) s2) q + zcnt (fun r => zdbl ra o r q) r) → ∀ (H : Heap) (locs : List Loc) (ls : Array Slot), mW G s s.heap H locs M Pj L N V →  lv_has ls 4 [(0, .ref (mga G 0)), (2, .int (nI q)), (1, .int (nI t1)), (3, .int (nI r))] → W p l e (rmD 4) s m args below meth c H locs 0 0 (MQ below (va_Qi (fun v u => v = nI (zsum (fun s2 => zcnt (fun r => zdbl ra o r s2) s2) n) ∧ ∃ P2 : MP, u = (M, P2, L, N, V)) (mB G) (mA G)) args s 0 0 (mA G)) (F0 m 14 ls []) := by
          intro k14
          induction k14 using Nat.strongRecOn with
          | ind k14 ih14 =>
            intro Pj r t1 hk14 h4 h5 H locs ls hW hl
            refine lv_iload_n F.1 F.2.1 dX8_doubleMany_14 rfl (lv_at hl 3 rfl) ?_
            refine lv_iload_n F.1 F.2.1 dX8_doubleMany_15 rfl (lv_at hl 1 rfl) ?_
            refine lv_icmp_ge (tgt := 57) F.1 F.2.1 dX8_doubleMany_16 (by decide) (fun c16 => ?_) (fun c16 => ?_)
            · have c16 := ci_le (a := ((q : Nat) : Int)) (b := ((r : Nat) : Int)) (nI_toInt (by omega)) (nI_toInt (by omega)) c16
              refine lv_iinc (v := nI (q + 1)) (lv' := [(2, .int (nI (q + 1))), (0, .ref (mga G 0)), (1, .int (nI t1)), (3, .int (nI r))]) F.1 F.2.1 dX8_doubleMany_57 hl (k := 1) rfl (nI_add _ 1) (by decide) rfl (fun ls hl => ?_)
              refine lv_goto (tgt := 4) F.1 F.2.1 dX8_doubleMany_60 (by decide) ?_
              exact ih4 (n - (q + 1)) (by omega) Pj (q + 1) t1 rfl (by omega) (zsum_nx (f := fun a b => zcnt (fun r => zdbl ra o r a) b) (r := r) (by omega) h5) _ _ _ hW (lv_sub hl [1, 2, 0] rfl)
            · have c16 := ci_nle (a := ((q : Nat) : Int)) (b := ((r : Nat) : Int)) (nI_toInt (by omega)) (nI_toInt (by omega)) c16
              have q1 := bra q (by omega)
              have q3 := bra r (by omega)
              refine lv_iload_n F.1 F.2.1 dX8_doubleMany_19 rfl (lv_at hl 2 rfl) ?_
              refine lv_aload_n F.1 F.2.1 dX8_doubleMany_20 rfl (lv_at hl 0 rfl) ?_
              refine mg_argumentsOf F hW tm_501 dX8_doubleMany_21 ?_
              refine lv_iload_n F.1 F.2.1 dX8_doubleMany_24 rfl (lv_at hl 1 rfl) ?_
              refine ml_ra (i := q) F hW rfl (by omega) dX8_doubleMany_25 ?_
              refine ax_re (show nI (M.2.1 q) = nI (ra q) from congrArg nI (era q (by omega))) ?_
              refine lv_aload_n F.1 F.2.1 dX8_doubleMany_26 rfl (lv_at hl 0 rfl) ?_
              refine mg_argumentsOf F hW tm_501 dX8_doubleMany_27 ?_
              refine lv_iload_n F.1 F.2.1 dX8_doubleMany_30 rfl (lv_at hl 3 rfl) ?_
              refine ml_ra (i := r) F hW rfl (by omega) dX8_doubleMany_31 ?_
              refine ax_re (show nI (M.2.1 r) = nI (ra r) from congrArg nI (era r (by omega))) ?_
              refine lv_icmp_ne (tgt := 48) F.1 F.2.1 dX8_doubleMany_32 (by decide) (fun c32 => ?_) (fun c32 => ?_)
              · have c32 := ci_ne (a := ((ra q : Nat) : Int)) (b := ((ra r : Nat) : Int)) (nI_toInt (by omega)) (nI_toInt (by omega)) c32
                skip
                refine lv_iconst (v := nI 0) F.1 F.2.1 dX8_doubleMany_48 (by decide) ?_
                refine ax_add (z := nI (t1 + 0)) F (nI_add _ _) dX8_doubleMany_49 ?_
                refine lv_istore_n (lv' := [(1, .int (nI (t1 + 0))), (0, .ref (mga G 0)), (2, .int (nI q)), (3, .int (nI r))]) F.1 F.2.1 dX8_doubleMany_50 rfl hl (by decide) rfl (fun ls hl => ?_)
                refine lv_iinc (v := nI (r + 1)) (lv' := [(3, .int (nI (r + 1))), (1, .int (nI (t1 + 0))), (0, .ref (mga G 0)), (2, .int (nI q))]) F.1 F.2.1 dX8_doubleMany_51 hl (k := 3) rfl (nI_add _ 1) (by decide) rfl (fun ls hl => ?_)
                refine lv_goto (tgt := 14) F.1 F.2.1 dX8_doubleMany_54 (by decide) ?_
                exact ih14 (q - (r + 1)) (by omega) Pj (r + 1) (t1 + 0) rfl (by omega) (by rw [zcnt_f (p := fun r => zdbl ra o r q) (k := r) (fun z => by have := zdbl_iff.mp z; omega)]; omega) _ _ _ hW (lv_sub hl [2, 3, 1, 0] rfl)
              · have c32 := ci_eq (a := ((ra q : Nat) : Int)) (b := ((ra r : Nat) : Int)) (nI_toInt (by omega)) (nI_toInt (by omega)) c32
                refine lv_aload_n F.1 F.2.1 dX8_doubleMany_35 rfl (lv_at hl 0 rfl) ?_
                refine lv_iload_n F.1 F.2.1 dX8_doubleMany_36 rfl (lv_at hl 1 rfl) ?_
                refine lv_iload_n F.1 F.2.1 dX8_doubleMany_37 rfl (lv_at hl 3 rfl) ?_
                refine mca_i (b := (mga G 0)) (As := [.int (nI q), .int (nI r)]) (rest := [.int (nI t1)]) F (c_X8_differAt l G M Pj L N V n aa ac ra o zf zs zd hV q r (by omega) (by omega)) (xcw F.2.2.2.2 ca_X8_differAt tm_754 rfl rfl ⟨by decide, by decide⟩) (mr_X8 hW) hW rfl hl.1 rfl (Nat.le_of_ble_eq_true rfl) dX8_doubleMany_38 (fun r38 u38 H locs hp38 hW => ?_)
                obtain ⟨hp38, P38, rfl⟩ := hp38
                have hW : mW G s s.heap H locs M P38 L N V := hW
                have wl38 := wN_le (ra q)
                rcases hp38 with ⟨y38, rfl⟩ | ⟨y38, rfl⟩
                · skip
                  skip
                  refine lv_if_ge (tgt := 48) F.1 F.2.1 dX8_doubleMany_41 (by decide) (fun c41 => ?_) (fun c41 => ?_)
                  · have c41 := ci_le (a := 0) (b := (((zdif o (ra q) q r) : Nat) : Int)) ci_0 (nI_toInt (by omega)) c41
                    refine lv_iconst (v := nI 0) F.1 F.2.1 dX8_doubleMany_48 (by decide) ?_
                    refine ax_add (z := nI (t1 + 0)) F (nI_add _ _) dX8_doubleMany_49 ?_
                    refine lv_istore_n (lv' := [(1, .int (nI (t1 + 0))), (0, .ref (mga G 0)), (2, .int (nI q)), (3, .int (nI r))]) F.1 F.2.1 dX8_doubleMany_50 rfl hl (by decide) rfl (fun ls hl => ?_)
                    refine lv_iinc (v := nI (r + 1)) (lv' := [(3, .int (nI (r + 1))), (1, .int (nI (t1 + 0))), (0, .ref (mga G 0)), (2, .int (nI q))]) F.1 F.2.1 dX8_doubleMany_51 hl (k := 3) rfl (nI_add _ 1) (by decide) rfl (fun ls hl => ?_)
                    refine lv_goto (tgt := 14) F.1 F.2.1 dX8_doubleMany_54 (by decide) ?_
                    exact ih14 (q - (r + 1)) (by omega) P38 (r + 1) (t1 + 0) rfl (by omega) (by rw [zcnt_f (p := fun r => zdbl ra o r q) (k := r) (fun z => by have := zdbl_iff.mp z; omega)]; omega) _ _ _ hW (lv_sub hl [2, 3, 1, 0] rfl)
                  · have c41 := ci_nle (a := 0) (b := (((zdif o (ra q) q r) : Nat) : Int)) ci_0 (nI_toInt (by omega)) c41
                    refine lv_iconst (v := nI 1) F.1 F.2.1 dX8_doubleMany_44 (by decide) ?_
                    refine lv_goto (tgt := 49) F.1 F.2.1 dX8_doubleMany_45 (by decide) ?_
                    refine ax_add (z := nI (t1 + 1)) F (nI_add _ _) dX8_doubleMany_49 ?_
                    refine lv_istore_n (lv' := [(1, .int (nI (t1 + 1))), (0, .ref (mga G 0)), (2, .int (nI q)), (3, .int (nI r))]) F.1 F.2.1 dX8_doubleMany_50 rfl hl (by decide) rfl (fun ls hl => ?_)
                    refine lv_iinc (v := nI (r + 1)) (lv' := [(3, .int (nI (r + 1))), (1, .int (nI (t1 + 1))), (0, .ref (mga G 0)), (2, .int (nI q))]) F.1 F.2.1 dX8_doubleMany_51 hl (k := 3) rfl (nI_add _ 1) (by decide) rfl (fun ls hl => ?_)
                    refine lv_goto (tgt := 14) F.1 F.2.1 dX8_doubleMany_54 (by decide) ?_
                    exact ih14 (q - (r + 1)) (by omega) P38 (r + 1) (t1 + 1) rfl (by omega) (by rw [zcnt_f (p := fun r => zdbl ra o r q) (k := r) (fun z => by have := zdbl_iff.mp z; omega)]; omega) _ _ _ hW (lv_sub hl [2, 3, 1, 0] rfl)
                · skip
                  skip
                  refine lv_if_ge (tgt := 48) F.1 F.2.1 dX8_doubleMany_41 (by decide) (fun q => absurd q (by decide)) (fun _ => ?_)
                  refine lv_iconst (v := nI 1) F.1 F.2.1 dX8_doubleMany_44 (by decide) ?_
                  refine lv_goto (tgt := 49) F.1 F.2.1 dX8_doubleMany_45 (by decide) ?_
                  refine ax_add (z := nI (t1 + 1)) F (nI_add _ _) dX8_doubleMany_49 ?_
                  refine lv_istore_n (lv' := [(1, .int (nI (t1 + 1))), (0, .ref (mga G 0)), (2, .int (nI q)), (3, .int (nI r))]) F.1 F.2.1 dX8_doubleMany_50 rfl hl (by decide) rfl (fun ls hl => ?_)
                  refine lv_iinc (v := nI (r + 1)) (lv' := [(3, .int (nI (r + 1))), (1, .int (nI (t1 + 1))), (0, .ref (mga G 0)), (2, .int (nI q))]) F.1 F.2.1 dX8_doubleMany_51 hl (k := 3) rfl (nI_add _ 1) (by decide) rfl (fun ls hl => ?_)
                  refine lv_goto (tgt := 14) F.1 F.2.1 dX8_doubleMany_54 (by decide) ?_
                  exact ih14 (q - (r + 1)) (by omega) P38 (r + 1) (t1 + 1) rfl (by omega) (by rw [zcnt_t (p := fun r => zdbl ra o r q) (k := r) (zdbl_iff.mpr ⟨by omega, by omega⟩)]; omega) _ _ _ hW (lv_sub hl [2, 3, 1, 0] rfl)
        exact lp14 (q - 0) Pk 0 t rfl (Nat.zero_le _) (h2) _ _ _ hW (lv_sub hl [1, 3, 2, 0] rfl)
  exact lp4 (n - 0) P 0 0 rfl (Nat.zero_le _) (rfl) _ _ _ hW (lv_sub hl [2, 1, 0] rfl)
theorem dX8_same_0 : decode cX8_same 0 = .ok (.aload_n 0, 1) := by decide +kernel
theorem dX8_same_1 : decode cX8_same 1 = .ok (.iload_n 1, 1) := by decide +kernel
theorem dX8_same_2 : decode cX8_same 2 = .ok (.invokevirtual 70, 3) := by decide +kernel
theorem dX8_same_5 : decode cX8_same 5 = .ok (.ifCond .eq 11, 3) := by decide +kernel
theorem dX8_same_8 : decode cX8_same 8 = .ok (.aload_n 0, 1) := by decide +kernel
theorem dX8_same_9 : decode cX8_same 9 = .ok (.iload_n 2, 1) := by decide +kernel
theorem dX8_same_10 : decode cX8_same 10 = .ok (.invokevirtual 70, 3) := by decide +kernel
theorem dX8_same_13 : decode cX8_same 13 = .ok (.ifCond .ne 5, 3) := by decide +kernel
theorem dX8_same_16 : decode cX8_same 16 = .ok (.iconst (-1), 1) := by decide +kernel
theorem dX8_same_17 : decode cX8_same 17 = .ok (.ireturn, 1) := by decide +kernel
theorem dX8_same_18 : decode cX8_same 18 = .ok (.aload_n 0, 1) := by decide +kernel
theorem dX8_same_19 : decode cX8_same 19 = .ok (.getfield 7, 3) := by decide +kernel
theorem dX8_same_22 : decode cX8_same 22 = .ok (.iload_n 1, 1) := by decide +kernel
theorem dX8_same_23 : decode cX8_same 23 = .ok (.iaload, 1) := by decide +kernel
theorem dX8_same_24 : decode cX8_same 24 = .ok (.aload_n 0, 1) := by decide +kernel
theorem dX8_same_25 : decode cX8_same 25 = .ok (.getfield 7, 3) := by decide +kernel
theorem dX8_same_28 : decode cX8_same 28 = .ok (.iload_n 2, 1) := by decide +kernel
theorem dX8_same_29 : decode cX8_same 29 = .ok (.iaload, 1) := by decide +kernel
theorem dX8_same_30 : decode cX8_same 30 = .ok (.if_icmp .eq 8, 3) := by decide +kernel
theorem dX8_same_33 : decode cX8_same 33 = .ok (.bipush (-4), 2) := by decide +kernel
theorem dX8_same_35 : decode cX8_same 35 = .ok (.goto 17, 3) := by decide +kernel
theorem dX8_same_38 : decode cX8_same 38 = .ok (.aload_n 0, 1) := by decide +kernel
theorem dX8_same_39 : decode cX8_same 39 = .ok (.iload_n 1, 1) := by decide +kernel
theorem dX8_same_40 : decode cX8_same 40 = .ok (.iload_n 2, 1) := by decide +kernel
theorem dX8_same_41 : decode cX8_same 41 = .ok (.invokevirtual 169, 3) := by decide +kernel
theorem dX8_same_44 : decode cX8_same 44 = .ok (.ifCond .ge 7, 3) := by decide +kernel
theorem dX8_same_47 : decode cX8_same 47 = .ok (.iconst 1, 1) := by decide +kernel
theorem dX8_same_48 : decode cX8_same 48 = .ok (.goto 4, 3) := by decide +kernel
theorem dX8_same_51 : decode cX8_same 51 = .ok (.iconst 0, 1) := by decide +kernel
theorem dX8_same_52 : decode cX8_same 52 = .ok (.ireturn, 1) := by decide +kernel
set_option maxHeartbeats 4000000 in
set_option maxRecDepth 100000 in
theorem c_X8_same (l : Launch) (G : MG) (M : MM) (P : MP) (L : ML) (N : MN) (V : MV) (n aa ac : Nat) (ra : Nat → Nat) (o : Nat → Int32 → Int32 → Int64) (zf zs : Nat → Int32) (zd : Nat → Int64) (hV : mV M n aa ac ra o zf zs zd) (x y : Int32) : Met l yX8_same (wC yX8_same cX8_same 3 (some .int)) (rmD 4) (mPc G [.ref (mga G 0), .int x, .int y] M P L N V) (va_Qi (fun v u => qSame n ra o x y v ∧ ∃ P2 : MP, u = (M, P2, L, N, V)) (mB G) (mA G)) 0 0 (mA G) := by
  refine mst "DoFinderModel" (by decide) rfl (Nat.le_of_ble_eq_true rfl) ?_
  intro p e s m args below meth c ls F hr hlk hW hl
  have hl : lv_has ls 3 [(0, .ref (mga G 0)), (1, .int x), (2, .int y)] := hl
  have hW : mW G s s.heap s.heap [] M P L N V := hW
  have b_x := i32b x
  have b_y := i32b y
  obtain ⟨en, ea, ec, era, eo, ef, es, ed, bn, ba, bc, bf, brc, bra, bd⟩ := id hV
  refine lv_aload_n F.1 F.2.1 dX8_same_0 rfl (lv_at hl 0 rfl) ?_
  refine lv_iload_n F.1 F.2.1 dX8_same_1 rfl (lv_at hl 1 rfl) ?_
  refine mca_i (b := (mga G 0)) (As := [.int x]) (rest := []) F (c_X8_isRoutine l G M P L N V (by omega) x x.toInt rfl) (xcw F.2.2.2.2 ca_X8_isRoutine tm_595 rfl rfl ⟨by decide, by decide⟩) (mr_X8 hW) hW rfl hl.1 rfl (Nat.le_of_ble_eq_true rfl) dX8_same_2 (fun r2 u2 H locs hp2 hW => ?_)
  obtain ⟨hp2, rfl⟩ := hp2
  have hW : mW G s s.heap H locs M P L N V := hW
  rcases hp2 with ⟨rfl, y2⟩ | ⟨rfl, y2⟩
  · skip
    obtain ⟨r, hn_r, hm_r, rfl⟩ := argN (x := x) (by omega)
    have e_r : (nI r).toInt.toNat = r := by omega
    have i_r : r < n := by omega
    have hl : lv_has ls 3 [(0, .ref (mga G 0)), (1, .int (nI r)), (2, .int y)] := hl
    refine lv_if_eq (tgt := 16) F.1 F.2.1 dX8_same_5 (by decide) (fun q => absurd q (by decide)) (fun _ => ?_)
    refine lv_aload_n F.1 F.2.1 dX8_same_8 rfl (lv_at hl 0 rfl) ?_
    refine lv_iload_n F.1 F.2.1 dX8_same_9 rfl (lv_at hl 2 rfl) ?_
    refine mca_i (b := (mga G 0)) (As := [.int y]) (rest := []) F (c_X8_isRoutine l G M P L N V (by omega) y y.toInt rfl) (xcw F.2.2.2.2 ca_X8_isRoutine tm_595 rfl rfl ⟨by decide, by decide⟩) (mr_X8 hW) hW rfl hl.1 rfl (Nat.le_of_ble_eq_true rfl) dX8_same_10 (fun r10 u10 H locs hp10 hW => ?_)
    obtain ⟨hp10, rfl⟩ := hp10
    have hW : mW G s s.heap H locs M P L N V := hW
    rcases hp10 with ⟨rfl, y10⟩ | ⟨rfl, y10⟩
    · skip
      obtain ⟨q, hn_q, hm_q, rfl⟩ := argN (x := y) (by omega)
      have e_q : (nI q).toInt.toNat = q := by omega
      have i_q : q < n := by omega
      have hl : lv_has ls 3 [(0, .ref (mga G 0)), (1, .int (nI r)), (2, .int (nI q))] := hl
      have q1 := bra r (by omega)
      have q3 := bra q (by omega)
      refine lv_if_ne (tgt := 18) F.1 F.2.1 dX8_same_13 (by decide) (fun _ => ?_) (fun q => absurd q (by decide))
      refine lv_aload_n F.1 F.2.1 dX8_same_18 rfl (lv_at hl 0 rfl) ?_
      refine mg_argumentsOf F hW tm_501 dX8_same_19 ?_
      refine lv_iload_n F.1 F.2.1 dX8_same_22 rfl (lv_at hl 1 rfl) ?_
      refine ml_ra (i := r) F hW rfl (by omega) dX8_same_23 ?_
      refine ax_re (show nI (M.2.1 r) = nI (ra r) from congrArg nI (era r (by omega))) ?_
      refine lv_aload_n F.1 F.2.1 dX8_same_24 rfl (lv_at hl 0 rfl) ?_
      refine mg_argumentsOf F hW tm_501 dX8_same_25 ?_
      refine lv_iload_n F.1 F.2.1 dX8_same_28 rfl (lv_at hl 2 rfl) ?_
      refine ml_ra (i := q) F hW rfl (by omega) dX8_same_29 ?_
      refine ax_re (show nI (M.2.1 q) = nI (ra q) from congrArg nI (era q (by omega))) ?_
      refine lv_icmp_eq (tgt := 38) F.1 F.2.1 dX8_same_30 (by decide) (fun c30 => ?_) (fun c30 => ?_)
      · have c30 := ci_eq (a := ((ra r : Nat) : Int)) (b := ((ra q : Nat) : Int)) (nI_toInt (by omega)) (nI_toInt (by omega)) c30
        refine lv_aload_n F.1 F.2.1 dX8_same_38 rfl (lv_at hl 0 rfl) ?_
        refine lv_iload_n F.1 F.2.1 dX8_same_39 rfl (lv_at hl 1 rfl) ?_
        refine lv_iload_n F.1 F.2.1 dX8_same_40 rfl (lv_at hl 2 rfl) ?_
        refine mca_i (b := (mga G 0)) (As := [.int (nI r), .int (nI q)]) (rest := []) F (c_X8_differAt l G M P L N V n aa ac ra o zf zs zd hV r q (by omega) (by omega)) (xcw F.2.2.2.2 ca_X8_differAt tm_754 rfl rfl ⟨by decide, by decide⟩) (mr_X8 hW) hW rfl hl.1 rfl (Nat.le_of_ble_eq_true rfl) dX8_same_41 (fun r41 u41 H locs hp41 hW => ?_)
        obtain ⟨hp41, P41, rfl⟩ := hp41
        have hW : mW G s s.heap H locs M P41 L N V := hW
        have wl41 := wN_le (ra r)
        rcases hp41 with ⟨y41, rfl⟩ | ⟨y41, rfl⟩
        · skip
          refine lv_if_ge (tgt := 51) F.1 F.2.1 dX8_same_44 (by decide) (fun c44 => ?_) (fun c44 => ?_)
          · have c44 := ci_le (a := 0) (b := (((zdif o (ra r) r q) : Nat) : Int)) ci_0 (nI_toInt (by omega)) c44
            refine lv_iconst (v := nI 0) F.1 F.2.1 dX8_same_51 (by decide) ?_
            refine mre_i F hr hlk hW dX8_same_52 ?_
            refine ⟨?_, _, rfl⟩
            unfold qSame zin
            first | (exfalso; omega) | exact Or.inl ⟨by omega, rfl⟩ | (rw [e_r, e_q]; first | exact Or.inr (Or.inl ⟨by omega, by omega, by omega, rfl⟩) | exact Or.inr (Or.inr (Or.inl ⟨by omega, by omega, by omega, by omega, rfl⟩)) | exact Or.inr (Or.inr (Or.inr ⟨by omega, by omega, by omega, by omega, rfl⟩)))
          · have c44 := ci_nle (a := 0) (b := (((zdif o (ra r) r q) : Nat) : Int)) ci_0 (nI_toInt (by omega)) c44
            refine lv_iconst (v := nI 1) F.1 F.2.1 dX8_same_47 (by decide) ?_
            refine lv_goto (tgt := 52) F.1 F.2.1 dX8_same_48 (by decide) ?_
            refine mre_i F hr hlk hW dX8_same_52 ?_
            refine ⟨?_, _, rfl⟩
            unfold qSame zin
            first | (exfalso; omega) | exact Or.inl ⟨by omega, rfl⟩ | (rw [e_r, e_q]; first | exact Or.inr (Or.inl ⟨by omega, by omega, by omega, rfl⟩) | exact Or.inr (Or.inr (Or.inl ⟨by omega, by omega, by omega, by omega, rfl⟩)) | exact Or.inr (Or.inr (Or.inr ⟨by omega, by omega, by omega, by omega, rfl⟩)))
        · skip
          refine lv_if_ge (tgt := 51) F.1 F.2.1 dX8_same_44 (by decide) (fun q => absurd q (by decide)) (fun _ => ?_)
          refine lv_iconst (v := nI 1) F.1 F.2.1 dX8_same_47 (by decide) ?_
          refine lv_goto (tgt := 52) F.1 F.2.1 dX8_same_48 (by decide) ?_
          refine mre_i F hr hlk hW dX8_same_52 ?_
          refine ⟨?_, _, rfl⟩
          unfold qSame zin
          first | (exfalso; omega) | exact Or.inl ⟨by omega, rfl⟩ | (rw [e_r, e_q]; first | exact Or.inr (Or.inl ⟨by omega, by omega, by omega, rfl⟩) | exact Or.inr (Or.inr (Or.inl ⟨by omega, by omega, by omega, by omega, rfl⟩)) | exact Or.inr (Or.inr (Or.inr ⟨by omega, by omega, by omega, by omega, rfl⟩)))
      · have c30 := ci_ne (a := ((ra r : Nat) : Int)) (b := ((ra q : Nat) : Int)) (nI_toInt (by omega)) (nI_toInt (by omega)) c30
        refine lv_bipush (v := (-4)) F.1 F.2.1 dX8_same_33 (by decide) ?_
        refine lv_goto (tgt := 52) F.1 F.2.1 dX8_same_35 (by decide) ?_
        refine mre_i F hr hlk hW dX8_same_52 ?_
        refine ⟨?_, _, rfl⟩
        unfold qSame zin
        first | (exfalso; omega) | exact Or.inl ⟨by omega, rfl⟩ | (rw [e_r, e_q]; first | exact Or.inr (Or.inl ⟨by omega, by omega, by omega, rfl⟩) | exact Or.inr (Or.inr (Or.inl ⟨by omega, by omega, by omega, by omega, rfl⟩)) | exact Or.inr (Or.inr (Or.inr ⟨by omega, by omega, by omega, by omega, rfl⟩)))
    · skip
      refine lv_if_ne (tgt := 18) F.1 F.2.1 dX8_same_13 (by decide) (fun q => absurd q (by decide)) (fun _ => ?_)
      refine lv_iconst (v := (-1)) F.1 F.2.1 dX8_same_16 (by decide) ?_
      refine mre_i F hr hlk hW dX8_same_17 ?_
      refine ⟨?_, _, rfl⟩
      unfold qSame zin
      first | (exfalso; omega) | exact Or.inl ⟨by omega, rfl⟩ | (rw [e_r, e_q]; first | exact Or.inr (Or.inl ⟨by omega, by omega, by omega, rfl⟩) | exact Or.inr (Or.inr (Or.inl ⟨by omega, by omega, by omega, by omega, rfl⟩)) | exact Or.inr (Or.inr (Or.inr ⟨by omega, by omega, by omega, by omega, rfl⟩)))
  · skip
    refine lv_if_eq (tgt := 16) F.1 F.2.1 dX8_same_5 (by decide) (fun _ => ?_) (fun q => absurd q (by decide))
    refine lv_iconst (v := (-1)) F.1 F.2.1 dX8_same_16 (by decide) ?_
    refine mre_i F hr hlk hW dX8_same_17 ?_
    refine ⟨?_, _, rfl⟩
    unfold qSame zin
    first | (exfalso; omega) | exact Or.inl ⟨by omega, rfl⟩ | (rw [e_r, e_q]; first | exact Or.inr (Or.inl ⟨by omega, by omega, by omega, rfl⟩) | exact Or.inr (Or.inr (Or.inl ⟨by omega, by omega, by omega, by omega, rfl⟩)) | exact Or.inr (Or.inr (Or.inr ⟨by omega, by omega, by omega, by omega, rfl⟩)))
theorem dX8_differ_0 : decode cX8_differ 0 = .ok (.aload_n 0, 1) := by decide +kernel
theorem dX8_differ_1 : decode cX8_differ 1 = .ok (.iload_n 1, 1) := by decide +kernel
theorem dX8_differ_2 : decode cX8_differ 2 = .ok (.invokevirtual 70, 3) := by decide +kernel
theorem dX8_differ_5 : decode cX8_differ 5 = .ok (.ifCond .eq 11, 3) := by decide +kernel
theorem dX8_differ_8 : decode cX8_differ 8 = .ok (.aload_n 0, 1) := by decide +kernel
theorem dX8_differ_9 : decode cX8_differ 9 = .ok (.iload_n 2, 1) := by decide +kernel
theorem dX8_differ_10 : decode cX8_differ 10 = .ok (.invokevirtual 70, 3) := by decide +kernel
theorem dX8_differ_13 : decode cX8_differ 13 = .ok (.ifCond .ne 5, 3) := by decide +kernel
theorem dX8_differ_16 : decode cX8_differ 16 = .ok (.iconst (-1), 1) := by decide +kernel
theorem dX8_differ_17 : decode cX8_differ 17 = .ok (.ireturn, 1) := by decide +kernel
theorem dX8_differ_18 : decode cX8_differ 18 = .ok (.aload_n 0, 1) := by decide +kernel
theorem dX8_differ_19 : decode cX8_differ 19 = .ok (.getfield 7, 3) := by decide +kernel
theorem dX8_differ_22 : decode cX8_differ 22 = .ok (.iload_n 1, 1) := by decide +kernel
theorem dX8_differ_23 : decode cX8_differ 23 = .ok (.iaload, 1) := by decide +kernel
theorem dX8_differ_24 : decode cX8_differ 24 = .ok (.aload_n 0, 1) := by decide +kernel
theorem dX8_differ_25 : decode cX8_differ 25 = .ok (.getfield 7, 3) := by decide +kernel
theorem dX8_differ_28 : decode cX8_differ 28 = .ok (.iload_n 2, 1) := by decide +kernel
theorem dX8_differ_29 : decode cX8_differ 29 = .ok (.iaload, 1) := by decide +kernel
theorem dX8_differ_30 : decode cX8_differ 30 = .ok (.if_icmp .eq 6, 3) := by decide +kernel
theorem dX8_differ_33 : decode cX8_differ 33 = .ok (.bipush (-4), 2) := by decide +kernel
theorem dX8_differ_35 : decode cX8_differ 35 = .ok (.ireturn, 1) := by decide +kernel
theorem dX8_differ_36 : decode cX8_differ 36 = .ok (.aload_n 0, 1) := by decide +kernel
theorem dX8_differ_37 : decode cX8_differ 37 = .ok (.iload_n 1, 1) := by decide +kernel
theorem dX8_differ_38 : decode cX8_differ 38 = .ok (.iload_n 2, 1) := by decide +kernel
theorem dX8_differ_39 : decode cX8_differ 39 = .ok (.invokevirtual 169, 3) := by decide +kernel
theorem dX8_differ_42 : decode cX8_differ 42 = .ok (.istore_n 3, 1) := by decide +kernel
theorem dX8_differ_43 : decode cX8_differ 43 = .ok (.iload_n 3, 1) := by decide +kernel
theorem dX8_differ_44 : decode cX8_differ 44 = .ok (.ifCond .ge 8, 3) := by decide +kernel
theorem dX8_differ_47 : decode cX8_differ 47 = .ok (.bipush (-3), 2) := by decide +kernel
theorem dX8_differ_49 : decode cX8_differ 49 = .ok (.goto 4, 3) := by decide +kernel
theorem dX8_differ_52 : decode cX8_differ 52 = .ok (.iload_n 3, 1) := by decide +kernel
theorem dX8_differ_53 : decode cX8_differ 53 = .ok (.ireturn, 1) := by decide +kernel
set_option maxHeartbeats 4000000 in
set_option maxRecDepth 100000 in
theorem c_X8_differ (l : Launch) (G : MG) (M : MM) (P : MP) (L : ML) (N : MN) (V : MV) (n aa ac : Nat) (ra : Nat → Nat) (o : Nat → Int32 → Int32 → Int64) (zf zs : Nat → Int32) (zd : Nat → Int64) (hV : mV M n aa ac ra o zf zs zd) (x y : Int32) : Met l yX8_differ (wC yX8_differ cX8_differ 4 (some .int)) (rmD 4) (mPc G [.ref (mga G 0), .int x, .int y] M P L N V) (va_Qi (fun v u => qDiffer n ra o x y v ∧ ∃ P2 : MP, u = (M, P2, L, N, V)) (mB G) (mA G)) 0 0 (mA G) := by
  refine mst "DoFinderModel" (by decide) rfl (Nat.le_of_ble_eq_true rfl) ?_
  intro p e s m args below meth c ls F hr hlk hW hl
  have hl : lv_has ls 4 [(0, .ref (mga G 0)), (1, .int x), (2, .int y)] := hl
  have hW : mW G s s.heap s.heap [] M P L N V := hW
  have b_x := i32b x
  have b_y := i32b y
  obtain ⟨en, ea, ec, era, eo, ef, es, ed, bn, ba, bc, bf, brc, bra, bd⟩ := id hV
  refine lv_aload_n F.1 F.2.1 dX8_differ_0 rfl (lv_at hl 0 rfl) ?_
  refine lv_iload_n F.1 F.2.1 dX8_differ_1 rfl (lv_at hl 1 rfl) ?_
  refine mca_i (b := (mga G 0)) (As := [.int x]) (rest := []) F (c_X8_isRoutine l G M P L N V (by omega) x x.toInt rfl) (xcw F.2.2.2.2 ca_X8_isRoutine tm_595 rfl rfl ⟨by decide, by decide⟩) (mr_X8 hW) hW rfl hl.1 rfl (Nat.le_of_ble_eq_true rfl) dX8_differ_2 (fun r2 u2 H locs hp2 hW => ?_)
  obtain ⟨hp2, rfl⟩ := hp2
  have hW : mW G s s.heap H locs M P L N V := hW
  rcases hp2 with ⟨rfl, y2⟩ | ⟨rfl, y2⟩
  · skip
    obtain ⟨r, hn_r, hm_r, rfl⟩ := argN (x := x) (by omega)
    have e_r : (nI r).toInt.toNat = r := by omega
    have i_r : r < n := by omega
    have hl : lv_has ls 4 [(0, .ref (mga G 0)), (1, .int (nI r)), (2, .int y)] := hl
    refine lv_if_eq (tgt := 16) F.1 F.2.1 dX8_differ_5 (by decide) (fun q => absurd q (by decide)) (fun _ => ?_)
    refine lv_aload_n F.1 F.2.1 dX8_differ_8 rfl (lv_at hl 0 rfl) ?_
    refine lv_iload_n F.1 F.2.1 dX8_differ_9 rfl (lv_at hl 2 rfl) ?_
    refine mca_i (b := (mga G 0)) (As := [.int y]) (rest := []) F (c_X8_isRoutine l G M P L N V (by omega) y y.toInt rfl) (xcw F.2.2.2.2 ca_X8_isRoutine tm_595 rfl rfl ⟨by decide, by decide⟩) (mr_X8 hW) hW rfl hl.1 rfl (Nat.le_of_ble_eq_true rfl) dX8_differ_10 (fun r10 u10 H locs hp10 hW => ?_)
    obtain ⟨hp10, rfl⟩ := hp10
    have hW : mW G s s.heap H locs M P L N V := hW
    rcases hp10 with ⟨rfl, y10⟩ | ⟨rfl, y10⟩
    · skip
      obtain ⟨q, hn_q, hm_q, rfl⟩ := argN (x := y) (by omega)
      have e_q : (nI q).toInt.toNat = q := by omega
      have i_q : q < n := by omega
      have hl : lv_has ls 4 [(0, .ref (mga G 0)), (1, .int (nI r)), (2, .int (nI q))] := hl
      have q1 := bra r (by omega)
      have q3 := bra q (by omega)
      refine lv_if_ne (tgt := 18) F.1 F.2.1 dX8_differ_13 (by decide) (fun _ => ?_) (fun q => absurd q (by decide))
      refine lv_aload_n F.1 F.2.1 dX8_differ_18 rfl (lv_at hl 0 rfl) ?_
      refine mg_argumentsOf F hW tm_501 dX8_differ_19 ?_
      refine lv_iload_n F.1 F.2.1 dX8_differ_22 rfl (lv_at hl 1 rfl) ?_
      refine ml_ra (i := r) F hW rfl (by omega) dX8_differ_23 ?_
      refine ax_re (show nI (M.2.1 r) = nI (ra r) from congrArg nI (era r (by omega))) ?_
      refine lv_aload_n F.1 F.2.1 dX8_differ_24 rfl (lv_at hl 0 rfl) ?_
      refine mg_argumentsOf F hW tm_501 dX8_differ_25 ?_
      refine lv_iload_n F.1 F.2.1 dX8_differ_28 rfl (lv_at hl 2 rfl) ?_
      refine ml_ra (i := q) F hW rfl (by omega) dX8_differ_29 ?_
      refine ax_re (show nI (M.2.1 q) = nI (ra q) from congrArg nI (era q (by omega))) ?_
      refine lv_icmp_eq (tgt := 36) F.1 F.2.1 dX8_differ_30 (by decide) (fun c30 => ?_) (fun c30 => ?_)
      · have c30 := ci_eq (a := ((ra r : Nat) : Int)) (b := ((ra q : Nat) : Int)) (nI_toInt (by omega)) (nI_toInt (by omega)) c30
        refine lv_aload_n F.1 F.2.1 dX8_differ_36 rfl (lv_at hl 0 rfl) ?_
        refine lv_iload_n F.1 F.2.1 dX8_differ_37 rfl (lv_at hl 1 rfl) ?_
        refine lv_iload_n F.1 F.2.1 dX8_differ_38 rfl (lv_at hl 2 rfl) ?_
        refine mca_i (b := (mga G 0)) (As := [.int (nI r), .int (nI q)]) (rest := []) F (c_X8_differAt l G M P L N V n aa ac ra o zf zs zd hV r q (by omega) (by omega)) (xcw F.2.2.2.2 ca_X8_differAt tm_754 rfl rfl ⟨by decide, by decide⟩) (mr_X8 hW) hW rfl hl.1 rfl (Nat.le_of_ble_eq_true rfl) dX8_differ_39 (fun r39 u39 H locs hp39 hW => ?_)
        obtain ⟨hp39, P39, rfl⟩ := hp39
        have hW : mW G s s.heap H locs M P39 L N V := hW
        have wl39 := wN_le (ra r)
        rcases hp39 with ⟨y39, rfl⟩ | ⟨y39, rfl⟩
        · skip
          refine lv_istore_n (lv' := [(3, .int (nI (zdif o (ra r) r q))), (0, .ref (mga G 0)), (1, .int (nI r)), (2, .int (nI q))]) F.1 F.2.1 dX8_differ_42 rfl hl (by decide) rfl (fun ls hl => ?_)
          refine lv_iload_n F.1 F.2.1 dX8_differ_43 rfl (lv_at hl 0 rfl) ?_
          refine lv_if_ge (tgt := 52) F.1 F.2.1 dX8_differ_44 (by decide) (fun c44 => ?_) (fun c44 => ?_)
          · have c44 := ci_le (a := 0) (b := (((zdif o (ra r) r q) : Nat) : Int)) ci_0 (nI_toInt (by omega)) c44
            refine lv_iload_n F.1 F.2.1 dX8_differ_52 rfl (lv_at hl 0 rfl) ?_
            refine mre_i F hr hlk hW dX8_differ_53 ?_
            refine ⟨?_, _, rfl⟩
            unfold qDiffer zin
            first | (exfalso; omega) | exact Or.inl ⟨by omega, rfl⟩ | (rw [e_r, e_q]; first | exact Or.inr (Or.inl ⟨by omega, by omega, by omega, rfl⟩) | exact Or.inr (Or.inr (Or.inl ⟨by omega, by omega, by omega, by omega, rfl⟩)) | exact Or.inr (Or.inr (Or.inr ⟨by omega, by omega, by omega, by omega, rfl⟩)))
          · have c44 := ci_nle (a := 0) (b := (((zdif o (ra r) r q) : Nat) : Int)) ci_0 (nI_toInt (by omega)) c44
            refine lv_bipush (v := (-3)) F.1 F.2.1 dX8_differ_47 (by decide) ?_
            refine lv_goto (tgt := 53) F.1 F.2.1 dX8_differ_49 (by decide) ?_
            refine mre_i F hr hlk hW dX8_differ_53 ?_
            refine ⟨?_, _, rfl⟩
            unfold qDiffer zin
            first | (exfalso; omega) | exact Or.inl ⟨by omega, rfl⟩ | (rw [e_r, e_q]; first | exact Or.inr (Or.inl ⟨by omega, by omega, by omega, rfl⟩) | exact Or.inr (Or.inr (Or.inl ⟨by omega, by omega, by omega, by omega, rfl⟩)) | exact Or.inr (Or.inr (Or.inr ⟨by omega, by omega, by omega, by omega, rfl⟩)))
        · skip
          refine lv_istore_n (lv' := [(3, .int (-1)), (0, .ref (mga G 0)), (1, .int (nI r)), (2, .int (nI q))]) F.1 F.2.1 dX8_differ_42 rfl hl (by decide) rfl (fun ls hl => ?_)
          refine lv_iload_n F.1 F.2.1 dX8_differ_43 rfl (lv_at hl 0 rfl) ?_
          refine lv_if_ge (tgt := 52) F.1 F.2.1 dX8_differ_44 (by decide) (fun q => absurd q (by decide)) (fun _ => ?_)
          refine lv_bipush (v := (-3)) F.1 F.2.1 dX8_differ_47 (by decide) ?_
          refine lv_goto (tgt := 53) F.1 F.2.1 dX8_differ_49 (by decide) ?_
          refine mre_i F hr hlk hW dX8_differ_53 ?_
          refine ⟨?_, _, rfl⟩
          unfold qDiffer zin
          first | (exfalso; omega) | exact Or.inl ⟨by omega, rfl⟩ | (rw [e_r, e_q]; first | exact Or.inr (Or.inl ⟨by omega, by omega, by omega, rfl⟩) | exact Or.inr (Or.inr (Or.inl ⟨by omega, by omega, by omega, by omega, rfl⟩)) | exact Or.inr (Or.inr (Or.inr ⟨by omega, by omega, by omega, by omega, rfl⟩)))
      · have c30 := ci_ne (a := ((ra r : Nat) : Int)) (b := ((ra q : Nat) : Int)) (nI_toInt (by omega)) (nI_toInt (by omega)) c30
        refine lv_bipush (v := (-4)) F.1 F.2.1 dX8_differ_33 (by decide) ?_
        refine mre_i F hr hlk hW dX8_differ_35 ?_
        refine ⟨?_, _, rfl⟩
        unfold qDiffer zin
        first | (exfalso; omega) | exact Or.inl ⟨by omega, rfl⟩ | (rw [e_r, e_q]; first | exact Or.inr (Or.inl ⟨by omega, by omega, by omega, rfl⟩) | exact Or.inr (Or.inr (Or.inl ⟨by omega, by omega, by omega, by omega, rfl⟩)) | exact Or.inr (Or.inr (Or.inr ⟨by omega, by omega, by omega, by omega, rfl⟩)))
    · skip
      refine lv_if_ne (tgt := 18) F.1 F.2.1 dX8_differ_13 (by decide) (fun q => absurd q (by decide)) (fun _ => ?_)
      refine lv_iconst (v := (-1)) F.1 F.2.1 dX8_differ_16 (by decide) ?_
      refine mre_i F hr hlk hW dX8_differ_17 ?_
      refine ⟨?_, _, rfl⟩
      unfold qDiffer zin
      first | (exfalso; omega) | exact Or.inl ⟨by omega, rfl⟩ | (rw [e_r, e_q]; first | exact Or.inr (Or.inl ⟨by omega, by omega, by omega, rfl⟩) | exact Or.inr (Or.inr (Or.inl ⟨by omega, by omega, by omega, by omega, rfl⟩)) | exact Or.inr (Or.inr (Or.inr ⟨by omega, by omega, by omega, by omega, rfl⟩)))
  · skip
    refine lv_if_eq (tgt := 16) F.1 F.2.1 dX8_differ_5 (by decide) (fun _ => ?_) (fun q => absurd q (by decide))
    refine lv_iconst (v := (-1)) F.1 F.2.1 dX8_differ_16 (by decide) ?_
    refine mre_i F hr hlk hW dX8_differ_17 ?_
    refine ⟨?_, _, rfl⟩
    unfold qDiffer zin
    first | (exfalso; omega) | exact Or.inl ⟨by omega, rfl⟩ | (rw [e_r, e_q]; first | exact Or.inr (Or.inl ⟨by omega, by omega, by omega, rfl⟩) | exact Or.inr (Or.inr (Or.inl ⟨by omega, by omega, by omega, by omega, rfl⟩)) | exact Or.inr (Or.inr (Or.inr ⟨by omega, by omega, by omega, by omega, rfl⟩)))
theorem dX8_first_0 : decode cX8_first 0 = .ok (.aload_n 0, 1) := by decide +kernel
theorem dX8_first_1 : decode cX8_first 1 = .ok (.iload_n 1, 1) := by decide +kernel
theorem dX8_first_2 : decode cX8_first 2 = .ok (.invokevirtual 70, 3) := by decide +kernel
theorem dX8_first_5 : decode cX8_first 5 = .ok (.ifCond .ne 5, 3) := by decide +kernel
theorem dX8_first_8 : decode cX8_first 8 = .ok (.iconst (-1), 1) := by decide +kernel
theorem dX8_first_9 : decode cX8_first 9 = .ok (.ireturn, 1) := by decide +kernel
theorem dX8_first_10 : decode cX8_first 10 = .ok (.iconst 0, 1) := by decide +kernel
theorem dX8_first_11 : decode cX8_first 11 = .ok (.istore_n 2, 1) := by decide +kernel
theorem dX8_first_12 : decode cX8_first 12 = .ok (.iload_n 2, 1) := by decide +kernel
theorem dX8_first_13 : decode cX8_first 13 = .ok (.iload_n 1, 1) := by decide +kernel
theorem dX8_first_14 : decode cX8_first 14 = .ok (.if_icmp .ge 33, 3) := by decide +kernel
theorem dX8_first_17 : decode cX8_first 17 = .ok (.aload_n 0, 1) := by decide +kernel
theorem dX8_first_18 : decode cX8_first 18 = .ok (.getfield 7, 3) := by decide +kernel
theorem dX8_first_21 : decode cX8_first 21 = .ok (.iload_n 2, 1) := by decide +kernel
theorem dX8_first_22 : decode cX8_first 22 = .ok (.iaload, 1) := by decide +kernel
theorem dX8_first_23 : decode cX8_first 23 = .ok (.aload_n 0, 1) := by decide +kernel
theorem dX8_first_24 : decode cX8_first 24 = .ok (.getfield 7, 3) := by decide +kernel
theorem dX8_first_27 : decode cX8_first 27 = .ok (.iload_n 1, 1) := by decide +kernel
theorem dX8_first_28 : decode cX8_first 28 = .ok (.iaload, 1) := by decide +kernel
theorem dX8_first_29 : decode cX8_first 29 = .ok (.if_icmp .ne 12, 3) := by decide +kernel
theorem dX8_first_32 : decode cX8_first 32 = .ok (.aload_n 0, 1) := by decide +kernel
theorem dX8_first_33 : decode cX8_first 33 = .ok (.iload_n 2, 1) := by decide +kernel
theorem dX8_first_34 : decode cX8_first 34 = .ok (.iload_n 1, 1) := by decide +kernel
theorem dX8_first_35 : decode cX8_first 35 = .ok (.invokevirtual 169, 3) := by decide +kernel
theorem dX8_first_38 : decode cX8_first 38 = .ok (.ifCond .lt 9, 3) := by decide +kernel
theorem dX8_first_41 : decode cX8_first 41 = .ok (.iinc 2 1, 3) := by decide +kernel
theorem dX8_first_44 : decode cX8_first 44 = .ok (.goto (-32), 3) := by decide +kernel
theorem dX8_first_47 : decode cX8_first 47 = .ok (.iload_n 2, 1) := by decide +kernel
theorem dX8_first_48 : decode cX8_first 48 = .ok (.ireturn, 1) := by decide +kernel
set_option maxHeartbeats 4000000 in
set_option maxRecDepth 100000 in
theorem c_X8_first (l : Launch) (G : MG) (M : MM) (P : MP) (L : ML) (N : MN) (V : MV) (n aa ac : Nat) (ra : Nat → Nat) (o : Nat → Int32 → Int32 → Int64) (zf zs : Nat → Int32) (zd : Nat → Int64) (hV : mV M n aa ac ra o zf zs zd) (x : Int32) : Met l yX8_first (wC yX8_first cX8_first 3 (some .int)) (rmD 4) (mPc G [.ref (mga G 0), .int x] M P L N V) (va_Qi (fun v u => qFirst n ra o x v ∧ ∃ P2 : MP, u = (M, P2, L, N, V)) (mB G) (mA G)) 0 0 (mA G) := by
  refine mst "DoFinderModel" (by decide) rfl (Nat.le_of_ble_eq_true rfl) ?_
  intro p e s m args below meth c ls F hr hlk hW hl
  have hl : lv_has ls 3 [(0, .ref (mga G 0)), (1, .int x)] := hl
  have hW : mW G s s.heap s.heap [] M P L N V := hW
  have b_x := i32b x
  obtain ⟨en, ea, ec, era, eo, ef, es, ed, bn, ba, bc, bf, brc, bra, bd⟩ := id hV
  refine lv_aload_n F.1 F.2.1 dX8_first_0 rfl (lv_at hl 0 rfl) ?_
  refine lv_iload_n F.1 F.2.1 dX8_first_1 rfl (lv_at hl 1 rfl) ?_
  refine mca_i (b := (mga G 0)) (As := [.int x]) (rest := []) F (c_X8_isRoutine l G M P L N V (by omega) x x.toInt rfl) (xcw F.2.2.2.2 ca_X8_isRoutine tm_595 rfl rfl ⟨by decide, by decide⟩) (mr_X8 hW) hW rfl hl.1 rfl (Nat.le_of_ble_eq_true rfl) dX8_first_2 (fun r2 u2 H locs hp2 hW => ?_)
  obtain ⟨hp2, rfl⟩ := hp2
  have hW : mW G s s.heap H locs M P L N V := hW
  rcases hp2 with ⟨rfl, y2⟩ | ⟨rfl, y2⟩
  · skip
    obtain ⟨r, hn_r, hm_r, rfl⟩ := argN (x := x) (by omega)
    have e_r : (nI r).toInt.toNat = r := by omega
    have i_r : r < n := by omega
    have hl : lv_has ls 3 [(0, .ref (mga G 0)), (1, .int (nI r))] := hl
    have q1 := bra r (by omega)
    refine lv_if_ne (tgt := 10) F.1 F.2.1 dX8_first_5 (by decide) (fun _ => ?_) (fun q => absurd q (by decide))
    refine lv_iconst (v := nI 0) F.1 F.2.1 dX8_first_10 (by decide) ?_
    refine lv_istore_n (lv' := [(2, .int (nI 0)), (0, .ref (mga G 0)), (1, .int (nI r))]) F.1 F.2.1 dX8_first_11 rfl hl (by decide) rfl (fun ls hl => ?_)
    have lp12 : ∀ (k12 : Nat) (Pk : MP) (k : Nat), r - k = k12 → (k ≤ r) → (∀ j, j < k → (fun r2 => !(zdbl ra o r2 r)) j = true) → ∀ (H : Heap) (locs : List Loc) (ls : Array Slot), mW G s s.heap H locs M Pk L N V →  lv_has ls 3 [(0, .ref (mga G 0)), (1, .int (nI r)), (2, .int (nI k))] → W p l e (rmD 4) s m args below meth c H locs 0 0 (MQ below (va_Qi (fun v u => qFirst n ra o (nI r) v ∧ ∃ P2 : MP, u = (M, P2, L, N, V)) (mB G) (mA G)) args s 0 0 (mA G)) (F0 m 12 ls []) := by
      intro k12
      induction k12 using Nat.strongRecOn with
      | ind k12 ih12 =>
        intro Pk k hk12 h1 h2 H locs ls hW hl
        refine lv_iload_n F.1 F.2.1 dX8_first_12 rfl (lv_at hl 2 rfl) ?_
        refine lv_iload_n F.1 F.2.1 dX8_first_13 rfl (lv_at hl 1 rfl) ?_
        refine lv_icmp_ge (tgt := 47) F.1 F.2.1 dX8_first_14 (by decide) (fun c14 => ?_) (fun c14 => ?_)
        · have c14 := ci_le (a := ((r : Nat) : Int)) (b := ((k : Nat) : Int)) (nI_toInt (by omega)) (nI_toInt (by omega)) c14
          refine lv_iload_n F.1 F.2.1 dX8_first_47 rfl (lv_at hl 2 rfl) ?_
          refine mre_i F hr hlk hW dX8_first_48 ?_
          first | (exfalso; omega) | (have e9 := zleast_all (p := fun r2 => !(zdbl ra o r2 r)) r (fun j hj => h2 j (by omega)); exact ⟨Or.inr ⟨by unfold zin; omega, by rw [e_r, e9, show k = r by omega]⟩, _, rfl⟩) | (have e9 := zleast_at (p := fun r2 => !(zdbl ra o r2 r)) h2 (by rw [show zdbl ra o k r = true from decide_eq_true ⟨by omega, by omega⟩]; decide) r (by omega); exact ⟨Or.inr ⟨by unfold zin; omega, by rw [e_r, e9]⟩, _, rfl⟩)
        · have c14 := ci_nle (a := ((r : Nat) : Int)) (b := ((k : Nat) : Int)) (nI_toInt (by omega)) (nI_toInt (by omega)) c14
          have q3 := bra k (by omega)
          refine lv_aload_n F.1 F.2.1 dX8_first_17 rfl (lv_at hl 0 rfl) ?_
          refine mg_argumentsOf F hW tm_501 dX8_first_18 ?_
          refine lv_iload_n F.1 F.2.1 dX8_first_21 rfl (lv_at hl 2 rfl) ?_
          refine ml_ra (i := k) F hW rfl (by omega) dX8_first_22 ?_
          refine ax_re (show nI (M.2.1 k) = nI (ra k) from congrArg nI (era k (by omega))) ?_
          refine lv_aload_n F.1 F.2.1 dX8_first_23 rfl (lv_at hl 0 rfl) ?_
          refine mg_argumentsOf F hW tm_501 dX8_first_24 ?_
          refine lv_iload_n F.1 F.2.1 dX8_first_27 rfl (lv_at hl 1 rfl) ?_
          refine ml_ra (i := r) F hW rfl (by omega) dX8_first_28 ?_
          refine ax_re (show nI (M.2.1 r) = nI (ra r) from congrArg nI (era r (by omega))) ?_
          refine lv_icmp_ne (tgt := 41) F.1 F.2.1 dX8_first_29 (by decide) (fun c29 => ?_) (fun c29 => ?_)
          · have c29 := ci_ne (a := ((ra k : Nat) : Int)) (b := ((ra r : Nat) : Int)) (nI_toInt (by omega)) (nI_toInt (by omega)) c29
            refine lv_iinc (v := nI (k + 1)) (lv' := [(2, .int (nI (k + 1))), (0, .ref (mga G 0)), (1, .int (nI r))]) F.1 F.2.1 dX8_first_41 hl (k := 2) rfl (nI_add _ 1) (by decide) rfl (fun ls hl => ?_)
            refine lv_goto (tgt := 12) F.1 F.2.1 dX8_first_44 (by decide) ?_
            exact ih12 (r - (k + 1)) (by omega) Pk (k + 1) rfl (by omega) (lt_s h2 (by simp only [Bool.not_eq_true']; exact Bool.eq_false_iff.mpr (fun z => by have := of_decide_eq_true z; omega))) _ _ _ hW (lv_sub hl [1, 2, 0] rfl)
          · have c29 := ci_eq (a := ((ra k : Nat) : Int)) (b := ((ra r : Nat) : Int)) (nI_toInt (by omega)) (nI_toInt (by omega)) c29
            refine lv_aload_n F.1 F.2.1 dX8_first_32 rfl (lv_at hl 0 rfl) ?_
            refine lv_iload_n F.1 F.2.1 dX8_first_33 rfl (lv_at hl 2 rfl) ?_
            refine lv_iload_n F.1 F.2.1 dX8_first_34 rfl (lv_at hl 1 rfl) ?_
            refine mca_i (b := (mga G 0)) (As := [.int (nI k), .int (nI r)]) (rest := []) F (c_X8_differAt l G M Pk L N V n aa ac ra o zf zs zd hV k r (by omega) (by omega)) (xcw F.2.2.2.2 ca_X8_differAt tm_754 rfl rfl ⟨by decide, by decide⟩) (mr_X8 hW) hW rfl hl.1 rfl (Nat.le_of_ble_eq_true rfl) dX8_first_35 (fun r35 u35 H locs hp35 hW => ?_)
            obtain ⟨hp35, P35, rfl⟩ := hp35
            have hW : mW G s s.heap H locs M P35 L N V := hW
            have wl35 := wN_le (ra k)
            rcases hp35 with ⟨y35, rfl⟩ | ⟨y35, rfl⟩
            · skip
              refine lv_if_lt (tgt := 47) F.1 F.2.1 dX8_first_38 (by decide) (fun c38 => ?_) (fun c38 => ?_)
              · have c38 := ci_lt (a := (((zdif o (ra k) k r) : Nat) : Int)) (b := 0) (nI_toInt (by omega)) ci_0 c38
                refine lv_iload_n F.1 F.2.1 dX8_first_47 rfl (lv_at hl 2 rfl) ?_
                refine mre_i F hr hlk hW dX8_first_48 ?_
                first | (exfalso; omega) | (have e9 := zleast_all (p := fun r2 => !(zdbl ra o r2 r)) r (fun j hj => h2 j (by omega)); exact ⟨Or.inr ⟨by unfold zin; omega, by rw [e_r, e9, show k = r by omega]⟩, _, rfl⟩) | (have e9 := zleast_at (p := fun r2 => !(zdbl ra o r2 r)) h2 (by rw [show zdbl ra o k r = true from decide_eq_true ⟨by omega, by omega⟩]; decide) r (by omega); exact ⟨Or.inr ⟨by unfold zin; omega, by rw [e_r, e9]⟩, _, rfl⟩)
              · have c38 := ci_nlt (a := (((zdif o (ra k) k r) : Nat) : Int)) (b := 0) (nI_toInt (by omega)) ci_0 c38
                refine lv_iinc (v := nI (k + 1)) (lv' := [(2, .int (nI (k + 1))), (0, .ref (mga G 0)), (1, .int (nI r))]) F.1 F.2.1 dX8_first_41 hl (k := 2) rfl (nI_add _ 1) (by decide) rfl (fun ls hl => ?_)
                refine lv_goto (tgt := 12) F.1 F.2.1 dX8_first_44 (by decide) ?_
                exact ih12 (r - (k + 1)) (by omega) P35 (k + 1) rfl (by omega) (lt_s h2 (by simp only [Bool.not_eq_true']; exact Bool.eq_false_iff.mpr (fun z => by have := of_decide_eq_true z; omega))) _ _ _ hW (lv_sub hl [1, 2, 0] rfl)
            · skip
              refine lv_if_lt (tgt := 47) F.1 F.2.1 dX8_first_38 (by decide) (fun _ => ?_) (fun q => absurd q (by decide))
              refine lv_iload_n F.1 F.2.1 dX8_first_47 rfl (lv_at hl 2 rfl) ?_
              refine mre_i F hr hlk hW dX8_first_48 ?_
              first | (exfalso; omega) | (have e9 := zleast_all (p := fun r2 => !(zdbl ra o r2 r)) r (fun j hj => h2 j (by omega)); exact ⟨Or.inr ⟨by unfold zin; omega, by rw [e_r, e9, show k = r by omega]⟩, _, rfl⟩) | (have e9 := zleast_at (p := fun r2 => !(zdbl ra o r2 r)) h2 (by rw [show zdbl ra o k r = true from decide_eq_true ⟨by omega, by omega⟩]; decide) r (by omega); exact ⟨Or.inr ⟨by unfold zin; omega, by rw [e_r, e9]⟩, _, rfl⟩)
    exact lp12 (r - 0) P 0 rfl (Nat.zero_le _) (lt_0) _ _ _ hW (lv_sub hl [1, 2, 0] rfl)
  · skip
    refine lv_if_ne (tgt := 10) F.1 F.2.1 dX8_first_5 (by decide) (fun q => absurd q (by decide)) (fun _ => ?_)
    refine lv_iconst (v := (-1)) F.1 F.2.1 dX8_first_8 (by decide) ?_
    refine mre_i F hr hlk hW dX8_first_9 ?_
    exact ⟨Or.inl ⟨by unfold zin; omega, rfl⟩, _, rfl⟩
