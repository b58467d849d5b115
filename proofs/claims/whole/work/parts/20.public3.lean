theorem dX7_found_0 : decode cX7_found 0 = .ok (.aload_n 0, 1) := by decide +kernel
theorem dX7_found_1 : decode cX7_found 1 = .ok (.getfield 35, 3) := by decide +kernel
theorem dX7_found_4 : decode cX7_found 4 = .ok (.iload_n 1, 1) := by decide +kernel
theorem dX7_found_5 : decode cX7_found 5 = .ok (.aload_n 0, 1) := by decide +kernel
theorem dX7_found_6 : decode cX7_found 6 = .ok (.getfield 35, 3) := by decide +kernel
theorem dX7_found_9 : decode cX7_found 9 = .ok (.iconst 0, 1) := by decide +kernel
theorem dX7_found_10 : decode cX7_found 10 = .ok (.invokevirtual 129, 3) := by decide +kernel
theorem dX7_found_13 : decode cX7_found 13 = .ok (.invokevirtual 133, 3) := by decide +kernel
theorem dX7_found_16 : decode cX7_found 16 = .ok (.ireturn, 1) := by decide +kernel
set_option maxHeartbeats 4000000 in
set_option maxRecDepth 100000 in
theorem c_X7_found (l : Launch) (G : XG) (M : XM) (P : XP) (sc : Nat) (wy wm pk : Nat → Nat) (mh uh pl mo un : Nat) (oc : Nat → Int64) (ct : Nat → Nat) (n aa ac : Nat) (ra : Nat → Nat) (o : Nat → Int32 → Int32 → Int64) (zf zs : Nat → Int32) (zd : Nat → Int64) (hV : xV M n aa ac ra o zf zs zd) (k : Int32) : Met l yX7_found (wC yX7_found cX7_found 2 (some .int)) (rmD 6) (xPc G [.ref (xga G 0), .int k] M P (sc, wy, wm, pk) (mh, uh, pl, mo, un, oc, ct)) (va_Qi (fun v u => v = zkth ((zwl n aa ra 1200).filter (fun w => decide (zst o zf zs zd ac w = 0))) k ∧ ∃ (P2 : XP) (S2 : XS) (V2 : XV), u = (M, P2, S2, V2)) (xB G) (xA G)) 0 0 (xA G) := by
  refine xst "DoFinder" (by decide) rfl (Nat.le_of_ble_eq_true rfl) ?_
  intro p e s m args below meth c ls F hr hlk hW hl
  have hl : lv_has ls 2 [(0, .ref (xga G 0)), (1, .int k)] := hl
  have hW : xW G s s.heap s.heap [] M P (sc, wy, wm, pk) (mh, uh, pl, mo, un, oc, ct) := hW
  have b_k := i32b k
  obtain ⟨en, ea, ec, era, eo, ef, es, ed, bn, ba, bc, bf, brc, bra, bd⟩ := id hV
  refine lv_aload_n F.1 F.2.1 dX7_found_0 rfl (lv_at hl 0 rfl) ?_
  refine xg_DoFinder_search F hW tm_182 dX7_found_1 ?_
  refine lv_iload_n F.1 F.2.1 dX7_found_4 rfl (lv_at hl 1 rfl) ?_
  refine lv_aload_n F.1 F.2.1 dX7_found_5 rfl (lv_at hl 0 rfl) ?_
  refine xg_DoFinder_search F hW tm_182 dX7_found_6 ?_
  refine lv_iconst (v := nI 0) F.1 F.2.1 dX7_found_9 (by decide) ?_
  refine xca_i (b := (xga G 3)) (As := [.int (nI 0)]) (rest := [.int k, .ref (xga G 3)]) F (c_X5_pickWays l G M P sc wy wm pk (mh, uh, pl, mo, un, oc, ct) n aa ac ra o zf zs zd hV 0 (by omega)) (xcw F.2.2.2.2 ca_X5_pickWays tm_372 rfl rfl ⟨by decide, by decide⟩) (xr_X5 hW) hW rfl hl.1 rfl (Nat.le_of_ble_eq_true rfl) dX7_found_10 (fun r10 u10 H locs hp10 hW => ?_)
  obtain ⟨rfl, P10, wy10, pk10, rfl, hz10⟩ := hp10
  have hW : xW G s s.heap H locs M P10 (((zwl n aa ra 1200).filter (fun w => decide (zst o zf zs zd ac w = 0))).length, wy10, wm, pk10) (mh, uh, pl, mo, un, oc, ct) := hW
  have lb10 : ((zwl n aa ra 1200).filter (fun w => decide (zst o zf zs zd ac w = 0))).length ≤ 240 := Nat.le_trans (List.length_filter_le _ _) (zwl_all_len bn)
  refine xca_i (b := (xga G 3)) (As := [.int k, .int (nI (((zwl n aa ra 1200).filter (fun w => decide (zst o zf zs zd ac w = 0))).length))]) (rest := []) F (c_X5_pickedAt l G M P10 (((zwl n aa ra 1200).filter (fun w => decide (zst o zf zs zd ac w = 0))).length) wy10 wm pk10 (mh, uh, pl, mo, un, oc, ct) k (((zwl n aa ra 1200).filter (fun w => decide (zst o zf zs zd ac w = 0))).length) (by omega)) (xcw F.2.2.2.2 ca_X5_pickedAt tm_398 rfl rfl ⟨by decide, by decide⟩) (xr_X5 hW) hW rfl hl.1 rfl (Nat.le_of_ble_eq_true rfl) dX7_found_13 (fun r13 u13 H locs hp13 hW => ?_)
  obtain ⟨hp13, rfl⟩ := hp13
  have hW : xW G s s.heap H locs M P10 (((zwl n aa ra 1200).filter (fun w => decide (zst o zf zs zd ac w = 0))).length, wy10, wm, pk10) (mh, uh, pl, mo, un, oc, ct) := hW
  rcases hp13 with ⟨ya13, yb13, rfl⟩ | ⟨ya13, rfl⟩
  · skip
    refine xre_i F hr hlk hW dX7_found_16 ?_
    exact ⟨zkth_1 hz10 ya13 yb13, _, _, _, rfl⟩
  · skip
    refine xre_i F hr hlk hW dX7_found_16 ?_
    exact ⟨zkth_0 ya13, _, _, _, rfl⟩
theorem dX7_open_0 : decode cX7_open 0 = .ok (.aload_n 0, 1) := by decide +kernel
theorem dX7_open_1 : decode cX7_open 1 = .ok (.getfield 35, 3) := by decide +kernel
theorem dX7_open_4 : decode cX7_open 4 = .ok (.iload_n 1, 1) := by decide +kernel
theorem dX7_open_5 : decode cX7_open 5 = .ok (.aload_n 0, 1) := by decide +kernel
theorem dX7_open_6 : decode cX7_open 6 = .ok (.getfield 35, 3) := by decide +kernel
theorem dX7_open_9 : decode cX7_open 9 = .ok (.iconst 1, 1) := by decide +kernel
theorem dX7_open_10 : decode cX7_open 10 = .ok (.invokevirtual 129, 3) := by decide +kernel
theorem dX7_open_13 : decode cX7_open 13 = .ok (.invokevirtual 133, 3) := by decide +kernel
theorem dX7_open_16 : decode cX7_open 16 = .ok (.ireturn, 1) := by decide +kernel
set_option maxHeartbeats 4000000 in
set_option maxRecDepth 100000 in
theorem c_X7_open (l : Launch) (G : XG) (M : XM) (P : XP) (sc : Nat) (wy wm pk : Nat → Nat) (mh uh pl mo un : Nat) (oc : Nat → Int64) (ct : Nat → Nat) (n aa ac : Nat) (ra : Nat → Nat) (o : Nat → Int32 → Int32 → Int64) (zf zs : Nat → Int32) (zd : Nat → Int64) (hV : xV M n aa ac ra o zf zs zd) (k : Int32) : Met l yX7_open (wC yX7_open cX7_open 2 (some .int)) (rmD 6) (xPc G [.ref (xga G 0), .int k] M P (sc, wy, wm, pk) (mh, uh, pl, mo, un, oc, ct)) (va_Qi (fun v u => v = zkth ((zwl n aa ra 1200).filter (fun w => decide (zst o zf zs zd ac w = 1))) k ∧ ∃ (P2 : XP) (S2 : XS) (V2 : XV), u = (M, P2, S2, V2)) (xB G) (xA G)) 0 0 (xA G) := by
  refine xst "DoFinder" (by decide) rfl (Nat.le_of_ble_eq_true rfl) ?_
  intro p e s m args below meth c ls F hr hlk hW hl
  have hl : lv_has ls 2 [(0, .ref (xga G 0)), (1, .int k)] := hl
  have hW : xW G s s.heap s.heap [] M P (sc, wy, wm, pk) (mh, uh, pl, mo, un, oc, ct) := hW
  have b_k := i32b k
  obtain ⟨en, ea, ec, era, eo, ef, es, ed, bn, ba, bc, bf, brc, bra, bd⟩ := id hV
  refine lv_aload_n F.1 F.2.1 dX7_open_0 rfl (lv_at hl 0 rfl) ?_
  refine xg_DoFinder_search F hW tm_182 dX7_open_1 ?_
  refine lv_iload_n F.1 F.2.1 dX7_open_4 rfl (lv_at hl 1 rfl) ?_
  refine lv_aload_n F.1 F.2.1 dX7_open_5 rfl (lv_at hl 0 rfl) ?_
  refine xg_DoFinder_search F hW tm_182 dX7_open_6 ?_
  refine lv_iconst (v := nI 1) F.1 F.2.1 dX7_open_9 (by decide) ?_
  refine xca_i (b := (xga G 3)) (As := [.int (nI 1)]) (rest := [.int k, .ref (xga G 3)]) F (c_X5_pickWays l G M P sc wy wm pk (mh, uh, pl, mo, un, oc, ct) n aa ac ra o zf zs zd hV 1 (by omega)) (xcw F.2.2.2.2 ca_X5_pickWays tm_372 rfl rfl ⟨by decide, by decide⟩) (xr_X5 hW) hW rfl hl.1 rfl (Nat.le_of_ble_eq_true rfl) dX7_open_10 (fun r10 u10 H locs hp10 hW => ?_)
  obtain ⟨rfl, P10, wy10, pk10, rfl, hz10⟩ := hp10
  have hW : xW G s s.heap H locs M P10 (((zwl n aa ra 1200).filter (fun w => decide (zst o zf zs zd ac w = 1))).length, wy10, wm, pk10) (mh, uh, pl, mo, un, oc, ct) := hW
  have lb10 : ((zwl n aa ra 1200).filter (fun w => decide (zst o zf zs zd ac w = 1))).length ≤ 240 := Nat.le_trans (List.length_filter_le _ _) (zwl_all_len bn)
  refine xca_i (b := (xga G 3)) (As := [.int k, .int (nI (((zwl n aa ra 1200).filter (fun w => decide (zst o zf zs zd ac w = 1))).length))]) (rest := []) F (c_X5_pickedAt l G M P10 (((zwl n aa ra 1200).filter (fun w => decide (zst o zf zs zd ac w = 1))).length) wy10 wm pk10 (mh, uh, pl, mo, un, oc, ct) k (((zwl n aa ra 1200).filter (fun w => decide (zst o zf zs zd ac w = 1))).length) (by omega)) (xcw F.2.2.2.2 ca_X5_pickedAt tm_398 rfl rfl ⟨by decide, by decide⟩) (xr_X5 hW) hW rfl hl.1 rfl (Nat.le_of_ble_eq_true rfl) dX7_open_13 (fun r13 u13 H locs hp13 hW => ?_)
  obtain ⟨hp13, rfl⟩ := hp13
  have hW : xW G s s.heap H locs M P10 (((zwl n aa ra 1200).filter (fun w => decide (zst o zf zs zd ac w = 1))).length, wy10, wm, pk10) (mh, uh, pl, mo, un, oc, ct) := hW
  rcases hp13 with ⟨ya13, yb13, rfl⟩ | ⟨ya13, rfl⟩
  · skip
    refine xre_i F hr hlk hW dX7_open_16 ?_
    exact ⟨zkth_1 hz10 ya13 yb13, _, _, _, rfl⟩
  · skip
    refine xre_i F hr hlk hW dX7_open_16 ?_
    exact ⟨zkth_0 ya13, _, _, _, rfl⟩
theorem dX7_joint_0 : decode cX7_joint 0 = .ok (.aload_n 0, 1) := by decide +kernel
theorem dX7_joint_1 : decode cX7_joint 1 = .ok (.getfield 35, 3) := by decide +kernel
theorem dX7_joint_4 : decode cX7_joint 4 = .ok (.iload_n 1, 1) := by decide +kernel
theorem dX7_joint_5 : decode cX7_joint 5 = .ok (.aload_n 0, 1) := by decide +kernel
theorem dX7_joint_6 : decode cX7_joint 6 = .ok (.getfield 35, 3) := by decide +kernel
theorem dX7_joint_9 : decode cX7_joint 9 = .ok (.invokevirtual 136, 3) := by decide +kernel
theorem dX7_joint_12 : decode cX7_joint 12 = .ok (.invokevirtual 133, 3) := by decide +kernel
theorem dX7_joint_15 : decode cX7_joint 15 = .ok (.ireturn, 1) := by decide +kernel
set_option maxHeartbeats 4000000 in
set_option maxRecDepth 100000 in
theorem c_X7_joint (l : Launch) (G : XG) (M : XM) (P : XP) (sc : Nat) (wy wm pk : Nat → Nat) (mh uh pl mo un : Nat) (oc : Nat → Int64) (ct : Nat → Nat) (n aa ac : Nat) (ra : Nat → Nat) (o : Nat → Int32 → Int32 → Int64) (zf zs : Nat → Int32) (zd : Nat → Int64) (hV : xV M n aa ac ra o zf zs zd) (k : Int32) : Met l yX7_joint (wC yX7_joint cX7_joint 2 (some .int)) (rmD 6) (xPc G [.ref (xga G 0), .int k] M P (sc, wy, wm, pk) (mh, uh, pl, mo, un, oc, ct)) (va_Qi (fun v u => v = zkth (zjl (zwl n aa ra 1200) ra (fun w => decide (zst o zf zs zd ac w = 0)) n) k ∧ ∃ (P2 : XP) (S2 : XS) (V2 : XV), u = (M, P2, S2, V2)) (xB G) (xA G)) 0 0 (xA G) := by
  refine xst "DoFinder" (by decide) rfl (Nat.le_of_ble_eq_true rfl) ?_
  intro p e s m args below meth c ls F hr hlk hW hl
  have hl : lv_has ls 2 [(0, .ref (xga G 0)), (1, .int k)] := hl
  have hW : xW G s s.heap s.heap [] M P (sc, wy, wm, pk) (mh, uh, pl, mo, un, oc, ct) := hW
  have b_k := i32b k
  obtain ⟨en, ea, ec, era, eo, ef, es, ed, bn, ba, bc, bf, brc, bra, bd⟩ := id hV
  refine lv_aload_n F.1 F.2.1 dX7_joint_0 rfl (lv_at hl 0 rfl) ?_
  refine xg_DoFinder_search F hW tm_182 dX7_joint_1 ?_
  refine lv_iload_n F.1 F.2.1 dX7_joint_4 rfl (lv_at hl 1 rfl) ?_
  refine lv_aload_n F.1 F.2.1 dX7_joint_5 rfl (lv_at hl 0 rfl) ?_
  refine xg_DoFinder_search F hW tm_182 dX7_joint_6 ?_
  refine xca_i (b := (xga G 3)) (As := []) (rest := [.int k, .ref (xga G 3)]) F (c_X5_pickJoints l G M P sc wy wm pk (mh, uh, pl, mo, un, oc, ct) n aa ac ra o zf zs zd hV) (xcw F.2.2.2.2 ca_X5_pickJoints tm_410 rfl rfl ⟨by decide, by decide⟩) (xr_X5 hW) hW rfl hl.1 rfl (Nat.le_of_ble_eq_true rfl) dX7_joint_9 (fun r9 u9 H locs hp9 hW => ?_)
  obtain ⟨rfl, P9, wy9, pk9, rfl, hz9⟩ := hp9
  have hW : xW G s s.heap H locs M P9 ((zjl (zwl n aa ra 1200) ra (fun w => decide (zst o zf zs zd ac w = 0)) n).length, wy9, wm, pk9) (mh, uh, pl, mo, un, oc, ct) := hW
  have lb9 : (zjl (zwl n aa ra 1200) ra (fun w => decide (zst o zf zs zd ac w = 0)) n).length ≤ 756 := zjl_756 bn
  refine xca_i (b := (xga G 3)) (As := [.int k, .int (nI ((zjl (zwl n aa ra 1200) ra (fun w => decide (zst o zf zs zd ac w = 0)) n).length))]) (rest := []) F (c_X5_pickedAt l G M P9 ((zjl (zwl n aa ra 1200) ra (fun w => decide (zst o zf zs zd ac w = 0)) n).length) wy9 wm pk9 (mh, uh, pl, mo, un, oc, ct) k ((zjl (zwl n aa ra 1200) ra (fun w => decide (zst o zf zs zd ac w = 0)) n).length) (by omega)) (xcw F.2.2.2.2 ca_X5_pickedAt tm_398 rfl rfl ⟨by decide, by decide⟩) (xr_X5 hW) hW rfl hl.1 rfl (Nat.le_of_ble_eq_true rfl) dX7_joint_12 (fun r12 u12 H locs hp12 hW => ?_)
  obtain ⟨hp12, rfl⟩ := hp12
  have hW : xW G s s.heap H locs M P9 ((zjl (zwl n aa ra 1200) ra (fun w => decide (zst o zf zs zd ac w = 0)) n).length, wy9, wm, pk9) (mh, uh, pl, mo, un, oc, ct) := hW
  rcases hp12 with ⟨ya12, yb12, rfl⟩ | ⟨ya12, rfl⟩
  · skip
    refine xre_i F hr hlk hW dX7_joint_15 ?_
    exact ⟨zkth_1 hz9 ya12 yb12, _, _, _, rfl⟩
  · skip
    refine xre_i F hr hlk hW dX7_joint_15 ?_
    exact ⟨zkth_0 ya12, _, _, _, rfl⟩
theorem dX7_near_0 : decode cX7_near 0 = .ok (.aload_n 0, 1) := by decide +kernel
theorem dX7_near_1 : decode cX7_near 1 = .ok (.getfield 35, 3) := by decide +kernel
theorem dX7_near_4 : decode cX7_near 4 = .ok (.iload_n 1, 1) := by decide +kernel
theorem dX7_near_5 : decode cX7_near 5 = .ok (.aload_n 0, 1) := by decide +kernel
theorem dX7_near_6 : decode cX7_near 6 = .ok (.getfield 35, 3) := by decide +kernel
theorem dX7_near_9 : decode cX7_near 9 = .ok (.invokevirtual 140, 3) := by decide +kernel
theorem dX7_near_12 : decode cX7_near 12 = .ok (.invokevirtual 133, 3) := by decide +kernel
theorem dX7_near_15 : decode cX7_near 15 = .ok (.ireturn, 1) := by decide +kernel
set_option maxHeartbeats 4000000 in
set_option maxRecDepth 100000 in
theorem c_X7_near (l : Launch) (G : XG) (M : XM) (P : XP) (sc : Nat) (wy wm pk : Nat → Nat) (mh uh pl mo un : Nat) (oc : Nat → Int64) (ct : Nat → Nat) (n aa ac : Nat) (ra : Nat → Nat) (o : Nat → Int32 → Int32 → Int64) (zf zs : Nat → Int32) (zd : Nat → Int64) (hV : xV M n aa ac ra o zf zs zd) (k : Int32) : Met l yX7_near (wC yX7_near cX7_near 2 (some .int)) (rmD 6) (xPc G [.ref (xga G 0), .int k] M P (sc, wy, wm, pk) (mh, uh, pl, mo, un, oc, ct)) (va_Qi (fun v u => v = zkth (znl (zwl n aa ra 1200) (zmi o zf zs zd ac) ac) k ∧ ∃ (P2 : XP) (S2 : XS) (V2 : XV), u = (M, P2, S2, V2)) (xB G) (xA G)) 0 0 (xA G) := by
  refine xst "DoFinder" (by decide) rfl (Nat.le_of_ble_eq_true rfl) ?_
  intro p e s m args below meth c ls F hr hlk hW hl
  have hl : lv_has ls 2 [(0, .ref (xga G 0)), (1, .int k)] := hl
  have hW : xW G s s.heap s.heap [] M P (sc, wy, wm, pk) (mh, uh, pl, mo, un, oc, ct) := hW
  have b_k := i32b k
  obtain ⟨en, ea, ec, era, eo, ef, es, ed, bn, ba, bc, bf, brc, bra, bd⟩ := id hV
  refine lv_aload_n F.1 F.2.1 dX7_near_0 rfl (lv_at hl 0 rfl) ?_
  refine xg_DoFinder_search F hW tm_182 dX7_near_1 ?_
  refine lv_iload_n F.1 F.2.1 dX7_near_4 rfl (lv_at hl 1 rfl) ?_
  refine lv_aload_n F.1 F.2.1 dX7_near_5 rfl (lv_at hl 0 rfl) ?_
  refine xg_DoFinder_search F hW tm_182 dX7_near_6 ?_
  refine xca_i (b := (xga G 3)) (As := []) (rest := [.int k, .ref (xga G 3)]) F (c_X5_pickNear l G M P sc wy wm pk (mh, uh, pl, mo, un, oc, ct) n aa ac ra o zf zs zd hV) (xcw F.2.2.2.2 ca_X5_pickNear tm_418 rfl rfl ⟨by decide, by decide⟩) (xr_X5 hW) hW rfl hl.1 rfl (Nat.le_of_ble_eq_true rfl) dX7_near_9 (fun r9 u9 H locs hp9 hW => ?_)
  obtain ⟨rfl, P9, wy9, wm9, pk9, rfl, hz9⟩ := hp9
  have hW : xW G s s.heap H locs M P9 ((znl (zwl n aa ra 1200) (zmi o zf zs zd ac) ac).length, wy9, wm9, pk9) (mh, uh, pl, mo, un, oc, ct) := hW
  have lb9 : (znl (zwl n aa ra 1200) (zmi o zf zs zd ac) ac).length ≤ 240 := Nat.le_trans (znl_le _ _ _) (zwl_all_len bn)
  refine xca_i (b := (xga G 3)) (As := [.int k, .int (nI ((znl (zwl n aa ra 1200) (zmi o zf zs zd ac) ac).length))]) (rest := []) F (c_X5_pickedAt l G M P9 ((znl (zwl n aa ra 1200) (zmi o zf zs zd ac) ac).length) wy9 wm9 pk9 (mh, uh, pl, mo, un, oc, ct) k ((znl (zwl n aa ra 1200) (zmi o zf zs zd ac) ac).length) (by omega)) (xcw F.2.2.2.2 ca_X5_pickedAt tm_398 rfl rfl ⟨by decide, by decide⟩) (xr_X5 hW) hW rfl hl.1 rfl (Nat.le_of_ble_eq_true rfl) dX7_near_12 (fun r12 u12 H locs hp12 hW => ?_)
  obtain ⟨hp12, rfl⟩ := hp12
  have hW : xW G s s.heap H locs M P9 ((znl (zwl n aa ra 1200) (zmi o zf zs zd ac) ac).length, wy9, wm9, pk9) (mh, uh, pl, mo, un, oc, ct) := hW
  rcases hp12 with ⟨ya12, yb12, rfl⟩ | ⟨ya12, rfl⟩
  · skip
    refine xre_i F hr hlk hW dX7_near_15 ?_
    exact ⟨zkth_1 hz9 ya12 yb12, _, _, _, rfl⟩
  · skip
    refine xre_i F hr hlk hW dX7_near_15 ?_
    exact ⟨zkth_0 ya12, _, _, _, rfl⟩
theorem dX7_would_0 : decode cX7_would 0 = .ok (.aload_n 0, 1) := by decide +kernel
theorem dX7_would_1 : decode cX7_would 1 = .ok (.getfield 35, 3) := by decide +kernel
theorem dX7_would_4 : decode cX7_would 4 = .ok (.iload_n 1, 1) := by decide +kernel
theorem dX7_would_5 : decode cX7_would 5 = .ok (.invokevirtual 123, 3) := by decide +kernel
theorem dX7_would_8 : decode cX7_would 8 = .ok (.ifCond .eq 16, 3) := by decide +kernel
theorem dX7_would_11 : decode cX7_would 11 = .ok (.aload_n 0, 1) := by decide +kernel
theorem dX7_would_12 : decode cX7_would 12 = .ok (.getfield 35, 3) := by decide +kernel
theorem dX7_would_15 : decode cX7_would 15 = .ok (.iload_n 1, 1) := by decide +kernel
theorem dX7_would_16 : decode cX7_would 16 = .ok (.iload_n 2, 1) := by decide +kernel
theorem dX7_would_17 : decode cX7_would 17 = .ok (.iload_n 3, 1) := by decide +kernel
theorem dX7_would_18 : decode cX7_would 18 = .ok (.invokevirtual 126, 3) := by decide +kernel
theorem dX7_would_21 : decode cX7_would 21 = .ok (.goto 6, 3) := by decide +kernel
theorem dX7_would_24 : decode cX7_would 24 = .ok (.ldc2_w 127, 3) := by decide +kernel
theorem dX7_would_27 : decode cX7_would 27 = .ok (.lreturn, 1) := by decide +kernel
set_option maxHeartbeats 4000000 in
set_option maxRecDepth 100000 in
theorem c_X7_would (l : Launch) (G : XG) (M : XM) (P : XP) (sc : Nat) (wy wm pk : Nat → Nat) (mh uh pl mo un : Nat) (oc : Nat → Int64) (ct : Nat → Nat) (n aa ac : Nat) (ra : Nat → Nat) (o : Nat → Int32 → Int32 → Int64) (zf zs : Nat → Int32) (zd : Nat → Int64) (hV : xV M n aa ac ra o zf zs zd) (w : Nat) (hw : w < 2147483648) (a b : Int32) : Met l yX7_would (wC yX7_would cX7_would 4 (some .long)) (rmD 3) (xPc G [.ref (xga G 0), .int (nI w), .int a, .int b] M P (sc, wy, wm, pk) (mh, uh, pl, mo, un, oc, ct)) (va_Ql (fun v u => ((zok n aa ra w = true ∧ v = zjo o w a b) ∨ (¬ zok n aa ra w = true ∧ v = zNOT)) ∧ ∃ (P2 : XP) (S2 : XS) (V2 : XV), u = (M, P2, S2, V2)) (xB G) (xA G)) 0 0 (xA G) := by
  refine xst "DoFinder" (by decide) rfl (Nat.le_of_ble_eq_true rfl) ?_
  intro p e s m args below meth c ls F hr hlk hW hl
  have hl : lv_has ls 4 [(0, .ref (xga G 0)), (1, .int (nI w)), (2, .int a), (3, .int b)] := hl
  have hW : xW G s s.heap s.heap [] M P (sc, wy, wm, pk) (mh, uh, pl, mo, un, oc, ct) := hW
  have b_a := i32b a
  have b_b := i32b b
  obtain ⟨en, ea, ec, era, eo, ef, es, ed, bn, ba, bc, bf, brc, bra, bd⟩ := id hV
  refine lv_aload_n F.1 F.2.1 dX7_would_0 rfl (lv_at hl 0 rfl) ?_
  refine xg_DoFinder_search F hW tm_182 dX7_would_1 ?_
  refine lv_iload_n F.1 F.2.1 dX7_would_4 rfl (lv_at hl 1 rfl) ?_
  refine xca_i (b := (xga G 3)) (As := [.int (nI w)]) (rest := []) F (c_X5_isWayOrJoint l G M P (sc, wy, wm, pk) (mh, uh, pl, mo, un, oc, ct) n aa ac ra o zf zs zd hV w (by omega)) (xcw F.2.2.2.2 ca_X5_isWayOrJoint tm_343 rfl rfl ⟨by decide, by decide⟩) (xr_X5 hW) hW rfl hl.1 rfl (Nat.le_of_ble_eq_true rfl) dX7_would_5 (fun r5 u5 H locs hp5 hW => ?_)
  obtain ⟨hp5, rfl⟩ := hp5
  have hW : xW G s s.heap H locs M P (sc, wy, wm, pk) (mh, uh, pl, mo, un, oc, ct) := hW
  rcases hp5 with ⟨rfl, y5⟩ | ⟨rfl, y5⟩
  · skip
    refine lv_if_eq (tgt := 24) F.1 F.2.1 dX7_would_8 (by decide) (fun q => absurd q (by decide)) (fun _ => ?_)
    refine lv_aload_n F.1 F.2.1 dX7_would_11 rfl (lv_at hl 0 rfl) ?_
    refine xg_DoFinder_search F hW tm_182 dX7_would_12 ?_
    refine lv_iload_n F.1 F.2.1 dX7_would_15 rfl (lv_at hl 1 rfl) ?_
    refine lv_iload_n F.1 F.2.1 dX7_would_16 rfl (lv_at hl 2 rfl) ?_
    refine lv_iload_n F.1 F.2.1 dX7_would_17 rfl (lv_at hl 3 rfl) ?_
    refine xca_l (b := (xga G 3)) (As := [.int (nI w), .int a, .int b]) (rest := []) F (c_X5_outcome l G M P (sc, wy, wm, pk) (mh, uh, pl, mo, un, oc, ct) n aa ac ra o zf zs zd hV w (by omega) y5 a b) (xcw F.2.2.2.2 ca_X5_outcome tm_360 rfl rfl ⟨by decide, by decide⟩) (xr_X5 hW) hW rfl hl.1 rfl (Nat.le_of_ble_eq_true rfl) dX7_would_18 (fun r18 u18 H locs hp18 hW => ?_)
    obtain ⟨rfl, P18, rfl⟩ := hp18
    have hW : xW G s s.heap H locs M P18 (sc, wy, wm, pk) (mh, uh, pl, mo, un, oc, ct) := hW
    refine lv_goto (tgt := 27) F.1 F.2.1 dX7_would_21 (by decide) ?_
    refine xre_l F hr hlk hW dX7_would_27 ?_
    first | exact ⟨Or.inl ⟨y5, rfl⟩, _, _, _, rfl⟩ | exact ⟨Or.inr ⟨y5, rfl⟩, _, _, _, rfl⟩
  · skip
    refine lv_if_eq (tgt := 24) F.1 F.2.1 dX7_would_8 (by decide) (fun _ => ?_) (fun q => absurd q (by decide))
    refine lv_ldc2 (v := zNOT) F.1 F.2.1 F.2.2.2.1 (F.2.2.2.2 _ tm_367) dX7_would_24 ?_
    refine xre_l F hr hlk hW dX7_would_27 ?_
    first | exact ⟨Or.inl ⟨y5, rfl⟩, _, _, _, rfl⟩ | exact ⟨Or.inr ⟨y5, rfl⟩, _, _, _, rfl⟩
set_option maxHeartbeats 4000000 in
set_option maxRecDepth 100000 in
theorem c_X7_would_neg (l : Launch) (G : XG) (M : XM) (P : XP) (sc : Nat) (wy wm pk : Nat → Nat) (mh uh pl mo un : Nat) (oc : Nat → Int64) (ct : Nat → Nat) (n aa ac : Nat) (ra : Nat → Nat) (o : Nat → Int32 → Int32 → Int64) (zf zs : Nat → Int32) (zd : Nat → Int64) (hV : xV M n aa ac ra o zf zs zd) (x : Int32) (hx : x.toInt < 0) (a b : Int32) : Met l yX7_would (wC yX7_would cX7_would 4 (some .long)) (rmD 3) (xPc G [.ref (xga G 0), .int x, .int a, .int b] M P (sc, wy, wm, pk) (mh, uh, pl, mo, un, oc, ct)) (va_Ql (fun v u => v = zNOT ∧ ∃ (P2 : XP) (S2 : XS) (V2 : XV), u = (M, P2, S2, V2)) (xB G) (xA G)) 0 0 (xA G) := by
  refine xst "DoFinder" (by decide) rfl (Nat.le_of_ble_eq_true rfl) ?_
  intro p e s m args below meth c ls F hr hlk hW hl
  have hl : lv_has ls 4 [(0, .ref (xga G 0)), (1, .int x), (2, .int a), (3, .int b)] := hl
  have hW : xW G s s.heap s.heap [] M P (sc, wy, wm, pk) (mh, uh, pl, mo, un, oc, ct) := hW
  have b_x := i32b x
  have b_a := i32b a
  have b_b := i32b b
  refine lv_aload_n F.1 F.2.1 dX7_would_0 rfl (lv_at hl 0 rfl) ?_
  refine xg_DoFinder_search F hW tm_182 dX7_would_1 ?_
  refine lv_iload_n F.1 F.2.1 dX7_would_4 rfl (lv_at hl 1 rfl) ?_
  refine xca_i (b := (xga G 3)) (As := [.int x]) (rest := []) F (c_X5_isWayOrJoint_neg l G M P (sc, wy, wm, pk) (mh, uh, pl, mo, un, oc, ct) n aa ac ra o zf zs zd hV x hx) (xcw F.2.2.2.2 ca_X5_isWayOrJoint tm_343 rfl rfl ⟨by decide, by decide⟩) (xr_X5 hW) hW rfl hl.1 rfl (Nat.le_of_ble_eq_true rfl) dX7_would_5 (fun r5 u5 H locs hp5 hW => ?_)
  obtain ⟨rfl, rfl⟩ := hp5
  have hW : xW G s s.heap H locs M P (sc, wy, wm, pk) (mh, uh, pl, mo, un, oc, ct) := hW
  refine lv_if_eq (tgt := 24) F.1 F.2.1 dX7_would_8 (by decide) (fun _ => ?_) (fun q => absurd q (by decide))
  refine lv_ldc2 (v := zNOT) F.1 F.2.1 F.2.2.2.1 (F.2.2.2.2 _ tm_367) dX7_would_24 ?_
  refine xre_l F hr hlk hW dX7_would_27 ?_
  exact ⟨rfl, _, _, _, rfl⟩
theorem dX7_misses_0 : decode cX7_misses 0 = .ok (.aload_n 0, 1) := by decide +kernel
theorem dX7_misses_1 : decode cX7_misses 1 = .ok (.getfield 35, 3) := by decide +kernel
theorem dX7_misses_4 : decode cX7_misses 4 = .ok (.iload_n 1, 1) := by decide +kernel
theorem dX7_misses_5 : decode cX7_misses 5 = .ok (.invokevirtual 123, 3) := by decide +kernel
theorem dX7_misses_8 : decode cX7_misses 8 = .ok (.ifCond .eq 14, 3) := by decide +kernel
theorem dX7_misses_11 : decode cX7_misses 11 = .ok (.aload_n 0, 1) := by decide +kernel
theorem dX7_misses_12 : decode cX7_misses 12 = .ok (.getfield 35, 3) := by decide +kernel
theorem dX7_misses_15 : decode cX7_misses 15 = .ok (.iload_n 1, 1) := by decide +kernel
theorem dX7_misses_16 : decode cX7_misses 16 = .ok (.invokevirtual 143, 3) := by decide +kernel
theorem dX7_misses_19 : decode cX7_misses 19 = .ok (.goto 4, 3) := by decide +kernel
theorem dX7_misses_22 : decode cX7_misses 22 = .ok (.iconst (-1), 1) := by decide +kernel
theorem dX7_misses_23 : decode cX7_misses 23 = .ok (.ireturn, 1) := by decide +kernel
set_option maxHeartbeats 4000000 in
set_option maxRecDepth 100000 in
theorem c_X7_misses (l : Launch) (G : XG) (M : XM) (P : XP) (sc : Nat) (wy wm pk : Nat → Nat) (mh uh pl mo un : Nat) (oc : Nat → Int64) (ct : Nat → Nat) (n aa ac : Nat) (ra : Nat → Nat) (o : Nat → Int32 → Int32 → Int64) (zf zs : Nat → Int32) (zd : Nat → Int64) (hV : xV M n aa ac ra o zf zs zd) (w : Nat) (hw : w < 2147483648) : Met l yX7_misses (wC yX7_misses cX7_misses 2 (some .int)) (rmD 5) (xPc G [.ref (xga G 0), .int (nI w)] M P (sc, wy, wm, pk) (mh, uh, pl, mo, un, oc, ct)) (va_Qi (fun v u => ((zok n aa ra w = true ∧ v = nI (zmi o zf zs zd ac w)) ∨ (¬ zok n aa ra w = true ∧ v = (-1))) ∧ ∃ (P2 : XP) (S2 : XS) (V2 : XV), u = (M, P2, S2, V2)) (xB G) (xA G)) 0 0 (xA G) := by
  refine xst "DoFinder" (by decide) rfl (Nat.le_of_ble_eq_true rfl) ?_
  intro p e s m args below meth c ls F hr hlk hW hl
  have hl : lv_has ls 2 [(0, .ref (xga G 0)), (1, .int (nI w))] := hl
  have hW : xW G s s.heap s.heap [] M P (sc, wy, wm, pk) (mh, uh, pl, mo, un, oc, ct) := hW
  obtain ⟨en, ea, ec, era, eo, ef, es, ed, bn, ba, bc, bf, brc, bra, bd⟩ := id hV
  refine lv_aload_n F.1 F.2.1 dX7_misses_0 rfl (lv_at hl 0 rfl) ?_
  refine xg_DoFinder_search F hW tm_182 dX7_misses_1 ?_
  refine lv_iload_n F.1 F.2.1 dX7_misses_4 rfl (lv_at hl 1 rfl) ?_
  refine xca_i (b := (xga G 3)) (As := [.int (nI w)]) (rest := []) F (c_X5_isWayOrJoint l G M P (sc, wy, wm, pk) (mh, uh, pl, mo, un, oc, ct) n aa ac ra o zf zs zd hV w (by omega)) (xcw F.2.2.2.2 ca_X5_isWayOrJoint tm_343 rfl rfl ⟨by decide, by decide⟩) (xr_X5 hW) hW rfl hl.1 rfl (Nat.le_of_ble_eq_true rfl) dX7_misses_5 (fun r5 u5 H locs hp5 hW => ?_)
  obtain ⟨hp5, rfl⟩ := hp5
  have hW : xW G s s.heap H locs M P (sc, wy, wm, pk) (mh, uh, pl, mo, un, oc, ct) := hW
  rcases hp5 with ⟨rfl, y5⟩ | ⟨rfl, y5⟩
  · skip
    refine lv_if_eq (tgt := 22) F.1 F.2.1 dX7_misses_8 (by decide) (fun q => absurd q (by decide)) (fun _ => ?_)
    refine lv_aload_n F.1 F.2.1 dX7_misses_11 rfl (lv_at hl 0 rfl) ?_
    refine xg_DoFinder_search F hW tm_182 dX7_misses_12 ?_
    refine lv_iload_n F.1 F.2.1 dX7_misses_15 rfl (lv_at hl 1 rfl) ?_
    refine xca_i (b := (xga G 3)) (As := [.int (nI w)]) (rest := []) F (c_X5_countMisses l G M P (sc, wy, wm, pk) (mh, uh, pl, mo, un, oc, ct) n aa ac ra o zf zs zd hV w (by omega) y5) (xcw F.2.2.2.2 ca_X5_countMisses tm_430 rfl rfl ⟨by decide, by decide⟩) (xr_X5 hW) hW rfl hl.1 rfl (Nat.le_of_ble_eq_true rfl) dX7_misses_16 (fun r16 u16 H locs hp16 hW => ?_)
    obtain ⟨rfl, P16, rfl⟩ := hp16
    have hW : xW G s s.heap H locs M P16 (sc, wy, wm, pk) (mh, uh, pl, mo, un, oc, ct) := hW
    have zb16 : (zmi o zf zs zd ac w) ≤ ac := zcnt_le _ _
    refine lv_goto (tgt := 23) F.1 F.2.1 dX7_misses_19 (by decide) ?_
    refine xre_i F hr hlk hW dX7_misses_23 ?_
    first | exact ⟨Or.inl ⟨y5, rfl⟩, _, _, _, rfl⟩ | exact ⟨Or.inr ⟨y5, rfl⟩, _, _, _, rfl⟩
  · skip
    refine lv_if_eq (tgt := 22) F.1 F.2.1 dX7_misses_8 (by decide) (fun _ => ?_) (fun q => absurd q (by decide))
    refine lv_iconst (v := (-1)) F.1 F.2.1 dX7_misses_22 (by decide) ?_
    refine xre_i F hr hlk hW dX7_misses_23 ?_
    first | exact ⟨Or.inl ⟨y5, rfl⟩, _, _, _, rfl⟩ | exact ⟨Or.inr ⟨y5, rfl⟩, _, _, _, rfl⟩
set_option maxHeartbeats 4000000 in
set_option maxRecDepth 100000 in
theorem c_X7_misses_neg (l : Launch) (G : XG) (M : XM) (P : XP) (sc : Nat) (wy wm pk : Nat → Nat) (mh uh pl mo un : Nat) (oc : Nat → Int64) (ct : Nat → Nat) (n aa ac : Nat) (ra : Nat → Nat) (o : Nat → Int32 → Int32 → Int64) (zf zs : Nat → Int32) (zd : Nat → Int64) (hV : xV M n aa ac ra o zf zs zd) (x : Int32) (hx : x.toInt < 0) : Met l yX7_misses (wC yX7_misses cX7_misses 2 (some .int)) (rmD 5) (xPc G [.ref (xga G 0), .int x] M P (sc, wy, wm, pk) (mh, uh, pl, mo, un, oc, ct)) (va_Qi (fun v u => v = (-1) ∧ ∃ (P2 : XP) (S2 : XS) (V2 : XV), u = (M, P2, S2, V2)) (xB G) (xA G)) 0 0 (xA G) := by
  refine xst "DoFinder" (by decide) rfl (Nat.le_of_ble_eq_true rfl) ?_
  intro p e s m args below meth c ls F hr hlk hW hl
  have hl : lv_has ls 2 [(0, .ref (xga G 0)), (1, .int x)] := hl
  have hW : xW G s s.heap s.heap [] M P (sc, wy, wm, pk) (mh, uh, pl, mo, un, oc, ct) := hW
  have b_x := i32b x
  refine lv_aload_n F.1 F.2.1 dX7_misses_0 rfl (lv_at hl 0 rfl) ?_
  refine xg_DoFinder_search F hW tm_182 dX7_misses_1 ?_
  refine lv_iload_n F.1 F.2.1 dX7_misses_4 rfl (lv_at hl 1 rfl) ?_
  refine xca_i (b := (xga G 3)) (As := [.int x]) (rest := []) F (c_X5_isWayOrJoint_neg l G M P (sc, wy, wm, pk) (mh, uh, pl, mo, un, oc, ct) n aa ac ra o zf zs zd hV x hx) (xcw F.2.2.2.2 ca_X5_isWayOrJoint tm_343 rfl rfl ⟨by decide, by decide⟩) (xr_X5 hW) hW rfl hl.1 rfl (Nat.le_of_ble_eq_true rfl) dX7_misses_5 (fun r5 u5 H locs hp5 hW => ?_)
  obtain ⟨rfl, rfl⟩ := hp5
  have hW : xW G s s.heap H locs M P (sc, wy, wm, pk) (mh, uh, pl, mo, un, oc, ct) := hW
  refine lv_if_eq (tgt := 22) F.1 F.2.1 dX7_misses_8 (by decide) (fun _ => ?_) (fun q => absurd q (by decide))
  refine lv_iconst (v := (-1)) F.1 F.2.1 dX7_misses_22 (by decide) ?_
  refine xre_i F hr hlk hW dX7_misses_23 ?_
  exact ⟨rfl, _, _, _, rfl⟩
theorem dX7_parting_0 : decode cX7_parting 0 = .ok (.aload_n 0, 1) := by decide +kernel
theorem dX7_parting_1 : decode cX7_parting 1 = .ok (.getfield 35, 3) := by decide +kernel
theorem dX7_parting_4 : decode cX7_parting 4 = .ok (.iconst 0, 1) := by decide +kernel
theorem dX7_parting_5 : decode cX7_parting 5 = .ok (.invokevirtual 129, 3) := by decide +kernel
theorem dX7_parting_8 : decode cX7_parting 8 = .ok (.istore_n 2, 1) := by decide +kernel
theorem dX7_parting_9 : decode cX7_parting 9 = .ok (.iload_n 1, 1) := by decide +kernel
theorem dX7_parting_10 : decode cX7_parting 10 = .ok (.ifCond .lt 12, 3) := by decide +kernel
theorem dX7_parting_13 : decode cX7_parting 13 = .ok (.iload_n 1, 1) := by decide +kernel
theorem dX7_parting_14 : decode cX7_parting 14 = .ok (.iconst 3, 1) := by decide +kernel
theorem dX7_parting_15 : decode cX7_parting 15 = .ok (.if_icmp .gt 7, 3) := by decide +kernel
theorem dX7_parting_18 : decode cX7_parting 18 = .ok (.iload_n 2, 1) := by decide +kernel
theorem dX7_parting_19 : decode cX7_parting 19 = .ok (.ifCond .ne 7, 3) := by decide +kernel
theorem dX7_parting_22 : decode cX7_parting 22 = .ok (.sipush (-1000), 3) := by decide +kernel
theorem dX7_parting_25 : decode cX7_parting 25 = .ok (.ireturn, 1) := by decide +kernel
theorem dX7_parting_26 : decode cX7_parting 26 = .ok (.aload_n 0, 1) := by decide +kernel
theorem dX7_parting_27 : decode cX7_parting 27 = .ok (.getfield 44, 3) := by decide +kernel
theorem dX7_parting_30 : decode cX7_parting 30 = .ok (.iload_n 2, 1) := by decide +kernel
theorem dX7_parting_31 : decode cX7_parting 31 = .ok (.aload_n 0, 1) := by decide +kernel
theorem dX7_parting_32 : decode cX7_parting 32 = .ok (.getfield 26, 3) := by decide +kernel
theorem dX7_parting_35 : decode cX7_parting 35 = .ok (.getfield 147, 3) := by decide +kernel
theorem dX7_parting_38 : decode cX7_parting 38 = .ok (.invokevirtual 148, 3) := by decide +kernel
theorem dX7_parting_41 : decode cX7_parting 41 = .ok (.iload_n 1, 1) := by decide +kernel
theorem dX7_parting_42 : decode cX7_parting 42 = .ok (.tableswitch 70 0 2 #[26, 44, 62], 26) := by decide +kernel
theorem dX7_parting_68 : decode cX7_parting 68 = .ok (.aload_n 0, 1) := by decide +kernel
theorem dX7_parting_69 : decode cX7_parting 69 = .ok (.getfield 26, 3) := by decide +kernel
theorem dX7_parting_72 : decode cX7_parting 72 = .ok (.getfield 147, 3) := by decide +kernel
theorem dX7_parting_75 : decode cX7_parting 75 = .ok (.aload_n 0, 1) := by decide +kernel
theorem dX7_parting_76 : decode cX7_parting 76 = .ok (.getfield 44, 3) := by decide +kernel
theorem dX7_parting_79 : decode cX7_parting 79 = .ok (.getfield 152, 3) := by decide +kernel
theorem dX7_parting_82 : decode cX7_parting 82 = .ok (.invokestatic 112, 3) := by decide +kernel
theorem dX7_parting_85 : decode cX7_parting 85 = .ok (.ireturn, 1) := by decide +kernel
theorem dX7_parting_86 : decode cX7_parting 86 = .ok (.aload_n 0, 1) := by decide +kernel
theorem dX7_parting_87 : decode cX7_parting 87 = .ok (.getfield 26, 3) := by decide +kernel
theorem dX7_parting_90 : decode cX7_parting 90 = .ok (.getfield 147, 3) := by decide +kernel
theorem dX7_parting_93 : decode cX7_parting 93 = .ok (.aload_n 0, 1) := by decide +kernel
theorem dX7_parting_94 : decode cX7_parting 94 = .ok (.getfield 44, 3) := by decide +kernel
theorem dX7_parting_97 : decode cX7_parting 97 = .ok (.getfield 152, 3) := by decide +kernel
theorem dX7_parting_100 : decode cX7_parting 100 = .ok (.invokestatic 118, 3) := by decide +kernel
theorem dX7_parting_103 : decode cX7_parting 103 = .ok (.ireturn, 1) := by decide +kernel
theorem dX7_parting_104 : decode cX7_parting 104 = .ok (.aload_n 0, 1) := by decide +kernel
theorem dX7_parting_105 : decode cX7_parting 105 = .ok (.getfield 44, 3) := by decide +kernel
theorem dX7_parting_108 : decode cX7_parting 108 = .ok (.getfield 155, 3) := by decide +kernel
theorem dX7_parting_111 : decode cX7_parting 111 = .ok (.ireturn, 1) := by decide +kernel
theorem dX7_parting_112 : decode cX7_parting 112 = .ok (.aload_n 0, 1) := by decide +kernel
theorem dX7_parting_113 : decode cX7_parting 113 = .ok (.getfield 44, 3) := by decide +kernel
theorem dX7_parting_116 : decode cX7_parting 116 = .ok (.getfield 158, 3) := by decide +kernel
theorem dX7_parting_119 : decode cX7_parting 119 = .ok (.ireturn, 1) := by decide +kernel
set_option maxHeartbeats 4000000 in
set_option maxRecDepth 100000 in
theorem c_X7_parting (l : Launch) (G : XG) (M : XM) (P : XP) (sc : Nat) (wy wm pk : Nat → Nat) (mh uh pl mo un : Nat) (oc : Nat → Int64) (ct : Nat → Nat) (n aa ac : Nat) (ra : Nat → Nat) (o : Nat → Int32 → Int32 → Int64) (zf zs : Nat → Int32) (zd : Nat → Int64) (hV : xV M n aa ac ra o zf zs zd) (x : Int32) : Met l yX7_parting (wC yX7_parting cX7_parting 3 (some .int)) (rmD 6) (xPc G [.ref (xga G 0), .int x] M P (sc, wy, wm, pk) (mh, uh, pl, mo, un, oc, ct)) (va_Qi (fun v u => v = zpart0 ((zwl n aa ra 1200).filter (fun w => decide (zst o zf zs zd ac w = 0))) o aa x ∧ ∃ (P2 : XP) (S2 : XS) (V2 : XV), u = (M, P2, S2, V2)) (xB G) (xA G)) 0 0 (xA G) := by
  refine xst "DoFinder" (by decide) rfl (Nat.le_of_ble_eq_true rfl) ?_
  intro p e s m args below meth c ls F hr hlk hW hl
  have hl : lv_has ls 3 [(0, .ref (xga G 0)), (1, .int x)] := hl
  have hW : xW G s s.heap s.heap [] M P (sc, wy, wm, pk) (mh, uh, pl, mo, un, oc, ct) := hW
  have b_x := i32b x
  obtain ⟨en, ea, ec, era, eo, ef, es, ed, bn, ba, bc, bf, brc, bra, bd⟩ := id hV
  refine lv_aload_n F.1 F.2.1 dX7_parting_0 rfl (lv_at hl 0 rfl) ?_
  refine xg_DoFinder_search F hW tm_182 dX7_parting_1 ?_
  refine lv_iconst (v := nI 0) F.1 F.2.1 dX7_parting_4 (by decide) ?_
  refine xca_i (b := (xga G 3)) (As := [.int (nI 0)]) (rest := []) F (c_X5_pickWays l G M P sc wy wm pk (mh, uh, pl, mo, un, oc, ct) n aa ac ra o zf zs zd hV 0 (by omega)) (xcw F.2.2.2.2 ca_X5_pickWays tm_372 rfl rfl ⟨by decide, by decide⟩) (xr_X5 hW) hW rfl hl.1 rfl (Nat.le_of_ble_eq_true rfl) dX7_parting_5 (fun r5 u5 H locs hp5 hW => ?_)
  obtain ⟨rfl, P5, wy5, pk5, rfl, hz5⟩ := hp5
  have hW : xW G s s.heap H locs M P5 (((zwl n aa ra 1200).filter (fun w => decide (zst o zf zs zd ac w = 0))).length, wy5, wm, pk5) (mh, uh, pl, mo, un, oc, ct) := hW
  have lb5 : ((zwl n aa ra 1200).filter (fun w => decide (zst o zf zs zd ac w = 0))).length ≤ 240 := Nat.le_trans (List.length_filter_le _ _) (zwl_all_len bn)
  refine lv_istore_n (lv' := [(2, .int (nI (((zwl n aa ra 1200).filter (fun w => decide (zst o zf zs zd ac w = 0))).length))), (0, .ref (xga G 0)), (1, .int x)]) F.1 F.2.1 dX7_parting_8 rfl hl (by decide) rfl (fun ls hl => ?_)
  refine lv_iload_n F.1 F.2.1 dX7_parting_9 rfl (lv_at hl 2 rfl) ?_
  refine lv_if_lt (tgt := 22) F.1 F.2.1 dX7_parting_10 (by decide) (fun c10 => ?_) (fun c10 => ?_)
  · have c10 := ci_lt (a := x.toInt) (b := 0) rfl ci_0 c10
    refine lv_sipush (v := (-1000)) F.1 F.2.1 dX7_parting_22 (by decide) ?_
    refine xre_i F hr hlk hW dX7_parting_25 ?_
    exact ⟨by unfold zpart0; rw [if_neg (by omega)], _, _, _, rfl⟩
  · have c10 := ci_nlt (a := x.toInt) (b := 0) rfl ci_0 c10
    refine lv_iload_n F.1 F.2.1 dX7_parting_13 rfl (lv_at hl 2 rfl) ?_
    refine lv_iconst (v := nI 3) F.1 F.2.1 dX7_parting_14 (by decide) ?_
    refine lv_icmp_gt (tgt := 22) F.1 F.2.1 dX7_parting_15 (by decide) (fun c15 => ?_) (fun c15 => ?_)
    · have c15 := ci_lt (a := 3) (b := x.toInt) (by decide) rfl c15
      refine lv_sipush (v := (-1000)) F.1 F.2.1 dX7_parting_22 (by decide) ?_
      refine xre_i F hr hlk hW dX7_parting_25 ?_
      exact ⟨by unfold zpart0; rw [if_neg (by omega)], _, _, _, rfl⟩
    · have c15 := ci_nlt (a := 3) (b := x.toInt) (by decide) rfl c15
      refine lv_iload_n F.1 F.2.1 dX7_parting_18 rfl (lv_at hl 0 rfl) ?_
      refine lv_if_ne (tgt := 26) F.1 F.2.1 dX7_parting_19 (by decide) (fun c19 => ?_) (fun c19 => ?_)
      · have c19 := ci_ne (a := ((((zwl n aa ra 1200).filter (fun w => decide (zst o zf zs zd ac w = 0))).length : Nat) : Int)) (b := 0) (nI_toInt (by omega)) ci_0 c19
        refine lv_aload_n F.1 F.2.1 dX7_parting_26 rfl (lv_at hl 1 rfl) ?_
        refine xg_DoFinder_parter F hW tm_183 dX7_parting_27 ?_
        refine lv_iload_n F.1 F.2.1 dX7_parting_30 rfl (lv_at hl 0 rfl) ?_
        refine lv_aload_n F.1 F.2.1 dX7_parting_31 rfl (lv_at hl 1 rfl) ?_
        refine xg_DoFinder_asked F hW tm_181 dX7_parting_32 ?_
        refine xg_Ask_arguments F hW tm_107 dX7_parting_35 ?_
        refine ax_re (show nI M.2.2.2.2.2.2.1 = nI aa from congrArg nI ea) ?_
        refine xca_v (b := (xga G 4)) (As := [.int (nI (((zwl n aa ra 1200).filter (fun w => decide (zst o zf zs zd ac w = 0))).length)), .int (nI aa)]) (rest := []) F (c_X2_seek l G M P5 (((zwl n aa ra 1200).filter (fun w => decide (zst o zf zs zd ac w = 0))).length) wy5 wm pk5 mh uh pl mo un oc ct n aa ac ra o zf zs zd hV (((zwl n aa ra 1200).filter (fun w => decide (zst o zf zs zd ac w = 0))).length) (by omega) (zfl_get hz5) aa (by omega)) (xcw F.2.2.2.2 ca_X2_seek tm_435 rfl rfl ⟨by decide, by decide⟩) (xr_X2 hW) hW rfl hl.1 rfl (Nat.le_of_ble_eq_true rfl) dX7_parting_38 (fun u38 H locs hp38 hW => ?_)
        obtain ⟨P38, mh38, uh38, oc38, ct38, rfl⟩ := hp38
        have hW : xW G s s.heap H locs M P38 (((zwl n aa ra 1200).filter (fun w => decide (zst o zf zs zd ac w = 0))).length, wy5, wm, pk5) (mh38, uh38, (zbs (zgp o pk5 (((zwl n aa ra 1200).filter (fun w => decide (zst o zf zs zd ac w = 0))).length) aa) (wN aa)).1, (zbs (zgp o pk5 (((zwl n aa ra 1200).filter (fun w => decide (zst o zf zs zd ac w = 0))).length) aa) (wN aa)).2.1, (zbs (zgp o pk5 (((zwl n aa ra 1200).filter (fun w => decide (zst o zf zs zd ac w = 0))).length) aa) (wN aa)).2.2, oc38, ct38) := hW
        rw [zbg_congr hz5] at hW
        have hW : xW G s s.heap H locs M P38 (((zwl n aa ra 1200).filter (fun w => decide (zst o zf zs zd ac w = 0))).length, wy5, wm, pk5) (mh38, uh38, (zbs (zgp o (fun i => ((zwl n aa ra 1200).filter (fun w => decide (zst o zf zs zd ac w = 0))).getD i 0) ((zwl n aa ra 1200).filter (fun w => decide (zst o zf zs zd ac w = 0))).length aa) (wN aa)).1, (zbs (zgp o (fun i => ((zwl n aa ra 1200).filter (fun w => decide (zst o zf zs zd ac w = 0))).getD i 0) ((zwl n aa ra 1200).filter (fun w => decide (zst o zf zs zd ac w = 0))).length aa) (wN aa)).2.1, (zbs (zgp o (fun i => ((zwl n aa ra 1200).filter (fun w => decide (zst o zf zs zd ac w = 0))).getD i 0) ((zwl n aa ra 1200).filter (fun w => decide (zst o zf zs zd ac w = 0))).length aa) (wN aa)).2.2, oc38, ct38) := hW
        have zl1 : (zbs (zgp o (fun i => ((zwl n aa ra 1200).filter (fun w => decide (zst o zf zs zd ac w = 0))).getD i 0) ((zwl n aa ra 1200).filter (fun w => decide (zst o zf zs zd ac w = 0))).length aa) (wN aa)).1 ≤ wN aa := zbs_le _
        have zl2 := wN_le aa
        refine lv_iload_n F.1 F.2.1 dX7_parting_41 rfl (lv_at hl 2 rfl) ?_
        by_cases q42 : x.toInt < 0 ∨ 2 < x.toInt
        · refine lv_tableOut (tgt := 112) F.1 F.2.1 dX7_parting_42 (by have := True.intro; omega) (by decide) ?_
          refine lv_aload_n F.1 F.2.1 dX7_parting_112 rfl (lv_at hl 1 rfl) ?_
          refine xg_DoFinder_parter F hW tm_183 dX7_parting_113 ?_
          refine xg_Parting_unlike F hW tm_161 dX7_parting_116 ?_
          refine xre_i F hr hlk hW dX7_parting_119 ?_
          exact ⟨by unfold zpart0; rw [if_pos (by omega)]; unfold zp4; repeat first | rw [if_pos (by omega)] | rw [if_neg (by omega)], _, _, _, rfl⟩
        by_cases q42_0 : x.toInt = 0
        · skip
          refine lv_tableIn (tgt := 68) (off := 26) F.1 F.2.1 dX7_parting_42 (by have := True.intro; omega) (by have := True.intro; omega) (by rw [show ((x).toInt - 0).toNat = 0 from by have := True.intro; omega]; rfl) (by decide) ?_
          refine lv_aload_n F.1 F.2.1 dX7_parting_68 rfl (lv_at hl 1 rfl) ?_
          refine xg_DoFinder_asked F hW tm_181 dX7_parting_69 ?_
          refine xg_Ask_arguments F hW tm_107 dX7_parting_72 ?_
          refine ax_re (show nI M.2.2.2.2.2.2.1 = nI aa from congrArg nI ea) ?_
          refine lv_aload_n F.1 F.2.1 dX7_parting_75 rfl (lv_at hl 1 rfl) ?_
          refine xg_DoFinder_parter F hW tm_183 dX7_parting_76 ?_
          refine xg_Parting_place F hW tm_157 dX7_parting_79 ?_
          refine pca (As := [.int (nI aa), .int (nI ((zbs (zgp o (fun i => ((zwl n aa ra 1200).filter (fun w => decide (zst o zf zs zd ac w = 0))).getD i 0) ((zwl n aa ra 1200).filter (fun w => decide (zst o zf zs zd ac w = 0))).length aa) (wN aa)).1))]) (rest := []) F (c_X6_firstAt l aa ((zbs (zgp o (fun i => ((zwl n aa ra 1200).filter (fun w => decide (zst o zf zs zd ac w = 0))).getD i 0) ((zwl n aa ra 1200).filter (fun w => decide (zst o zf zs zd ac w = 0))).length aa) (wN aa)).1) (by omega) (by omega)) (xcwS F.2.2.2.2 ca_X6_firstAt tm_332 rfl rfl ⟨by decide, by decide⟩) rfl hl.1 rfl (Nat.le_of_ble_eq_true rfl) dX7_parting_82 (fun r82 hr82 => ?_)
          subst hr82
          refine xre_i F hr hlk hW dX7_parting_85 ?_
          exact ⟨by unfold zpart0; rw [if_pos (by omega)]; unfold zp4; repeat first | rw [if_pos (by omega)] | rw [if_neg (by omega)], _, _, _, rfl⟩
        by_cases q42_1 : x.toInt = 1
        · skip
          refine lv_tableIn (tgt := 86) (off := 44) F.1 F.2.1 dX7_parting_42 (by have := True.intro; omega) (by have := True.intro; omega) (by rw [show ((x).toInt - 0).toNat = 1 from by have := True.intro; omega]; rfl) (by decide) ?_
          refine lv_aload_n F.1 F.2.1 dX7_parting_86 rfl (lv_at hl 1 rfl) ?_
          refine xg_DoFinder_asked F hW tm_181 dX7_parting_87 ?_
          refine xg_Ask_arguments F hW tm_107 dX7_parting_90 ?_
          refine ax_re (show nI M.2.2.2.2.2.2.1 = nI aa from congrArg nI ea) ?_
          refine lv_aload_n F.1 F.2.1 dX7_parting_93 rfl (lv_at hl 1 rfl) ?_
          refine xg_DoFinder_parter F hW tm_183 dX7_parting_94 ?_
          refine xg_Parting_place F hW tm_157 dX7_parting_97 ?_
          refine pca (As := [.int (nI aa), .int (nI ((zbs (zgp o (fun i => ((zwl n aa ra 1200).filter (fun w => decide (zst o zf zs zd ac w = 0))).getD i 0) ((zwl n aa ra 1200).filter (fun w => decide (zst o zf zs zd ac w = 0))).length aa) (wN aa)).1))]) (rest := []) F (c_X6_secondAt l aa ((zbs (zgp o (fun i => ((zwl n aa ra 1200).filter (fun w => decide (zst o zf zs zd ac w = 0))).getD i 0) ((zwl n aa ra 1200).filter (fun w => decide (zst o zf zs zd ac w = 0))).length aa) (wN aa)).1) (by omega) (by omega)) (xcwS F.2.2.2.2 ca_X6_secondAt tm_335 rfl rfl ⟨by decide, by decide⟩) rfl hl.1 rfl (Nat.le_of_ble_eq_true rfl) dX7_parting_100 (fun r100 hr100 => ?_)
          subst hr100
          refine xre_i F hr hlk hW dX7_parting_103 ?_
          exact ⟨by unfold zpart0; rw [if_pos (by omega)]; unfold zp4; repeat first | rw [if_pos (by omega)] | rw [if_neg (by omega)], _, _, _, rfl⟩
        have q42_2 : x.toInt = 2 := by omega
        refine lv_tableIn (tgt := 104) (off := 62) F.1 F.2.1 dX7_parting_42 (by have := True.intro; omega) (by have := True.intro; omega) (by rw [show ((x).toInt - 0).toNat = 2 from by have := True.intro; omega]; rfl) (by decide) ?_
        refine lv_aload_n F.1 F.2.1 dX7_parting_104 rfl (lv_at hl 1 rfl) ?_
        refine xg_DoFinder_parter F hW tm_183 dX7_parting_105 ?_
        refine xg_Parting_most F hW tm_159 dX7_parting_108 ?_
        refine xre_i F hr hlk hW dX7_parting_111 ?_
        exact ⟨by unfold zpart0; rw [if_pos (by omega)]; unfold zp4; repeat first | rw [if_pos (by omega)] | rw [if_neg (by omega)], _, _, _, rfl⟩
      · have c19 := ci_eq (a := ((((zwl n aa ra 1200).filter (fun w => decide (zst o zf zs zd ac w = 0))).length : Nat) : Int)) (b := 0) (nI_toInt (by omega)) ci_0 c19
        refine lv_sipush (v := (-1000)) F.1 F.2.1 dX7_parting_22 (by decide) ?_
        refine xre_i F hr hlk hW dX7_parting_25 ?_
        exact ⟨by unfold zpart0; rw [if_neg (by omega)], _, _, _, rfl⟩
theorem dX7_many_0 : decode cX7_many 0 = .ok (.iload_n 1, 1) := by decide +kernel
theorem dX7_many_1 : decode cX7_many 1 = .ok (.tableswitch 146 0 9 #[55, 63, 71, 79, 88, 97, 114, 122, 130, 138], 55) := by decide +kernel
theorem dX7_many_56 : decode cX7_many 56 = .ok (.aload_n 0, 1) := by decide +kernel
theorem dX7_many_57 : decode cX7_many 57 = .ok (.getfield 19, 3) := by decide +kernel
theorem dX7_many_60 : decode cX7_many 60 = .ok (.getfield 161, 3) := by decide +kernel
theorem dX7_many_63 : decode cX7_many 63 = .ok (.ireturn, 1) := by decide +kernel
theorem dX7_many_64 : decode cX7_many 64 = .ok (.aload_n 0, 1) := by decide +kernel
theorem dX7_many_65 : decode cX7_many 65 = .ok (.getfield 26, 3) := by decide +kernel
theorem dX7_many_68 : decode cX7_many 68 = .ok (.getfield 100, 3) := by decide +kernel
theorem dX7_many_71 : decode cX7_many 71 = .ok (.ireturn, 1) := by decide +kernel
theorem dX7_many_72 : decode cX7_many 72 = .ok (.aload_n 0, 1) := by decide +kernel
theorem dX7_many_73 : decode cX7_many 73 = .ok (.getfield 35, 3) := by decide +kernel
theorem dX7_many_76 : decode cX7_many 76 = .ok (.invokevirtual 162, 3) := by decide +kernel
theorem dX7_many_79 : decode cX7_many 79 = .ok (.ireturn, 1) := by decide +kernel
theorem dX7_many_80 : decode cX7_many 80 = .ok (.aload_n 0, 1) := by decide +kernel
theorem dX7_many_81 : decode cX7_many 81 = .ok (.getfield 35, 3) := by decide +kernel
theorem dX7_many_84 : decode cX7_many 84 = .ok (.iconst 0, 1) := by decide +kernel
theorem dX7_many_85 : decode cX7_many 85 = .ok (.invokevirtual 129, 3) := by decide +kernel
theorem dX7_many_88 : decode cX7_many 88 = .ok (.ireturn, 1) := by decide +kernel
theorem dX7_many_89 : decode cX7_many 89 = .ok (.aload_n 0, 1) := by decide +kernel
theorem dX7_many_90 : decode cX7_many 90 = .ok (.getfield 35, 3) := by decide +kernel
theorem dX7_many_93 : decode cX7_many 93 = .ok (.iconst 1, 1) := by decide +kernel
theorem dX7_many_94 : decode cX7_many 94 = .ok (.invokevirtual 129, 3) := by decide +kernel
theorem dX7_many_97 : decode cX7_many 97 = .ok (.ireturn, 1) := by decide +kernel
theorem dX7_many_98 : decode cX7_many 98 = .ok (.aload_n 0, 1) := by decide +kernel
theorem dX7_many_99 : decode cX7_many 99 = .ok (.getfield 35, 3) := by decide +kernel
theorem dX7_many_102 : decode cX7_many 102 = .ok (.invokevirtual 162, 3) := by decide +kernel
theorem dX7_many_105 : decode cX7_many 105 = .ok (.aload_n 0, 1) := by decide +kernel
theorem dX7_many_106 : decode cX7_many 106 = .ok (.getfield 19, 3) := by decide +kernel
theorem dX7_many_109 : decode cX7_many 109 = .ok (.iconst 1, 1) := by decide +kernel
theorem dX7_many_110 : decode cX7_many 110 = .ok (.invokevirtual 165, 3) := by decide +kernel
theorem dX7_many_113 : decode cX7_many 113 = .ok (.imul, 1) := by decide +kernel
theorem dX7_many_114 : decode cX7_many 114 = .ok (.ireturn, 1) := by decide +kernel
theorem dX7_many_115 : decode cX7_many 115 = .ok (.aload_n 0, 1) := by decide +kernel
theorem dX7_many_116 : decode cX7_many 116 = .ok (.getfield 35, 3) := by decide +kernel
theorem dX7_many_119 : decode cX7_many 119 = .ok (.invokevirtual 136, 3) := by decide +kernel
theorem dX7_many_122 : decode cX7_many 122 = .ok (.ireturn, 1) := by decide +kernel
theorem dX7_many_123 : decode cX7_many 123 = .ok (.aload_n 0, 1) := by decide +kernel
theorem dX7_many_124 : decode cX7_many 124 = .ok (.getfield 19, 3) := by decide +kernel
theorem dX7_many_127 : decode cX7_many 127 = .ok (.invokevirtual 168, 3) := by decide +kernel
theorem dX7_many_130 : decode cX7_many 130 = .ok (.ireturn, 1) := by decide +kernel
theorem dX7_many_131 : decode cX7_many 131 = .ok (.aload_n 0, 1) := by decide +kernel
theorem dX7_many_132 : decode cX7_many 132 = .ok (.getfield 10, 3) := by decide +kernel
theorem dX7_many_135 : decode cX7_many 135 = .ok (.getfield 55, 3) := by decide +kernel
theorem dX7_many_138 : decode cX7_many 138 = .ok (.ireturn, 1) := by decide +kernel
theorem dX7_many_139 : decode cX7_many 139 = .ok (.aload_n 0, 1) := by decide +kernel
theorem dX7_many_140 : decode cX7_many 140 = .ok (.getfield 26, 3) := by decide +kernel
theorem dX7_many_143 : decode cX7_many 143 = .ok (.getfield 147, 3) := by decide +kernel
theorem dX7_many_146 : decode cX7_many 146 = .ok (.ireturn, 1) := by decide +kernel
theorem dX7_many_147 : decode cX7_many 147 = .ok (.iconst (-1), 1) := by decide +kernel
theorem dX7_many_148 : decode cX7_many 148 = .ok (.ireturn, 1) := by decide +kernel
set_option maxHeartbeats 4000000 in
set_option maxRecDepth 100000 in
theorem c_X7_many (l : Launch) (G : XG) (M : XM) (P : XP) (sc : Nat) (wy wm pk : Nat → Nat) (mh uh pl mo un : Nat) (oc : Nat → Int64) (ct : Nat → Nat) (n aa ac : Nat) (ra : Nat → Nat) (o : Nat → Int32 → Int32 → Int64) (zf zs : Nat → Int32) (zd : Nat → Int64) (hV : xV M n aa ac ra o zf zs zd) (h12 : M.2.2.1 12 ≤ 12) (x : Int32) : Met l yX7_many (wC yX7_many cX7_many 2 (some .int)) (rmD 6) (xPc G [.ref (xga G 0), .int x] M P (sc, wy, wm, pk) (mh, uh, pl, mo, un, oc, ct)) (va_Qi (fun v u => v = zmany (zwl n aa ra 1200) ((zwl n aa ra 1200).filter (fun w => decide (zst o zf zs zd ac w = 0))) ((zwl n aa ra 1200).filter (fun w => decide (zst o zf zs zd ac w = 1))) (zjl (zwl n aa ra 1200) ra (fun w => decide (zst o zf zs zd ac w = 0)) n) n ac (zcnt (fun r => decide (ra r = 1)) n) (zsum (fun s2 => zcnt (fun r => zdbl ra o r s2) s2) n) (M.2.2.1 12) aa x.toInt ∧ ∃ (P2 : XP) (S2 : XS) (V2 : XV), u = (M, P2, S2, V2)) (xB G) (xA G)) 0 0 (xA G) := by
  refine xst "DoFinder" (by decide) rfl (Nat.le_of_ble_eq_true rfl) ?_
  intro p e s m args below meth c ls F hr hlk hW hl
  have hl : lv_has ls 2 [(0, .ref (xga G 0)), (1, .int x)] := hl
  have hW : xW G s s.heap s.heap [] M P (sc, wy, wm, pk) (mh, uh, pl, mo, un, oc, ct) := hW
  have b_x := i32b x
  obtain ⟨en, ea, ec, era, eo, ef, es, ed, bn, ba, bc, bf, brc, bra, bd⟩ := id hV
  refine lv_iload_n F.1 F.2.1 dX7_many_0 rfl (lv_at hl 1 rfl) ?_
  by_cases q1 : x.toInt < 0 ∨ 9 < x.toInt
  · refine lv_tableOut (tgt := 147) F.1 F.2.1 dX7_many_1 (by have := True.intro; omega) (by decide) ?_
    refine lv_iconst (v := (-1)) F.1 F.2.1 dX7_many_147 (by decide) ?_
    refine xre_i F hr hlk hW dX7_many_148 ?_
    exact ⟨by unfold zmany; repeat first | rw [if_pos (by omega)] | rw [if_neg (by omega)], _, _, _, rfl⟩
  by_cases q1_0 : x.toInt = 0
  · skip
    refine lv_tableIn (tgt := 56) (off := 55) F.1 F.2.1 dX7_many_1 (by have := True.intro; omega) (by have := True.intro; omega) (by rw [show ((x).toInt - 0).toNat = 0 from by have := True.intro; omega]; rfl) (by decide) ?_
    refine lv_aload_n F.1 F.2.1 dX7_many_56 rfl (lv_at hl 0 rfl) ?_
    refine xg_DoFinder_library F hW tm_180 dX7_many_57 ?_
    refine xg_Library_count F hW tm_74 dX7_many_60 ?_
    refine ax_re (show nI M.1 = nI n from congrArg nI en) ?_
    refine xre_i F hr hlk hW dX7_many_63 ?_
    exact ⟨by unfold zmany; repeat first | rw [if_pos (by omega)] | rw [if_neg (by omega)], _, _, _, rfl⟩
  by_cases q1_1 : x.toInt = 1
  · skip
    refine lv_tableIn (tgt := 64) (off := 63) F.1 F.2.1 dX7_many_1 (by have := True.intro; omega) (by have := True.intro; omega) (by rw [show ((x).toInt - 0).toNat = 1 from by have := True.intro; omega]; rfl) (by decide) ?_
    refine lv_aload_n F.1 F.2.1 dX7_many_64 rfl (lv_at hl 0 rfl) ?_
    refine xg_DoFinder_asked F hW tm_181 dX7_many_65 ?_
    refine xg_Ask_count F hW tm_104 dX7_many_68 ?_
    refine ax_re (show nI M.2.2.2.2.2.1 = nI ac from congrArg nI ec) ?_
    refine xre_i F hr hlk hW dX7_many_71 ?_
    exact ⟨by unfold zmany; repeat first | rw [if_pos (by omega)] | rw [if_neg (by omega)], _, _, _, rfl⟩
  by_cases q1_2 : x.toInt = 2
  · skip
    refine lv_tableIn (tgt := 72) (off := 71) F.1 F.2.1 dX7_many_1 (by have := True.intro; omega) (by have := True.intro; omega) (by rw [show ((x).toInt - 0).toNat = 2 from by have := True.intro; omega]; rfl) (by decide) ?_
    refine lv_aload_n F.1 F.2.1 dX7_many_72 rfl (lv_at hl 0 rfl) ?_
    refine xg_DoFinder_search F hW tm_182 dX7_many_73 ?_
    refine xca_i (b := (xga G 3)) (As := []) (rest := []) F (c_X5_listWays l G M P sc wy wm pk (mh, uh, pl, mo, un, oc, ct) n aa ac ra o zf zs zd hV) (xcw F.2.2.2.2 ca_X5_listWays tm_458 rfl rfl ⟨by decide, by decide⟩) (xr_X5 hW) hW rfl hl.1 rfl (Nat.le_of_ble_eq_true rfl) dX7_many_76 (fun r76 u76 H locs hp76 hW => ?_)
    obtain ⟨rfl, wy76, rfl, hl76⟩ := hp76
    have hW : xW G s s.heap H locs M P (sc, wy76, wm, pk) (mh, uh, pl, mo, un, oc, ct) := hW
    have lb := zwl_all_len (n := n) (aa := aa) (ra := ra) bn
    refine xre_i F hr hlk hW dX7_many_79 ?_
    exact ⟨by unfold zmany; repeat first | rw [if_pos (by omega)] | rw [if_neg (by omega)], _, _, _, rfl⟩
  by_cases q1_3 : x.toInt = 3
  · skip
    refine lv_tableIn (tgt := 80) (off := 79) F.1 F.2.1 dX7_many_1 (by have := True.intro; omega) (by have := True.intro; omega) (by rw [show ((x).toInt - 0).toNat = 3 from by have := True.intro; omega]; rfl) (by decide) ?_
    refine lv_aload_n F.1 F.2.1 dX7_many_80 rfl (lv_at hl 0 rfl) ?_
    refine xg_DoFinder_search F hW tm_182 dX7_many_81 ?_
    refine lv_iconst (v := nI 0) F.1 F.2.1 dX7_many_84 (by decide) ?_
    refine xca_i (b := (xga G 3)) (As := [.int (nI 0)]) (rest := []) F (c_X5_pickWays l G M P sc wy wm pk (mh, uh, pl, mo, un, oc, ct) n aa ac ra o zf zs zd hV 0 (by omega)) (xcw F.2.2.2.2 ca_X5_pickWays tm_372 rfl rfl ⟨by decide, by decide⟩) (xr_X5 hW) hW rfl hl.1 rfl (Nat.le_of_ble_eq_true rfl) dX7_many_85 (fun r85 u85 H locs hp85 hW => ?_)
    obtain ⟨rfl, P85, wy85, pk85, rfl, hz85⟩ := hp85
    have hW : xW G s s.heap H locs M P85 (((zwl n aa ra 1200).filter (fun w => decide (zst o zf zs zd ac w = 0))).length, wy85, wm, pk85) (mh, uh, pl, mo, un, oc, ct) := hW
    have lb85 : ((zwl n aa ra 1200).filter (fun w => decide (zst o zf zs zd ac w = 0))).length ≤ 240 := Nat.le_trans (List.length_filter_le _ _) (zwl_all_len bn)
    refine xre_i F hr hlk hW dX7_many_88 ?_
    exact ⟨by unfold zmany; repeat first | rw [if_pos (by omega)] | rw [if_neg (by omega)], _, _, _, rfl⟩
  by_cases q1_4 : x.toInt = 4
  · skip
    refine lv_tableIn (tgt := 89) (off := 88) F.1 F.2.1 dX7_many_1 (by have := True.intro; omega) (by have := True.intro; omega) (by rw [show ((x).toInt - 0).toNat = 4 from by have := True.intro; omega]; rfl) (by decide) ?_
    refine lv_aload_n F.1 F.2.1 dX7_many_89 rfl (lv_at hl 0 rfl) ?_
    refine xg_DoFinder_search F hW tm_182 dX7_many_90 ?_
    refine lv_iconst (v := nI 1) F.1 F.2.1 dX7_many_93 (by decide) ?_
    refine xca_i (b := (xga G 3)) (As := [.int (nI 1)]) (rest := []) F (c_X5_pickWays l G M P sc wy wm pk (mh, uh, pl, mo, un, oc, ct) n aa ac ra o zf zs zd hV 1 (by omega)) (xcw F.2.2.2.2 ca_X5_pickWays tm_372 rfl rfl ⟨by decide, by decide⟩) (xr_X5 hW) hW rfl hl.1 rfl (Nat.le_of_ble_eq_true rfl) dX7_many_94 (fun r94 u94 H locs hp94 hW => ?_)
    obtain ⟨rfl, P94, wy94, pk94, rfl, hz94⟩ := hp94
    have hW : xW G s s.heap H locs M P94 (((zwl n aa ra 1200).filter (fun w => decide (zst o zf zs zd ac w = 1))).length, wy94, wm, pk94) (mh, uh, pl, mo, un, oc, ct) := hW
    have lb94 : ((zwl n aa ra 1200).filter (fun w => decide (zst o zf zs zd ac w = 1))).length ≤ 240 := Nat.le_trans (List.length_filter_le _ _) (zwl_all_len bn)
    refine xre_i F hr hlk hW dX7_many_97 ?_
    exact ⟨by unfold zmany; repeat first | rw [if_pos (by omega)] | rw [if_neg (by omega)], _, _, _, rfl⟩
  by_cases q1_5 : x.toInt = 5
  · skip
    refine lv_tableIn (tgt := 98) (off := 97) F.1 F.2.1 dX7_many_1 (by have := True.intro; omega) (by have := True.intro; omega) (by rw [show ((x).toInt - 0).toNat = 5 from by have := True.intro; omega]; rfl) (by decide) ?_
    refine lv_aload_n F.1 F.2.1 dX7_many_98 rfl (lv_at hl 0 rfl) ?_
    refine xg_DoFinder_search F hW tm_182 dX7_many_99 ?_
    refine xca_i (b := (xga G 3)) (As := []) (rest := []) F (c_X5_listWays l G M P sc wy wm pk (mh, uh, pl, mo, un, oc, ct) n aa ac ra o zf zs zd hV) (xcw F.2.2.2.2 ca_X5_listWays tm_458 rfl rfl ⟨by decide, by decide⟩) (xr_X5 hW) hW rfl hl.1 rfl (Nat.le_of_ble_eq_true rfl) dX7_many_102 (fun r102 u102 H locs hp102 hW => ?_)
    obtain ⟨rfl, wy102, rfl, hl102⟩ := hp102
    have hW : xW G s s.heap H locs M P (sc, wy102, wm, pk) (mh, uh, pl, mo, un, oc, ct) := hW
    have lb := zwl_all_len (n := n) (aa := aa) (ra := ra) bn
    refine lv_aload_n F.1 F.2.1 dX7_many_105 rfl (lv_at hl 0 rfl) ?_
    refine xg_DoFinder_library F hW tm_180 dX7_many_106 ?_
    refine lv_iconst (v := nI 1) F.1 F.2.1 dX7_many_109 (by decide) ?_
    refine xca_i (b := (xga G 1)) (As := [.int (nI 1)]) (rest := [.int (nI ((zwl n aa ra 1200).length))]) F (c_X1_countTaking l G M P (sc, wy102, wm, pk) (mh, uh, pl, mo, un, oc, ct) n aa ac ra o zf zs zd hV 1 (by omega)) (xcw F.2.2.2.2 ca_X1_countTaking tm_459 rfl rfl ⟨by decide, by decide⟩) (xr_X1 hW) hW rfl hl.1 rfl (Nat.le_of_ble_eq_true rfl) dX7_many_110 (fun r110 u110 H locs hp110 hW => ?_)
    obtain ⟨rfl, rfl⟩ := hp110
    have hW : xW G s s.heap H locs M P (sc, wy102, wm, pk) (mh, uh, pl, mo, un, oc, ct) := hW
    refine ax_mul (z := nI (((zwl n aa ra 1200).length) * (zcnt (fun r => decide (ra r = 1)) n))) F (pk_mul _ _) dX7_many_113 ?_
    refine xre_i F hr hlk hW dX7_many_114 ?_
    exact ⟨by unfold zmany; repeat first | rw [if_pos (by omega)] | rw [if_neg (by omega)], _, _, _, rfl⟩
  by_cases q1_6 : x.toInt = 6
  · skip
    refine lv_tableIn (tgt := 115) (off := 114) F.1 F.2.1 dX7_many_1 (by have := True.intro; omega) (by have := True.intro; omega) (by rw [show ((x).toInt - 0).toNat = 6 from by have := True.intro; omega]; rfl) (by decide) ?_
    refine lv_aload_n F.1 F.2.1 dX7_many_115 rfl (lv_at hl 0 rfl) ?_
    refine xg_DoFinder_search F hW tm_182 dX7_many_116 ?_
    refine xca_i (b := (xga G 3)) (As := []) (rest := []) F (c_X5_pickJoints l G M P sc wy wm pk (mh, uh, pl, mo, un, oc, ct) n aa ac ra o zf zs zd hV) (xcw F.2.2.2.2 ca_X5_pickJoints tm_410 rfl rfl ⟨by decide, by decide⟩) (xr_X5 hW) hW rfl hl.1 rfl (Nat.le_of_ble_eq_true rfl) dX7_many_119 (fun r119 u119 H locs hp119 hW => ?_)
    obtain ⟨rfl, P119, wy119, pk119, rfl, hz119⟩ := hp119
    have hW : xW G s s.heap H locs M P119 ((zjl (zwl n aa ra 1200) ra (fun w => decide (zst o zf zs zd ac w = 0)) n).length, wy119, wm, pk119) (mh, uh, pl, mo, un, oc, ct) := hW
    have lb119 : (zjl (zwl n aa ra 1200) ra (fun w => decide (zst o zf zs zd ac w = 0)) n).length ≤ 756 := zjl_756 bn
    refine xre_i F hr hlk hW dX7_many_122 ?_
    exact ⟨by unfold zmany; repeat first | rw [if_pos (by omega)] | rw [if_neg (by omega)], _, _, _, rfl⟩
  by_cases q1_7 : x.toInt = 7
  · skip
    refine lv_tableIn (tgt := 123) (off := 122) F.1 F.2.1 dX7_many_1 (by have := True.intro; omega) (by have := True.intro; omega) (by rw [show ((x).toInt - 0).toNat = 7 from by have := True.intro; omega]; rfl) (by decide) ?_
    refine lv_aload_n F.1 F.2.1 dX7_many_123 rfl (lv_at hl 0 rfl) ?_
    refine xg_DoFinder_library F hW tm_180 dX7_many_124 ?_
    refine xca_i (b := (xga G 1)) (As := []) (rest := []) F (c_X1_countDoubles l G M P (sc, wy, wm, pk) (mh, uh, pl, mo, un, oc, ct) n aa ac ra o zf zs zd hV) (xcw F.2.2.2.2 ca_X1_countDoubles tm_463 rfl rfl ⟨by decide, by decide⟩) (xr_X1 hW) hW rfl hl.1 rfl (Nat.le_of_ble_eq_true rfl) dX7_many_127 (fun r127 u127 H locs hp127 hW => ?_)
    obtain ⟨rfl, P127, rfl⟩ := hp127
    have hW : xW G s s.heap H locs M P127 (sc, wy, wm, pk) (mh, uh, pl, mo, un, oc, ct) := hW
    refine xre_i F hr hlk hW dX7_many_130 ?_
    exact ⟨by unfold zmany; repeat first | rw [if_pos (by omega)] | rw [if_neg (by omega)], _, _, _, rfl⟩
  by_cases q1_8 : x.toInt = 8
  · skip
    refine lv_tableIn (tgt := 131) (off := 130) F.1 F.2.1 dX7_many_1 (by have := True.intro; omega) (by have := True.intro; omega) (by rw [show ((x).toInt - 0).toNat = 8 from by have := True.intro; omega]; rfl) (by decide) ?_
    refine lv_aload_n F.1 F.2.1 dX7_many_131 rfl (lv_at hl 0 rfl) ?_
    refine xg_DoFinder_written F hW tm_179 dX7_many_132 ?_
    refine xg_Routine_count F hW (j := 12) (by omega) tm_29 dX7_many_135 ?_
    refine xre_i F hr hlk hW dX7_many_138 ?_
    exact ⟨by unfold zmany; repeat first | rw [if_pos (by omega)] | rw [if_neg (by omega)], _, _, _, rfl⟩
  have q1_9 : x.toInt = 9 := by omega
  refine lv_tableIn (tgt := 139) (off := 138) F.1 F.2.1 dX7_many_1 (by have := True.intro; omega) (by have := True.intro; omega) (by rw [show ((x).toInt - 0).toNat = 9 from by have := True.intro; omega]; rfl) (by decide) ?_
  refine lv_aload_n F.1 F.2.1 dX7_many_139 rfl (lv_at hl 0 rfl) ?_
  refine xg_DoFinder_asked F hW tm_181 dX7_many_140 ?_
  refine xg_Ask_arguments F hW tm_107 dX7_many_143 ?_
  refine ax_re (show nI M.2.2.2.2.2.2.1 = nI aa from congrArg nI ea) ?_
  refine xre_i F hr hlk hW dX7_many_146 ?_
  exact ⟨by unfold zmany; repeat first | rw [if_pos (by omega)] | rw [if_neg (by omega)], _, _, _, rfl⟩
theorem dX7_differ_0 : decode cX7_differ 0 = .ok (.aload_n 0, 1) := by decide +kernel
theorem dX7_differ_1 : decode cX7_differ 1 = .ok (.getfield 19, 3) := by decide +kernel
theorem dX7_differ_4 : decode cX7_differ 4 = .ok (.iload_n 1, 1) := by decide +kernel
theorem dX7_differ_5 : decode cX7_differ 5 = .ok (.invokevirtual 69, 3) := by decide +kernel
theorem dX7_differ_8 : decode cX7_differ 8 = .ok (.ifCond .eq 14, 3) := by decide +kernel
theorem dX7_differ_11 : decode cX7_differ 11 = .ok (.aload_n 0, 1) := by decide +kernel
theorem dX7_differ_12 : decode cX7_differ 12 = .ok (.getfield 19, 3) := by decide +kernel
theorem dX7_differ_15 : decode cX7_differ 15 = .ok (.iload_n 2, 1) := by decide +kernel
theorem dX7_differ_16 : decode cX7_differ 16 = .ok (.invokevirtual 69, 3) := by decide +kernel
theorem dX7_differ_19 : decode cX7_differ 19 = .ok (.ifCond .ne 5, 3) := by decide +kernel
theorem dX7_differ_22 : decode cX7_differ 22 = .ok (.iconst (-1), 1) := by decide +kernel
theorem dX7_differ_23 : decode cX7_differ 23 = .ok (.ireturn, 1) := by decide +kernel
theorem dX7_differ_24 : decode cX7_differ 24 = .ok (.aload_n 0, 1) := by decide +kernel
theorem dX7_differ_25 : decode cX7_differ 25 = .ok (.getfield 19, 3) := by decide +kernel
theorem dX7_differ_28 : decode cX7_differ 28 = .ok (.iload_n 1, 1) := by decide +kernel
theorem dX7_differ_29 : decode cX7_differ 29 = .ok (.iload_n 2, 1) := by decide +kernel
theorem dX7_differ_30 : decode cX7_differ 30 = .ok (.invokevirtual 174, 3) := by decide +kernel
theorem dX7_differ_33 : decode cX7_differ 33 = .ok (.ireturn, 1) := by decide +kernel
set_option maxHeartbeats 4000000 in
set_option maxRecDepth 100000 in
theorem c_X7_differ (l : Launch) (G : XG) (M : XM) (P : XP) (S : XS) (V : XV) (n aa ac : Nat) (ra : Nat → Nat) (o : Nat → Int32 → Int32 → Int64) (zf zs : Nat → Int32) (zd : Nat → Int64) (hV : xV M n aa ac ra o zf zs zd) (x y : Int32) : Met l yX7_differ (wC yX7_differ cX7_differ 3 (some .int)) (rmD 3) (xPc G [.ref (xga G 0), .int x, .int y] M P S V) (va_Qi (fun v u => qDiffer n ra o x y v ∧ ∃ P2 : XP, u = (M, P2, S, V)) (xB G) (xA G)) 0 0 (xA G) := by
  refine xst "DoFinder" (by decide) rfl (Nat.le_of_ble_eq_true rfl) ?_
  intro p e s m args below meth c ls F hr hlk hW hl
  have hl : lv_has ls 3 [(0, .ref (xga G 0)), (1, .int x), (2, .int y)] := hl
  have hW : xW G s s.heap s.heap [] M P S V := hW
  have b_x := i32b x
  have b_y := i32b y
  obtain ⟨en, ea, ec, era, eo, ef, es, ed, bn, ba, bc, bf, brc, bra, bd⟩ := id hV
  refine lv_aload_n F.1 F.2.1 dX7_differ_0 rfl (lv_at hl 0 rfl) ?_
  refine xg_DoFinder_library F hW tm_180 dX7_differ_1 ?_
  refine lv_iload_n F.1 F.2.1 dX7_differ_4 rfl (lv_at hl 1 rfl) ?_
  refine xca_i (b := (xga G 1)) (As := [.int x]) (rest := []) F (c_X1_has l G M P S V (by omega) x) (xcw F.2.2.2.2 ca_X1_has tm_244 rfl rfl ⟨by decide, by decide⟩) (xr_X1 hW) hW rfl hl.1 rfl (Nat.le_of_ble_eq_true rfl) dX7_differ_5 (fun r5 u5 H locs hp5 hW => ?_)
  obtain ⟨hp5, rfl⟩ := hp5
  have hW : xW G s s.heap H locs M P S V := hW
  rcases hp5 with ⟨rfl, y5⟩ | ⟨rfl, y5⟩
  · skip
    obtain ⟨r, hn_r, hm_r, rfl⟩ := argN (x := x) (by omega)
    have e_r : (nI r).toInt.toNat = r := by omega
    have i_r : r < n := by omega
    have hl : lv_has ls 3 [(0, .ref (xga G 0)), (1, .int (nI r)), (2, .int y)] := hl
    refine lv_if_eq (tgt := 22) F.1 F.2.1 dX7_differ_8 (by decide) (fun q => absurd q (by decide)) (fun _ => ?_)
    refine lv_aload_n F.1 F.2.1 dX7_differ_11 rfl (lv_at hl 0 rfl) ?_
    refine xg_DoFinder_library F hW tm_180 dX7_differ_12 ?_
    refine lv_iload_n F.1 F.2.1 dX7_differ_15 rfl (lv_at hl 2 rfl) ?_
    refine xca_i (b := (xga G 1)) (As := [.int y]) (rest := []) F (c_X1_has l G M P S V (by omega) y) (xcw F.2.2.2.2 ca_X1_has tm_244 rfl rfl ⟨by decide, by decide⟩) (xr_X1 hW) hW rfl hl.1 rfl (Nat.le_of_ble_eq_true rfl) dX7_differ_16 (fun r16 u16 H locs hp16 hW => ?_)
    obtain ⟨hp16, rfl⟩ := hp16
    have hW : xW G s s.heap H locs M P S V := hW
    rcases hp16 with ⟨rfl, y16⟩ | ⟨rfl, y16⟩
    · skip
      obtain ⟨q, hn_q, hm_q, rfl⟩ := argN (x := y) (by omega)
      have e_q : (nI q).toInt.toNat = q := by omega
      have i_q : q < n := by omega
      have hl : lv_has ls 3 [(0, .ref (xga G 0)), (1, .int (nI r)), (2, .int (nI q))] := hl
      refine lv_if_ne (tgt := 24) F.1 F.2.1 dX7_differ_19 (by decide) (fun _ => ?_) (fun q => absurd q (by decide))
      refine lv_aload_n F.1 F.2.1 dX7_differ_24 rfl (lv_at hl 0 rfl) ?_
      refine xg_DoFinder_library F hW tm_180 dX7_differ_25 ?_
      refine lv_iload_n F.1 F.2.1 dX7_differ_28 rfl (lv_at hl 1 rfl) ?_
      refine lv_iload_n F.1 F.2.1 dX7_differ_29 rfl (lv_at hl 2 rfl) ?_
      refine xca_i (b := (xga G 1)) (As := [.int (nI r), .int (nI q)]) (rest := []) F (c_X1_firstDifference l G M P S V n aa ac ra o zf zs zd hV r q (by omega) (by omega)) (xcw F.2.2.2.2 ca_X1_firstDifference tm_487 rfl rfl ⟨by decide, by decide⟩) (xr_X1 hW) hW rfl hl.1 rfl (Nat.le_of_ble_eq_true rfl) dX7_differ_30 (fun r30 u30 H locs hp30 hW => ?_)
      obtain ⟨hp30, P30, rfl⟩ := hp30
      have hW : xW G s s.heap H locs M P30 S V := hW
      have wl30 := wN_le (ra r)
      rcases hp30 with ⟨y30, rfl⟩ | ⟨y30, yb30, rfl⟩ | ⟨y30, yb30, rfl⟩
      · skip
        refine xre_i F hr hlk hW dX7_differ_33 ?_
        refine ⟨?_, _, rfl⟩
        unfold qDiffer zin
        first | exact Or.inl ⟨by omega, rfl⟩ | (rw [e_r, e_q]; first | exact Or.inr (Or.inl ⟨by omega, by omega, y30, rfl⟩) | exact Or.inr (Or.inr (Or.inl ⟨by omega, by omega, y30, yb30, rfl⟩)) | exact Or.inr (Or.inr (Or.inr ⟨by omega, by omega, y30, yb30, rfl⟩)))
      · skip
        refine xre_i F hr hlk hW dX7_differ_33 ?_
        refine ⟨?_, _, rfl⟩
        unfold qDiffer zin
        first | exact Or.inl ⟨by omega, rfl⟩ | (rw [e_r, e_q]; first | exact Or.inr (Or.inl ⟨by omega, by omega, y30, rfl⟩) | exact Or.inr (Or.inr (Or.inl ⟨by omega, by omega, y30, yb30, rfl⟩)) | exact Or.inr (Or.inr (Or.inr ⟨by omega, by omega, y30, yb30, rfl⟩)))
      · skip
        refine xre_i F hr hlk hW dX7_differ_33 ?_
        refine ⟨?_, _, rfl⟩
        unfold qDiffer zin
        first | exact Or.inl ⟨by omega, rfl⟩ | (rw [e_r, e_q]; first | exact Or.inr (Or.inl ⟨by omega, by omega, y30, rfl⟩) | exact Or.inr (Or.inr (Or.inl ⟨by omega, by omega, y30, yb30, rfl⟩)) | exact Or.inr (Or.inr (Or.inr ⟨by omega, by omega, y30, yb30, rfl⟩)))
    · skip
      refine lv_if_ne (tgt := 24) F.1 F.2.1 dX7_differ_19 (by decide) (fun q => absurd q (by decide)) (fun _ => ?_)
      refine lv_iconst (v := (-1)) F.1 F.2.1 dX7_differ_22 (by decide) ?_
      refine xre_i F hr hlk hW dX7_differ_23 ?_
      refine ⟨?_, _, rfl⟩
      unfold qDiffer zin
      first | exact Or.inl ⟨by omega, rfl⟩ | (rw [e_r, e_q]; first | exact Or.inr (Or.inl ⟨by omega, by omega, y30, rfl⟩) | exact Or.inr (Or.inr (Or.inl ⟨by omega, by omega, y30, yb30, rfl⟩)) | exact Or.inr (Or.inr (Or.inr ⟨by omega, by omega, y30, yb30, rfl⟩)))
  · skip
    refine lv_if_eq (tgt := 22) F.1 F.2.1 dX7_differ_8 (by decide) (fun _ => ?_) (fun q => absurd q (by decide))
    refine lv_iconst (v := (-1)) F.1 F.2.1 dX7_differ_22 (by decide) ?_
    refine xre_i F hr hlk hW dX7_differ_23 ?_
    refine ⟨?_, _, rfl⟩
    unfold qDiffer zin
    first | exact Or.inl ⟨by omega, rfl⟩ | (rw [e_r, e_q]; first | exact Or.inr (Or.inl ⟨by omega, by omega, y30, rfl⟩) | exact Or.inr (Or.inr (Or.inl ⟨by omega, by omega, y30, yb30, rfl⟩)) | exact Or.inr (Or.inr (Or.inr ⟨by omega, by omega, y30, yb30, rfl⟩)))
theorem dX7_same_0 : decode cX7_same 0 = .ok (.aload_n 0, 1) := by decide +kernel
theorem dX7_same_1 : decode cX7_same 1 = .ok (.iload_n 1, 1) := by decide +kernel
theorem dX7_same_2 : decode cX7_same 2 = .ok (.iload_n 2, 1) := by decide +kernel
theorem dX7_same_3 : decode cX7_same 3 = .ok (.invokevirtual 171, 3) := by decide +kernel
theorem dX7_same_6 : decode cX7_same 6 = .ok (.istore_n 3, 1) := by decide +kernel
theorem dX7_same_7 : decode cX7_same 7 = .ok (.iload_n 3, 1) := by decide +kernel
theorem dX7_same_8 : decode cX7_same 8 = .ok (.bipush (-3), 2) := by decide +kernel
theorem dX7_same_10 : decode cX7_same 10 = .ok (.if_icmp .ne 5, 3) := by decide +kernel
theorem dX7_same_13 : decode cX7_same 13 = .ok (.iconst 1, 1) := by decide +kernel
theorem dX7_same_14 : decode cX7_same 14 = .ok (.ireturn, 1) := by decide +kernel
theorem dX7_same_15 : decode cX7_same 15 = .ok (.iload_n 3, 1) := by decide +kernel
theorem dX7_same_16 : decode cX7_same 16 = .ok (.ifCond .ge 7, 3) := by decide +kernel
theorem dX7_same_19 : decode cX7_same 19 = .ok (.iload_n 3, 1) := by decide +kernel
theorem dX7_same_20 : decode cX7_same 20 = .ok (.goto 4, 3) := by decide +kernel
theorem dX7_same_23 : decode cX7_same 23 = .ok (.iconst 0, 1) := by decide +kernel
theorem dX7_same_24 : decode cX7_same 24 = .ok (.ireturn, 1) := by decide +kernel
set_option maxHeartbeats 4000000 in
set_option maxRecDepth 100000 in
theorem c_X7_same (l : Launch) (G : XG) (M : XM) (P : XP) (S : XS) (V : XV) (n aa ac : Nat) (ra : Nat → Nat) (o : Nat → Int32 → Int32 → Int64) (zf zs : Nat → Int32) (zd : Nat → Int64) (hV : xV M n aa ac ra o zf zs zd) (x y : Int32) : Met l yX7_same (wC yX7_same cX7_same 4 (some .int)) (rmD 4) (xPc G [.ref (xga G 0), .int x, .int y] M P S V) (va_Qi (fun v u => qSame n ra o x y v ∧ ∃ P2 : XP, u = (M, P2, S, V)) (xB G) (xA G)) 0 0 (xA G) := by
  refine xst "DoFinder" (by decide) rfl (Nat.le_of_ble_eq_true rfl) ?_
  intro p e s m args below meth c ls F hr hlk hW hl
  have hl : lv_has ls 4 [(0, .ref (xga G 0)), (1, .int x), (2, .int y)] := hl
  have hW : xW G s s.heap s.heap [] M P S V := hW
  have b_x := i32b x
  have b_y := i32b y
  refine lv_aload_n F.1 F.2.1 dX7_same_0 rfl (lv_at hl 0 rfl) ?_
  refine lv_iload_n F.1 F.2.1 dX7_same_1 rfl (lv_at hl 1 rfl) ?_
  refine lv_iload_n F.1 F.2.1 dX7_same_2 rfl (lv_at hl 2 rfl) ?_
  refine xca_i (b := (xga G 0)) (As := [.int x, .int y]) (rest := []) F (c_X7_differ l G M P S V n aa ac ra o zf zs zd hV x y) (xcw F.2.2.2.2 ca_X7_differ tm_483 rfl rfl ⟨by decide, by decide⟩) (xr_X7 hW) hW rfl hl.1 rfl (Nat.le_of_ble_eq_true rfl) dX7_same_3 (fun r3 u3 H locs hp3 hW => ?_)
  obtain ⟨hp3, P3, rfl⟩ := hp3
  have hW : xW G s s.heap H locs M P3 S V := hW
  have wl := wN_le (ra x.toInt.toNat)
  rcases hp3 with ⟨za, rfl⟩ | ⟨za, zb, zc, rfl⟩ | ⟨za, zb, zc, zd2, rfl⟩ | ⟨za, zb, zc, zd2, rfl⟩
  · skip
    refine lv_istore_n (lv' := [(3, .int (-1)), (0, .ref (xga G 0)), (1, .int x), (2, .int y)]) F.1 F.2.1 dX7_same_6 rfl hl (by decide) rfl (fun ls hl => ?_)
    refine lv_iload_n F.1 F.2.1 dX7_same_7 rfl (lv_at hl 0 rfl) ?_
    refine lv_bipush (v := (-3)) F.1 F.2.1 dX7_same_8 (by decide) ?_
    refine lv_icmp_ne (tgt := 15) F.1 F.2.1 dX7_same_10 (by decide) (fun _ => ?_) (fun q => absurd q (by decide))
    refine lv_iload_n F.1 F.2.1 dX7_same_15 rfl (lv_at hl 0 rfl) ?_
    refine lv_if_ge (tgt := 23) F.1 F.2.1 dX7_same_16 (by decide) (fun q => absurd q (by decide)) (fun _ => ?_)
    refine lv_iload_n F.1 F.2.1 dX7_same_19 rfl (lv_at hl 0 rfl) ?_
    refine lv_goto (tgt := 24) F.1 F.2.1 dX7_same_20 (by decide) ?_
    refine xre_i F hr hlk hW dX7_same_24 ?_
    first | (exfalso; omega) | exact ⟨Or.inl ⟨za, rfl⟩, _, rfl⟩ | exact ⟨Or.inr (Or.inl ⟨za, zb, zc, rfl⟩), _, rfl⟩ | exact ⟨Or.inr (Or.inr (Or.inl ⟨za, zb, zc, zd2, rfl⟩)), _, rfl⟩ | exact ⟨Or.inr (Or.inr (Or.inr ⟨za, zb, zc, zd2, rfl⟩)), _, rfl⟩
  · skip
    refine lv_istore_n (lv' := [(3, .int (-4)), (0, .ref (xga G 0)), (1, .int x), (2, .int y)]) F.1 F.2.1 dX7_same_6 rfl hl (by decide) rfl (fun ls hl => ?_)
    refine lv_iload_n F.1 F.2.1 dX7_same_7 rfl (lv_at hl 0 rfl) ?_
    refine lv_bipush (v := (-3)) F.1 F.2.1 dX7_same_8 (by decide) ?_
    refine lv_icmp_ne (tgt := 15) F.1 F.2.1 dX7_same_10 (by decide) (fun _ => ?_) (fun q => absurd q (by decide))
    refine lv_iload_n F.1 F.2.1 dX7_same_15 rfl (lv_at hl 0 rfl) ?_
    refine lv_if_ge (tgt := 23) F.1 F.2.1 dX7_same_16 (by decide) (fun q => absurd q (by decide)) (fun _ => ?_)
    refine lv_iload_n F.1 F.2.1 dX7_same_19 rfl (lv_at hl 0 rfl) ?_
    refine lv_goto (tgt := 24) F.1 F.2.1 dX7_same_20 (by decide) ?_
    refine xre_i F hr hlk hW dX7_same_24 ?_
    first | (exfalso; omega) | exact ⟨Or.inl ⟨za, rfl⟩, _, rfl⟩ | exact ⟨Or.inr (Or.inl ⟨za, zb, zc, rfl⟩), _, rfl⟩ | exact ⟨Or.inr (Or.inr (Or.inl ⟨za, zb, zc, zd2, rfl⟩)), _, rfl⟩ | exact ⟨Or.inr (Or.inr (Or.inr ⟨za, zb, zc, zd2, rfl⟩)), _, rfl⟩
  · skip
    refine lv_istore_n (lv' := [(3, .int (-3)), (0, .ref (xga G 0)), (1, .int x), (2, .int y)]) F.1 F.2.1 dX7_same_6 rfl hl (by decide) rfl (fun ls hl => ?_)
    refine lv_iload_n F.1 F.2.1 dX7_same_7 rfl (lv_at hl 0 rfl) ?_
    refine lv_bipush (v := (-3)) F.1 F.2.1 dX7_same_8 (by decide) ?_
    refine lv_icmp_ne (tgt := 15) F.1 F.2.1 dX7_same_10 (by decide) (fun q => absurd q (by decide)) (fun _ => ?_)
    refine lv_iconst (v := nI 1) F.1 F.2.1 dX7_same_13 (by decide) ?_
    refine xre_i F hr hlk hW dX7_same_14 ?_
    first | (exfalso; omega) | exact ⟨Or.inl ⟨za, rfl⟩, _, rfl⟩ | exact ⟨Or.inr (Or.inl ⟨za, zb, zc, rfl⟩), _, rfl⟩ | exact ⟨Or.inr (Or.inr (Or.inl ⟨za, zb, zc, zd2, rfl⟩)), _, rfl⟩ | exact ⟨Or.inr (Or.inr (Or.inr ⟨za, zb, zc, zd2, rfl⟩)), _, rfl⟩
  · skip
    refine lv_istore_n (lv' := [(3, .int (nI (zdif o (ra x.toInt.toNat) x.toInt.toNat y.toInt.toNat))), (0, .ref (xga G 0)), (1, .int x), (2, .int y)]) F.1 F.2.1 dX7_same_6 rfl hl (by decide) rfl (fun ls hl => ?_)
    refine lv_iload_n F.1 F.2.1 dX7_same_7 rfl (lv_at hl 0 rfl) ?_
    refine lv_bipush (v := (-3)) F.1 F.2.1 dX7_same_8 (by decide) ?_
    refine lv_icmp_ne (tgt := 15) F.1 F.2.1 dX7_same_10 (by decide) (fun c10 => ?_) (fun c10 => ?_)
    · have c10 := ci_ne (a := (((zdif o (ra x.toInt.toNat) x.toInt.toNat y.toInt.toNat) : Nat) : Int)) (b := (-3)) (nI_toInt (by omega)) (by decide) c10
      refine lv_iload_n F.1 F.2.1 dX7_same_15 rfl (lv_at hl 0 rfl) ?_
      refine lv_if_ge (tgt := 23) F.1 F.2.1 dX7_same_16 (by decide) (fun c16 => ?_) (fun c16 => ?_)
      · have c16 := ci_le (a := 0) (b := (((zdif o (ra x.toInt.toNat) x.toInt.toNat y.toInt.toNat) : Nat) : Int)) ci_0 (nI_toInt (by omega)) c16
        refine lv_iconst (v := nI 0) F.1 F.2.1 dX7_same_23 (by decide) ?_
        refine xre_i F hr hlk hW dX7_same_24 ?_
        first | (exfalso; omega) | exact ⟨Or.inl ⟨za, rfl⟩, _, rfl⟩ | exact ⟨Or.inr (Or.inl ⟨za, zb, zc, rfl⟩), _, rfl⟩ | exact ⟨Or.inr (Or.inr (Or.inl ⟨za, zb, zc, zd2, rfl⟩)), _, rfl⟩ | exact ⟨Or.inr (Or.inr (Or.inr ⟨za, zb, zc, zd2, rfl⟩)), _, rfl⟩
      · have c16 := ci_nle (a := 0) (b := (((zdif o (ra x.toInt.toNat) x.toInt.toNat y.toInt.toNat) : Nat) : Int)) ci_0 (nI_toInt (by omega)) c16
        refine lv_iload_n F.1 F.2.1 dX7_same_19 rfl (lv_at hl 0 rfl) ?_
        refine lv_goto (tgt := 24) F.1 F.2.1 dX7_same_20 (by decide) ?_
        refine xre_i F hr hlk hW dX7_same_24 ?_
        first | (exfalso; omega) | exact ⟨Or.inl ⟨za, rfl⟩, _, rfl⟩ | exact ⟨Or.inr (Or.inl ⟨za, zb, zc, rfl⟩), _, rfl⟩ | exact ⟨Or.inr (Or.inr (Or.inl ⟨za, zb, zc, zd2, rfl⟩)), _, rfl⟩ | exact ⟨Or.inr (Or.inr (Or.inr ⟨za, zb, zc, zd2, rfl⟩)), _, rfl⟩
    · have c10 := ci_eq (a := (((zdif o (ra x.toInt.toNat) x.toInt.toNat y.toInt.toNat) : Nat) : Int)) (b := (-3)) (nI_toInt (by omega)) (by decide) c10
      refine lv_iconst (v := nI 1) F.1 F.2.1 dX7_same_13 (by decide) ?_
      refine xre_i F hr hlk hW dX7_same_14 ?_
      first | (exfalso; omega) | exact ⟨Or.inl ⟨za, rfl⟩, _, rfl⟩ | exact ⟨Or.inr (Or.inl ⟨za, zb, zc, rfl⟩), _, rfl⟩ | exact ⟨Or.inr (Or.inr (Or.inl ⟨za, zb, zc, zd2, rfl⟩)), _, rfl⟩ | exact ⟨Or.inr (Or.inr (Or.inr ⟨za, zb, zc, zd2, rfl⟩)), _, rfl⟩
theorem dX7_first_0 : decode cX7_first 0 = .ok (.aload_n 0, 1) := by decide +kernel
theorem dX7_first_1 : decode cX7_first 1 = .ok (.getfield 19, 3) := by decide +kernel
theorem dX7_first_4 : decode cX7_first 4 = .ok (.iload_n 1, 1) := by decide +kernel
theorem dX7_first_5 : decode cX7_first 5 = .ok (.invokevirtual 69, 3) := by decide +kernel
theorem dX7_first_8 : decode cX7_first 8 = .ok (.ifCond .ne 5, 3) := by decide +kernel
theorem dX7_first_11 : decode cX7_first 11 = .ok (.iconst (-1), 1) := by decide +kernel
theorem dX7_first_12 : decode cX7_first 12 = .ok (.ireturn, 1) := by decide +kernel
theorem dX7_first_13 : decode cX7_first 13 = .ok (.iconst 0, 1) := by decide +kernel
theorem dX7_first_14 : decode cX7_first 14 = .ok (.istore_n 2, 1) := by decide +kernel
theorem dX7_first_15 : decode cX7_first 15 = .ok (.iload_n 2, 1) := by decide +kernel
theorem dX7_first_16 : decode cX7_first 16 = .ok (.iload_n 1, 1) := by decide +kernel
theorem dX7_first_17 : decode cX7_first 17 = .ok (.if_icmp .ge 23, 3) := by decide +kernel
theorem dX7_first_20 : decode cX7_first 20 = .ok (.aload_n 0, 1) := by decide +kernel
theorem dX7_first_21 : decode cX7_first 21 = .ok (.getfield 19, 3) := by decide +kernel
theorem dX7_first_24 : decode cX7_first 24 = .ok (.iload_n 2, 1) := by decide +kernel
theorem dX7_first_25 : decode cX7_first 25 = .ok (.iload_n 1, 1) := by decide +kernel
theorem dX7_first_26 : decode cX7_first 26 = .ok (.invokevirtual 177, 3) := by decide +kernel
theorem dX7_first_29 : decode cX7_first 29 = .ok (.ifCond .eq 5, 3) := by decide +kernel
theorem dX7_first_32 : decode cX7_first 32 = .ok (.iload_n 2, 1) := by decide +kernel
theorem dX7_first_33 : decode cX7_first 33 = .ok (.ireturn, 1) := by decide +kernel
theorem dX7_first_34 : decode cX7_first 34 = .ok (.iinc 2 1, 3) := by decide +kernel
theorem dX7_first_37 : decode cX7_first 37 = .ok (.goto (-22), 3) := by decide +kernel
theorem dX7_first_40 : decode cX7_first 40 = .ok (.iload_n 1, 1) := by decide +kernel
theorem dX7_first_41 : decode cX7_first 41 = .ok (.ireturn, 1) := by decide +kernel
set_option maxHeartbeats 4000000 in
set_option maxRecDepth 100000 in
theorem c_X7_first (l : Launch) (G : XG) (M : XM) (P : XP) (S : XS) (V : XV) (n aa ac : Nat) (ra : Nat → Nat) (o : Nat → Int32 → Int32 → Int64) (zf zs : Nat → Int32) (zd : Nat → Int64) (hV : xV M n aa ac ra o zf zs zd) (x : Int32) : Met l yX7_first (wC yX7_first cX7_first 3 (some .int)) (rmD 4) (xPc G [.ref (xga G 0), .int x] M P S V) (va_Qi (fun v u => qFirst n ra o x v ∧ ∃ P2 : XP, u = (M, P2, S, V)) (xB G) (xA G)) 0 0 (xA G) := by
  refine xst "DoFinder" (by decide) rfl (Nat.le_of_ble_eq_true rfl) ?_
  intro p e s m args below meth c ls F hr hlk hW hl
  have hl : lv_has ls 3 [(0, .ref (xga G 0)), (1, .int x)] := hl
  have hW : xW G s s.heap s.heap [] M P S V := hW
  have b_x := i32b x
  obtain ⟨en, ea, ec, era, eo, ef, es, ed, bn, ba, bc, bf, brc, bra, bd⟩ := id hV
  refine lv_aload_n F.1 F.2.1 dX7_first_0 rfl (lv_at hl 0 rfl) ?_
  refine xg_DoFinder_library F hW tm_180 dX7_first_1 ?_
  refine lv_iload_n F.1 F.2.1 dX7_first_4 rfl (lv_at hl 1 rfl) ?_
  refine xca_i (b := (xga G 1)) (As := [.int x]) (rest := []) F (c_X1_has l G M P S V (by omega) x) (xcw F.2.2.2.2 ca_X1_has tm_244 rfl rfl ⟨by decide, by decide⟩) (xr_X1 hW) hW rfl hl.1 rfl (Nat.le_of_ble_eq_true rfl) dX7_first_5 (fun r5 u5 H locs hp5 hW => ?_)
  obtain ⟨hp5, rfl⟩ := hp5
  have hW : xW G s s.heap H locs M P S V := hW
  rcases hp5 with ⟨rfl, y5⟩ | ⟨rfl, y5⟩
  · skip
    obtain ⟨r, hn_r, hm_r, rfl⟩ := argN (x := x) (by omega)
    have e_r : (nI r).toInt.toNat = r := by omega
    have i_r : r < n := by omega
    have hl : lv_has ls 3 [(0, .ref (xga G 0)), (1, .int (nI r))] := hl
    refine lv_if_ne (tgt := 13) F.1 F.2.1 dX7_first_8 (by decide) (fun _ => ?_) (fun q => absurd q (by decide))
    refine lv_iconst (v := nI 0) F.1 F.2.1 dX7_first_13 (by decide) ?_
    refine lv_istore_n (lv' := [(2, .int (nI 0)), (0, .ref (xga G 0)), (1, .int (nI r))]) F.1 F.2.1 dX7_first_14 rfl hl (by decide) rfl (fun ls hl => ?_)
    have lp15 : ∀ (k15 : Nat) (Pk : XP) (k : Nat), r - k = k15 → (k ≤ r) → (∀ j, j < k → (fun r2 => !(zdbl ra o r2 r)) j = true) → ∀ (H : Heap) (locs : List Loc) (ls : Array Slot), xW G s s.heap H locs M Pk S V →  lv_has ls 3 [(0, .ref (xga G 0)), (1, .int (nI r)), (2, .int (nI k))] → W p l e (rmD 4) s m args below meth c H locs 0 0 (MQ below (va_Qi (fun v u => qFirst n ra o (nI r) v ∧ ∃ P2 : XP, u = (M, P2, S, V)) (xB G) (xA G)) args s 0 0 (xA G)) (F0 m 15 ls []) := by
      intro k15
      induction k15 using Nat.strongRecOn with
      | ind k15 ih15 =>
        intro Pk k hk15 h1 h2 H locs ls hW hl
        refine lv_iload_n F.1 F.2.1 dX7_first_15 rfl (lv_at hl 2 rfl) ?_
        refine lv_iload_n F.1 F.2.1 dX7_first_16 rfl (lv_at hl 1 rfl) ?_
        refine lv_icmp_ge (tgt := 40) F.1 F.2.1 dX7_first_17 (by decide) (fun c17 => ?_) (fun c17 => ?_)
        · have c17 := ci_le (a := ((r : Nat) : Int)) (b := ((k : Nat) : Int)) (nI_toInt (by omega)) (nI_toInt (by omega)) c17
          refine lv_iload_n F.1 F.2.1 dX7_first_40 rfl (lv_at hl 1 rfl) ?_
          refine xre_i F hr hlk hW dX7_first_41 ?_
          have e9 := zleast_all r (fun j hj => h2 j (by omega))
          exact ⟨Or.inr ⟨by unfold zin; omega, by rw [e_r, e9]⟩, _, rfl⟩
        · have c17 := ci_nle (a := ((r : Nat) : Int)) (b := ((k : Nat) : Int)) (nI_toInt (by omega)) (nI_toInt (by omega)) c17
          refine lv_aload_n F.1 F.2.1 dX7_first_20 rfl (lv_at hl 0 rfl) ?_
          refine xg_DoFinder_library F hW tm_180 dX7_first_21 ?_
          refine lv_iload_n F.1 F.2.1 dX7_first_24 rfl (lv_at hl 2 rfl) ?_
          refine lv_iload_n F.1 F.2.1 dX7_first_25 rfl (lv_at hl 1 rfl) ?_
          refine xca_i (b := (xga G 1)) (As := [.int (nI k), .int (nI r)]) (rest := []) F (c_X1_areDoubles l G M Pk S V n aa ac ra o zf zs zd hV k r (by omega) (by omega)) (xcw F.2.2.2.2 ca_X1_areDoubles tm_493 rfl rfl ⟨by decide, by decide⟩) (xr_X1 hW) hW rfl hl.1 rfl (Nat.le_of_ble_eq_true rfl) dX7_first_26 (fun r26 u26 H locs hp26 hW => ?_)
          obtain ⟨hp26, P26, rfl⟩ := hp26
          have hW : xW G s s.heap H locs M P26 S V := hW
          rcases hp26 with ⟨rfl, y26⟩ | ⟨rfl, y26⟩
          · skip
            refine lv_if_eq (tgt := 34) F.1 F.2.1 dX7_first_29 (by decide) (fun q => absurd q (by decide)) (fun _ => ?_)
            refine lv_iload_n F.1 F.2.1 dX7_first_32 rfl (lv_at hl 2 rfl) ?_
            refine xre_i F hr hlk hW dX7_first_33 ?_
            have e9 := zleast_at h2 (by simp only [y26]; decide) r (by omega)
            exact ⟨Or.inr ⟨by unfold zin; omega, by rw [e_r, e9]⟩, _, rfl⟩
          · skip
            refine lv_if_eq (tgt := 34) F.1 F.2.1 dX7_first_29 (by decide) (fun _ => ?_) (fun q => absurd q (by decide))
            refine lv_iinc (v := nI (k + 1)) (lv' := [(2, .int (nI (k + 1))), (0, .ref (xga G 0)), (1, .int (nI r))]) F.1 F.2.1 dX7_first_34 hl (k := 2) rfl (nI_add _ 1) (by decide) rfl (fun ls hl => ?_)
            refine lv_goto (tgt := 15) F.1 F.2.1 dX7_first_37 (by decide) ?_
            exact ih15 (r - (k + 1)) (by omega) P26 (k + 1) rfl (by omega) (lt_s h2 (by simp only [Bool.not_eq_true']; exact Bool.eq_false_iff.mpr y26)) _ _ _ hW (lv_sub hl [1, 2, 0] rfl)
    exact lp15 (r - 0) P 0 rfl (Nat.zero_le _) (lt_0) _ _ _ hW (lv_sub hl [1, 2, 0] rfl)
  · skip
    refine lv_if_ne (tgt := 13) F.1 F.2.1 dX7_first_8 (by decide) (fun q => absurd q (by decide)) (fun _ => ?_)
    refine lv_iconst (v := (-1)) F.1 F.2.1 dX7_first_11 (by decide) ?_
    refine xre_i F hr hlk hW dX7_first_12 ?_
    exact ⟨Or.inl ⟨by unfold zin; omega, rfl⟩, _, rfl⟩
