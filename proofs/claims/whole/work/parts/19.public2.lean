set_option maxHeartbeats 4000000 in
set_option maxRecDepth 100000 in
theorem c_X1_outcome_no (l : Launch) (G : XG) (M : XM) (P : XP) (S : XS) (V : XV) (hn : M.1 ≤ 12) (x a b : Int32) (hx : ¬ zin M.1 x) : Met l yX1_outcome (wC yX1_outcome cX1_outcome 9 (some .long)) (rmD 1) (xPc G [.ref (xga G 1), .int x, .int a, .int b] M P S V) (va_Ql (fun v u => v = zNOT ∧ u = (M, P, S, V)) (xB G) (xA G)) 0 0 (xA G) := by
  refine xst "DoFinder$Library" (by decide) rfl (Nat.le_of_ble_eq_true rfl) ?_
  intro p e s m args below meth c ls F hr hlk hW hl
  have hl : lv_has ls 9 [(0, .ref (xga G 1)), (1, .int x), (2, .int a), (3, .int b)] := hl
  have hW : xW G s s.heap s.heap [] M P S V := hW
  have b_x := i32b x
  have b_a := i32b a
  have b_b := i32b b
  unfold zin at hx
  refine lv_aload_n F.1 F.2.1 dX1_outcome_0 rfl (lv_at hl 0 rfl) ?_
  refine lv_iload_n F.1 F.2.1 dX1_outcome_1 rfl (lv_at hl 1 rfl) ?_
  refine xca_i (b := (xga G 1)) (As := [.int x]) (rest := []) F (c_X1_has l G M P S V (by omega) x) (xcw F.2.2.2.2 ca_X1_has tm_262 rfl rfl ⟨by decide, by decide⟩) (xr_X1 hW) hW rfl hl.1 rfl (Nat.le_of_ble_eq_true rfl) dX1_outcome_2 (fun r2 u2 H locs hp2 hW => ?_)
  obtain ⟨hp2, rfl⟩ := hp2
  have hW : xW G s s.heap H locs M P S V := hW
  rcases hp2 with ⟨rfl, y2⟩ | ⟨rfl, y2⟩
  · skip
    exfalso; omega
  · skip
    refine lv_if_ne (tgt := 12) F.1 F.2.1 dX1_outcome_5 (by decide) (fun q => absurd q (by decide)) (fun _ => ?_)
    refine lv_ldc2 (v := zNOT) F.1 F.2.1 F.2.2.2.1 (F.2.2.2.2 _ tm_263) dX1_outcome_8 ?_
    refine xre_l F hr hlk hW dX1_outcome_11 ?_
    exact ⟨rfl, rfl⟩
theorem dX7_run_0 : decode cX7_run 0 = .ok (.aload_n 0, 1) := by decide +kernel
theorem dX7_run_1 : decode cX7_run 1 = .ok (.getfield 19, 3) := by decide +kernel
theorem dX7_run_4 : decode cX7_run 4 = .ok (.iload_n 1, 1) := by decide +kernel
theorem dX7_run_5 : decode cX7_run 5 = .ok (.iload_n 2, 1) := by decide +kernel
theorem dX7_run_6 : decode cX7_run 6 = .ok (.iload_n 3, 1) := by decide +kernel
theorem dX7_run_7 : decode cX7_run 7 = .ok (.invokevirtual 90, 3) := by decide +kernel
theorem dX7_run_10 : decode cX7_run 10 = .ok (.lreturn, 1) := by decide +kernel
set_option maxHeartbeats 4000000 in
set_option maxRecDepth 100000 in
theorem c_X7_run (l : Launch) (G : XG) (M : XM) (P : XP) (S : XS) (V : XV) (hn : M.1 ≤ 12) (hrc : ∀ r, r < M.1 → M.2.2.1 r ≤ 12) (hra : ∀ r, r < M.1 → M.2.2.2.1 r = 1 ∨ M.2.2.2.1 r = 2) (hf : M.2.1 ≤ 200) (r : Nat) (hr0 : r < M.1) (a b : Int32) : Met l yX7_run (wC yX7_run cX7_run 4 (some .long)) (rmD 2) (xPc G [.ref (xga G 0), .int (nI r), .int a, .int b] M P S V) (va_Ql (fun v u => v = zout M.2.1 (M.2.2.1 r) (M.2.2.2.2.1 r) a b ∧ ∃ P2 : XP, u = (M, P2, S, V)) (xB G) (xA G)) 0 0 (xA G) := by
  refine xst "DoFinder" (by decide) rfl (Nat.le_of_ble_eq_true rfl) ?_
  intro p e s m args below meth c ls F hr hlk hW hl
  have hl : lv_has ls 4 [(0, .ref (xga G 0)), (1, .int (nI r)), (2, .int a), (3, .int b)] := hl
  have hW : xW G s s.heap s.heap [] M P S V := hW
  have b_a := i32b a
  have b_b := i32b b
  refine lv_aload_n F.1 F.2.1 dX7_run_0 rfl (lv_at hl 0 rfl) ?_
  refine xg_DoFinder_library F hW tm_180 dX7_run_1 ?_
  refine lv_iload_n F.1 F.2.1 dX7_run_4 rfl (lv_at hl 1 rfl) ?_
  refine lv_iload_n F.1 F.2.1 dX7_run_5 rfl (lv_at hl 2 rfl) ?_
  refine lv_iload_n F.1 F.2.1 dX7_run_6 rfl (lv_at hl 3 rfl) ?_
  refine xca_l (b := (xga G 1)) (As := [.int (nI r), .int a, .int b]) (rest := []) F (c_X1_outcome l G M P S V hn r hr0 (hrc r hr0) hf a b) (xcw F.2.2.2.2 ca_X1_outcome tm_258 rfl rfl ⟨by decide, by decide⟩) (xr_X1 hW) hW rfl hl.1 rfl (Nat.le_of_ble_eq_true rfl) dX7_run_7 (fun r7 u7 H locs hp7 hW => ?_)
  obtain ⟨rfl, P7, rfl, e7⟩ := hp7
  have hW : xW G s s.heap H locs M P7 S V := hW
  refine xre_l F hr hlk hW dX7_run_10 ?_
  exact ⟨rfl, _, rfl⟩
set_option maxHeartbeats 4000000 in
set_option maxRecDepth 100000 in
theorem c_X7_run_no (l : Launch) (G : XG) (M : XM) (P : XP) (S : XS) (V : XV) (hn : M.1 ≤ 12) (hrc : ∀ r, r < M.1 → M.2.2.1 r ≤ 12) (hra : ∀ r, r < M.1 → M.2.2.2.1 r = 1 ∨ M.2.2.2.1 r = 2) (hf : M.2.1 ≤ 200) (x a b : Int32) (hx : ¬ zin M.1 x) : Met l yX7_run (wC yX7_run cX7_run 4 (some .long)) (rmD 2) (xPc G [.ref (xga G 0), .int x, .int a, .int b] M P S V) (va_Ql (fun v u => v = zNOT ∧ ∃ P2 : XP, u = (M, P2, S, V)) (xB G) (xA G)) 0 0 (xA G) := by
  refine xst "DoFinder" (by decide) rfl (Nat.le_of_ble_eq_true rfl) ?_
  intro p e s m args below meth c ls F hr hlk hW hl
  have hl : lv_has ls 4 [(0, .ref (xga G 0)), (1, .int x), (2, .int a), (3, .int b)] := hl
  have hW : xW G s s.heap s.heap [] M P S V := hW
  have b_x := i32b x
  have b_a := i32b a
  have b_b := i32b b
  refine lv_aload_n F.1 F.2.1 dX7_run_0 rfl (lv_at hl 0 rfl) ?_
  refine xg_DoFinder_library F hW tm_180 dX7_run_1 ?_
  refine lv_iload_n F.1 F.2.1 dX7_run_4 rfl (lv_at hl 1 rfl) ?_
  refine lv_iload_n F.1 F.2.1 dX7_run_5 rfl (lv_at hl 2 rfl) ?_
  refine lv_iload_n F.1 F.2.1 dX7_run_6 rfl (lv_at hl 3 rfl) ?_
  refine xca_l (b := (xga G 1)) (As := [.int x, .int a, .int b]) (rest := []) F (c_X1_outcome_no l G M P S V hn x a b hx) (xcw F.2.2.2.2 ca_X1_outcome tm_258 rfl rfl ⟨by decide, by decide⟩) (xr_X1 hW) hW rfl hl.1 rfl (Nat.le_of_ble_eq_true rfl) dX7_run_7 (fun r7 u7 H locs hp7 hW => ?_)
  obtain ⟨rfl, rfl⟩ := hp7
  have hW : xW G s s.heap H locs M P S V := hW
  refine xre_l F hr hlk hW dX7_run_10 ?_
  exact ⟨rfl, _, rfl⟩
theorem dX7_fuel_0 : decode cX7_fuel 0 = .ok (.aload_n 0, 1) := by decide +kernel
theorem dX7_fuel_1 : decode cX7_fuel 1 = .ok (.getfield 19, 3) := by decide +kernel
theorem dX7_fuel_4 : decode cX7_fuel 4 = .ok (.iload_n 1, 1) := by decide +kernel
theorem dX7_fuel_5 : decode cX7_fuel 5 = .ok (.invokevirtual 69, 3) := by decide +kernel
theorem dX7_fuel_8 : decode cX7_fuel 8 = .ok (.ifCond .ne 5, 3) := by decide +kernel
theorem dX7_fuel_11 : decode cX7_fuel 11 = .ok (.iconst (-1), 1) := by decide +kernel
theorem dX7_fuel_12 : decode cX7_fuel 12 = .ok (.ireturn, 1) := by decide +kernel
theorem dX7_fuel_13 : decode cX7_fuel 13 = .ok (.aload_n 0, 1) := by decide +kernel
theorem dX7_fuel_14 : decode cX7_fuel 14 = .ok (.getfield 19, 3) := by decide +kernel
theorem dX7_fuel_17 : decode cX7_fuel 17 = .ok (.iload_n 1, 1) := by decide +kernel
theorem dX7_fuel_18 : decode cX7_fuel 18 = .ok (.iload_n 2, 1) := by decide +kernel
theorem dX7_fuel_19 : decode cX7_fuel 19 = .ok (.iload_n 3, 1) := by decide +kernel
theorem dX7_fuel_20 : decode cX7_fuel 20 = .ok (.invokevirtual 90, 3) := by decide +kernel
theorem dX7_fuel_23 : decode cX7_fuel 23 = .ok (.pop2, 1) := by decide +kernel
theorem dX7_fuel_24 : decode cX7_fuel 24 = .ok (.aload_n 0, 1) := by decide +kernel
theorem dX7_fuel_25 : decode cX7_fuel 25 = .ok (.getfield 19, 3) := by decide +kernel
theorem dX7_fuel_28 : decode cX7_fuel 28 = .ok (.getfield 94, 3) := by decide +kernel
theorem dX7_fuel_31 : decode cX7_fuel 31 = .ok (.ireturn, 1) := by decide +kernel
set_option maxHeartbeats 4000000 in
set_option maxRecDepth 100000 in
theorem c_X7_fuel (l : Launch) (G : XG) (M : XM) (P : XP) (S : XS) (V : XV) (hn : M.1 ≤ 12) (hrc : ∀ r, r < M.1 → M.2.2.1 r ≤ 12) (hra : ∀ r, r < M.1 → M.2.2.2.1 r = 1 ∨ M.2.2.2.1 r = 2) (hf : M.2.1 ≤ 200) (x a b : Int32) : Met l yX7_fuel (wC yX7_fuel cX7_fuel 4 (some .int)) (rmD 2) (xPc G [.ref (xga G 0), .int x, .int a, .int b] M P S V) (va_Qi (fun v u => ((¬ zin M.1 x ∧ v = (-1)) ∨ (zin M.1 x ∧ v = nI (zuse M.2.1 (M.2.2.1 x.toInt.toNat) (M.2.2.2.2.1 x.toInt.toNat) a b))) ∧ ∃ P2 : XP, u = (M, P2, S, V)) (xB G) (xA G)) 0 0 (xA G) := by
  refine xst "DoFinder" (by decide) rfl (Nat.le_of_ble_eq_true rfl) ?_
  intro p e s m args below meth c ls F hr hlk hW hl
  have hl : lv_has ls 4 [(0, .ref (xga G 0)), (1, .int x), (2, .int a), (3, .int b)] := hl
  have hW : xW G s s.heap s.heap [] M P S V := hW
  have b_x := i32b x
  have b_a := i32b a
  have b_b := i32b b
  refine lv_aload_n F.1 F.2.1 dX7_fuel_0 rfl (lv_at hl 0 rfl) ?_
  refine xg_DoFinder_library F hW tm_180 dX7_fuel_1 ?_
  refine lv_iload_n F.1 F.2.1 dX7_fuel_4 rfl (lv_at hl 1 rfl) ?_
  refine xca_i (b := (xga G 1)) (As := [.int x]) (rest := []) F (c_X1_has l G M P S V hn x) (xcw F.2.2.2.2 ca_X1_has tm_244 rfl rfl ⟨by decide, by decide⟩) (xr_X1 hW) hW rfl hl.1 rfl (Nat.le_of_ble_eq_true rfl) dX7_fuel_5 (fun r5 u5 H locs hp5 hW => ?_)
  obtain ⟨hp5, rfl⟩ := hp5
  have hW : xW G s s.heap H locs M P S V := hW
  rcases hp5 with ⟨rfl, y5⟩ | ⟨rfl, y5⟩
  · skip
    obtain ⟨r, hn_r, hm_r, rfl⟩ := argN (x := x) (by omega)
    have e_r : (nI r).toInt.toNat = r := by omega
    have i_r : r < M.1 := by omega
    have hl : lv_has ls 4 [(0, .ref (xga G 0)), (1, .int (nI r)), (2, .int a), (3, .int b)] := hl
    refine lv_if_ne (tgt := 13) F.1 F.2.1 dX7_fuel_8 (by decide) (fun _ => ?_) (fun q => absurd q (by decide))
    refine lv_aload_n F.1 F.2.1 dX7_fuel_13 rfl (lv_at hl 0 rfl) ?_
    refine xg_DoFinder_library F hW tm_180 dX7_fuel_14 ?_
    refine lv_iload_n F.1 F.2.1 dX7_fuel_17 rfl (lv_at hl 1 rfl) ?_
    refine lv_iload_n F.1 F.2.1 dX7_fuel_18 rfl (lv_at hl 2 rfl) ?_
    refine lv_iload_n F.1 F.2.1 dX7_fuel_19 rfl (lv_at hl 3 rfl) ?_
    refine xca_l (b := (xga G 1)) (As := [.int (nI r), .int a, .int b]) (rest := []) F (c_X1_outcome l G M P S V hn r i_r (hrc r i_r) hf a b) (xcw F.2.2.2.2 ca_X1_outcome tm_258 rfl rfl ⟨by decide, by decide⟩) (xr_X1 hW) hW rfl hl.1 rfl (Nat.le_of_ble_eq_true rfl) dX7_fuel_20 (fun r20 u20 H locs hp20 hW => ?_)
    obtain ⟨rfl, P20, rfl, e20⟩ := hp20
    have hW : xW G s s.heap H locs M P20 S V := hW
    refine lv_pop2_2 F.1 F.2.1 dX7_fuel_23 rfl ?_
    refine lv_aload_n F.1 F.2.1 dX7_fuel_24 rfl (lv_at hl 0 rfl) ?_
    refine xg_DoFinder_library F hW tm_180 dX7_fuel_25 ?_
    refine xg_Library_done F hW tm_78 dX7_fuel_28 ?_
    refine ax_re (show nI P20.1 = nI (zuse M.2.1 (M.2.2.1 r) (M.2.2.2.2.1 r) a b) from congrArg nI e20) ?_
    refine xre_i F hr hlk hW dX7_fuel_31 ?_
    exact ⟨Or.inr ⟨by unfold zin; omega, by rw [e_r]⟩, _, rfl⟩
  · skip
    refine lv_if_ne (tgt := 13) F.1 F.2.1 dX7_fuel_8 (by decide) (fun q => absurd q (by decide)) (fun _ => ?_)
    refine lv_iconst (v := (-1)) F.1 F.2.1 dX7_fuel_11 (by decide) ?_
    refine xre_i F hr hlk hW dX7_fuel_12 ?_
    exact ⟨Or.inl ⟨by unfold zin; omega, rfl⟩, _, rfl⟩
theorem dX7_limit_0 : decode cX7_limit 0 = .ok (.iload_n 1, 1) := by decide +kernel
theorem dX7_limit_1 : decode cX7_limit 1 = .ok (.iconst 1, 1) := by decide +kernel
theorem dX7_limit_2 : decode cX7_limit 2 = .ok (.if_icmp .lt 10, 3) := by decide +kernel
theorem dX7_limit_5 : decode cX7_limit 5 = .ok (.iload_n 1, 1) := by decide +kernel
theorem dX7_limit_6 : decode cX7_limit 6 = .ok (.sipush 200, 3) := by decide +kernel
theorem dX7_limit_9 : decode cX7_limit 9 = .ok (.if_icmp .le 5, 3) := by decide +kernel
theorem dX7_limit_12 : decode cX7_limit 12 = .ok (.iconst (-1), 1) := by decide +kernel
theorem dX7_limit_13 : decode cX7_limit 13 = .ok (.ireturn, 1) := by decide +kernel
theorem dX7_limit_14 : decode cX7_limit 14 = .ok (.aload_n 0, 1) := by decide +kernel
theorem dX7_limit_15 : decode cX7_limit 15 = .ok (.getfield 19, 3) := by decide +kernel
theorem dX7_limit_18 : decode cX7_limit 18 = .ok (.getfield 97, 3) := by decide +kernel
theorem dX7_limit_21 : decode cX7_limit 21 = .ok (.istore_n 2, 1) := by decide +kernel
theorem dX7_limit_22 : decode cX7_limit 22 = .ok (.aload_n 0, 1) := by decide +kernel
theorem dX7_limit_23 : decode cX7_limit 23 = .ok (.getfield 19, 3) := by decide +kernel
theorem dX7_limit_26 : decode cX7_limit 26 = .ok (.iload_n 1, 1) := by decide +kernel
theorem dX7_limit_27 : decode cX7_limit 27 = .ok (.putfield 97, 3) := by decide +kernel
theorem dX7_limit_30 : decode cX7_limit 30 = .ok (.iload_n 2, 1) := by decide +kernel
theorem dX7_limit_31 : decode cX7_limit 31 = .ok (.ireturn, 1) := by decide +kernel
set_option maxHeartbeats 4000000 in
set_option maxRecDepth 100000 in
theorem c_X7_limit (l : Launch) (G : XG) (M : XM) (P : XP) (S : XS) (V : XV) (hf : M.2.1 ≤ 200) (x : Int32) : Met l yX7_limit (wC yX7_limit cX7_limit 3 (some .int)) (rmD 0) (xPc G [.ref (xga G 0), .int x] M P S V) (va_Qi (fun r u => (¬ (1 ≤ x.toInt ∧ x.toInt ≤ 200) ∧ r = (-1) ∧ u = (M, P, S, V)) ∨ ((1 ≤ x.toInt ∧ x.toInt ≤ 200) ∧ r = nI M.2.1 ∧ u = ((M.1, x.toInt.toNat, M.2.2.1, M.2.2.2.1, M.2.2.2.2.1, M.2.2.2.2.2.1, M.2.2.2.2.2.2.1, M.2.2.2.2.2.2.2.1, M.2.2.2.2.2.2.2.2.1, M.2.2.2.2.2.2.2.2.2), P, S, V))) (xB G) (xA G)) 0 0 (xA G) := by
  refine xst "DoFinder" (by decide) rfl (Nat.le_of_ble_eq_true rfl) ?_
  intro p e s m args below meth c ls F hr hlk hW hl
  have hl : lv_has ls 3 [(0, .ref (xga G 0)), (1, .int x)] := hl
  have hW : xW G s s.heap s.heap [] M P S V := hW
  have b_x := i32b x
  refine lv_iload_n F.1 F.2.1 dX7_limit_0 rfl (lv_at hl 1 rfl) ?_
  refine lv_iconst (v := nI 1) F.1 F.2.1 dX7_limit_1 (by decide) ?_
  refine lv_icmp_lt (tgt := 12) F.1 F.2.1 dX7_limit_2 (by decide) (fun c2 => ?_) (fun c2 => ?_)
  · have c2 := ci_lt (a := x.toInt) (b := 1) rfl (by decide) c2
    refine lv_iconst (v := (-1)) F.1 F.2.1 dX7_limit_12 (by decide) ?_
    refine xre_i F hr hlk hW dX7_limit_13 ?_
    first | exact Or.inl ⟨by omega, rfl, rfl⟩ | exact Or.inr ⟨by omega, rfl, rfl⟩
  · have c2 := ci_nlt (a := x.toInt) (b := 1) rfl (by decide) c2
    refine lv_iload_n F.1 F.2.1 dX7_limit_5 rfl (lv_at hl 1 rfl) ?_
    refine lv_sipush (v := nI 200) F.1 F.2.1 dX7_limit_6 (by decide) ?_
    refine lv_icmp_le (tgt := 14) F.1 F.2.1 dX7_limit_9 (by decide) (fun c9 => ?_) (fun c9 => ?_)
    · have c9 := ci_le (a := x.toInt) (b := 200) rfl (by decide) c9
      refine lv_aload_n F.1 F.2.1 dX7_limit_14 rfl (lv_at hl 0 rfl) ?_
      refine xg_DoFinder_library F hW tm_180 dX7_limit_15 ?_
      refine xg_Library_fuel F hW tm_76 dX7_limit_18 ?_
      refine lv_istore_n (lv' := [(2, .int (nI M.2.1)), (0, .ref (xga G 0)), (1, .int x)]) F.1 F.2.1 dX7_limit_21 rfl hl (by decide) rfl (fun ls hl => ?_)
      refine lv_aload_n F.1 F.2.1 dX7_limit_22 rfl (lv_at hl 1 rfl) ?_
      refine xg_DoFinder_library F hW tm_180 dX7_limit_23 ?_
      refine lv_iload_n F.1 F.2.1 dX7_limit_26 rfl (lv_at hl 2 rfl) ?_
      refine xp_Library_fuel (k := x.toInt.toNat) F hW tm_76 (ix_of (by omega)) dX7_limit_27 (fun H locs hW => ?_)
      have hW : xW G s s.heap H locs (M.1, x.toInt.toNat, M.2.2.1, M.2.2.2.1, M.2.2.2.2.1, M.2.2.2.2.2.1, M.2.2.2.2.2.2.1, M.2.2.2.2.2.2.2.1, M.2.2.2.2.2.2.2.2.1, M.2.2.2.2.2.2.2.2.2) P S V := hW
      refine lv_iload_n F.1 F.2.1 dX7_limit_30 rfl (lv_at hl 0 rfl) ?_
      refine xre_i F hr hlk hW dX7_limit_31 ?_
      first | exact Or.inl ⟨by omega, rfl, rfl⟩ | exact Or.inr ⟨by omega, rfl, rfl⟩
    · have c9 := ci_nle (a := x.toInt) (b := 200) rfl (by decide) c9
      refine lv_iconst (v := (-1)) F.1 F.2.1 dX7_limit_12 (by decide) ?_
      refine xre_i F hr hlk hW dX7_limit_13 ?_
      first | exact Or.inl ⟨by omega, rfl, rfl⟩ | exact Or.inr ⟨by omega, rfl, rfl⟩
theorem dX7_ask_0 : decode cX7_ask 0 = .ok (.iload_n 1, 1) := by decide +kernel
theorem dX7_ask_1 : decode cX7_ask 1 = .ok (.invokestatic 59, 3) := by decide +kernel
theorem dX7_ask_4 : decode cX7_ask 4 = .ok (.ifCond .ne 5, 3) := by decide +kernel
theorem dX7_ask_7 : decode cX7_ask 7 = .ok (.iconst (-1), 1) := by decide +kernel
theorem dX7_ask_8 : decode cX7_ask 8 = .ok (.ireturn, 1) := by decide +kernel
theorem dX7_ask_9 : decode cX7_ask 9 = .ok (.aload_n 0, 1) := by decide +kernel
theorem dX7_ask_10 : decode cX7_ask 10 = .ok (.getfield 26, 3) := by decide +kernel
theorem dX7_ask_13 : decode cX7_ask 13 = .ok (.getfield 100, 3) := by decide +kernel
theorem dX7_ask_16 : decode cX7_ask 16 = .ok (.istore_n 2, 1) := by decide +kernel
theorem dX7_ask_17 : decode cX7_ask 17 = .ok (.aload_n 0, 1) := by decide +kernel
theorem dX7_ask_18 : decode cX7_ask 18 = .ok (.getfield 26, 3) := by decide +kernel
theorem dX7_ask_21 : decode cX7_ask 21 = .ok (.iload_n 1, 1) := by decide +kernel
theorem dX7_ask_22 : decode cX7_ask 22 = .ok (.invokevirtual 101, 3) := by decide +kernel
theorem dX7_ask_25 : decode cX7_ask 25 = .ok (.iload_n 2, 1) := by decide +kernel
theorem dX7_ask_26 : decode cX7_ask 26 = .ok (.ireturn, 1) := by decide +kernel
set_option maxHeartbeats 4000000 in
set_option maxRecDepth 100000 in
theorem c_X7_ask (l : Launch) (G : XG) (M : XM) (P : XP) (S : XS) (V : XV) (hac : M.2.2.2.2.2.1 ≤ 8) (x : Int32) : Met l yX7_ask (wC yX7_ask cX7_ask 3 (some .int)) (rmD 1) (xPc G [.ref (xga G 0), .int x] M P S V) (va_Qi (fun r u => (¬ (x.toInt = 1 ∨ x.toInt = 2) ∧ r = (-1) ∧ u = (M, P, S, V)) ∨ ((x.toInt = 1 ∨ x.toInt = 2) ∧ r = nI M.2.2.2.2.2.1 ∧ u = ((M.1, M.2.1, M.2.2.1, M.2.2.2.1, M.2.2.2.2.1, 0, x.toInt.toNat, M.2.2.2.2.2.2.2.1, M.2.2.2.2.2.2.2.2.1, M.2.2.2.2.2.2.2.2.2), P, S, V))) (xB G) (xA G)) 0 0 (xA G) := by
  refine xst "DoFinder" (by decide) rfl (Nat.le_of_ble_eq_true rfl) ?_
  intro p e s m args below meth c ls F hr hlk hW hl
  have hl : lv_has ls 3 [(0, .ref (xga G 0)), (1, .int x)] := hl
  have hW : xW G s s.heap s.heap [] M P S V := hW
  have b_x := i32b x
  refine lv_iload_n F.1 F.2.1 dX7_ask_0 rfl (lv_at hl 1 rfl) ?_
  refine pca (As := [.int x]) (rest := []) F (c_X7_isArguments l x) (xcwS F.2.2.2.2 ca_X7_isArguments tm_214 rfl rfl ⟨by decide, by decide⟩) rfl hl.1 rfl (Nat.le_of_ble_eq_true rfl) dX7_ask_1 (fun r1 hr1 => ?_)
  rcases hr1 with ⟨rfl, y1⟩ | ⟨rfl, y1⟩
  · skip
    obtain ⟨t, ht, rfl⟩ := arg12 y1
    have et : (nI t).toInt.toNat = t := by rw [nI_toInt (by omega)]; omega
    have et2 : (nI t).toInt = (t : Int) := nI_toInt (by omega)
    have hl : lv_has ls 3 [(0, .ref (xga G 0)), (1, .int (nI t))] := hl
    refine lv_if_ne (tgt := 9) F.1 F.2.1 dX7_ask_4 (by decide) (fun _ => ?_) (fun q => absurd q (by decide))
    refine lv_aload_n F.1 F.2.1 dX7_ask_9 rfl (lv_at hl 0 rfl) ?_
    refine xg_DoFinder_asked F hW tm_181 dX7_ask_10 ?_
    refine xg_Ask_count F hW tm_104 dX7_ask_13 ?_
    refine lv_istore_n (lv' := [(2, .int (nI M.2.2.2.2.2.1)), (0, .ref (xga G 0)), (1, .int (nI t))]) F.1 F.2.1 dX7_ask_16 rfl hl (by decide) rfl (fun ls hl => ?_)
    refine lv_aload_n F.1 F.2.1 dX7_ask_17 rfl (lv_at hl 1 rfl) ?_
    refine xg_DoFinder_asked F hW tm_181 dX7_ask_18 ?_
    refine lv_iload_n F.1 F.2.1 dX7_ask_21 rfl (lv_at hl 2 rfl) ?_
    refine xca_v (b := (xga G 2)) (As := [.int (nI t)]) (rest := []) F (c_X0_begin l G M.1 M.2.1 M.2.2.1 M.2.2.2.1 M.2.2.2.2.1 M.2.2.2.2.2.1 M.2.2.2.2.2.2.1 M.2.2.2.2.2.2.2.1 M.2.2.2.2.2.2.2.2.1 M.2.2.2.2.2.2.2.2.2 P S V t) (xcw F.2.2.2.2 ca_X0_begin tm_306 rfl rfl ⟨by decide, by decide⟩) (xr_X0 hW) hW rfl hl.1 rfl (Nat.le_of_ble_eq_true rfl) dX7_ask_22 (fun u22 H locs hp22 hW => ?_)
    obtain rfl := hp22
    have hW : xW G s s.heap H locs (M.1, M.2.1, M.2.2.1, M.2.2.2.1, M.2.2.2.2.1, 0, t, M.2.2.2.2.2.2.2.1, M.2.2.2.2.2.2.2.2.1, M.2.2.2.2.2.2.2.2.2) P S V := hW
    refine lv_iload_n F.1 F.2.1 dX7_ask_25 rfl (lv_at hl 0 rfl) ?_
    refine xre_i F hr hlk hW dX7_ask_26 ?_
    exact Or.inr ⟨y1, rfl, by rw [et]⟩
  · skip
    refine lv_if_ne (tgt := 9) F.1 F.2.1 dX7_ask_4 (by decide) (fun q => absurd q (by decide)) (fun _ => ?_)
    refine lv_iconst (v := (-1)) F.1 F.2.1 dX7_ask_7 (by decide) ?_
    refine xre_i F hr hlk hW dX7_ask_8 ?_
    exact Or.inl ⟨y1, rfl, rfl⟩
theorem dX7_show_0 : decode cX7_show 0 = .ok (.aload_n 0, 1) := by decide +kernel
theorem dX7_show_1 : decode cX7_show 1 = .ok (.getfield 26, 3) := by decide +kernel
theorem dX7_show_4 : decode cX7_show 4 = .ok (.iload_n 1, 1) := by decide +kernel
theorem dX7_show_5 : decode cX7_show 5 = .ok (.iload_n 2, 1) := by decide +kernel
theorem dX7_show_6 : decode cX7_show 6 = .ok (.iload_n 3, 1) := by decide +kernel
theorem dX7_show_7 : decode cX7_show 7 = .ok (.i2l, 1) := by decide +kernel
theorem dX7_show_8 : decode cX7_show 8 = .ok (.invokevirtual 105, 3) := by decide +kernel
theorem dX7_show_11 : decode cX7_show 11 = .ok (.ireturn, 1) := by decide +kernel
set_option maxHeartbeats 4000000 in
set_option maxRecDepth 100000 in
theorem c_X7_show (l : Launch) (G : XG) (M : XM) (P : XP) (S : XS) (V : XV) (hac : M.2.2.2.2.2.1 ≤ 8) (haa : M.2.2.2.2.2.2.1 = 1 ∨ M.2.2.2.2.2.2.1 = 2) (a b x : Int32) : Met l yX7_show (wC yX7_show cX7_show 4 (some .int)) (rmD 1) (xPc G [.ref (xga G 0), .int a, .int b, .int x] M P S V) (va_Qi (fun r u => (M.2.2.2.2.2.1 < 8 ∧ r = nI M.2.2.2.2.2.1 ∧ u = ((M.1, M.2.1, M.2.2.1, M.2.2.2.1, M.2.2.2.2.1, M.2.2.2.2.2.1 + 1, M.2.2.2.2.2.2.1, upd M.2.2.2.2.2.2.2.1 M.2.2.2.2.2.1 a, upd M.2.2.2.2.2.2.2.2.1 M.2.2.2.2.2.1 (if M.2.2.2.2.2.2.1 = 1 then nI 0 else b), vp_updL M.2.2.2.2.2.2.2.2.2 M.2.2.2.2.2.1 x.toInt64), P, S, V)) ∨ (¬ M.2.2.2.2.2.1 < 8 ∧ r = (-2) ∧ u = (M, P, S, V))) (xB G) (xA G)) 0 0 (xA G) := by
  refine xst "DoFinder" (by decide) rfl (Nat.le_of_ble_eq_true rfl) ?_
  intro p e s m args below meth c ls F hr hlk hW hl
  have hl : lv_has ls 4 [(0, .ref (xga G 0)), (1, .int a), (2, .int b), (3, .int x)] := hl
  have hW : xW G s s.heap s.heap [] M P S V := hW
  have b_a := i32b a
  have b_b := i32b b
  have b_x := i32b x
  refine lv_aload_n F.1 F.2.1 dX7_show_0 rfl (lv_at hl 0 rfl) ?_
  refine xg_DoFinder_asked F hW tm_181 dX7_show_1 ?_
  refine lv_iload_n F.1 F.2.1 dX7_show_4 rfl (lv_at hl 1 rfl) ?_
  refine lv_iload_n F.1 F.2.1 dX7_show_5 rfl (lv_at hl 2 rfl) ?_
  refine lv_iload_n F.1 F.2.1 dX7_show_6 rfl (lv_at hl 3 rfl) ?_
  refine lv_i2l F.1 F.2.1 dX7_show_7 rfl ?_
  refine xca_i (b := (xga G 2)) (As := [.int a, .int b, .long ((x).toInt64)]) (rest := []) F (c_X0_append l G M.1 M.2.1 M.2.2.1 M.2.2.2.1 M.2.2.2.2.1 M.2.2.2.2.2.1 M.2.2.2.2.2.2.1 M.2.2.2.2.2.2.2.1 M.2.2.2.2.2.2.2.2.1 M.2.2.2.2.2.2.2.2.2 P S V (by omega) (by omega) a b ((x).toInt64)) (xcw F.2.2.2.2 ca_X0_append tm_314 rfl rfl ⟨by decide, by decide⟩) (xr_X0 hW) hW rfl hl.1 rfl (Nat.le_of_ble_eq_true rfl) dX7_show_8 (fun r8 u8 H locs hp8 hW => ?_)
  rcases hp8 with ⟨y8, rfl, rfl⟩ | ⟨y8, rfl, rfl⟩
  · skip
    have hW : xW G s s.heap H locs (M.1, M.2.1, M.2.2.1, M.2.2.2.1, M.2.2.2.2.1, M.2.2.2.2.2.1 + 1, M.2.2.2.2.2.2.1, upd M.2.2.2.2.2.2.2.1 M.2.2.2.2.2.1 a, upd M.2.2.2.2.2.2.2.2.1 M.2.2.2.2.2.1 (if M.2.2.2.2.2.2.1 = 1 then nI 0 else b), vp_updL M.2.2.2.2.2.2.2.2.2 M.2.2.2.2.2.1 ((x).toInt64)) P S V := hW
    refine xre_i F hr hlk hW dX7_show_11 ?_
    first | exact Or.inl ⟨by omega, rfl, rfl⟩ | exact Or.inr ⟨by omega, rfl, rfl⟩
  · skip
    have hW : xW G s s.heap H locs M P S V := hW
    refine xre_i F hr hlk hW dX7_show_11 ?_
    first | exact Or.inl ⟨by omega, rfl, rfl⟩ | exact Or.inr ⟨by omega, rfl, rfl⟩
theorem dX7_leave_0 : decode cX7_leave 0 = .ok (.aload_n 0, 1) := by decide +kernel
theorem dX7_leave_1 : decode cX7_leave 1 = .ok (.getfield 26, 3) := by decide +kernel
theorem dX7_leave_4 : decode cX7_leave 4 = .ok (.iload_n 1, 1) := by decide +kernel
theorem dX7_leave_5 : decode cX7_leave 5 = .ok (.iload_n 2, 1) := by decide +kernel
theorem dX7_leave_6 : decode cX7_leave 6 = .ok (.iload_n 3, 1) := by decide +kernel
theorem dX7_leave_7 : decode cX7_leave 7 = .ok (.ifCond .eq 9, 3) := by decide +kernel
theorem dX7_leave_10 : decode cX7_leave 10 = .ok (.ldc2_w 108, 3) := by decide +kernel
theorem dX7_leave_13 : decode cX7_leave 13 = .ok (.goto 6, 3) := by decide +kernel
theorem dX7_leave_16 : decode cX7_leave 16 = .ok (.ldc2_w 110, 3) := by decide +kernel
theorem dX7_leave_19 : decode cX7_leave 19 = .ok (.invokevirtual 105, 3) := by decide +kernel
theorem dX7_leave_22 : decode cX7_leave 22 = .ok (.ireturn, 1) := by decide +kernel
set_option maxHeartbeats 4000000 in
set_option maxRecDepth 100000 in
theorem c_X7_leave (l : Launch) (G : XG) (M : XM) (P : XP) (S : XS) (V : XV) (hac : M.2.2.2.2.2.1 ≤ 8) (haa : M.2.2.2.2.2.2.1 = 1 ∨ M.2.2.2.2.2.2.1 = 2) (a b : Int32) (f : Nat) (hf : f < 2) : Met l yX7_leave (wC yX7_leave cX7_leave 4 (some .int)) (rmD 1) (xPc G [.ref (xga G 0), .int a, .int b, .int (nI f)] M P S V) (va_Qi (fun r u => (M.2.2.2.2.2.1 < 8 ∧ r = nI M.2.2.2.2.2.1 ∧ u = ((M.1, M.2.1, M.2.2.1, M.2.2.2.1, M.2.2.2.2.1, M.2.2.2.2.2.1 + 1, M.2.2.2.2.2.2.1, upd M.2.2.2.2.2.2.2.1 M.2.2.2.2.2.1 a, upd M.2.2.2.2.2.2.2.2.1 M.2.2.2.2.2.1 (if M.2.2.2.2.2.2.1 = 1 then nI 0 else b), vp_updL M.2.2.2.2.2.2.2.2.2 M.2.2.2.2.2.1 (if f = 0 then zBAD else zANY)), P, S, V)) ∨ (¬ M.2.2.2.2.2.1 < 8 ∧ r = (-2) ∧ u = (M, P, S, V))) (xB G) (xA G)) 0 0 (xA G) := by
  refine xst "DoFinder" (by decide) rfl (Nat.le_of_ble_eq_true rfl) ?_
  intro p e s m args below meth c ls F hr hlk hW hl
  have hl : lv_has ls 4 [(0, .ref (xga G 0)), (1, .int a), (2, .int b), (3, .int (nI f))] := hl
  have hW : xW G s s.heap s.heap [] M P S V := hW
  have b_a := i32b a
  have b_b := i32b b
  refine lv_aload_n F.1 F.2.1 dX7_leave_0 rfl (lv_at hl 0 rfl) ?_
  refine xg_DoFinder_asked F hW tm_181 dX7_leave_1 ?_
  refine lv_iload_n F.1 F.2.1 dX7_leave_4 rfl (lv_at hl 1 rfl) ?_
  refine lv_iload_n F.1 F.2.1 dX7_leave_5 rfl (lv_at hl 2 rfl) ?_
  refine lv_iload_n F.1 F.2.1 dX7_leave_6 rfl (lv_at hl 3 rfl) ?_
  refine lv_if_eq (tgt := 16) F.1 F.2.1 dX7_leave_7 (by decide) (fun c7 => ?_) (fun c7 => ?_)
  · have c7 := ci_eq (a := ((f : Nat) : Int)) (b := 0) (nI_toInt (by omega)) ci_0 c7
    refine lv_ldc2 (v := zBAD) F.1 F.2.1 F.2.2.2.1 (F.2.2.2.2 _ tm_323) dX7_leave_16 ?_
    refine xca_i (b := (xga G 2)) (As := [.int a, .int b, .long zBAD]) (rest := []) F (c_X0_append l G M.1 M.2.1 M.2.2.1 M.2.2.2.1 M.2.2.2.2.1 M.2.2.2.2.2.1 M.2.2.2.2.2.2.1 M.2.2.2.2.2.2.2.1 M.2.2.2.2.2.2.2.2.1 M.2.2.2.2.2.2.2.2.2 P S V (by omega) (by omega) a b zBAD) (xcw F.2.2.2.2 ca_X0_append tm_314 rfl rfl ⟨by decide, by decide⟩) (xr_X0 hW) hW rfl hl.1 rfl (Nat.le_of_ble_eq_true rfl) dX7_leave_19 (fun r19 u19 H locs hp19 hW => ?_)
    rcases hp19 with ⟨y19, rfl, rfl⟩ | ⟨y19, rfl, rfl⟩
    · skip
      have hW : xW G s s.heap H locs (M.1, M.2.1, M.2.2.1, M.2.2.2.1, M.2.2.2.2.1, M.2.2.2.2.2.1 + 1, M.2.2.2.2.2.2.1, upd M.2.2.2.2.2.2.2.1 M.2.2.2.2.2.1 a, upd M.2.2.2.2.2.2.2.2.1 M.2.2.2.2.2.1 (if M.2.2.2.2.2.2.1 = 1 then nI 0 else b), vp_updL M.2.2.2.2.2.2.2.2.2 M.2.2.2.2.2.1 zBAD) P S V := hW
      refine xre_i F hr hlk hW dX7_leave_22 ?_
      first | rw [show (if f = 0 then zBAD else zANY) = zBAD from if_pos (by omega)] | rw [show (if f = 0 then zBAD else zANY) = zANY from if_neg (by omega)]
      first | exact Or.inl ⟨by omega, rfl, rfl⟩ | exact Or.inr ⟨by omega, rfl, rfl⟩
    · skip
      have hW : xW G s s.heap H locs M P S V := hW
      refine xre_i F hr hlk hW dX7_leave_22 ?_
      first | rw [show (if f = 0 then zBAD else zANY) = zBAD from if_pos (by omega)] | rw [show (if f = 0 then zBAD else zANY) = zANY from if_neg (by omega)]
      first | exact Or.inl ⟨by omega, rfl, rfl⟩ | exact Or.inr ⟨by omega, rfl, rfl⟩
  · have c7 := ci_ne (a := ((f : Nat) : Int)) (b := 0) (nI_toInt (by omega)) ci_0 c7
    refine lv_ldc2 (v := zANY) F.1 F.2.1 F.2.2.2.1 (F.2.2.2.2 _ tm_322) dX7_leave_10 ?_
    refine lv_goto (tgt := 19) F.1 F.2.1 dX7_leave_13 (by decide) ?_
    refine xca_i (b := (xga G 2)) (As := [.int a, .int b, .long zANY]) (rest := []) F (c_X0_append l G M.1 M.2.1 M.2.2.1 M.2.2.2.1 M.2.2.2.2.1 M.2.2.2.2.2.1 M.2.2.2.2.2.2.1 M.2.2.2.2.2.2.2.1 M.2.2.2.2.2.2.2.2.1 M.2.2.2.2.2.2.2.2.2 P S V (by omega) (by omega) a b zANY) (xcw F.2.2.2.2 ca_X0_append tm_314 rfl rfl ⟨by decide, by decide⟩) (xr_X0 hW) hW rfl hl.1 rfl (Nat.le_of_ble_eq_true rfl) dX7_leave_19 (fun r19 u19 H locs hp19 hW => ?_)
    rcases hp19 with ⟨y19, rfl, rfl⟩ | ⟨y19, rfl, rfl⟩
    · skip
      have hW : xW G s s.heap H locs (M.1, M.2.1, M.2.2.1, M.2.2.2.1, M.2.2.2.2.1, M.2.2.2.2.2.1 + 1, M.2.2.2.2.2.2.1, upd M.2.2.2.2.2.2.2.1 M.2.2.2.2.2.1 a, upd M.2.2.2.2.2.2.2.2.1 M.2.2.2.2.2.1 (if M.2.2.2.2.2.2.1 = 1 then nI 0 else b), vp_updL M.2.2.2.2.2.2.2.2.2 M.2.2.2.2.2.1 zANY) P S V := hW
      refine xre_i F hr hlk hW dX7_leave_22 ?_
      first | rw [show (if f = 0 then zBAD else zANY) = zBAD from if_pos (by omega)] | rw [show (if f = 0 then zBAD else zANY) = zANY from if_neg (by omega)]
      first | exact Or.inl ⟨by omega, rfl, rfl⟩ | exact Or.inr ⟨by omega, rfl, rfl⟩
    · skip
      have hW : xW G s s.heap H locs M P S V := hW
      refine xre_i F hr hlk hW dX7_leave_22 ?_
      first | rw [show (if f = 0 then zBAD else zANY) = zBAD from if_pos (by omega)] | rw [show (if f = 0 then zBAD else zANY) = zANY from if_neg (by omega)]
      first | exact Or.inl ⟨by omega, rfl, rfl⟩ | exact Or.inr ⟨by omega, rfl, rfl⟩
theorem dX7_drop_0 : decode cX7_drop 0 = .ok (.aload_n 0, 1) := by decide +kernel
theorem dX7_drop_1 : decode cX7_drop 1 = .ok (.getfield 26, 3) := by decide +kernel
theorem dX7_drop_4 : decode cX7_drop 4 = .ok (.getfield 100, 3) := by decide +kernel
theorem dX7_drop_7 : decode cX7_drop 7 = .ok (.ifCond .ne 6, 3) := by decide +kernel
theorem dX7_drop_10 : decode cX7_drop 10 = .ok (.bipush (-3), 2) := by decide +kernel
theorem dX7_drop_12 : decode cX7_drop 12 = .ok (.ireturn, 1) := by decide +kernel
theorem dX7_drop_13 : decode cX7_drop 13 = .ok (.aload_n 0, 1) := by decide +kernel
theorem dX7_drop_14 : decode cX7_drop 14 = .ok (.getfield 26, 3) := by decide +kernel
theorem dX7_drop_17 : decode cX7_drop 17 = .ok (.dup, 1) := by decide +kernel
theorem dX7_drop_18 : decode cX7_drop 18 = .ok (.getfield 100, 3) := by decide +kernel
theorem dX7_drop_21 : decode cX7_drop 21 = .ok (.iconst 1, 1) := by decide +kernel
theorem dX7_drop_22 : decode cX7_drop 22 = .ok (.isub, 1) := by decide +kernel
theorem dX7_drop_23 : decode cX7_drop 23 = .ok (.putfield 100, 3) := by decide +kernel
theorem dX7_drop_26 : decode cX7_drop 26 = .ok (.aload_n 0, 1) := by decide +kernel
theorem dX7_drop_27 : decode cX7_drop 27 = .ok (.getfield 26, 3) := by decide +kernel
theorem dX7_drop_30 : decode cX7_drop 30 = .ok (.getfield 100, 3) := by decide +kernel
theorem dX7_drop_33 : decode cX7_drop 33 = .ok (.ireturn, 1) := by decide +kernel
set_option maxHeartbeats 4000000 in
set_option maxRecDepth 100000 in
theorem c_X7_drop (l : Launch) (G : XG) (M : XM) (P : XP) (S : XS) (V : XV) (hac : M.2.2.2.2.2.1 ≤ 8) (haa : M.2.2.2.2.2.2.1 = 1 ∨ M.2.2.2.2.2.2.1 = 2) : Met l yX7_drop (wC yX7_drop cX7_drop 1 (some .int)) (rmD 0) (xPc G [.ref (xga G 0)] M P S V) (va_Qi (fun r u => (M.2.2.2.2.2.1 = 0 ∧ r = (-3) ∧ u = (M, P, S, V)) ∨ (M.2.2.2.2.2.1 ≠ 0 ∧ r = nI (M.2.2.2.2.2.1 - 1) ∧ u = ((M.1, M.2.1, M.2.2.1, M.2.2.2.1, M.2.2.2.2.1, M.2.2.2.2.2.1 - 1, M.2.2.2.2.2.2.1, M.2.2.2.2.2.2.2.1, M.2.2.2.2.2.2.2.2.1, M.2.2.2.2.2.2.2.2.2), P, S, V))) (xB G) (xA G)) 0 0 (xA G) := by
  refine xst "DoFinder" (by decide) rfl (Nat.le_of_ble_eq_true rfl) ?_
  intro p e s m args below meth c ls F hr hlk hW hl
  have hl : lv_has ls 1 [(0, .ref (xga G 0))] := hl
  have hW : xW G s s.heap s.heap [] M P S V := hW
  refine lv_aload_n F.1 F.2.1 dX7_drop_0 rfl (lv_at hl 0 rfl) ?_
  refine xg_DoFinder_asked F hW tm_181 dX7_drop_1 ?_
  refine xg_Ask_count F hW tm_104 dX7_drop_4 ?_
  refine lv_if_ne (tgt := 13) F.1 F.2.1 dX7_drop_7 (by decide) (fun c7 => ?_) (fun c7 => ?_)
  · have c7 := ci_ne (a := ((M.2.2.2.2.2.1 : Nat) : Int)) (b := 0) (nI_toInt (by omega)) ci_0 c7
    refine lv_aload_n F.1 F.2.1 dX7_drop_13 rfl (lv_at hl 0 rfl) ?_
    refine xg_DoFinder_asked F hW tm_181 dX7_drop_14 ?_
    refine lv_dup F.1 F.2.1 dX7_drop_17 rfl ?_
    refine xg_Ask_count F hW tm_104 dX7_drop_18 ?_
    refine lv_iconst (v := nI 1) F.1 F.2.1 dX7_drop_21 (by decide) ?_
    refine ax_sub (z := nI (M.2.2.2.2.2.1 - 1)) F (pk_sub (a := M.2.2.2.2.2.1) (b := 1) (by omega)) dX7_drop_22 ?_
    refine xp_Ask_count (k := (M.2.2.2.2.2.1 - 1)) F hW tm_104 rfl dX7_drop_23 (fun H locs hW => ?_)
    have hW : xW G s s.heap H locs (M.1, M.2.1, M.2.2.1, M.2.2.2.1, M.2.2.2.2.1, M.2.2.2.2.2.1 - 1, M.2.2.2.2.2.2.1, M.2.2.2.2.2.2.2.1, M.2.2.2.2.2.2.2.2.1, M.2.2.2.2.2.2.2.2.2) P S V := hW
    refine lv_aload_n F.1 F.2.1 dX7_drop_26 rfl (lv_at hl 0 rfl) ?_
    refine xg_DoFinder_asked F hW tm_181 dX7_drop_27 ?_
    refine xg_Ask_count F hW tm_104 dX7_drop_30 ?_
    refine xre_i F hr hlk hW dX7_drop_33 ?_
    first | exact Or.inl ⟨by omega, rfl, rfl⟩ | exact Or.inr ⟨by omega, rfl, rfl⟩
  · have c7 := ci_eq (a := ((M.2.2.2.2.2.1 : Nat) : Int)) (b := 0) (nI_toInt (by omega)) ci_0 c7
    refine lv_bipush (v := (-3)) F.1 F.2.1 dX7_drop_10 (by decide) ?_
    refine xre_i F hr hlk hW dX7_drop_12 ?_
    first | exact Or.inl ⟨by omega, rfl, rfl⟩ | exact Or.inr ⟨by omega, rfl, rfl⟩
theorem dX7_like_0 : decode cX7_like 0 = .ok (.aload_n 0, 1) := by decide +kernel
theorem dX7_like_1 : decode cX7_like 1 = .ok (.getfield 19, 3) := by decide +kernel
theorem dX7_like_4 : decode cX7_like 4 = .ok (.iload_n 1, 1) := by decide +kernel
theorem dX7_like_5 : decode cX7_like 5 = .ok (.invokevirtual 69, 3) := by decide +kernel
theorem dX7_like_8 : decode cX7_like 8 = .ok (.ifCond .eq 13, 3) := by decide +kernel
theorem dX7_like_11 : decode cX7_like 11 = .ok (.iload_n 2, 1) := by decide +kernel
theorem dX7_like_12 : decode cX7_like 12 = .ok (.ifCond .lt 9, 3) := by decide +kernel
theorem dX7_like_15 : decode cX7_like 15 = .ok (.iload_n 2, 1) := by decide +kernel
theorem dX7_like_16 : decode cX7_like 16 = .ok (.bipush 8, 2) := by decide +kernel
theorem dX7_like_18 : decode cX7_like 18 = .ok (.if_icmp .le 5, 3) := by decide +kernel
theorem dX7_like_21 : decode cX7_like 21 = .ok (.iconst (-1), 1) := by decide +kernel
theorem dX7_like_22 : decode cX7_like 22 = .ok (.ireturn, 1) := by decide +kernel
theorem dX7_like_23 : decode cX7_like 23 = .ok (.aload_n 0, 1) := by decide +kernel
theorem dX7_like_24 : decode cX7_like 24 = .ok (.getfield 19, 3) := by decide +kernel
theorem dX7_like_27 : decode cX7_like 27 = .ok (.getfield 72, 3) := by decide +kernel
theorem dX7_like_30 : decode cX7_like 30 = .ok (.iload_n 1, 1) := by decide +kernel
theorem dX7_like_31 : decode cX7_like 31 = .ok (.aaload, 1) := by decide +kernel
theorem dX7_like_32 : decode cX7_like 32 = .ok (.getfield 79, 3) := by decide +kernel
theorem dX7_like_35 : decode cX7_like 35 = .ok (.istore_n 3, 1) := by decide +kernel
theorem dX7_like_36 : decode cX7_like 36 = .ok (.aload_n 0, 1) := by decide +kernel
theorem dX7_like_37 : decode cX7_like 37 = .ok (.getfield 26, 3) := by decide +kernel
theorem dX7_like_40 : decode cX7_like 40 = .ok (.iload_n 3, 1) := by decide +kernel
theorem dX7_like_41 : decode cX7_like 41 = .ok (.invokevirtual 101, 3) := by decide +kernel
theorem dX7_like_44 : decode cX7_like 44 = .ok (.iconst 0, 1) := by decide +kernel
theorem dX7_like_45 : decode cX7_like 45 = .ok (.istore 4, 2) := by decide +kernel
theorem dX7_like_47 : decode cX7_like 47 = .ok (.iload 4, 2) := by decide +kernel
theorem dX7_like_49 : decode cX7_like 49 = .ok (.iload_n 2, 1) := by decide +kernel
theorem dX7_like_50 : decode cX7_like 50 = .ok (.if_icmp .ge 68, 3) := by decide +kernel
theorem dX7_like_53 : decode cX7_like 53 = .ok (.iload_n 3, 1) := by decide +kernel
theorem dX7_like_54 : decode cX7_like 54 = .ok (.iload 4, 2) := by decide +kernel
theorem dX7_like_56 : decode cX7_like 56 = .ok (.invokestatic 112, 3) := by decide +kernel
theorem dX7_like_59 : decode cX7_like 59 = .ok (.istore 5, 2) := by decide +kernel
theorem dX7_like_61 : decode cX7_like 61 = .ok (.iload_n 3, 1) := by decide +kernel
theorem dX7_like_62 : decode cX7_like 62 = .ok (.iload 4, 2) := by decide +kernel
theorem dX7_like_64 : decode cX7_like 64 = .ok (.invokestatic 118, 3) := by decide +kernel
theorem dX7_like_67 : decode cX7_like 67 = .ok (.istore 6, 2) := by decide +kernel
theorem dX7_like_69 : decode cX7_like 69 = .ok (.aload_n 0, 1) := by decide +kernel
theorem dX7_like_70 : decode cX7_like 70 = .ok (.getfield 19, 3) := by decide +kernel
theorem dX7_like_73 : decode cX7_like 73 = .ok (.iload_n 1, 1) := by decide +kernel
theorem dX7_like_74 : decode cX7_like 74 = .ok (.iload 5, 2) := by decide +kernel
theorem dX7_like_76 : decode cX7_like 76 = .ok (.iload 6, 2) := by decide +kernel
theorem dX7_like_78 : decode cX7_like 78 = .ok (.invokevirtual 90, 3) := by decide +kernel
theorem dX7_like_81 : decode cX7_like 81 = .ok (.lstore 7, 2) := by decide +kernel
theorem dX7_like_83 : decode cX7_like 83 = .ok (.aload_n 0, 1) := by decide +kernel
theorem dX7_like_84 : decode cX7_like 84 = .ok (.getfield 26, 3) := by decide +kernel
theorem dX7_like_87 : decode cX7_like 87 = .ok (.iload 5, 2) := by decide +kernel
theorem dX7_like_89 : decode cX7_like 89 = .ok (.iload 6, 2) := by decide +kernel
theorem dX7_like_91 : decode cX7_like 91 = .ok (.lload 7, 2) := by decide +kernel
theorem dX7_like_93 : decode cX7_like 93 = .ok (.ldc2_w 121, 3) := by decide +kernel
theorem dX7_like_96 : decode cX7_like 96 = .ok (.lcmp, 1) := by decide +kernel
theorem dX7_like_97 : decode cX7_like 97 = .ok (.ifCond .ne 9, 3) := by decide +kernel
theorem dX7_like_100 : decode cX7_like 100 = .ok (.ldc2_w 108, 3) := by decide +kernel
theorem dX7_like_103 : decode cX7_like 103 = .ok (.goto 5, 3) := by decide +kernel
theorem dX7_like_106 : decode cX7_like 106 = .ok (.lload 7, 2) := by decide +kernel
theorem dX7_like_108 : decode cX7_like 108 = .ok (.invokevirtual 105, 3) := by decide +kernel
theorem dX7_like_111 : decode cX7_like 111 = .ok (.pop, 1) := by decide +kernel
theorem dX7_like_112 : decode cX7_like 112 = .ok (.iinc 4 1, 3) := by decide +kernel
theorem dX7_like_115 : decode cX7_like 115 = .ok (.goto (-68), 3) := by decide +kernel
theorem dX7_like_118 : decode cX7_like 118 = .ok (.iload_n 2, 1) := by decide +kernel
theorem dX7_like_119 : decode cX7_like 119 = .ok (.ireturn, 1) := by decide +kernel
set_option maxHeartbeats 4000000 in
set_option maxRecDepth 100000 in
theorem c_X7_like (l : Launch) (G : XG) (M : XM) (P : XP) (S : XS) (V : XV) (hn : M.1 ≤ 12) (hrc : ∀ r, r < M.1 → M.2.2.1 r ≤ 12) (hra : ∀ r, r < M.1 → M.2.2.2.1 r = 1 ∨ M.2.2.2.1 r = 2) (hf : M.2.1 ≤ 200) (x y : Int32) : Met l yX7_like (wC yX7_like cX7_like 9 (some .int)) (rmD 2) (xPc G [.ref (xga G 0), .int x, .int y] M P S V) (va_Qi (fun v u => (¬ (zin M.1 x ∧ 0 ≤ y.toInt ∧ y.toInt ≤ 8) ∧ v = (-1) ∧ u = (M, P, S, V)) ∨ ((zin M.1 x ∧ 0 ≤ y.toInt ∧ y.toInt ≤ 8) ∧ v = nI y.toInt.toNat ∧ ∃ (af2 ag2 : Nat → Int32) (ad2 : Nat → Int64) (P2 : XP), u = ((M.1, M.2.1, M.2.2.1, M.2.2.2.1, M.2.2.2.2.1, y.toInt.toNat, M.2.2.2.1 x.toInt.toNat, af2, ag2, ad2), P2, S, V) ∧ ∀ j, j < y.toInt.toNat → af2 j = wA (M.2.2.2.1 x.toInt.toNat) j ∧ ag2 j = (if (M.2.2.2.1 x.toInt.toNat) = 1 then nI 0 else wB (M.2.2.2.1 x.toInt.toNat) j) ∧ ad2 j = (if zout M.2.1 (M.2.2.1 x.toInt.toNat) (M.2.2.2.2.1 x.toInt.toNat) (wA (M.2.2.2.1 x.toInt.toNat) j) (wB (M.2.2.2.1 x.toInt.toNat) j) = zUNK then zANY else zout M.2.1 (M.2.2.1 x.toInt.toNat) (M.2.2.2.2.1 x.toInt.toNat) (wA (M.2.2.2.1 x.toInt.toNat) j) (wB (M.2.2.2.1 x.toInt.toNat) j)))) (xB G) (xA G)) 0 0 (xA G) := by
  refine xst "DoFinder" (by decide) rfl (Nat.le_of_ble_eq_true rfl) ?_
  intro p e s m args below meth c ls F hr hlk hW hl
  have hl : lv_has ls 9 [(0, .ref (xga G 0)), (1, .int x), (2, .int y)] := hl
  have hW : xW G s s.heap s.heap [] M P S V := hW
  have b_x := i32b x
  have b_y := i32b y
  refine lv_aload_n F.1 F.2.1 dX7_like_0 rfl (lv_at hl 0 rfl) ?_
  refine xg_DoFinder_library F hW tm_180 dX7_like_1 ?_
  refine lv_iload_n F.1 F.2.1 dX7_like_4 rfl (lv_at hl 1 rfl) ?_
  refine xca_i (b := (xga G 1)) (As := [.int x]) (rest := []) F (c_X1_has l G M P S V hn x) (xcw F.2.2.2.2 ca_X1_has tm_244 rfl rfl ⟨by decide, by decide⟩) (xr_X1 hW) hW rfl hl.1 rfl (Nat.le_of_ble_eq_true rfl) dX7_like_5 (fun r5 u5 H locs hp5 hW => ?_)
  obtain ⟨hp5, rfl⟩ := hp5
  have hW : xW G s s.heap H locs M P S V := hW
  rcases hp5 with ⟨rfl, y5⟩ | ⟨rfl, y5⟩
  · skip
    obtain ⟨r, hn_r, hm_r, rfl⟩ := argN (x := x) (by omega)
    have e_r : (nI r).toInt.toNat = r := by omega
    have i_r : r < M.1 := by omega
    have hl : lv_has ls 9 [(0, .ref (xga G 0)), (1, .int (nI r)), (2, .int y)] := hl
    have q1 := hrc r (by omega)
    have q2 := hra r (by omega)
    refine lv_if_eq (tgt := 21) F.1 F.2.1 dX7_like_8 (by decide) (fun q => absurd q (by decide)) (fun _ => ?_)
    refine lv_iload_n F.1 F.2.1 dX7_like_11 rfl (lv_at hl 2 rfl) ?_
    refine lv_if_lt (tgt := 21) F.1 F.2.1 dX7_like_12 (by decide) (fun c12 => ?_) (fun c12 => ?_)
    · have c12 := ci_lt (a := y.toInt) (b := 0) rfl ci_0 c12
      refine lv_iconst (v := (-1)) F.1 F.2.1 dX7_like_21 (by decide) ?_
      refine xre_i F hr hlk hW dX7_like_22 ?_
      exact Or.inl ⟨by unfold zin; omega, rfl, rfl⟩
    · have c12 := ci_nlt (a := y.toInt) (b := 0) rfl ci_0 c12
      refine lv_iload_n F.1 F.2.1 dX7_like_15 rfl (lv_at hl 2 rfl) ?_
      refine lv_bipush (v := nI 8) F.1 F.2.1 dX7_like_16 (by decide) ?_
      refine lv_icmp_le (tgt := 23) F.1 F.2.1 dX7_like_18 (by decide) (fun c18 => ?_) (fun c18 => ?_)
      · have c18 := ci_le (a := y.toInt) (b := 8) rfl (by decide) c18
        obtain ⟨z, hn_z, hm_z, rfl⟩ := argN (x := y) (by omega)
        have e_z : (nI z).toInt.toNat = z := by omega
        have i_z : z ≤ 8 := by omega
        have hl : lv_has ls 9 [(0, .ref (xga G 0)), (1, .int (nI r)), (2, .int (nI z))] := hl
        refine lv_aload_n F.1 F.2.1 dX7_like_23 rfl (lv_at hl 0 rfl) ?_
        refine xg_DoFinder_library F hW tm_180 dX7_like_24 ?_
        refine xg_Library_routines F hW tm_70 dX7_like_27 ?_
        refine lv_iload_n F.1 F.2.1 dX7_like_30 rfl (lv_at hl 1 rfl) ?_
        refine xl_ro (j := r) F hW rfl (by omega) dX7_like_31 ?_
        refine xg_Routine_arguments F hW (j := r) (by omega) tm_32 dX7_like_32 ?_
        refine lv_istore_n (lv' := [(3, .int (nI (M.2.2.2.1 r))), (0, .ref (xga G 0)), (1, .int (nI r)), (2, .int (nI z))]) F.1 F.2.1 dX7_like_35 rfl hl (by decide) rfl (fun ls hl => ?_)
        refine lv_aload_n F.1 F.2.1 dX7_like_36 rfl (lv_at hl 1 rfl) ?_
        refine xg_DoFinder_asked F hW tm_181 dX7_like_37 ?_
        refine lv_iload_n F.1 F.2.1 dX7_like_40 rfl (lv_at hl 0 rfl) ?_
        refine xca_v (b := (xga G 2)) (As := [.int (nI (M.2.2.2.1 r))]) (rest := []) F (c_X0_begin l G M.1 M.2.1 M.2.2.1 M.2.2.2.1 M.2.2.2.2.1 M.2.2.2.2.2.1 M.2.2.2.2.2.2.1 M.2.2.2.2.2.2.2.1 M.2.2.2.2.2.2.2.2.1 M.2.2.2.2.2.2.2.2.2 P S V (M.2.2.2.1 r)) (xcw F.2.2.2.2 ca_X0_begin tm_306 rfl rfl ⟨by decide, by decide⟩) (xr_X0 hW) hW rfl hl.1 rfl (Nat.le_of_ble_eq_true rfl) dX7_like_41 (fun u41 H locs hp41 hW => ?_)
        obtain rfl := hp41
        have hW : xW G s s.heap H locs (M.1, M.2.1, M.2.2.1, M.2.2.2.1, M.2.2.2.2.1, 0, M.2.2.2.1 r, M.2.2.2.2.2.2.2.1, M.2.2.2.2.2.2.2.2.1, M.2.2.2.2.2.2.2.2.2) P S V := hW
        refine lv_iconst (v := nI 0) F.1 F.2.1 dX7_like_44 (by decide) ?_
        refine lv_istore (lv' := [(4, .int (nI 0)), (3, .int (nI (M.2.2.2.1 r))), (0, .ref (xga G 0)), (1, .int (nI r)), (2, .int (nI z))]) F.1 F.2.1 dX7_like_45 hl (by decide) rfl (fun ls hl => ?_)
        have lp47 : ∀ (k47 : Nat) (Pk : XP) (i : Nat) (af : Nat → Int32) (ag : Nat → Int32) (ad : Nat → Int64), z - i = k47 → (i ≤ z) → (∀ j, j < i → af j = wA (M.2.2.2.1 r) j ∧ ag j = (if (M.2.2.2.1 r) = 1 then nI 0 else wB (M.2.2.2.1 r) j) ∧ ad j = (if zout M.2.1 (M.2.2.1 r) (M.2.2.2.2.1 r) (wA (M.2.2.2.1 r) j) (wB (M.2.2.2.1 r) j) = zUNK then zANY else zout M.2.1 (M.2.2.1 r) (M.2.2.2.2.1 r) (wA (M.2.2.2.1 r) j) (wB (M.2.2.2.1 r) j))) → ∀ (H : Heap) (locs : List Loc) (ls : Array Slot), xW G s s.heap H locs (M.1, M.2.1, M.2.2.1, M.2.2.2.1, M.2.2.2.2.1, i, M.2.2.2.1 r, af, ag, ad) Pk S V →  lv_has ls 9 [(0, .ref (xga G 0)), (1, .int (nI r)), (2, .int (nI z)), (3, .int (nI (M.2.2.2.1 r))), (4, .int (nI i))] → W p l e (rmD 2) s m args below meth c H locs 0 0 (MQ below (va_Qi (fun v u => (¬ (zin M.1 (nI r) ∧ 0 ≤ (nI z).toInt ∧ (nI z).toInt ≤ 8) ∧ v = (-1) ∧ u = (M, P, S, V)) ∨ ((zin M.1 (nI r) ∧ 0 ≤ (nI z).toInt ∧ (nI z).toInt ≤ 8) ∧ v = nI (nI z).toInt.toNat ∧ ∃ (af2 ag2 : Nat → Int32) (ad2 : Nat → Int64) (P2 : XP), u = ((M.1, M.2.1, M.2.2.1, M.2.2.2.1, M.2.2.2.2.1, (nI z).toInt.toNat, M.2.2.2.1 (nI r).toInt.toNat, af2, ag2, ad2), P2, S, V) ∧ ∀ j, j < (nI z).toInt.toNat → af2 j = wA (M.2.2.2.1 (nI r).toInt.toNat) j ∧ ag2 j = (if (M.2.2.2.1 (nI r).toInt.toNat) = 1 then nI 0 else wB (M.2.2.2.1 (nI r).toInt.toNat) j) ∧ ad2 j = (if zout M.2.1 (M.2.2.1 (nI r).toInt.toNat) (M.2.2.2.2.1 (nI r).toInt.toNat) (wA (M.2.2.2.1 (nI r).toInt.toNat) j) (wB (M.2.2.2.1 (nI r).toInt.toNat) j) = zUNK then zANY else zout M.2.1 (M.2.2.1 (nI r).toInt.toNat) (M.2.2.2.2.1 (nI r).toInt.toNat) (wA (M.2.2.2.1 (nI r).toInt.toNat) j) (wB (M.2.2.2.1 (nI r).toInt.toNat) j)))) (xB G) (xA G)) args s 0 0 (xA G)) (F0 m 47 ls []) := by
          intro k47
          induction k47 using Nat.strongRecOn with
          | ind k47 ih47 =>
            intro Pk i af ag ad hk47 h1 h2 H locs ls hW hl
            refine lv_iload F.1 F.2.1 dX7_like_47 (lv_at hl 4 rfl) ?_
            refine lv_iload_n F.1 F.2.1 dX7_like_49 rfl (lv_at hl 2 rfl) ?_
            refine lv_icmp_ge (tgt := 118) F.1 F.2.1 dX7_like_50 (by decide) (fun c50 => ?_) (fun c50 => ?_)
            · have c50 := ci_le (a := ((z : Nat) : Int)) (b := ((i : Nat) : Int)) (nI_toInt (by omega)) (nI_toInt (by omega)) c50
              refine lv_iload_n F.1 F.2.1 dX7_like_118 rfl (lv_at hl 2 rfl) ?_
              refine xre_i F hr hlk hW dX7_like_119 ?_
              refine Or.inr ⟨by unfold zin; omega, by rw [e_z], af, ag, ad, _, by rw [e_z, e_r, show z = i by omega], ?_⟩
              rw [e_z, e_r]
              exact fun j hj => h2 j (by omega)
            · have c50 := ci_nle (a := ((z : Nat) : Int)) (b := ((i : Nat) : Int)) (nI_toInt (by omega)) (nI_toInt (by omega)) c50
              refine lv_iload_n F.1 F.2.1 dX7_like_53 rfl (lv_at hl 3 rfl) ?_
              refine lv_iload F.1 F.2.1 dX7_like_54 (lv_at hl 4 rfl) ?_
              refine pca (As := [.int (nI (M.2.2.2.1 r)), .int (nI i)]) (rest := []) F (c_X6_firstAt l (M.2.2.2.1 r) i (by omega) (by omega)) (xcwS F.2.2.2.2 ca_X6_firstAt tm_332 rfl rfl ⟨by decide, by decide⟩) rfl hl.1 rfl (Nat.le_of_ble_eq_true rfl) dX7_like_56 (fun r56 hr56 => ?_)
              subst hr56
              refine lv_istore (lv' := [(5, .int (wA (M.2.2.2.1 r) i)), (0, .ref (xga G 0)), (1, .int (nI r)), (2, .int (nI z)), (3, .int (nI (M.2.2.2.1 r))), (4, .int (nI i))]) F.1 F.2.1 dX7_like_59 hl (by decide) rfl (fun ls hl => ?_)
              refine lv_iload_n F.1 F.2.1 dX7_like_61 rfl (lv_at hl 4 rfl) ?_
              refine lv_iload F.1 F.2.1 dX7_like_62 (lv_at hl 5 rfl) ?_
              refine pca (As := [.int (nI (M.2.2.2.1 r)), .int (nI i)]) (rest := []) F (c_X6_secondAt l (M.2.2.2.1 r) i (by omega) (by omega)) (xcwS F.2.2.2.2 ca_X6_secondAt tm_335 rfl rfl ⟨by decide, by decide⟩) rfl hl.1 rfl (Nat.le_of_ble_eq_true rfl) dX7_like_64 (fun r64 hr64 => ?_)
              subst hr64
              refine lv_istore (lv' := [(6, .int (wB (M.2.2.2.1 r) i)), (5, .int (wA (M.2.2.2.1 r) i)), (0, .ref (xga G 0)), (1, .int (nI r)), (2, .int (nI z)), (3, .int (nI (M.2.2.2.1 r))), (4, .int (nI i))]) F.1 F.2.1 dX7_like_67 hl (by decide) rfl (fun ls hl => ?_)
              refine lv_aload_n F.1 F.2.1 dX7_like_69 rfl (lv_at hl 2 rfl) ?_
              refine xg_DoFinder_library F hW tm_180 dX7_like_70 ?_
              refine lv_iload_n F.1 F.2.1 dX7_like_73 rfl (lv_at hl 3 rfl) ?_
              refine lv_iload F.1 F.2.1 dX7_like_74 (lv_at hl 1 rfl) ?_
              refine lv_iload F.1 F.2.1 dX7_like_76 (lv_at hl 0 rfl) ?_
              refine xca_l (b := (xga G 1)) (As := [.int (nI r), .int (wA (M.2.2.2.1 r) i), .int (wB (M.2.2.2.1 r) i)]) (rest := []) F (c_X1_outcome l G (M.1, M.2.1, M.2.2.1, M.2.2.2.1, M.2.2.2.2.1, i, M.2.2.2.1 r, af, ag, ad) Pk S V hn r i_r (hrc r i_r) hf (wA (M.2.2.2.1 r) i) (wB (M.2.2.2.1 r) i)) (xcw F.2.2.2.2 ca_X1_outcome tm_258 rfl rfl ⟨by decide, by decide⟩) (xr_X1 hW) hW rfl hl.1 rfl (Nat.le_of_ble_eq_true rfl) dX7_like_78 (fun r78 u78 H locs hp78 hW => ?_)
              obtain ⟨rfl, P78, rfl, e78⟩ := hp78
              have hW : xW G s s.heap H locs (M.1, M.2.1, M.2.2.1, M.2.2.2.1, M.2.2.2.2.1, i, M.2.2.2.1 r, af, ag, ad) P78 S V := hW
              refine lv_lstore (lv' := [(7, .long (zout M.2.1 (M.2.2.1 r) (M.2.2.2.2.1 r) (wA (M.2.2.2.1 r) i) (wB (M.2.2.2.1 r) i))), (6, .int (wB (M.2.2.2.1 r) i)), (5, .int (wA (M.2.2.2.1 r) i)), (0, .ref (xga G 0)), (1, .int (nI r)), (2, .int (nI z)), (3, .int (nI (M.2.2.2.1 r))), (4, .int (nI i))]) F.1 F.2.1 dX7_like_81 hl (by decide) rfl (fun ls hl => ?_)
              refine lv_aload_n F.1 F.2.1 dX7_like_83 rfl (lv_at hl 3 rfl) ?_
              refine xg_DoFinder_asked F hW tm_181 dX7_like_84 ?_
              refine lv_iload F.1 F.2.1 dX7_like_87 (lv_at hl 2 rfl) ?_
              refine lv_iload F.1 F.2.1 dX7_like_89 (lv_at hl 1 rfl) ?_
              refine lv_lload F.1 F.2.1 dX7_like_91 (lv_at hl 0 rfl) ?_
              refine lv_ldc2 (v := zUNK) F.1 F.2.1 F.2.2.2.1 (F.2.2.2.2 _ tm_338) dX7_like_93 ?_
              refine W.lcmp F.1 F.2.1 dX7_like_96 ?_
              refine lv_if_ne (tgt := 106) F.1 F.2.1 dX7_like_97 (by decide) (fun c97 => ?_) (fun c97 => ?_)
              · have c97 := fun q => c97 ((lg_cmp_eq _ _).mpr q)
                skip
                refine lv_lload F.1 F.2.1 dX7_like_106 (lv_at hl 0 rfl) ?_
                refine xca_i (b := (xga G 2)) (As := [.int (wA (M.2.2.2.1 r) i), .int (wB (M.2.2.2.1 r) i), .long (zout M.2.1 (M.2.2.1 r) (M.2.2.2.2.1 r) (wA (M.2.2.2.1 r) i) (wB (M.2.2.2.1 r) i))]) (rest := []) F (c_X0_append l G M.1 M.2.1 M.2.2.1 M.2.2.2.1 M.2.2.2.2.1 i (M.2.2.2.1 r) af ag ad P78 S V (by omega) (by omega) (wA (M.2.2.2.1 r) i) (wB (M.2.2.2.1 r) i) (zout M.2.1 (M.2.2.1 r) (M.2.2.2.2.1 r) (wA (M.2.2.2.1 r) i) (wB (M.2.2.2.1 r) i))) (xcw F.2.2.2.2 ca_X0_append tm_314 rfl rfl ⟨by decide, by decide⟩) (xr_X0 hW) hW rfl hl.1 rfl (Nat.le_of_ble_eq_true rfl) dX7_like_108 (fun r108 u108 H locs hp108 hW => ?_)
                rcases hp108 with ⟨y108, rfl, rfl⟩ | ⟨y108, rfl, rfl⟩
                · skip
                  have hW : xW G s s.heap H locs (M.1, M.2.1, M.2.2.1, M.2.2.2.1, M.2.2.2.2.1, i + 1, M.2.2.2.1 r, upd af i (wA (M.2.2.2.1 r) i), upd ag i (if M.2.2.2.1 r = 1 then nI 0 else (wB (M.2.2.2.1 r) i)), vp_updL ad i (zout M.2.1 (M.2.2.1 r) (M.2.2.2.2.1 r) (wA (M.2.2.2.1 r) i) (wB (M.2.2.2.1 r) i))) P78 S V := hW
                  refine lv_pop F.1 F.2.1 dX7_like_111 rfl ?_
                  refine lv_iinc (v := nI (i + 1)) (lv' := [(4, .int (nI (i + 1))), (7, .long (zout M.2.1 (M.2.2.1 r) (M.2.2.2.2.1 r) (wA (M.2.2.2.1 r) i) (wB (M.2.2.2.1 r) i))), (6, .int (wB (M.2.2.2.1 r) i)), (5, .int (wA (M.2.2.2.1 r) i)), (0, .ref (xga G 0)), (1, .int (nI r)), (2, .int (nI z)), (3, .int (nI (M.2.2.2.1 r)))]) F.1 F.2.1 dX7_like_112 hl (k := 7) rfl (nI_add _ 1) (by decide) rfl (fun ls hl => ?_)
                  refine lv_goto (tgt := 47) F.1 F.2.1 dX7_like_115 (by decide) ?_
                  exact ih47 (z - (i + 1)) (by omega) P78 (i + 1) (upd af i (wA (M.2.2.2.1 r) i)) (upd ag i (if M.2.2.2.1 r = 1 then nI 0 else (wB (M.2.2.2.1 r) i))) (vp_updL ad i (zout M.2.1 (M.2.2.1 r) (M.2.2.2.2.1 r) (wA (M.2.2.2.1 r) i) (wB (M.2.2.2.1 r) i))) rfl (by omega) (lt_s (fun j hj => ⟨(pk_un (by omega)).trans (h2 j hj).1, (pk_un (by omega)).trans (h2 j hj).2.1, (pk_uLn (by omega)).trans (h2 j hj).2.2⟩) ⟨pk_us, pk_us, pk_uLs.trans (by rw [if_neg c97])⟩) _ _ _ hW (lv_sub hl [4, 5, 6, 7, 0] rfl)
                · skip
                  have hW : xW G s s.heap H locs (M.1, M.2.1, M.2.2.1, M.2.2.2.1, M.2.2.2.2.1, i, M.2.2.2.1 r, af, ag, ad) P78 S V := hW
                  exfalso; omega
              · have c97 := (lg_cmp_eq _ _).mp c97
                skip
                refine lv_ldc2 (v := zANY) F.1 F.2.1 F.2.2.2.1 (F.2.2.2.2 _ tm_322) dX7_like_100 ?_
                refine lv_goto (tgt := 108) F.1 F.2.1 dX7_like_103 (by decide) ?_
                refine xca_i (b := (xga G 2)) (As := [.int (wA (M.2.2.2.1 r) i), .int (wB (M.2.2.2.1 r) i), .long zANY]) (rest := []) F (c_X0_append l G M.1 M.2.1 M.2.2.1 M.2.2.2.1 M.2.2.2.2.1 i (M.2.2.2.1 r) af ag ad P78 S V (by omega) (by omega) (wA (M.2.2.2.1 r) i) (wB (M.2.2.2.1 r) i) zANY) (xcw F.2.2.2.2 ca_X0_append tm_314 rfl rfl ⟨by decide, by decide⟩) (xr_X0 hW) hW rfl hl.1 rfl (Nat.le_of_ble_eq_true rfl) dX7_like_108 (fun r108 u108 H locs hp108 hW => ?_)
                rcases hp108 with ⟨y108, rfl, rfl⟩ | ⟨y108, rfl, rfl⟩
                · skip
                  have hW : xW G s s.heap H locs (M.1, M.2.1, M.2.2.1, M.2.2.2.1, M.2.2.2.2.1, i + 1, M.2.2.2.1 r, upd af i (wA (M.2.2.2.1 r) i), upd ag i (if M.2.2.2.1 r = 1 then nI 0 else (wB (M.2.2.2.1 r) i)), vp_updL ad i zANY) P78 S V := hW
                  refine lv_pop F.1 F.2.1 dX7_like_111 rfl ?_
                  refine lv_iinc (v := nI (i + 1)) (lv' := [(4, .int (nI (i + 1))), (7, .long (zout M.2.1 (M.2.2.1 r) (M.2.2.2.2.1 r) (wA (M.2.2.2.1 r) i) (wB (M.2.2.2.1 r) i))), (6, .int (wB (M.2.2.2.1 r) i)), (5, .int (wA (M.2.2.2.1 r) i)), (0, .ref (xga G 0)), (1, .int (nI r)), (2, .int (nI z)), (3, .int (nI (M.2.2.2.1 r)))]) F.1 F.2.1 dX7_like_112 hl (k := 7) rfl (nI_add _ 1) (by decide) rfl (fun ls hl => ?_)
                  refine lv_goto (tgt := 47) F.1 F.2.1 dX7_like_115 (by decide) ?_
                  exact ih47 (z - (i + 1)) (by omega) P78 (i + 1) (upd af i (wA (M.2.2.2.1 r) i)) (upd ag i (if M.2.2.2.1 r = 1 then nI 0 else (wB (M.2.2.2.1 r) i))) (vp_updL ad i zANY) rfl (by omega) (lt_s (fun j hj => ⟨(pk_un (by omega)).trans (h2 j hj).1, (pk_un (by omega)).trans (h2 j hj).2.1, (pk_uLn (by omega)).trans (h2 j hj).2.2⟩) ⟨pk_us, pk_us, pk_uLs.trans (by rw [if_pos c97])⟩) _ _ _ hW (lv_sub hl [4, 5, 6, 7, 0] rfl)
                · skip
                  have hW : xW G s s.heap H locs (M.1, M.2.1, M.2.2.1, M.2.2.2.1, M.2.2.2.2.1, i, M.2.2.2.1 r, af, ag, ad) P78 S V := hW
                  exfalso; omega
        exact lp47 (z - 0) P 0 M.2.2.2.2.2.2.2.1 M.2.2.2.2.2.2.2.2.1 M.2.2.2.2.2.2.2.2.2 rfl (Nat.zero_le _) (lt_0) _ _ _ hW (lv_sub hl [2, 3, 4, 1, 0] rfl)
      · have c18 := ci_nle (a := y.toInt) (b := 8) rfl (by decide) c18
        refine lv_iconst (v := (-1)) F.1 F.2.1 dX7_like_21 (by decide) ?_
        refine xre_i F hr hlk hW dX7_like_22 ?_
        exact Or.inl ⟨by unfold zin; omega, rfl, rfl⟩
  · skip
    refine lv_if_eq (tgt := 21) F.1 F.2.1 dX7_like_8 (by decide) (fun _ => ?_) (fun q => absurd q (by decide))
    refine lv_iconst (v := (-1)) F.1 F.2.1 dX7_like_21 (by decide) ?_
    refine xre_i F hr hlk hW dX7_like_22 ?_
    exact Or.inl ⟨by unfold zin; omega, rfl, rfl⟩
