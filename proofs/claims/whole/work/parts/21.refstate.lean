theorem dX8_step_0 : decode cX8_step 0 = .ok (.iload_n 1, 1) := by decide +kernel
theorem dX8_step_1 : decode cX8_step 1 = .ok (.iconst 0, 1) := by decide +kernel
theorem dX8_step_2 : decode cX8_step 2 = .ok (.bipush 32, 2) := by decide +kernel
theorem dX8_step_4 : decode cX8_step 4 = .ok (.invokestatic 60, 3) := by decide +kernel
theorem dX8_step_7 : decode cX8_step 7 = .ok (.ifCond .ne 5, 3) := by decide +kernel
theorem dX8_step_10 : decode cX8_step 10 = .ok (.iconst (-1), 1) := by decide +kernel
theorem dX8_step_11 : decode cX8_step 11 = .ok (.ireturn, 1) := by decide +kernel
theorem dX8_step_12 : decode cX8_step 12 = .ok (.aload_n 0, 1) := by decide +kernel
theorem dX8_step_13 : decode cX8_step 13 = .ok (.getfield 64, 3) := by decide +kernel
theorem dX8_step_16 : decode cX8_step 16 = .ok (.bipush 12, 2) := by decide +kernel
theorem dX8_step_18 : decode cX8_step 18 = .ok (.if_icmp .ne 6, 3) := by decide +kernel
theorem dX8_step_21 : decode cX8_step 21 = .ok (.bipush (-2), 2) := by decide +kernel
theorem dX8_step_23 : decode cX8_step 23 = .ok (.ireturn, 1) := by decide +kernel
theorem dX8_step_24 : decode cX8_step 24 = .ok (.aload_n 0, 1) := by decide +kernel
theorem dX8_step_25 : decode cX8_step 25 = .ok (.getfield 19, 3) := by decide +kernel
theorem dX8_step_28 : decode cX8_step 28 = .ok (.aload_n 0, 1) := by decide +kernel
theorem dX8_step_29 : decode cX8_step 29 = .ok (.getfield 64, 3) := by decide +kernel
theorem dX8_step_32 : decode cX8_step 32 = .ok (.iload_n 1, 1) := by decide +kernel
theorem dX8_step_33 : decode cX8_step 33 = .ok (.iastore, 1) := by decide +kernel
theorem dX8_step_34 : decode cX8_step 34 = .ok (.aload_n 0, 1) := by decide +kernel
theorem dX8_step_35 : decode cX8_step 35 = .ok (.dup, 1) := by decide +kernel
theorem dX8_step_36 : decode cX8_step 36 = .ok (.getfield 64, 3) := by decide +kernel
theorem dX8_step_39 : decode cX8_step 39 = .ok (.iconst 1, 1) := by decide +kernel
theorem dX8_step_40 : decode cX8_step 40 = .ok (.iadd, 1) := by decide +kernel
theorem dX8_step_41 : decode cX8_step 41 = .ok (.putfield 64, 3) := by decide +kernel
theorem dX8_step_44 : decode cX8_step 44 = .ok (.aload_n 0, 1) := by decide +kernel
theorem dX8_step_45 : decode cX8_step 45 = .ok (.getfield 64, 3) := by decide +kernel
theorem dX8_step_48 : decode cX8_step 48 = .ok (.ireturn, 1) := by decide +kernel
set_option maxHeartbeats 4000000 in
set_option maxRecDepth 100000 in
theorem c_X8_step (l : Launch) (G : MG) (M : MM) (P : MP) (L : ML) (N : MN) (V : MV) (h12 : M.2.2.2.2.1 ≤ 12) (x : Int32) : Met l yX8_step (wC yX8_step cX8_step 2 (some .int)) (rmD 1) (mPc G [.ref (mga G 0), .int x] M P L N V) (va_Qi (fun r u => (¬ (0 ≤ x.toInt ∧ x.toInt ≤ 32) ∧ r = (-1) ∧ u = (M, P, L, N, V)) ∨ ((0 ≤ x.toInt ∧ x.toInt ≤ 32) ∧ ¬ M.2.2.2.2.1 < 12 ∧ r = (-2) ∧ u = (M, P, L, N, V)) ∨ ((0 ≤ x.toInt ∧ x.toInt ≤ 32) ∧ M.2.2.2.2.1 < 12 ∧ r = nI (M.2.2.2.2.1 + 1) ∧ u = ((M.1, M.2.1, M.2.2.1, M.2.2.2.1, M.2.2.2.2.1 + 1, upd M.2.2.2.2.2.1 M.2.2.2.2.1 x, M.2.2.2.2.2.2.1, M.2.2.2.2.2.2.2.1, M.2.2.2.2.2.2.2.2.1, M.2.2.2.2.2.2.2.2.2.1, M.2.2.2.2.2.2.2.2.2.2.1, M.2.2.2.2.2.2.2.2.2.2.2), P, L, N, V))) (mB G) (mA G)) 0 0 (mA G) := by
  refine mst "DoFinderModel" (by decide) rfl (Nat.le_of_ble_eq_true rfl) ?_
  intro p e s m args below meth c ls F hr hlk hW hl
  have hl : lv_has ls 2 [(0, .ref (mga G 0)), (1, .int x)] := hl
  have hW : mW G s s.heap s.heap [] M P L N V := hW
  have b_x := i32b x
  refine lv_iload_n F.1 F.2.1 dX8_step_0 rfl (lv_at hl 1 rfl) ?_
  refine lv_iconst (v := nI 0) F.1 F.2.1 dX8_step_1 (by decide) ?_
  refine lv_bipush (v := nI 32) F.1 F.2.1 dX8_step_2 (by decide) ?_
  refine pca (As := [.int x, .int (nI 0), .int (nI 32)]) (rest := []) F (c_X8_in l x (nI 0) (nI 32) x.toInt 0 32 rfl (by decide) (by decide)) (xcwS F.2.2.2.2 ca_X8_in tm_577 rfl rfl ⟨by decide, by decide⟩) rfl hl.1 rfl (Nat.le_of_ble_eq_true rfl) dX8_step_4 (fun r4 hr4 => ?_)
  rcases hr4 with ⟨rfl, y4⟩ | ⟨rfl, y4⟩
  · skip
    refine lv_if_ne (tgt := 12) F.1 F.2.1 dX8_step_7 (by decide) (fun _ => ?_) (fun q => absurd q (by decide))
    refine lv_aload_n F.1 F.2.1 dX8_step_12 rfl (lv_at hl 0 rfl) ?_
    refine mg_written F hW tm_504 dX8_step_13 ?_
    refine lv_bipush (v := nI 12) F.1 F.2.1 dX8_step_16 (by decide) ?_
    refine lv_icmp_ne (tgt := 24) F.1 F.2.1 dX8_step_18 (by decide) (fun c18 => ?_) (fun c18 => ?_)
    · have c18 := ci_ne (a := ((M.2.2.2.2.1 : Nat) : Int)) (b := 12) (nI_toInt (by omega)) (by decide) c18
      refine lv_aload_n F.1 F.2.1 dX8_step_24 rfl (lv_at hl 0 rfl) ?_
      refine mg_draft F hW tm_505 dX8_step_25 ?_
      refine lv_aload_n F.1 F.2.1 dX8_step_28 rfl (lv_at hl 0 rfl) ?_
      refine mg_written F hW tm_504 dX8_step_29 ?_
      refine lv_iload_n F.1 F.2.1 dX8_step_32 rfl (lv_at hl 1 rfl) ?_
      refine ms_wd (i := M.2.2.2.2.1) F hW rfl (by omega) dX8_step_33 (fun H locs hW => ?_)
      have hW : mW G s s.heap H locs (M.1, M.2.1, M.2.2.1, M.2.2.2.1, M.2.2.2.2.1, upd M.2.2.2.2.2.1 M.2.2.2.2.1 x, M.2.2.2.2.2.2.1, M.2.2.2.2.2.2.2.1, M.2.2.2.2.2.2.2.2.1, M.2.2.2.2.2.2.2.2.2.1, M.2.2.2.2.2.2.2.2.2.2.1, M.2.2.2.2.2.2.2.2.2.2.2) P L N V := hW
      refine lv_aload_n F.1 F.2.1 dX8_step_34 rfl (lv_at hl 0 rfl) ?_
      refine lv_dup F.1 F.2.1 dX8_step_35 rfl ?_
      refine mg_written F hW tm_504 dX8_step_36 ?_
      refine lv_iconst (v := nI 1) F.1 F.2.1 dX8_step_39 (by decide) ?_
      refine ax_add (z := nI (M.2.2.2.2.1 + 1)) F (nI_add _ _) dX8_step_40 ?_
      refine mp_written (k := (M.2.2.2.2.1 + 1)) F hW tm_504 rfl dX8_step_41 (fun H locs hW => ?_)
      have hW : mW G s s.heap H locs (M.1, M.2.1, M.2.2.1, M.2.2.2.1, M.2.2.2.2.1 + 1, upd M.2.2.2.2.2.1 M.2.2.2.2.1 x, M.2.2.2.2.2.2.1, M.2.2.2.2.2.2.2.1, M.2.2.2.2.2.2.2.2.1, M.2.2.2.2.2.2.2.2.2.1, M.2.2.2.2.2.2.2.2.2.2.1, M.2.2.2.2.2.2.2.2.2.2.2) P L N V := hW
      refine lv_aload_n F.1 F.2.1 dX8_step_44 rfl (lv_at hl 0 rfl) ?_
      refine mg_written F hW tm_504 dX8_step_45 ?_
      refine mre_i F hr hlk hW dX8_step_48 ?_
      first | exact Or.inl (⟨by omega, rfl, rfl⟩) | exact Or.inr (Or.inl (⟨by omega, by omega, rfl, rfl⟩)) | exact Or.inr (Or.inr (⟨by omega, by omega, rfl, rfl⟩))
    · have c18 := ci_eq (a := ((M.2.2.2.2.1 : Nat) : Int)) (b := 12) (nI_toInt (by omega)) (by decide) c18
      refine lv_bipush (v := (-2)) F.1 F.2.1 dX8_step_21 (by decide) ?_
      refine mre_i F hr hlk hW dX8_step_23 ?_
      first | exact Or.inl (⟨by omega, rfl, rfl⟩) | exact Or.inr (Or.inl (⟨by omega, by omega, rfl, rfl⟩)) | exact Or.inr (Or.inr (⟨by omega, by omega, rfl, rfl⟩))
  · skip
    refine lv_if_ne (tgt := 12) F.1 F.2.1 dX8_step_7 (by decide) (fun q => absurd q (by decide)) (fun _ => ?_)
    refine lv_iconst (v := (-1)) F.1 F.2.1 dX8_step_10 (by decide) ?_
    refine mre_i F hr hlk hW dX8_step_11 ?_
    first | exact Or.inl (⟨by omega, rfl, rfl⟩) | exact Or.inr (Or.inl (⟨by omega, by omega, rfl, rfl⟩)) | exact Or.inr (Or.inr (⟨by omega, by omega, rfl, rfl⟩))
theorem dX8_scrap_0 : decode cX8_scrap 0 = .ok (.aload_n 0, 1) := by decide +kernel
theorem dX8_scrap_1 : decode cX8_scrap 1 = .ok (.getfield 64, 3) := by decide +kernel
theorem dX8_scrap_4 : decode cX8_scrap 4 = .ok (.istore_n 1, 1) := by decide +kernel
theorem dX8_scrap_5 : decode cX8_scrap 5 = .ok (.aload_n 0, 1) := by decide +kernel
theorem dX8_scrap_6 : decode cX8_scrap 6 = .ok (.iconst 0, 1) := by decide +kernel
theorem dX8_scrap_7 : decode cX8_scrap 7 = .ok (.putfield 64, 3) := by decide +kernel
theorem dX8_scrap_10 : decode cX8_scrap 10 = .ok (.iload_n 1, 1) := by decide +kernel
theorem dX8_scrap_11 : decode cX8_scrap 11 = .ok (.ireturn, 1) := by decide +kernel
set_option maxHeartbeats 4000000 in
set_option maxRecDepth 100000 in
theorem c_X8_scrap (l : Launch) (G : MG) (M : MM) (P : MP) (L : ML) (N : MN) (V : MV) (h12 : M.2.2.2.2.1 ≤ 12) : Met l yX8_scrap (wC yX8_scrap cX8_scrap 2 (some .int)) (rmD 0) (mPc G [.ref (mga G 0)] M P L N V) (va_Qi (fun r u => r = nI M.2.2.2.2.1 ∧ u = ((M.1, M.2.1, M.2.2.1, M.2.2.2.1, 0, M.2.2.2.2.2.1, M.2.2.2.2.2.2.1, M.2.2.2.2.2.2.2.1, M.2.2.2.2.2.2.2.2.1, M.2.2.2.2.2.2.2.2.2.1, M.2.2.2.2.2.2.2.2.2.2.1, M.2.2.2.2.2.2.2.2.2.2.2), P, L, N, V)) (mB G) (mA G)) 0 0 (mA G) := by
  refine mst "DoFinderModel" (by decide) rfl (Nat.le_of_ble_eq_true rfl) ?_
  intro p e s m args below meth c ls F hr hlk hW hl
  have hl : lv_has ls 2 [(0, .ref (mga G 0))] := hl
  have hW : mW G s s.heap s.heap [] M P L N V := hW
  refine lv_aload_n F.1 F.2.1 dX8_scrap_0 rfl (lv_at hl 0 rfl) ?_
  refine mg_written F hW tm_504 dX8_scrap_1 ?_
  refine lv_istore_n (lv' := [(1, .int (nI M.2.2.2.2.1)), (0, .ref (mga G 0))]) F.1 F.2.1 dX8_scrap_4 rfl hl (by decide) rfl (fun ls hl => ?_)
  refine lv_aload_n F.1 F.2.1 dX8_scrap_5 rfl (lv_at hl 1 rfl) ?_
  refine lv_iconst (v := nI 0) F.1 F.2.1 dX8_scrap_6 (by decide) ?_
  refine mp_written (k := 0) F hW tm_504 rfl dX8_scrap_7 (fun H locs hW => ?_)
  have hW : mW G s s.heap H locs (M.1, M.2.1, M.2.2.1, M.2.2.2.1, 0, M.2.2.2.2.2.1, M.2.2.2.2.2.2.1, M.2.2.2.2.2.2.2.1, M.2.2.2.2.2.2.2.2.1, M.2.2.2.2.2.2.2.2.2.1, M.2.2.2.2.2.2.2.2.2.2.1, M.2.2.2.2.2.2.2.2.2.2.2) P L N V := hW
  refine lv_iload_n F.1 F.2.1 dX8_scrap_10 rfl (lv_at hl 0 rfl) ?_
  refine mre_i F hr hlk hW dX8_scrap_11 ?_
  exact ⟨rfl, rfl⟩
theorem dX8_add_0 : decode cX8_add 0 = .ok (.iload_n 1, 1) := by decide +kernel
theorem dX8_add_1 : decode cX8_add 1 = .ok (.iconst 1, 1) := by decide +kernel
theorem dX8_add_2 : decode cX8_add 2 = .ok (.iconst 2, 1) := by decide +kernel
theorem dX8_add_3 : decode cX8_add 3 = .ok (.invokestatic 60, 3) := by decide +kernel
theorem dX8_add_6 : decode cX8_add 6 = .ok (.ifCond .ne 5, 3) := by decide +kernel
theorem dX8_add_9 : decode cX8_add 9 = .ok (.iconst (-1), 1) := by decide +kernel
theorem dX8_add_10 : decode cX8_add 10 = .ok (.ireturn, 1) := by decide +kernel
theorem dX8_add_11 : decode cX8_add 11 = .ok (.aload_n 0, 1) := by decide +kernel
theorem dX8_add_12 : decode cX8_add 12 = .ok (.getfield 64, 3) := by decide +kernel
theorem dX8_add_15 : decode cX8_add 15 = .ok (.ifCond .ne 6, 3) := by decide +kernel
theorem dX8_add_18 : decode cX8_add 18 = .ok (.bipush (-3), 2) := by decide +kernel
theorem dX8_add_20 : decode cX8_add 20 = .ok (.ireturn, 1) := by decide +kernel
theorem dX8_add_21 : decode cX8_add 21 = .ok (.iconst 0, 1) := by decide +kernel
theorem dX8_add_22 : decode cX8_add 22 = .ok (.istore_n 2, 1) := by decide +kernel
theorem dX8_add_23 : decode cX8_add 23 = .ok (.iload_n 2, 1) := by decide +kernel
theorem dX8_add_24 : decode cX8_add 24 = .ok (.aload_n 0, 1) := by decide +kernel
theorem dX8_add_25 : decode cX8_add 25 = .ok (.getfield 64, 3) := by decide +kernel
theorem dX8_add_28 : decode cX8_add 28 = .ok (.if_icmp .ge 29, 3) := by decide +kernel
theorem dX8_add_31 : decode cX8_add 31 = .ok (.aload_n 0, 1) := by decide +kernel
theorem dX8_add_32 : decode cX8_add 32 = .ok (.getfield 19, 3) := by decide +kernel
theorem dX8_add_35 : decode cX8_add 35 = .ok (.iload_n 2, 1) := by decide +kernel
theorem dX8_add_36 : decode cX8_add 36 = .ok (.iaload, 1) := by decide +kernel
theorem dX8_add_37 : decode cX8_add 37 = .ok (.iload_n 1, 1) := by decide +kernel
theorem dX8_add_38 : decode cX8_add 38 = .ok (.aload_n 0, 1) := by decide +kernel
theorem dX8_add_39 : decode cX8_add 39 = .ok (.getfield 64, 3) := by decide +kernel
theorem dX8_add_42 : decode cX8_add 42 = .ok (.invokestatic 67, 3) := by decide +kernel
theorem dX8_add_45 : decode cX8_add 45 = .ok (.ifCond .ne 6, 3) := by decide +kernel
theorem dX8_add_48 : decode cX8_add 48 = .ok (.bipush (-4), 2) := by decide +kernel
theorem dX8_add_50 : decode cX8_add 50 = .ok (.ireturn, 1) := by decide +kernel
theorem dX8_add_51 : decode cX8_add 51 = .ok (.iinc 2 1, 3) := by decide +kernel
theorem dX8_add_54 : decode cX8_add 54 = .ok (.goto (-31), 3) := by decide +kernel
theorem dX8_add_57 : decode cX8_add 57 = .ok (.aload_n 0, 1) := by decide +kernel
theorem dX8_add_58 : decode cX8_add 58 = .ok (.getfield 57, 3) := by decide +kernel
theorem dX8_add_61 : decode cX8_add 61 = .ok (.bipush 12, 2) := by decide +kernel
theorem dX8_add_63 : decode cX8_add 63 = .ok (.if_icmp .ne 6, 3) := by decide +kernel
theorem dX8_add_66 : decode cX8_add 66 = .ok (.bipush (-2), 2) := by decide +kernel
theorem dX8_add_68 : decode cX8_add 68 = .ok (.ireturn, 1) := by decide +kernel
theorem dX8_add_69 : decode cX8_add 69 = .ok (.aload_n 0, 1) := by decide +kernel
theorem dX8_add_70 : decode cX8_add 70 = .ok (.getfield 7, 3) := by decide +kernel
theorem dX8_add_73 : decode cX8_add 73 = .ok (.aload_n 0, 1) := by decide +kernel
theorem dX8_add_74 : decode cX8_add 74 = .ok (.getfield 57, 3) := by decide +kernel
theorem dX8_add_77 : decode cX8_add 77 = .ok (.iload_n 1, 1) := by decide +kernel
theorem dX8_add_78 : decode cX8_add 78 = .ok (.iastore, 1) := by decide +kernel
theorem dX8_add_79 : decode cX8_add 79 = .ok (.aload_n 0, 1) := by decide +kernel
theorem dX8_add_80 : decode cX8_add 80 = .ok (.getfield 13, 3) := by decide +kernel
theorem dX8_add_83 : decode cX8_add 83 = .ok (.aload_n 0, 1) := by decide +kernel
theorem dX8_add_84 : decode cX8_add 84 = .ok (.getfield 57, 3) := by decide +kernel
theorem dX8_add_87 : decode cX8_add 87 = .ok (.aload_n 0, 1) := by decide +kernel
theorem dX8_add_88 : decode cX8_add 88 = .ok (.getfield 64, 3) := by decide +kernel
theorem dX8_add_91 : decode cX8_add 91 = .ok (.iastore, 1) := by decide +kernel
theorem dX8_add_92 : decode cX8_add 92 = .ok (.iconst 0, 1) := by decide +kernel
theorem dX8_add_93 : decode cX8_add 93 = .ok (.istore_n 2, 1) := by decide +kernel
theorem dX8_add_94 : decode cX8_add 94 = .ok (.iload_n 2, 1) := by decide +kernel
theorem dX8_add_95 : decode cX8_add 95 = .ok (.aload_n 0, 1) := by decide +kernel
theorem dX8_add_96 : decode cX8_add 96 = .ok (.getfield 64, 3) := by decide +kernel
theorem dX8_add_99 : decode cX8_add 99 = .ok (.if_icmp .ge 29, 3) := by decide +kernel
theorem dX8_add_102 : decode cX8_add 102 = .ok (.aload_n 0, 1) := by decide +kernel
theorem dX8_add_103 : decode cX8_add 103 = .ok (.getfield 16, 3) := by decide +kernel
theorem dX8_add_106 : decode cX8_add 106 = .ok (.bipush 12, 2) := by decide +kernel
theorem dX8_add_108 : decode cX8_add 108 = .ok (.aload_n 0, 1) := by decide +kernel
theorem dX8_add_109 : decode cX8_add 109 = .ok (.getfield 57, 3) := by decide +kernel
theorem dX8_add_112 : decode cX8_add 112 = .ok (.imul, 1) := by decide +kernel
theorem dX8_add_113 : decode cX8_add 113 = .ok (.iload_n 2, 1) := by decide +kernel
theorem dX8_add_114 : decode cX8_add 114 = .ok (.iadd, 1) := by decide +kernel
theorem dX8_add_115 : decode cX8_add 115 = .ok (.aload_n 0, 1) := by decide +kernel
theorem dX8_add_116 : decode cX8_add 116 = .ok (.getfield 19, 3) := by decide +kernel
theorem dX8_add_119 : decode cX8_add 119 = .ok (.iload_n 2, 1) := by decide +kernel
theorem dX8_add_120 : decode cX8_add 120 = .ok (.iaload, 1) := by decide +kernel
theorem dX8_add_121 : decode cX8_add 121 = .ok (.iastore, 1) := by decide +kernel
theorem dX8_add_122 : decode cX8_add 122 = .ok (.iinc 2 1, 3) := by decide +kernel
theorem dX8_add_125 : decode cX8_add 125 = .ok (.goto (-31), 3) := by decide +kernel
theorem dX8_add_128 : decode cX8_add 128 = .ok (.aload_n 0, 1) := by decide +kernel
theorem dX8_add_129 : decode cX8_add 129 = .ok (.iconst 0, 1) := by decide +kernel
theorem dX8_add_130 : decode cX8_add 130 = .ok (.putfield 64, 3) := by decide +kernel
theorem dX8_add_133 : decode cX8_add 133 = .ok (.aload_n 0, 1) := by decide +kernel
theorem dX8_add_134 : decode cX8_add 134 = .ok (.dup, 1) := by decide +kernel
theorem dX8_add_135 : decode cX8_add 135 = .ok (.getfield 57, 3) := by decide +kernel
theorem dX8_add_138 : decode cX8_add 138 = .ok (.iconst 1, 1) := by decide +kernel
theorem dX8_add_139 : decode cX8_add 139 = .ok (.iadd, 1) := by decide +kernel
theorem dX8_add_140 : decode cX8_add 140 = .ok (.putfield 57, 3) := by decide +kernel
theorem dX8_add_143 : decode cX8_add 143 = .ok (.aload_n 0, 1) := by decide +kernel
theorem dX8_add_144 : decode cX8_add 144 = .ok (.getfield 57, 3) := by decide +kernel
theorem dX8_add_147 : decode cX8_add 147 = .ok (.iconst 1, 1) := by decide +kernel
theorem dX8_add_148 : decode cX8_add 148 = .ok (.isub, 1) := by decide +kernel
theorem dX8_add_149 : decode cX8_add 149 = .ok (.ireturn, 1) := by decide +kernel
set_option maxHeartbeats 4000000 in
set_option maxRecDepth 100000 in
theorem c_X8_add (l : Launch) (G : MG) (M : MM) (P : MP) (L : ML) (N : MN) (V : MV) (hn : M.1 ≤ 12) (h12 : M.2.2.2.2.1 ≤ 12) (x : Int32) : Met l yX8_add (wC yX8_add cX8_add 3 (some .int)) (rmD 1) (mPc G [.ref (mga G 0), .int x] M P L N V) (va_Qi (fun r u => (¬ (x.toInt = 1 ∨ x.toInt = 2) ∧ r = (-1) ∧ u = (M, P, L, N, V)) ∨ ((x.toInt = 1 ∨ x.toInt = 2) ∧ M.2.2.2.2.1 = 0 ∧ r = (-3) ∧ u = (M, P, L, N, V)) ∨ ((x.toInt = 1 ∨ x.toInt = 2) ∧ M.2.2.2.2.1 ≠ 0 ∧ ¬ (∀ k, k < M.2.2.2.2.1 → sp_may (M.2.2.2.2.2.1 k).toInt x.toInt.toNat (M.2.2.2.2.1)) ∧ r = (-4) ∧ u = (M, P, L, N, V)) ∨ ((x.toInt = 1 ∨ x.toInt = 2) ∧ M.2.2.2.2.1 ≠ 0 ∧ (∀ k, k < M.2.2.2.2.1 → sp_may (M.2.2.2.2.2.1 k).toInt x.toInt.toNat (M.2.2.2.2.1)) ∧ ¬ M.1 < 12 ∧ r = (-2) ∧ u = (M, P, L, N, V)) ∨ ((x.toInt = 1 ∨ x.toInt = 2) ∧ M.2.2.2.2.1 ≠ 0 ∧ (∀ k, k < M.2.2.2.2.1 → sp_may (M.2.2.2.2.2.1 k).toInt x.toInt.toNat (M.2.2.2.2.1)) ∧ M.1 < 12 ∧ r = nI M.1 ∧ ∃ st2 : Nat → Int32, u = ((M.1 + 1, upN M.2.1 M.1 x.toInt.toNat, upN M.2.2.1 M.1 M.2.2.2.2.1, st2, 0, M.2.2.2.2.2.1, M.2.2.2.2.2.2.1, M.2.2.2.2.2.2.2.1, M.2.2.2.2.2.2.2.2.1, M.2.2.2.2.2.2.2.2.2.1, M.2.2.2.2.2.2.2.2.2.2.1, M.2.2.2.2.2.2.2.2.2.2.2), P, L, N, V) ∧ (∀ k, k < M.2.2.2.2.1 → st2 (12 * M.1 + k) = M.2.2.2.2.2.1 k) ∧ ∀ j, j < 12 * M.1 → st2 j = M.2.2.2.1 j)) (mB G) (mA G)) 0 0 (mA G) := by
  refine mst "DoFinderModel" (by decide) rfl (Nat.le_of_ble_eq_true rfl) ?_
  intro p e s m args below meth c ls F hr hlk hW hl
  have hl : lv_has ls 3 [(0, .ref (mga G 0)), (1, .int x)] := hl
  have hW : mW G s s.heap s.heap [] M P L N V := hW
  have b_x := i32b x
  refine lv_iload_n F.1 F.2.1 dX8_add_0 rfl (lv_at hl 1 rfl) ?_
  refine lv_iconst (v := nI 1) F.1 F.2.1 dX8_add_1 (by decide) ?_
  refine lv_iconst (v := nI 2) F.1 F.2.1 dX8_add_2 (by decide) ?_
  refine pca (As := [.int x, .int (nI 1), .int (nI 2)]) (rest := []) F (c_X8_in l x (nI 1) (nI 2) x.toInt 1 2 rfl (by decide) (by decide)) (xcwS F.2.2.2.2 ca_X8_in tm_577 rfl rfl ⟨by decide, by decide⟩) rfl hl.1 rfl (Nat.le_of_ble_eq_true rfl) dX8_add_3 (fun r3 hr3 => ?_)
  rcases hr3 with ⟨rfl, y3⟩ | ⟨rfl, y3⟩
  · skip
    have y1 : x.toInt = 1 ∨ x.toInt = 2 := by omega
    obtain ⟨t, ht, rfl⟩ := arg12 y1
    have et : (nI t).toInt.toNat = t := by rw [nI_toInt (by omega)]; omega
    have et2 : (nI t).toInt = (t : Int) := nI_toInt (by omega)
    have hl : lv_has ls 3 [(0, .ref (mga G 0)), (1, .int (nI t))] := hl
    refine lv_if_ne (tgt := 11) F.1 F.2.1 dX8_add_6 (by decide) (fun _ => ?_) (fun q => absurd q (by decide))
    refine lv_aload_n F.1 F.2.1 dX8_add_11 rfl (lv_at hl 0 rfl) ?_
    refine mg_written F hW tm_504 dX8_add_12 ?_
    refine lv_if_ne (tgt := 21) F.1 F.2.1 dX8_add_15 (by decide) (fun c15 => ?_) (fun c15 => ?_)
    · have c15 := ci_ne (a := ((M.2.2.2.2.1 : Nat) : Int)) (b := 0) (nI_toInt (by omega)) ci_0 c15
      refine lv_iconst (v := nI 0) F.1 F.2.1 dX8_add_21 (by decide) ?_
      refine lv_istore_n (lv' := [(2, .int (nI 0)), (0, .ref (mga G 0)), (1, .int (nI t))]) F.1 F.2.1 dX8_add_22 rfl hl (by decide) rfl (fun ls hl => ?_)
      have lp23 : ∀ (k23 : Nat) (k : Nat), M.2.2.2.2.1 - k = k23 → (k ≤ M.2.2.2.2.1) → (∀ j, j < k → sp_may (M.2.2.2.2.2.1 j).toInt t M.2.2.2.2.1) → ∀ (H : Heap) (locs : List Loc) (ls : Array Slot), mW G s s.heap H locs M P L N V →  lv_has ls 3 [(0, .ref (mga G 0)), (1, .int (nI t)), (2, .int (nI k))] → W p l e (rmD 1) s m args below meth c H locs 0 0 (MQ below (va_Qi (fun r u => (¬ ((nI t).toInt = 1 ∨ (nI t).toInt = 2) ∧ r = (-1) ∧ u = (M, P, L, N, V)) ∨ (((nI t).toInt = 1 ∨ (nI t).toInt = 2) ∧ M.2.2.2.2.1 = 0 ∧ r = (-3) ∧ u = (M, P, L, N, V)) ∨ (((nI t).toInt = 1 ∨ (nI t).toInt = 2) ∧ M.2.2.2.2.1 ≠ 0 ∧ ¬ (∀ k, k < M.2.2.2.2.1 → sp_may (M.2.2.2.2.2.1 k).toInt (nI t).toInt.toNat (M.2.2.2.2.1)) ∧ r = (-4) ∧ u = (M, P, L, N, V)) ∨ (((nI t).toInt = 1 ∨ (nI t).toInt = 2) ∧ M.2.2.2.2.1 ≠ 0 ∧ (∀ k, k < M.2.2.2.2.1 → sp_may (M.2.2.2.2.2.1 k).toInt (nI t).toInt.toNat (M.2.2.2.2.1)) ∧ ¬ M.1 < 12 ∧ r = (-2) ∧ u = (M, P, L, N, V)) ∨ (((nI t).toInt = 1 ∨ (nI t).toInt = 2) ∧ M.2.2.2.2.1 ≠ 0 ∧ (∀ k, k < M.2.2.2.2.1 → sp_may (M.2.2.2.2.2.1 k).toInt (nI t).toInt.toNat (M.2.2.2.2.1)) ∧ M.1 < 12 ∧ r = nI M.1 ∧ ∃ st2 : Nat → Int32, u = ((M.1 + 1, upN M.2.1 M.1 (nI t).toInt.toNat, upN M.2.2.1 M.1 M.2.2.2.2.1, st2, 0, M.2.2.2.2.2.1, M.2.2.2.2.2.2.1, M.2.2.2.2.2.2.2.1, M.2.2.2.2.2.2.2.2.1, M.2.2.2.2.2.2.2.2.2.1, M.2.2.2.2.2.2.2.2.2.2.1, M.2.2.2.2.2.2.2.2.2.2.2), P, L, N, V) ∧ (∀ k, k < M.2.2.2.2.1 → st2 (12 * M.1 + k) = M.2.2.2.2.2.1 k) ∧ ∀ j, j < 12 * M.1 → st2 j = M.2.2.2.1 j)) (mB G) (mA G)) args s 0 0 (mA G)) (F0 m 23 ls []) := by
        intro k23
        induction k23 using Nat.strongRecOn with
        | ind k23 ih23 =>
          intro k hk23 h1 h2 H locs ls hW hl
          refine lv_iload_n F.1 F.2.1 dX8_add_23 rfl (lv_at hl 2 rfl) ?_
          refine lv_aload_n F.1 F.2.1 dX8_add_24 rfl (lv_at hl 0 rfl) ?_
          refine mg_written F hW tm_504 dX8_add_25 ?_
          refine lv_icmp_ge (tgt := 57) F.1 F.2.1 dX8_add_28 (by decide) (fun c28 => ?_) (fun c28 => ?_)
          · have c28 := ci_le (a := ((M.2.2.2.2.1 : Nat) : Int)) (b := ((k : Nat) : Int)) (nI_toInt (by omega)) (nI_toInt (by omega)) c28
            refine lv_aload_n F.1 F.2.1 dX8_add_57 rfl (lv_at hl 0 rfl) ?_
            refine mg_routines F hW tm_500 dX8_add_58 ?_
            refine lv_bipush (v := nI 12) F.1 F.2.1 dX8_add_61 (by decide) ?_
            refine lv_icmp_ne (tgt := 69) F.1 F.2.1 dX8_add_63 (by decide) (fun c63 => ?_) (fun c63 => ?_)
            · have c63 := ci_ne (a := ((M.1 : Nat) : Int)) (b := 12) (nI_toInt (by omega)) (by decide) c63
              refine lv_aload_n F.1 F.2.1 dX8_add_69 rfl (lv_at hl 0 rfl) ?_
              refine mg_argumentsOf F hW tm_501 dX8_add_70 ?_
              refine lv_aload_n F.1 F.2.1 dX8_add_73 rfl (lv_at hl 0 rfl) ?_
              refine mg_routines F hW tm_500 dX8_add_74 ?_
              refine lv_iload_n F.1 F.2.1 dX8_add_77 rfl (lv_at hl 1 rfl) ?_
              refine ms_ra (i := M.1) (k := t) F hW rfl (by omega) rfl dX8_add_78 (fun H locs hW => ?_)
              have hW : mW G s s.heap H locs (M.1, upN M.2.1 M.1 t, M.2.2.1, M.2.2.2.1, M.2.2.2.2.1, M.2.2.2.2.2.1, M.2.2.2.2.2.2.1, M.2.2.2.2.2.2.2.1, M.2.2.2.2.2.2.2.2.1, M.2.2.2.2.2.2.2.2.2.1, M.2.2.2.2.2.2.2.2.2.2.1, M.2.2.2.2.2.2.2.2.2.2.2) P L N V := hW
              refine lv_aload_n F.1 F.2.1 dX8_add_79 rfl (lv_at hl 0 rfl) ?_
              refine mg_sizeOf F hW tm_502 dX8_add_80 ?_
              refine lv_aload_n F.1 F.2.1 dX8_add_83 rfl (lv_at hl 0 rfl) ?_
              refine mg_routines F hW tm_500 dX8_add_84 ?_
              refine lv_aload_n F.1 F.2.1 dX8_add_87 rfl (lv_at hl 0 rfl) ?_
              refine mg_written F hW tm_504 dX8_add_88 ?_
              refine ms_rc (i := M.1) (k := M.2.2.2.2.1) F hW rfl (by omega) rfl dX8_add_91 (fun H locs hW => ?_)
              have hW : mW G s s.heap H locs (M.1, upN M.2.1 M.1 t, upN M.2.2.1 M.1 M.2.2.2.2.1, M.2.2.2.1, M.2.2.2.2.1, M.2.2.2.2.2.1, M.2.2.2.2.2.2.1, M.2.2.2.2.2.2.2.1, M.2.2.2.2.2.2.2.2.1, M.2.2.2.2.2.2.2.2.2.1, M.2.2.2.2.2.2.2.2.2.2.1, M.2.2.2.2.2.2.2.2.2.2.2) P L N V := hW
              refine lv_iconst (v := nI 0) F.1 F.2.1 dX8_add_92 (by decide) ?_
              refine lv_istore_n (lv' := [(2, .int (nI 0)), (0, .ref (mga G 0)), (1, .int (nI t))]) F.1 F.2.1 dX8_add_93 rfl hl (by decide) rfl (fun ls hl => ?_)
              have lp94 : ∀ (k94 : Nat) (i : Nat) (st1 : Nat → Int32), M.2.2.2.2.1 - i = k94 → (i ≤ M.2.2.2.2.1) → (∀ k, k < i → st1 (12 * M.1 + k) = M.2.2.2.2.2.1 k) → (∀ j, j < 12 * M.1 → st1 j = M.2.2.2.1 j) → ∀ (H : Heap) (locs : List Loc) (ls : Array Slot), mW G s s.heap H locs (M.1, upN M.2.1 M.1 t, upN M.2.2.1 M.1 M.2.2.2.2.1, st1, M.2.2.2.2.1, M.2.2.2.2.2.1, M.2.2.2.2.2.2.1, M.2.2.2.2.2.2.2.1, M.2.2.2.2.2.2.2.2.1, M.2.2.2.2.2.2.2.2.2.1, M.2.2.2.2.2.2.2.2.2.2.1, M.2.2.2.2.2.2.2.2.2.2.2) P L N V →  lv_has ls 3 [(0, .ref (mga G 0)), (1, .int (nI t)), (2, .int (nI i))] → W p l e (rmD 1) s m args below meth c H locs 0 0 (MQ below (va_Qi (fun r u => (¬ ((nI t).toInt = 1 ∨ (nI t).toInt = 2) ∧ r = (-1) ∧ u = (M, P, L, N, V)) ∨ (((nI t).toInt = 1 ∨ (nI t).toInt = 2) ∧ M.2.2.2.2.1 = 0 ∧ r = (-3) ∧ u = (M, P, L, N, V)) ∨ (((nI t).toInt = 1 ∨ (nI t).toInt = 2) ∧ M.2.2.2.2.1 ≠ 0 ∧ ¬ (∀ k, k < M.2.2.2.2.1 → sp_may (M.2.2.2.2.2.1 k).toInt (nI t).toInt.toNat (M.2.2.2.2.1)) ∧ r = (-4) ∧ u = (M, P, L, N, V)) ∨ (((nI t).toInt = 1 ∨ (nI t).toInt = 2) ∧ M.2.2.2.2.1 ≠ 0 ∧ (∀ k, k < M.2.2.2.2.1 → sp_may (M.2.2.2.2.2.1 k).toInt (nI t).toInt.toNat (M.2.2.2.2.1)) ∧ ¬ M.1 < 12 ∧ r = (-2) ∧ u = (M, P, L, N, V)) ∨ (((nI t).toInt = 1 ∨ (nI t).toInt = 2) ∧ M.2.2.2.2.1 ≠ 0 ∧ (∀ k, k < M.2.2.2.2.1 → sp_may (M.2.2.2.2.2.1 k).toInt (nI t).toInt.toNat (M.2.2.2.2.1)) ∧ M.1 < 12 ∧ r = nI M.1 ∧ ∃ st2 : Nat → Int32, u = ((M.1 + 1, upN M.2.1 M.1 (nI t).toInt.toNat, upN M.2.2.1 M.1 M.2.2.2.2.1, st2, 0, M.2.2.2.2.2.1, M.2.2.2.2.2.2.1, M.2.2.2.2.2.2.2.1, M.2.2.2.2.2.2.2.2.1, M.2.2.2.2.2.2.2.2.2.1, M.2.2.2.2.2.2.2.2.2.2.1, M.2.2.2.2.2.2.2.2.2.2.2), P, L, N, V) ∧ (∀ k, k < M.2.2.2.2.1 → st2 (12 * M.1 + k) = M.2.2.2.2.2.1 k) ∧ ∀ j, j < 12 * M.1 → st2 j = M.2.2.2.1 j)) (mB G) (mA G)) args s 0 0 (mA G)) (F0 m 94 ls []) := by
                intro k94
                induction k94 using Nat.strongRecOn with
                | ind k94 ih94 =>
                  intro i st1 hk94 h3 h4 h5 H locs ls hW hl
                  refine lv_iload_n F.1 F.2.1 dX8_add_94 rfl (lv_at hl 2 rfl) ?_
                  refine lv_aload_n F.1 F.2.1 dX8_add_95 rfl (lv_at hl 0 rfl) ?_
                  refine mg_written F hW tm_504 dX8_add_96 ?_
                  refine lv_icmp_ge (tgt := 128) F.1 F.2.1 dX8_add_99 (by decide) (fun c99 => ?_) (fun c99 => ?_)
                  · have c99 := ci_le (a := ((M.2.2.2.2.1 : Nat) : Int)) (b := ((i : Nat) : Int)) (nI_toInt (by omega)) (nI_toInt (by omega)) c99
                    refine lv_aload_n F.1 F.2.1 dX8_add_128 rfl (lv_at hl 0 rfl) ?_
                    refine lv_iconst (v := nI 0) F.1 F.2.1 dX8_add_129 (by decide) ?_
                    refine mp_written (k := 0) F hW tm_504 rfl dX8_add_130 (fun H locs hW => ?_)
                    have hW : mW G s s.heap H locs (M.1, upN M.2.1 M.1 t, upN M.2.2.1 M.1 M.2.2.2.2.1, st1, 0, M.2.2.2.2.2.1, M.2.2.2.2.2.2.1, M.2.2.2.2.2.2.2.1, M.2.2.2.2.2.2.2.2.1, M.2.2.2.2.2.2.2.2.2.1, M.2.2.2.2.2.2.2.2.2.2.1, M.2.2.2.2.2.2.2.2.2.2.2) P L N V := hW
                    refine lv_aload_n F.1 F.2.1 dX8_add_133 rfl (lv_at hl 0 rfl) ?_
                    refine lv_dup F.1 F.2.1 dX8_add_134 rfl ?_
                    refine mg_routines F hW tm_500 dX8_add_135 ?_
                    refine lv_iconst (v := nI 1) F.1 F.2.1 dX8_add_138 (by decide) ?_
                    refine ax_add (z := nI (M.1 + 1)) F (nI_add _ _) dX8_add_139 ?_
                    refine mp_routines (k := (M.1 + 1)) F hW tm_500 rfl dX8_add_140 (fun H locs hW => ?_)
                    have hW : mW G s s.heap H locs (M.1 + 1, upN M.2.1 M.1 t, upN M.2.2.1 M.1 M.2.2.2.2.1, st1, 0, M.2.2.2.2.2.1, M.2.2.2.2.2.2.1, M.2.2.2.2.2.2.2.1, M.2.2.2.2.2.2.2.2.1, M.2.2.2.2.2.2.2.2.2.1, M.2.2.2.2.2.2.2.2.2.2.1, M.2.2.2.2.2.2.2.2.2.2.2) P L N V := hW
                    refine lv_aload_n F.1 F.2.1 dX8_add_143 rfl (lv_at hl 0 rfl) ?_
                    refine mg_routines F hW tm_500 dX8_add_144 ?_
                    refine lv_iconst (v := nI 1) F.1 F.2.1 dX8_add_147 (by decide) ?_
                    refine ax_sub (z := nI ((M.1 + 1) - 1)) F (pk_sub (a := M.1 + 1) (b := 1) (by omega)) dX8_add_148 ?_
                    refine mre_i F hr hlk hW dX8_add_149 ?_
                    refine Or.inr (Or.inr (Or.inr (Or.inr ⟨y1, by omega, by rw [et]; exact fun j hj => h2 j (by omega), by omega, congrArg nI (by omega), st1, by rw [et], ?_, h5⟩)))
                    exact fun k hk => h4 k (by omega)
                  · have c99 := ci_nle (a := ((M.2.2.2.2.1 : Nat) : Int)) (b := ((i : Nat) : Int)) (nI_toInt (by omega)) (nI_toInt (by omega)) c99
                    refine lv_aload_n F.1 F.2.1 dX8_add_102 rfl (lv_at hl 0 rfl) ?_
                    refine mg_stepOf F hW tm_503 dX8_add_103 ?_
                    refine lv_bipush (v := nI 12) F.1 F.2.1 dX8_add_106 (by decide) ?_
                    refine lv_aload_n F.1 F.2.1 dX8_add_108 rfl (lv_at hl 0 rfl) ?_
                    refine mg_routines F hW tm_500 dX8_add_109 ?_
                    refine ax_mul (z := nI (12 * M.1)) F (pk_mul _ _) dX8_add_112 ?_
                    refine lv_iload_n F.1 F.2.1 dX8_add_113 rfl (lv_at hl 2 rfl) ?_
                    refine ax_add (z := nI ((12 * M.1) + i)) F (nI_add _ _) dX8_add_114 ?_
                    refine lv_aload_n F.1 F.2.1 dX8_add_115 rfl (lv_at hl 0 rfl) ?_
                    refine mg_draft F hW tm_505 dX8_add_116 ?_
                    refine lv_iload_n F.1 F.2.1 dX8_add_119 rfl (lv_at hl 2 rfl) ?_
                    refine ml_wd (i := i) F hW rfl (by omega) dX8_add_120 ?_
                    have b120 := i32b (M.2.2.2.2.2.1 i)
                    refine ms_st (i := ((12 * M.1) + i)) F hW rfl (by omega) dX8_add_121 (fun H locs hW => ?_)
                    have hW : mW G s s.heap H locs (M.1, upN M.2.1 M.1 t, upN M.2.2.1 M.1 M.2.2.2.2.1, upd st1 ((12 * M.1) + i) (M.2.2.2.2.2.1 i), M.2.2.2.2.1, M.2.2.2.2.2.1, M.2.2.2.2.2.2.1, M.2.2.2.2.2.2.2.1, M.2.2.2.2.2.2.2.2.1, M.2.2.2.2.2.2.2.2.2.1, M.2.2.2.2.2.2.2.2.2.2.1, M.2.2.2.2.2.2.2.2.2.2.2) P L N V := hW
                    refine lv_iinc (v := nI (i + 1)) (lv' := [(2, .int (nI (i + 1))), (0, .ref (mga G 0)), (1, .int (nI t))]) F.1 F.2.1 dX8_add_122 hl (k := 2) rfl (nI_add _ 1) (by decide) rfl (fun ls hl => ?_)
                    refine lv_goto (tgt := 94) F.1 F.2.1 dX8_add_125 (by decide) ?_
                    exact ih94 (M.2.2.2.2.1 - (i + 1)) (by omega) (i + 1) (upd st1 ((12 * M.1) + i) (M.2.2.2.2.2.1 i)) rfl (by omega) (lt_s (fun k hk => (pk_un (by omega)).trans (h4 k hk)) pk_us) (fun j hj => (pk_un (by omega)).trans (h5 j hj)) _ _ _ hW (lv_sub hl [1, 2, 0] rfl)
              exact lp94 (M.2.2.2.2.1 - 0) 0 M.2.2.2.1 rfl (Nat.zero_le _) (lt_0) (fun j _ => rfl) _ _ _ hW (lv_sub hl [1, 2, 0] rfl)
            · have c63 := ci_eq (a := ((M.1 : Nat) : Int)) (b := 12) (nI_toInt (by omega)) (by decide) c63
              refine lv_bipush (v := (-2)) F.1 F.2.1 dX8_add_66 (by decide) ?_
              refine mre_i F hr hlk hW dX8_add_68 ?_
              exact Or.inr (Or.inr (Or.inr (Or.inl ⟨y1, by omega, by rw [et]; exact fun j hj => h2 j (by omega), by omega, rfl, rfl⟩)))
          · have c28 := ci_nle (a := ((M.2.2.2.2.1 : Nat) : Int)) (b := ((k : Nat) : Int)) (nI_toInt (by omega)) (nI_toInt (by omega)) c28
            refine lv_aload_n F.1 F.2.1 dX8_add_31 rfl (lv_at hl 0 rfl) ?_
            refine mg_draft F hW tm_505 dX8_add_32 ?_
            refine lv_iload_n F.1 F.2.1 dX8_add_35 rfl (lv_at hl 2 rfl) ?_
            refine ml_wd (i := k) F hW rfl (by omega) dX8_add_36 ?_
            have b36 := i32b (M.2.2.2.2.2.1 k)
            refine lv_iload_n F.1 F.2.1 dX8_add_37 rfl (lv_at hl 1 rfl) ?_
            refine lv_aload_n F.1 F.2.1 dX8_add_38 rfl (lv_at hl 0 rfl) ?_
            refine mg_written F hW tm_504 dX8_add_39 ?_
            refine pca (As := [.int (M.2.2.2.2.2.1 k), .int (nI t), .int (nI M.2.2.2.2.1)]) (rest := []) F (c_X8_fits l (M.2.2.2.2.2.1 k) t M.2.2.2.2.1 (by omega) (by omega)) (xcwS F.2.2.2.2 ca_X8_fits tm_588 rfl rfl ⟨by decide, by decide⟩) rfl hl.1 rfl (Nat.le_of_ble_eq_true rfl) dX8_add_42 (fun r42 hr42 => ?_)
            rcases hr42 with ⟨rfl, y42⟩ | ⟨rfl, y42⟩
            · skip
              refine lv_if_ne (tgt := 51) F.1 F.2.1 dX8_add_45 (by decide) (fun _ => ?_) (fun q => absurd q (by decide))
              refine lv_iinc (v := nI (k + 1)) (lv' := [(2, .int (nI (k + 1))), (0, .ref (mga G 0)), (1, .int (nI t))]) F.1 F.2.1 dX8_add_51 hl (k := 2) rfl (nI_add _ 1) (by decide) rfl (fun ls hl => ?_)
              refine lv_goto (tgt := 23) F.1 F.2.1 dX8_add_54 (by decide) ?_
              exact ih23 (M.2.2.2.2.1 - (k + 1)) (by omega) (k + 1) rfl (by omega) (lt_s h2 y42) _ _ _ hW (lv_sub hl [1, 2, 0] rfl)
            · skip
              refine lv_if_ne (tgt := 51) F.1 F.2.1 dX8_add_45 (by decide) (fun q => absurd q (by decide)) (fun _ => ?_)
              refine lv_bipush (v := (-4)) F.1 F.2.1 dX8_add_48 (by decide) ?_
              refine mre_i F hr hlk hW dX8_add_50 ?_
              exact Or.inr (Or.inr (Or.inl ⟨y1, by omega, by rw [et]; exact fun z => y42 (z k (by omega)), rfl, rfl⟩))
      exact lp23 (M.2.2.2.2.1 - 0) 0 rfl (Nat.zero_le _) (lt_0) _ _ _ hW (lv_sub hl [1, 2, 0] rfl)
    · have c15 := ci_eq (a := ((M.2.2.2.2.1 : Nat) : Int)) (b := 0) (nI_toInt (by omega)) ci_0 c15
      refine lv_bipush (v := (-3)) F.1 F.2.1 dX8_add_18 (by decide) ?_
      refine mre_i F hr hlk hW dX8_add_20 ?_
      exact Or.inr (Or.inl ⟨y1, by omega, rfl, rfl⟩)
  · skip
    refine lv_if_ne (tgt := 11) F.1 F.2.1 dX8_add_6 (by decide) (fun q => absurd q (by decide)) (fun _ => ?_)
    refine lv_iconst (v := (-1)) F.1 F.2.1 dX8_add_9 (by decide) ?_
    refine mre_i F hr hlk hW dX8_add_10 ?_
    exact Or.inl ⟨by omega, rfl, rfl⟩
theorem dX8_mend_0 : decode cX8_mend 0 = .ok (.aload_n 0, 1) := by decide +kernel
theorem dX8_mend_1 : decode cX8_mend 1 = .ok (.iload_n 1, 1) := by decide +kernel
theorem dX8_mend_2 : decode cX8_mend 2 = .ok (.invokevirtual 70, 3) := by decide +kernel
theorem dX8_mend_5 : decode cX8_mend 5 = .ok (.ifCond .eq 29, 3) := by decide +kernel
theorem dX8_mend_8 : decode cX8_mend 8 = .ok (.iload_n 2, 1) := by decide +kernel
theorem dX8_mend_9 : decode cX8_mend 9 = .ok (.iconst 0, 1) := by decide +kernel
theorem dX8_mend_10 : decode cX8_mend 10 = .ok (.aload_n 0, 1) := by decide +kernel
theorem dX8_mend_11 : decode cX8_mend 11 = .ok (.getfield 13, 3) := by decide +kernel
theorem dX8_mend_14 : decode cX8_mend 14 = .ok (.iload_n 1, 1) := by decide +kernel
theorem dX8_mend_15 : decode cX8_mend 15 = .ok (.iaload, 1) := by decide +kernel
theorem dX8_mend_16 : decode cX8_mend 16 = .ok (.iconst 1, 1) := by decide +kernel
theorem dX8_mend_17 : decode cX8_mend 17 = .ok (.isub, 1) := by decide +kernel
theorem dX8_mend_18 : decode cX8_mend 18 = .ok (.invokestatic 60, 3) := by decide +kernel
theorem dX8_mend_21 : decode cX8_mend 21 = .ok (.ifCond .eq 13, 3) := by decide +kernel
theorem dX8_mend_24 : decode cX8_mend 24 = .ok (.iload_n 3, 1) := by decide +kernel
theorem dX8_mend_25 : decode cX8_mend 25 = .ok (.iconst 0, 1) := by decide +kernel
theorem dX8_mend_26 : decode cX8_mend 26 = .ok (.bipush 32, 2) := by decide +kernel
theorem dX8_mend_28 : decode cX8_mend 28 = .ok (.invokestatic 60, 3) := by decide +kernel
theorem dX8_mend_31 : decode cX8_mend 31 = .ok (.ifCond .ne 5, 3) := by decide +kernel
theorem dX8_mend_34 : decode cX8_mend 34 = .ok (.iconst (-1), 1) := by decide +kernel
theorem dX8_mend_35 : decode cX8_mend 35 = .ok (.ireturn, 1) := by decide +kernel
theorem dX8_mend_36 : decode cX8_mend 36 = .ok (.iload_n 3, 1) := by decide +kernel
theorem dX8_mend_37 : decode cX8_mend 37 = .ok (.aload_n 0, 1) := by decide +kernel
theorem dX8_mend_38 : decode cX8_mend 38 = .ok (.getfield 7, 3) := by decide +kernel
theorem dX8_mend_41 : decode cX8_mend 41 = .ok (.iload_n 1, 1) := by decide +kernel
theorem dX8_mend_42 : decode cX8_mend 42 = .ok (.iaload, 1) := by decide +kernel
theorem dX8_mend_43 : decode cX8_mend 43 = .ok (.aload_n 0, 1) := by decide +kernel
theorem dX8_mend_44 : decode cX8_mend 44 = .ok (.getfield 13, 3) := by decide +kernel
theorem dX8_mend_47 : decode cX8_mend 47 = .ok (.iload_n 1, 1) := by decide +kernel
theorem dX8_mend_48 : decode cX8_mend 48 = .ok (.iaload, 1) := by decide +kernel
theorem dX8_mend_49 : decode cX8_mend 49 = .ok (.invokestatic 67, 3) := by decide +kernel
theorem dX8_mend_52 : decode cX8_mend 52 = .ok (.ifCond .ne 6, 3) := by decide +kernel
theorem dX8_mend_55 : decode cX8_mend 55 = .ok (.bipush (-4), 2) := by decide +kernel
theorem dX8_mend_57 : decode cX8_mend 57 = .ok (.ireturn, 1) := by decide +kernel
theorem dX8_mend_58 : decode cX8_mend 58 = .ok (.aload_n 0, 1) := by decide +kernel
theorem dX8_mend_59 : decode cX8_mend 59 = .ok (.getfield 16, 3) := by decide +kernel
theorem dX8_mend_62 : decode cX8_mend 62 = .ok (.bipush 12, 2) := by decide +kernel
theorem dX8_mend_64 : decode cX8_mend 64 = .ok (.iload_n 1, 1) := by decide +kernel
theorem dX8_mend_65 : decode cX8_mend 65 = .ok (.imul, 1) := by decide +kernel
theorem dX8_mend_66 : decode cX8_mend 66 = .ok (.iload_n 2, 1) := by decide +kernel
theorem dX8_mend_67 : decode cX8_mend 67 = .ok (.iadd, 1) := by decide +kernel
theorem dX8_mend_68 : decode cX8_mend 68 = .ok (.iaload, 1) := by decide +kernel
theorem dX8_mend_69 : decode cX8_mend 69 = .ok (.istore 4, 2) := by decide +kernel
theorem dX8_mend_71 : decode cX8_mend 71 = .ok (.aload_n 0, 1) := by decide +kernel
theorem dX8_mend_72 : decode cX8_mend 72 = .ok (.getfield 16, 3) := by decide +kernel
theorem dX8_mend_75 : decode cX8_mend 75 = .ok (.bipush 12, 2) := by decide +kernel
theorem dX8_mend_77 : decode cX8_mend 77 = .ok (.iload_n 1, 1) := by decide +kernel
theorem dX8_mend_78 : decode cX8_mend 78 = .ok (.imul, 1) := by decide +kernel
theorem dX8_mend_79 : decode cX8_mend 79 = .ok (.iload_n 2, 1) := by decide +kernel
theorem dX8_mend_80 : decode cX8_mend 80 = .ok (.iadd, 1) := by decide +kernel
theorem dX8_mend_81 : decode cX8_mend 81 = .ok (.iload_n 3, 1) := by decide +kernel
theorem dX8_mend_82 : decode cX8_mend 82 = .ok (.iastore, 1) := by decide +kernel
theorem dX8_mend_83 : decode cX8_mend 83 = .ok (.iload 4, 2) := by decide +kernel
theorem dX8_mend_85 : decode cX8_mend 85 = .ok (.ireturn, 1) := by decide +kernel
set_option maxHeartbeats 4000000 in
set_option maxRecDepth 100000 in
theorem c_X8_mend (l : Launch) (G : MG) (M : MM) (P : MP) (L : ML) (N : MN) (V : MV) (hn : M.1 ≤ 12) (hrc : ∀ r, r < M.1 → M.2.2.1 r ≤ 12) (hra : ∀ r, r < M.1 → M.2.1 r = 1 ∨ M.2.1 r = 2) (x y z : Int32) : Met l yX8_mend (wC yX8_mend cX8_mend 5 (some .int)) (rmD 2) (mPc G [.ref (mga G 0), .int x, .int y, .int z] M P L N V) (va_Qi (fun r u => (¬ (zin M.1 x ∧ (0 ≤ z.toInt ∧ z.toInt ≤ 32) ∧ (0 ≤ y.toInt ∧ y.toInt < (M.2.2.1 x.toInt.toNat : Int))) ∧ r = (-1) ∧ u = (M, P, L, N, V)) ∨ ((zin M.1 x ∧ (0 ≤ z.toInt ∧ z.toInt ≤ 32) ∧ (0 ≤ y.toInt ∧ y.toInt < (M.2.2.1 x.toInt.toNat : Int))) ∧ ¬ sp_may z.toInt (M.2.1 x.toInt.toNat) (M.2.2.1 x.toInt.toNat) ∧ r = (-4) ∧ u = (M, P, L, N, V)) ∨ ((zin M.1 x ∧ (0 ≤ z.toInt ∧ z.toInt ≤ 32) ∧ (0 ≤ y.toInt ∧ y.toInt < (M.2.2.1 x.toInt.toNat : Int))) ∧ sp_may z.toInt (M.2.1 x.toInt.toNat) (M.2.2.1 x.toInt.toNat) ∧ r = M.2.2.2.1 (12 * x.toInt.toNat + y.toInt.toNat) ∧ u = ((M.1, M.2.1, M.2.2.1, upd M.2.2.2.1 (12 * x.toInt.toNat + y.toInt.toNat) z, M.2.2.2.2.1, M.2.2.2.2.2.1, M.2.2.2.2.2.2.1, M.2.2.2.2.2.2.2.1, M.2.2.2.2.2.2.2.2.1, M.2.2.2.2.2.2.2.2.2.1, M.2.2.2.2.2.2.2.2.2.2.1, M.2.2.2.2.2.2.2.2.2.2.2), P, L, N, V))) (mB G) (mA G)) 0 0 (mA G) := by
  refine mst "DoFinderModel" (by decide) rfl (Nat.le_of_ble_eq_true rfl) ?_
  intro p e s m args below meth c ls F hr hlk hW hl
  have hl : lv_has ls 5 [(0, .ref (mga G 0)), (1, .int x), (2, .int y), (3, .int z)] := hl
  have hW : mW G s s.heap s.heap [] M P L N V := hW
  have b_x := i32b x
  have b_y := i32b y
  have b_z := i32b z
  refine lv_aload_n F.1 F.2.1 dX8_mend_0 rfl (lv_at hl 0 rfl) ?_
  refine lv_iload_n F.1 F.2.1 dX8_mend_1 rfl (lv_at hl 1 rfl) ?_
  refine mca_i (b := (mga G 0)) (As := [.int x]) (rest := []) F (c_X8_isRoutine l G M P L N V (by omega) x x.toInt rfl) (xcw F.2.2.2.2 ca_X8_isRoutine tm_595 rfl rfl ⟨by decide, by decide⟩) (mr_X8 hW) hW rfl hl.1 rfl (Nat.le_of_ble_eq_true rfl) dX8_mend_2 (fun r2 u2 H locs hp2 hW => ?_)
  obtain ⟨hp2, rfl⟩ := hp2
  have hW : mW G s s.heap H locs M P L N V := hW
  rcases hp2 with ⟨rfl, y2⟩ | ⟨rfl, y2⟩
  · skip
    obtain ⟨r, hn_r, hm_r, rfl⟩ := argN (x := x) (by omega)
    have e_r : (nI r).toInt.toNat = r := by omega
    have i_r : r < M.1 := by omega
    have hl : lv_has ls 5 [(0, .ref (mga G 0)), (1, .int (nI r)), (2, .int y), (3, .int z)] := hl
    have q1 := hrc r (by omega)
    have q2 := hra r (by omega)
    refine lv_if_eq (tgt := 34) F.1 F.2.1 dX8_mend_5 (by decide) (fun q => absurd q (by decide)) (fun _ => ?_)
    refine lv_iload_n F.1 F.2.1 dX8_mend_8 rfl (lv_at hl 2 rfl) ?_
    refine lv_iconst (v := nI 0) F.1 F.2.1 dX8_mend_9 (by decide) ?_
    refine lv_aload_n F.1 F.2.1 dX8_mend_10 rfl (lv_at hl 0 rfl) ?_
    refine mg_sizeOf F hW tm_502 dX8_mend_11 ?_
    refine lv_iload_n F.1 F.2.1 dX8_mend_14 rfl (lv_at hl 1 rfl) ?_
    refine ml_rc (i := r) F hW rfl (by omega) dX8_mend_15 ?_
    refine lv_iconst (v := nI 1) F.1 F.2.1 dX8_mend_16 (by decide) ?_
    refine ax_sub F rfl dX8_mend_17 ?_
    refine ax_nm (a := ((M.2.2.1 r : Nat) : Int) - 1) (ci_sub (nI_toInt (by omega)) (by decide) (by omega) (by omega)) (fun v1 hv1 => ?_)
    refine pca (As := [.int y, .int (nI 0), .int v1]) (rest := []) F (c_X8_in l y (nI 0) v1 y.toInt 0 (((M.2.2.1 r : Nat) : Int) - 1) rfl (by decide) hv1) (xcwS F.2.2.2.2 ca_X8_in tm_577 rfl rfl ⟨by decide, by decide⟩) rfl hl.1 rfl (Nat.le_of_ble_eq_true rfl) dX8_mend_18 (fun r18 hr18 => ?_)
    rcases hr18 with ⟨rfl, y18⟩ | ⟨rfl, y18⟩
    · skip
      refine lv_if_eq (tgt := 34) F.1 F.2.1 dX8_mend_21 (by decide) (fun q => absurd q (by decide)) (fun _ => ?_)
      refine lv_iload_n F.1 F.2.1 dX8_mend_24 rfl (lv_at hl 3 rfl) ?_
      refine lv_iconst (v := nI 0) F.1 F.2.1 dX8_mend_25 (by decide) ?_
      refine lv_bipush (v := nI 32) F.1 F.2.1 dX8_mend_26 (by decide) ?_
      refine pca (As := [.int z, .int (nI 0), .int (nI 32)]) (rest := []) F (c_X8_in l z (nI 0) (nI 32) z.toInt 0 32 rfl (by decide) (by decide)) (xcwS F.2.2.2.2 ca_X8_in tm_577 rfl rfl ⟨by decide, by decide⟩) rfl hl.1 rfl (Nat.le_of_ble_eq_true rfl) dX8_mend_28 (fun r28 hr28 => ?_)
      rcases hr28 with ⟨rfl, y28⟩ | ⟨rfl, y28⟩
      · skip
        refine lv_if_ne (tgt := 36) F.1 F.2.1 dX8_mend_31 (by decide) (fun _ => ?_) (fun q => absurd q (by decide))
        refine lv_iload_n F.1 F.2.1 dX8_mend_36 rfl (lv_at hl 3 rfl) ?_
        refine lv_aload_n F.1 F.2.1 dX8_mend_37 rfl (lv_at hl 0 rfl) ?_
        refine mg_argumentsOf F hW tm_501 dX8_mend_38 ?_
        refine lv_iload_n F.1 F.2.1 dX8_mend_41 rfl (lv_at hl 1 rfl) ?_
        refine ml_ra (i := r) F hW rfl (by omega) dX8_mend_42 ?_
        refine lv_aload_n F.1 F.2.1 dX8_mend_43 rfl (lv_at hl 0 rfl) ?_
        refine mg_sizeOf F hW tm_502 dX8_mend_44 ?_
        refine lv_iload_n F.1 F.2.1 dX8_mend_47 rfl (lv_at hl 1 rfl) ?_
        refine ml_rc (i := r) F hW rfl (by omega) dX8_mend_48 ?_
        refine pca (As := [.int z, .int (nI (M.2.1 r)), .int (nI (M.2.2.1 r))]) (rest := []) F (c_X8_fits l z (M.2.1 r) (M.2.2.1 r) (by omega) (by omega)) (xcwS F.2.2.2.2 ca_X8_fits tm_588 rfl rfl ⟨by decide, by decide⟩) rfl hl.1 rfl (Nat.le_of_ble_eq_true rfl) dX8_mend_49 (fun r49 hr49 => ?_)
        rcases hr49 with ⟨rfl, y49⟩ | ⟨rfl, y49⟩
        · skip
          refine lv_if_ne (tgt := 58) F.1 F.2.1 dX8_mend_52 (by decide) (fun _ => ?_) (fun q => absurd q (by decide))
          refine lv_aload_n F.1 F.2.1 dX8_mend_58 rfl (lv_at hl 0 rfl) ?_
          refine mg_stepOf F hW tm_503 dX8_mend_59 ?_
          refine lv_bipush (v := nI 12) F.1 F.2.1 dX8_mend_62 (by decide) ?_
          refine lv_iload_n F.1 F.2.1 dX8_mend_64 rfl (lv_at hl 1 rfl) ?_
          refine ax_mul (z := nI (12 * r)) F (pk_mul _ _) dX8_mend_65 ?_
          refine lv_iload_n F.1 F.2.1 dX8_mend_66 rfl (lv_at hl 2 rfl) ?_
          refine ax_add F rfl dX8_mend_67 ?_
          refine ax_nm (a := ((12 * r : Nat) : Int) + y.toInt) (ci_add (nI_toInt (by omega)) rfl (by omega) (by omega)) (fun v2 hv2 => ?_)
          refine ml_st (i := (12 * r + y.toInt.toNat)) F hW (ix_of (by omega)) (by omega) dX8_mend_68 ?_
          have b68 := i32b (M.2.2.2.1 (12 * r + y.toInt.toNat))
          refine lv_istore (lv' := [(4, .int (M.2.2.2.1 (12 * r + y.toInt.toNat))), (0, .ref (mga G 0)), (1, .int (nI r)), (2, .int y), (3, .int z)]) F.1 F.2.1 dX8_mend_69 hl (by decide) rfl (fun ls hl => ?_)
          refine lv_aload_n F.1 F.2.1 dX8_mend_71 rfl (lv_at hl 1 rfl) ?_
          refine mg_stepOf F hW tm_503 dX8_mend_72 ?_
          refine lv_bipush (v := nI 12) F.1 F.2.1 dX8_mend_75 (by decide) ?_
          refine lv_iload_n F.1 F.2.1 dX8_mend_77 rfl (lv_at hl 2 rfl) ?_
          refine ax_mul (z := nI (12 * r)) F (pk_mul _ _) dX8_mend_78 ?_
          refine lv_iload_n F.1 F.2.1 dX8_mend_79 rfl (lv_at hl 3 rfl) ?_
          refine ax_add F rfl dX8_mend_80 ?_
          refine ax_nm (a := ((12 * r : Nat) : Int) + y.toInt) (ci_add (nI_toInt (by omega)) rfl (by omega) (by omega)) (fun v3 hv3 => ?_)
          refine lv_iload_n F.1 F.2.1 dX8_mend_81 rfl (lv_at hl 4 rfl) ?_
          refine ms_st (i := (12 * r + y.toInt.toNat)) F hW (ix_of (by omega)) (by omega) dX8_mend_82 (fun H locs hW => ?_)
          have hW : mW G s s.heap H locs (M.1, M.2.1, M.2.2.1, upd M.2.2.2.1 (12 * r + y.toInt.toNat) z, M.2.2.2.2.1, M.2.2.2.2.2.1, M.2.2.2.2.2.2.1, M.2.2.2.2.2.2.2.1, M.2.2.2.2.2.2.2.2.1, M.2.2.2.2.2.2.2.2.2.1, M.2.2.2.2.2.2.2.2.2.2.1, M.2.2.2.2.2.2.2.2.2.2.2) P L N V := hW
          refine lv_iload F.1 F.2.1 dX8_mend_83 (lv_at hl 0 rfl) ?_
          refine mre_i F hr hlk hW dX8_mend_85 ?_
          exact Or.inr (Or.inr ⟨by unfold zin; rw [e_r]; omega, by rw [e_r]; exact y49, by rw [e_r], by rw [e_r]⟩)
        · skip
          refine lv_if_ne (tgt := 58) F.1 F.2.1 dX8_mend_52 (by decide) (fun q => absurd q (by decide)) (fun _ => ?_)
          refine lv_bipush (v := (-4)) F.1 F.2.1 dX8_mend_55 (by decide) ?_
          refine mre_i F hr hlk hW dX8_mend_57 ?_
          exact Or.inr (Or.inl ⟨by unfold zin; rw [e_r]; omega, by rw [e_r]; exact y49, rfl, rfl⟩)
      · skip
        refine lv_if_ne (tgt := 36) F.1 F.2.1 dX8_mend_31 (by decide) (fun q => absurd q (by decide)) (fun _ => ?_)
        refine lv_iconst (v := (-1)) F.1 F.2.1 dX8_mend_34 (by decide) ?_
        refine mre_i F hr hlk hW dX8_mend_35 ?_
        first | exact Or.inl ⟨by unfold zin; omega, rfl, rfl⟩ | exact Or.inl ⟨by unfold zin; rw [e_r]; omega, rfl, rfl⟩
    · skip
      refine lv_if_eq (tgt := 34) F.1 F.2.1 dX8_mend_21 (by decide) (fun _ => ?_) (fun q => absurd q (by decide))
      refine lv_iconst (v := (-1)) F.1 F.2.1 dX8_mend_34 (by decide) ?_
      refine mre_i F hr hlk hW dX8_mend_35 ?_
      first | exact Or.inl ⟨by unfold zin; omega, rfl, rfl⟩ | exact Or.inl ⟨by unfold zin; rw [e_r]; omega, rfl, rfl⟩
  · skip
    refine lv_if_eq (tgt := 34) F.1 F.2.1 dX8_mend_5 (by decide) (fun _ => ?_) (fun q => absurd q (by decide))
    refine lv_iconst (v := (-1)) F.1 F.2.1 dX8_mend_34 (by decide) ?_
    refine mre_i F hr hlk hW dX8_mend_35 ?_
    first | exact Or.inl ⟨by unfold zin; omega, rfl, rfl⟩ | exact Or.inl ⟨by unfold zin; rw [e_r]; omega, rfl, rfl⟩
theorem dX8_of_0 : decode cX8_of 0 = .ok (.aload_n 0, 1) := by decide +kernel
theorem dX8_of_1 : decode cX8_of 1 = .ok (.iload_n 1, 1) := by decide +kernel
theorem dX8_of_2 : decode cX8_of 2 = .ok (.invokevirtual 70, 3) := by decide +kernel
theorem dX8_of_5 : decode cX8_of 5 = .ok (.ifCond .ne 5, 3) := by decide +kernel
theorem dX8_of_8 : decode cX8_of 8 = .ok (.iconst (-1), 1) := by decide +kernel
theorem dX8_of_9 : decode cX8_of 9 = .ok (.ireturn, 1) := by decide +kernel
theorem dX8_of_10 : decode cX8_of 10 = .ok (.iload_n 2, 1) := by decide +kernel
theorem dX8_of_11 : decode cX8_of 11 = .ok (.ifCond .ne 10, 3) := by decide +kernel
theorem dX8_of_14 : decode cX8_of 14 = .ok (.aload_n 0, 1) := by decide +kernel
theorem dX8_of_15 : decode cX8_of 15 = .ok (.getfield 7, 3) := by decide +kernel
theorem dX8_of_18 : decode cX8_of 18 = .ok (.iload_n 1, 1) := by decide +kernel
theorem dX8_of_19 : decode cX8_of 19 = .ok (.iaload, 1) := by decide +kernel
theorem dX8_of_20 : decode cX8_of 20 = .ok (.ireturn, 1) := by decide +kernel
theorem dX8_of_21 : decode cX8_of 21 = .ok (.iload_n 2, 1) := by decide +kernel
theorem dX8_of_22 : decode cX8_of 22 = .ok (.iconst 1, 1) := by decide +kernel
theorem dX8_of_23 : decode cX8_of 23 = .ok (.if_icmp .ne 10, 3) := by decide +kernel
theorem dX8_of_26 : decode cX8_of 26 = .ok (.aload_n 0, 1) := by decide +kernel
theorem dX8_of_27 : decode cX8_of 27 = .ok (.getfield 13, 3) := by decide +kernel
theorem dX8_of_30 : decode cX8_of 30 = .ok (.iload_n 1, 1) := by decide +kernel
theorem dX8_of_31 : decode cX8_of 31 = .ok (.iaload, 1) := by decide +kernel
theorem dX8_of_32 : decode cX8_of 32 = .ok (.ireturn, 1) := by decide +kernel
theorem dX8_of_33 : decode cX8_of 33 = .ok (.iload_n 2, 1) := by decide +kernel
theorem dX8_of_34 : decode cX8_of 34 = .ok (.bipush 10, 2) := by decide +kernel
theorem dX8_of_36 : decode cX8_of 36 = .ok (.bipush 9, 2) := by decide +kernel
theorem dX8_of_38 : decode cX8_of 38 = .ok (.aload_n 0, 1) := by decide +kernel
theorem dX8_of_39 : decode cX8_of 39 = .ok (.getfield 13, 3) := by decide +kernel
theorem dX8_of_42 : decode cX8_of 42 = .ok (.iload_n 1, 1) := by decide +kernel
theorem dX8_of_43 : decode cX8_of 43 = .ok (.iaload, 1) := by decide +kernel
theorem dX8_of_44 : decode cX8_of 44 = .ok (.iadd, 1) := by decide +kernel
theorem dX8_of_45 : decode cX8_of 45 = .ok (.invokestatic 60, 3) := by decide +kernel
theorem dX8_of_48 : decode cX8_of 48 = .ok (.ifCond .eq 20, 3) := by decide +kernel
theorem dX8_of_51 : decode cX8_of 51 = .ok (.aload_n 0, 1) := by decide +kernel
theorem dX8_of_52 : decode cX8_of 52 = .ok (.getfield 16, 3) := by decide +kernel
theorem dX8_of_55 : decode cX8_of 55 = .ok (.bipush 12, 2) := by decide +kernel
theorem dX8_of_57 : decode cX8_of 57 = .ok (.iload_n 1, 1) := by decide +kernel
theorem dX8_of_58 : decode cX8_of 58 = .ok (.imul, 1) := by decide +kernel
theorem dX8_of_59 : decode cX8_of 59 = .ok (.iload_n 2, 1) := by decide +kernel
theorem dX8_of_60 : decode cX8_of 60 = .ok (.iadd, 1) := by decide +kernel
theorem dX8_of_61 : decode cX8_of 61 = .ok (.bipush 10, 2) := by decide +kernel
theorem dX8_of_63 : decode cX8_of 63 = .ok (.isub, 1) := by decide +kernel
theorem dX8_of_64 : decode cX8_of 64 = .ok (.iaload, 1) := by decide +kernel
theorem dX8_of_65 : decode cX8_of 65 = .ok (.goto 4, 3) := by decide +kernel
theorem dX8_of_68 : decode cX8_of 68 = .ok (.iconst (-1), 1) := by decide +kernel
theorem dX8_of_69 : decode cX8_of 69 = .ok (.ireturn, 1) := by decide +kernel
set_option maxHeartbeats 4000000 in
set_option maxRecDepth 100000 in
theorem c_X8_of (l : Launch) (G : MG) (M : MM) (P : MP) (L : ML) (N : MN) (V : MV) (hn : M.1 ≤ 12) (hrc : ∀ r, r < M.1 → M.2.2.1 r ≤ 12) (hra : ∀ r, r < M.1 → M.2.1 r = 1 ∨ M.2.1 r = 2) (x y : Int32) : Met l yX8_of (wC yX8_of cX8_of 3 (some .int)) (rmD 2) (mPc G [.ref (mga G 0), .int x, .int y] M P L N V) (va_Qi (fun r u => qOf M.1 M.2.1 M.2.2.1 (fun r k => M.2.2.2.1 (12 * r + k)) x y r ∧ u = (M, P, L, N, V)) (mB G) (mA G)) 0 0 (mA G) := by
  refine mst "DoFinderModel" (by decide) rfl (Nat.le_of_ble_eq_true rfl) ?_
  intro p e s m args below meth c ls F hr hlk hW hl
  have hl : lv_has ls 3 [(0, .ref (mga G 0)), (1, .int x), (2, .int y)] := hl
  have hW : mW G s s.heap s.heap [] M P L N V := hW
  have b_x := i32b x
  have b_y := i32b y
  refine lv_aload_n F.1 F.2.1 dX8_of_0 rfl (lv_at hl 0 rfl) ?_
  refine lv_iload_n F.1 F.2.1 dX8_of_1 rfl (lv_at hl 1 rfl) ?_
  refine mca_i (b := (mga G 0)) (As := [.int x]) (rest := []) F (c_X8_isRoutine l G M P L N V (by omega) x x.toInt rfl) (xcw F.2.2.2.2 ca_X8_isRoutine tm_595 rfl rfl ⟨by decide, by decide⟩) (mr_X8 hW) hW rfl hl.1 rfl (Nat.le_of_ble_eq_true rfl) dX8_of_2 (fun r2 u2 H locs hp2 hW => ?_)
  obtain ⟨hp2, rfl⟩ := hp2
  have hW : mW G s s.heap H locs M P L N V := hW
  rcases hp2 with ⟨rfl, y2⟩ | ⟨rfl, y2⟩
  · skip
    obtain ⟨r, hn_r, hm_r, rfl⟩ := argN (x := x) (by omega)
    have e_r : (nI r).toInt.toNat = r := by omega
    have i_r : r < M.1 := by omega
    have hl : lv_has ls 3 [(0, .ref (mga G 0)), (1, .int (nI r)), (2, .int y)] := hl
    have q1 := hrc r (by omega)
    have q2 := hra r (by omega)
    refine lv_if_ne (tgt := 10) F.1 F.2.1 dX8_of_5 (by decide) (fun _ => ?_) (fun q => absurd q (by decide))
    refine lv_iload_n F.1 F.2.1 dX8_of_10 rfl (lv_at hl 2 rfl) ?_
    refine lv_if_ne (tgt := 21) F.1 F.2.1 dX8_of_11 (by decide) (fun c11 => ?_) (fun c11 => ?_)
    · have c11 := ci_ne (a := y.toInt) (b := 0) rfl ci_0 c11
      refine lv_iload_n F.1 F.2.1 dX8_of_21 rfl (lv_at hl 2 rfl) ?_
      refine lv_iconst (v := nI 1) F.1 F.2.1 dX8_of_22 (by decide) ?_
      refine lv_icmp_ne (tgt := 33) F.1 F.2.1 dX8_of_23 (by decide) (fun c23 => ?_) (fun c23 => ?_)
      · have c23 := ci_ne (a := y.toInt) (b := 1) rfl (by decide) c23
        refine lv_iload_n F.1 F.2.1 dX8_of_33 rfl (lv_at hl 2 rfl) ?_
        refine lv_bipush (v := nI 10) F.1 F.2.1 dX8_of_34 (by decide) ?_
        refine lv_bipush (v := nI 9) F.1 F.2.1 dX8_of_36 (by decide) ?_
        refine lv_aload_n F.1 F.2.1 dX8_of_38 rfl (lv_at hl 0 rfl) ?_
        refine mg_sizeOf F hW tm_502 dX8_of_39 ?_
        refine lv_iload_n F.1 F.2.1 dX8_of_42 rfl (lv_at hl 1 rfl) ?_
        refine ml_rc (i := r) F hW rfl (by omega) dX8_of_43 ?_
        refine ax_add (z := nI (9 + (M.2.2.1 r))) F (nI_add _ _) dX8_of_44 ?_
        refine pca (As := [.int y, .int (nI 10), .int (nI (9 + (M.2.2.1 r)))]) (rest := []) F (c_X8_in l y (nI 10) (nI (9 + (M.2.2.1 r))) y.toInt 10 ((9 + (M.2.2.1 r) : Nat) : Int) rfl (by decide) (nI_toInt (by omega))) (xcwS F.2.2.2.2 ca_X8_in tm_577 rfl rfl ⟨by decide, by decide⟩) rfl hl.1 rfl (Nat.le_of_ble_eq_true rfl) dX8_of_45 (fun r45 hr45 => ?_)
        rcases hr45 with ⟨rfl, y45⟩ | ⟨rfl, y45⟩
        · skip
          refine lv_if_eq (tgt := 68) F.1 F.2.1 dX8_of_48 (by decide) (fun q => absurd q (by decide)) (fun _ => ?_)
          refine lv_aload_n F.1 F.2.1 dX8_of_51 rfl (lv_at hl 0 rfl) ?_
          refine mg_stepOf F hW tm_503 dX8_of_52 ?_
          refine lv_bipush (v := nI 12) F.1 F.2.1 dX8_of_55 (by decide) ?_
          refine lv_iload_n F.1 F.2.1 dX8_of_57 rfl (lv_at hl 1 rfl) ?_
          refine ax_mul (z := nI (12 * r)) F (pk_mul _ _) dX8_of_58 ?_
          refine lv_iload_n F.1 F.2.1 dX8_of_59 rfl (lv_at hl 2 rfl) ?_
          refine ax_add F rfl dX8_of_60 ?_
          refine ax_nm (a := ((12 * r : Nat) : Int) + y.toInt) (ci_add (nI_toInt (by omega)) rfl (by omega) (by omega)) (fun v1 hv1 => ?_)
          refine lv_bipush (v := nI 10) F.1 F.2.1 dX8_of_61 (by decide) ?_
          refine ax_sub F rfl dX8_of_63 ?_
          refine ax_nm (a := (((12 * r : Nat) : Int) + y.toInt) - 10) (ci_sub hv1 (by decide) (by omega) (by omega)) (fun v2 hv2 => ?_)
          refine ml_st (i := (12 * r + (y.toInt - 10).toNat)) F hW (ix_of (by omega)) (by omega) dX8_of_64 ?_
          have b64 := i32b (M.2.2.2.1 (12 * r + (y.toInt - 10).toNat))
          refine lv_goto (tgt := 69) F.1 F.2.1 dX8_of_65 (by decide) ?_
          refine mre_i F hr hlk hW dX8_of_69 ?_
          refine ⟨?_, rfl⟩
          unfold qOf zin
          first | exact Or.inl (⟨by omega, rfl⟩) | (rw [e_r]; first | exact Or.inr (Or.inl (⟨by omega, by omega, rfl⟩)) | exact Or.inr (Or.inr (Or.inl (⟨by omega, by omega, rfl⟩))) | exact Or.inr (Or.inr (Or.inr (Or.inl (⟨by omega, by omega, by omega, rfl⟩)))) | exact Or.inr (Or.inr (Or.inr (Or.inr (⟨by omega, by omega, by omega, by omega, rfl⟩)))))
        · skip
          refine lv_if_eq (tgt := 68) F.1 F.2.1 dX8_of_48 (by decide) (fun _ => ?_) (fun q => absurd q (by decide))
          refine lv_iconst (v := (-1)) F.1 F.2.1 dX8_of_68 (by decide) ?_
          refine mre_i F hr hlk hW dX8_of_69 ?_
          refine ⟨?_, rfl⟩
          unfold qOf zin
          first | exact Or.inl (⟨by omega, rfl⟩) | (rw [e_r]; first | exact Or.inr (Or.inl (⟨by omega, by omega, rfl⟩)) | exact Or.inr (Or.inr (Or.inl (⟨by omega, by omega, rfl⟩))) | exact Or.inr (Or.inr (Or.inr (Or.inl (⟨by omega, by omega, by omega, rfl⟩)))) | exact Or.inr (Or.inr (Or.inr (Or.inr (⟨by omega, by omega, by omega, by omega, rfl⟩)))))
      · have c23 := ci_eq (a := y.toInt) (b := 1) rfl (by decide) c23
        refine lv_aload_n F.1 F.2.1 dX8_of_26 rfl (lv_at hl 0 rfl) ?_
        refine mg_sizeOf F hW tm_502 dX8_of_27 ?_
        refine lv_iload_n F.1 F.2.1 dX8_of_30 rfl (lv_at hl 1 rfl) ?_
        refine ml_rc (i := r) F hW rfl (by omega) dX8_of_31 ?_
        refine mre_i F hr hlk hW dX8_of_32 ?_
        refine ⟨?_, rfl⟩
        unfold qOf zin
        first | exact Or.inl (⟨by omega, rfl⟩) | (rw [e_r]; first | exact Or.inr (Or.inl (⟨by omega, by omega, rfl⟩)) | exact Or.inr (Or.inr (Or.inl (⟨by omega, by omega, rfl⟩))) | exact Or.inr (Or.inr (Or.inr (Or.inl (⟨by omega, by omega, by omega, rfl⟩)))) | exact Or.inr (Or.inr (Or.inr (Or.inr (⟨by omega, by omega, by omega, by omega, rfl⟩)))))
    · have c11 := ci_eq (a := y.toInt) (b := 0) rfl ci_0 c11
      refine lv_aload_n F.1 F.2.1 dX8_of_14 rfl (lv_at hl 0 rfl) ?_
      refine mg_argumentsOf F hW tm_501 dX8_of_15 ?_
      refine lv_iload_n F.1 F.2.1 dX8_of_18 rfl (lv_at hl 1 rfl) ?_
      refine ml_ra (i := r) F hW rfl (by omega) dX8_of_19 ?_
      refine mre_i F hr hlk hW dX8_of_20 ?_
      refine ⟨?_, rfl⟩
      unfold qOf zin
      first | exact Or.inl (⟨by omega, rfl⟩) | (rw [e_r]; first | exact Or.inr (Or.inl (⟨by omega, by omega, rfl⟩)) | exact Or.inr (Or.inr (Or.inl (⟨by omega, by omega, rfl⟩))) | exact Or.inr (Or.inr (Or.inr (Or.inl (⟨by omega, by omega, by omega, rfl⟩)))) | exact Or.inr (Or.inr (Or.inr (Or.inr (⟨by omega, by omega, by omega, by omega, rfl⟩)))))
  · skip
    refine lv_if_ne (tgt := 10) F.1 F.2.1 dX8_of_5 (by decide) (fun q => absurd q (by decide)) (fun _ => ?_)
    refine lv_iconst (v := (-1)) F.1 F.2.1 dX8_of_8 (by decide) ?_
    refine mre_i F hr hlk hW dX8_of_9 ?_
    refine ⟨?_, rfl⟩
    unfold qOf zin
    first | exact Or.inl (⟨by omega, rfl⟩) | (rw [e_r]; first | exact Or.inr (Or.inl (⟨by omega, by omega, rfl⟩)) | exact Or.inr (Or.inr (Or.inl (⟨by omega, by omega, rfl⟩))) | exact Or.inr (Or.inr (Or.inr (Or.inl (⟨by omega, by omega, by omega, rfl⟩)))) | exact Or.inr (Or.inr (Or.inr (Or.inr (⟨by omega, by omega, by omega, by omega, rfl⟩)))))
theorem dX8_run_0 : decode cX8_run 0 = .ok (.aload_n 0, 1) := by decide +kernel
theorem dX8_run_1 : decode cX8_run 1 = .ok (.iload_n 1, 1) := by decide +kernel
theorem dX8_run_2 : decode cX8_run 2 = .ok (.invokevirtual 70, 3) := by decide +kernel
theorem dX8_run_5 : decode cX8_run 5 = .ok (.ifCond .eq 13, 3) := by decide +kernel
theorem dX8_run_8 : decode cX8_run 8 = .ok (.aload_n 0, 1) := by decide +kernel
theorem dX8_run_9 : decode cX8_run 9 = .ok (.iload_n 1, 1) := by decide +kernel
theorem dX8_run_10 : decode cX8_run 10 = .ok (.iload_n 2, 1) := by decide +kernel
theorem dX8_run_11 : decode cX8_run 11 = .ok (.iload_n 3, 1) := by decide +kernel
theorem dX8_run_12 : decode cX8_run 12 = .ok (.invokevirtual 103, 3) := by decide +kernel
theorem dX8_run_15 : decode cX8_run 15 = .ok (.goto 6, 3) := by decide +kernel
theorem dX8_run_18 : decode cX8_run 18 = .ok (.ldc2_w 107, 3) := by decide +kernel
theorem dX8_run_21 : decode cX8_run 21 = .ok (.lreturn, 1) := by decide +kernel
set_option maxHeartbeats 4000000 in
set_option maxRecDepth 100000 in
theorem c_X8_run (l : Launch) (G : MG) (M : MM) (P : MP) (L : ML) (N : MN) (V : MV) (hn : M.1 ≤ 12) (hrc : ∀ r, r < M.1 → M.2.2.1 r ≤ 12) (hra : ∀ r, r < M.1 → M.2.1 r = 1 ∨ M.2.1 r = 2) (hf : M.2.2.2.2.2.2.1 ≤ 200) (r : Nat) (hr0 : r < M.1) (a b : Int32) : Met l yX8_run (wC yX8_run cX8_run 4 (some .long)) (rmD 3) (mPc G [.ref (mga G 0), .int (nI r), .int a, .int b] M P L N V) (va_Ql (fun v u => v = zout M.2.2.2.2.2.2.1 (M.2.2.1 r) (fun k => M.2.2.2.1 (12 * r + k)) a b ∧ ∃ P2 : MP, u = (M, P2, L, N, V)) (mB G) (mA G)) 0 0 (mA G) := by
  refine mst "DoFinderModel" (by decide) rfl (Nat.le_of_ble_eq_true rfl) ?_
  intro p e s m args below meth c ls F hr hlk hW hl
  have hl : lv_has ls 4 [(0, .ref (mga G 0)), (1, .int (nI r)), (2, .int a), (3, .int b)] := hl
  have hW : mW G s s.heap s.heap [] M P L N V := hW
  have b_a := i32b a
  have b_b := i32b b
  refine lv_aload_n F.1 F.2.1 dX8_run_0 rfl (lv_at hl 0 rfl) ?_
  refine lv_iload_n F.1 F.2.1 dX8_run_1 rfl (lv_at hl 1 rfl) ?_
  refine mca_i (b := (mga G 0)) (As := [.int (nI r)]) (rest := []) F (c_X8_isRoutine l G M P L N V (by omega) (nI r) ((r : Nat) : Int) (nI_toInt (by omega))) (xcw F.2.2.2.2 ca_X8_isRoutine tm_595 rfl rfl ⟨by decide, by decide⟩) (mr_X8 hW) hW rfl hl.1 rfl (Nat.le_of_ble_eq_true rfl) dX8_run_2 (fun r2 u2 H locs hp2 hW => ?_)
  obtain ⟨hp2, rfl⟩ := hp2
  have hW : mW G s s.heap H locs M P L N V := hW
  rcases hp2 with ⟨rfl, y2⟩ | ⟨rfl, y2⟩
  · skip
    refine lv_if_eq (tgt := 18) F.1 F.2.1 dX8_run_5 (by decide) (fun q => absurd q (by decide)) (fun _ => ?_)
    refine lv_aload_n F.1 F.2.1 dX8_run_8 rfl (lv_at hl 0 rfl) ?_
    refine lv_iload_n F.1 F.2.1 dX8_run_9 rfl (lv_at hl 1 rfl) ?_
    refine lv_iload_n F.1 F.2.1 dX8_run_10 rfl (lv_at hl 2 rfl) ?_
    refine lv_iload_n F.1 F.2.1 dX8_run_11 rfl (lv_at hl 3 rfl) ?_
    refine mca_l (b := (mga G 0)) (As := [.int (nI r), .int a, .int b]) (rest := []) F (c_X8_runIt l G M P L N V r (by omega) (hrc r (by omega)) hf a b) (xcw F.2.2.2.2 ca_X8_runIt tm_607 rfl rfl ⟨by decide, by decide⟩) (mr_X8 hW) hW rfl hl.1 rfl (Nat.le_of_ble_eq_true rfl) dX8_run_12 (fun r12 u12 H locs hp12 hW => ?_)
    obtain ⟨rfl, P12, rfl, e12⟩ := hp12
    have hW : mW G s s.heap H locs M P12 L N V := hW
    refine lv_goto (tgt := 21) F.1 F.2.1 dX8_run_15 (by decide) ?_
    refine mre_l F hr hlk hW dX8_run_21 ?_
    exact ⟨rfl, _, rfl⟩
  · skip
    exfalso; omega
set_option maxHeartbeats 4000000 in
set_option maxRecDepth 100000 in
theorem c_X8_run_no (l : Launch) (G : MG) (M : MM) (P : MP) (L : ML) (N : MN) (V : MV) (hn : M.1 ≤ 12) (hrc : ∀ r, r < M.1 → M.2.2.1 r ≤ 12) (hra : ∀ r, r < M.1 → M.2.1 r = 1 ∨ M.2.1 r = 2) (hf : M.2.2.2.2.2.2.1 ≤ 200) (x a b : Int32) (hx : ¬ zin M.1 x) : Met l yX8_run (wC yX8_run cX8_run 4 (some .long)) (rmD 3) (mPc G [.ref (mga G 0), .int x, .int a, .int b] M P L N V) (va_Ql (fun v u => v = zNOT ∧ ∃ P2 : MP, u = (M, P2, L, N, V)) (mB G) (mA G)) 0 0 (mA G) := by
  refine mst "DoFinderModel" (by decide) rfl (Nat.le_of_ble_eq_true rfl) ?_
  intro p e s m args below meth c ls F hr hlk hW hl
  have hl : lv_has ls 4 [(0, .ref (mga G 0)), (1, .int x), (2, .int a), (3, .int b)] := hl
  have hW : mW G s s.heap s.heap [] M P L N V := hW
  have b_x := i32b x
  have b_a := i32b a
  have b_b := i32b b
  unfold zin at hx
  refine lv_aload_n F.1 F.2.1 dX8_run_0 rfl (lv_at hl 0 rfl) ?_
  refine lv_iload_n F.1 F.2.1 dX8_run_1 rfl (lv_at hl 1 rfl) ?_
  refine mca_i (b := (mga G 0)) (As := [.int x]) (rest := []) F (c_X8_isRoutine l G M P L N V (by omega) x x.toInt rfl) (xcw F.2.2.2.2 ca_X8_isRoutine tm_595 rfl rfl ⟨by decide, by decide⟩) (mr_X8 hW) hW rfl hl.1 rfl (Nat.le_of_ble_eq_true rfl) dX8_run_2 (fun r2 u2 H locs hp2 hW => ?_)
  obtain ⟨hp2, rfl⟩ := hp2
  have hW : mW G s s.heap H locs M P L N V := hW
  rcases hp2 with ⟨rfl, y2⟩ | ⟨rfl, y2⟩
  · skip
    exfalso; omega
  · skip
    refine lv_if_eq (tgt := 18) F.1 F.2.1 dX8_run_5 (by decide) (fun _ => ?_) (fun q => absurd q (by decide))
    refine lv_ldc2 (v := zNOT) F.1 F.2.1 F.2.2.2.1 (F.2.2.2.2 _ tm_631) dX8_run_18 ?_
    refine mre_l F hr hlk hW dX8_run_21 ?_
    exact ⟨rfl, _, rfl⟩
theorem dX8_fuel_0 : decode cX8_fuel 0 = .ok (.aload_n 0, 1) := by decide +kernel
theorem dX8_fuel_1 : decode cX8_fuel 1 = .ok (.iload_n 1, 1) := by decide +kernel
theorem dX8_fuel_2 : decode cX8_fuel 2 = .ok (.invokevirtual 70, 3) := by decide +kernel
theorem dX8_fuel_5 : decode cX8_fuel 5 = .ok (.ifCond .ne 5, 3) := by decide +kernel
theorem dX8_fuel_8 : decode cX8_fuel 8 = .ok (.iconst (-1), 1) := by decide +kernel
theorem dX8_fuel_9 : decode cX8_fuel 9 = .ok (.ireturn, 1) := by decide +kernel
theorem dX8_fuel_10 : decode cX8_fuel 10 = .ok (.aload_n 0, 1) := by decide +kernel
theorem dX8_fuel_11 : decode cX8_fuel 11 = .ok (.iload_n 1, 1) := by decide +kernel
theorem dX8_fuel_12 : decode cX8_fuel 12 = .ok (.iload_n 2, 1) := by decide +kernel
theorem dX8_fuel_13 : decode cX8_fuel 13 = .ok (.iload_n 3, 1) := by decide +kernel
theorem dX8_fuel_14 : decode cX8_fuel 14 = .ok (.invokevirtual 103, 3) := by decide +kernel
theorem dX8_fuel_17 : decode cX8_fuel 17 = .ok (.lstore 4, 2) := by decide +kernel
theorem dX8_fuel_19 : decode cX8_fuel 19 = .ok (.aload_n 0, 1) := by decide +kernel
theorem dX8_fuel_20 : decode cX8_fuel 20 = .ok (.getfield 89, 3) := by decide +kernel
theorem dX8_fuel_23 : decode cX8_fuel 23 = .ok (.ireturn, 1) := by decide +kernel
set_option maxHeartbeats 4000000 in
set_option maxRecDepth 100000 in
theorem c_X8_fuel (l : Launch) (G : MG) (M : MM) (P : MP) (L : ML) (N : MN) (V : MV) (hn : M.1 ≤ 12) (hrc : ∀ r, r < M.1 → M.2.2.1 r ≤ 12) (hra : ∀ r, r < M.1 → M.2.1 r = 1 ∨ M.2.1 r = 2) (hf : M.2.2.2.2.2.2.1 ≤ 200) (x a b : Int32) : Met l yX8_fuel (wC yX8_fuel cX8_fuel 6 (some .int)) (rmD 3) (mPc G [.ref (mga G 0), .int x, .int a, .int b] M P L N V) (va_Qi (fun v u => ((¬ zin M.1 x ∧ v = (-1)) ∨ (zin M.1 x ∧ v = nI (zuse M.2.2.2.2.2.2.1 (M.2.2.1 x.toInt.toNat) (fun k => M.2.2.2.1 (12 * x.toInt.toNat + k)) a b))) ∧ ∃ P2 : MP, u = (M, P2, L, N, V)) (mB G) (mA G)) 0 0 (mA G) := by
  refine mst "DoFinderModel" (by decide) rfl (Nat.le_of_ble_eq_true rfl) ?_
  intro p e s m args below meth c ls F hr hlk hW hl
  have hl : lv_has ls 6 [(0, .ref (mga G 0)), (1, .int x), (2, .int a), (3, .int b)] := hl
  have hW : mW G s s.heap s.heap [] M P L N V := hW
  have b_x := i32b x
  have b_a := i32b a
  have b_b := i32b b
  refine lv_aload_n F.1 F.2.1 dX8_fuel_0 rfl (lv_at hl 0 rfl) ?_
  refine lv_iload_n F.1 F.2.1 dX8_fuel_1 rfl (lv_at hl 1 rfl) ?_
  refine mca_i (b := (mga G 0)) (As := [.int x]) (rest := []) F (c_X8_isRoutine l G M P L N V (by omega) x x.toInt rfl) (xcw F.2.2.2.2 ca_X8_isRoutine tm_595 rfl rfl ⟨by decide, by decide⟩) (mr_X8 hW) hW rfl hl.1 rfl (Nat.le_of_ble_eq_true rfl) dX8_fuel_2 (fun r2 u2 H locs hp2 hW => ?_)
  obtain ⟨hp2, rfl⟩ := hp2
  have hW : mW G s s.heap H locs M P L N V := hW
  rcases hp2 with ⟨rfl, y2⟩ | ⟨rfl, y2⟩
  · skip
    obtain ⟨r, hn_r, hm_r, rfl⟩ := argN (x := x) (by omega)
    have e_r : (nI r).toInt.toNat = r := by omega
    have i_r : r < M.1 := by omega
    have hl : lv_has ls 6 [(0, .ref (mga G 0)), (1, .int (nI r)), (2, .int a), (3, .int b)] := hl
    have q1 := hrc r (by omega)
    have q2 := hra r (by omega)
    refine lv_if_ne (tgt := 10) F.1 F.2.1 dX8_fuel_5 (by decide) (fun _ => ?_) (fun q => absurd q (by decide))
    refine lv_aload_n F.1 F.2.1 dX8_fuel_10 rfl (lv_at hl 0 rfl) ?_
    refine lv_iload_n F.1 F.2.1 dX8_fuel_11 rfl (lv_at hl 1 rfl) ?_
    refine lv_iload_n F.1 F.2.1 dX8_fuel_12 rfl (lv_at hl 2 rfl) ?_
    refine lv_iload_n F.1 F.2.1 dX8_fuel_13 rfl (lv_at hl 3 rfl) ?_
    refine mca_l (b := (mga G 0)) (As := [.int (nI r), .int a, .int b]) (rest := []) F (c_X8_runIt l G M P L N V r (by omega) (hrc r (by omega)) hf a b) (xcw F.2.2.2.2 ca_X8_runIt tm_607 rfl rfl ⟨by decide, by decide⟩) (mr_X8 hW) hW rfl hl.1 rfl (Nat.le_of_ble_eq_true rfl) dX8_fuel_14 (fun r14 u14 H locs hp14 hW => ?_)
    obtain ⟨rfl, P14, rfl, e14⟩ := hp14
    have hW : mW G s s.heap H locs M P14 L N V := hW
    refine lv_lstore (lv' := [(4, .long (zout M.2.2.2.2.2.2.1 (M.2.2.1 r) (fun k => M.2.2.2.1 (12 * r + k)) a b)), (0, .ref (mga G 0)), (1, .int (nI r)), (2, .int a), (3, .int b)]) F.1 F.2.1 dX8_fuel_17 hl (by decide) rfl (fun ls hl => ?_)
    refine lv_aload_n F.1 F.2.1 dX8_fuel_19 rfl (lv_at hl 1 rfl) ?_
    refine mg_used F hW tm_514 dX8_fuel_20 ?_
    refine ax_re (show nI P14.2.1 = nI (zuse M.2.2.2.2.2.2.1 (M.2.2.1 r) (fun k => M.2.2.2.1 (12 * r + k)) a b) from congrArg nI e14) ?_
    refine mre_i F hr hlk hW dX8_fuel_23 ?_
    exact ⟨Or.inr ⟨by unfold zin; omega, by rw [e_r]⟩, _, rfl⟩
  · skip
    refine lv_if_ne (tgt := 10) F.1 F.2.1 dX8_fuel_5 (by decide) (fun q => absurd q (by decide)) (fun _ => ?_)
    refine lv_iconst (v := (-1)) F.1 F.2.1 dX8_fuel_8 (by decide) ?_
    refine mre_i F hr hlk hW dX8_fuel_9 ?_
    exact ⟨Or.inl ⟨by unfold zin; omega, rfl⟩, _, rfl⟩
theorem dX8_limit_0 : decode cX8_limit 0 = .ok (.iload_n 1, 1) := by decide +kernel
theorem dX8_limit_1 : decode cX8_limit 1 = .ok (.iconst 1, 1) := by decide +kernel
theorem dX8_limit_2 : decode cX8_limit 2 = .ok (.sipush 200, 3) := by decide +kernel
theorem dX8_limit_5 : decode cX8_limit 5 = .ok (.invokestatic 60, 3) := by decide +kernel
theorem dX8_limit_8 : decode cX8_limit 8 = .ok (.ifCond .ne 5, 3) := by decide +kernel
theorem dX8_limit_11 : decode cX8_limit 11 = .ok (.iconst (-1), 1) := by decide +kernel
theorem dX8_limit_12 : decode cX8_limit 12 = .ok (.ireturn, 1) := by decide +kernel
theorem dX8_limit_13 : decode cX8_limit 13 = .ok (.aload_n 0, 1) := by decide +kernel
theorem dX8_limit_14 : decode cX8_limit 14 = .ok (.getfield 22, 3) := by decide +kernel
theorem dX8_limit_17 : decode cX8_limit 17 = .ok (.istore_n 2, 1) := by decide +kernel
theorem dX8_limit_18 : decode cX8_limit 18 = .ok (.aload_n 0, 1) := by decide +kernel
theorem dX8_limit_19 : decode cX8_limit 19 = .ok (.iload_n 1, 1) := by decide +kernel
theorem dX8_limit_20 : decode cX8_limit 20 = .ok (.putfield 22, 3) := by decide +kernel
theorem dX8_limit_23 : decode cX8_limit 23 = .ok (.iload_n 2, 1) := by decide +kernel
theorem dX8_limit_24 : decode cX8_limit 24 = .ok (.ireturn, 1) := by decide +kernel
set_option maxHeartbeats 4000000 in
set_option maxRecDepth 100000 in
theorem c_X8_limit (l : Launch) (G : MG) (M : MM) (P : MP) (L : ML) (N : MN) (V : MV) (hf : M.2.2.2.2.2.2.1 ≤ 200) (x : Int32) : Met l yX8_limit (wC yX8_limit cX8_limit 3 (some .int)) (rmD 1) (mPc G [.ref (mga G 0), .int x] M P L N V) (va_Qi (fun r u => (¬ (1 ≤ x.toInt ∧ x.toInt ≤ 200) ∧ r = (-1) ∧ u = (M, P, L, N, V)) ∨ ((1 ≤ x.toInt ∧ x.toInt ≤ 200) ∧ r = nI M.2.2.2.2.2.2.1 ∧ u = ((M.1, M.2.1, M.2.2.1, M.2.2.2.1, M.2.2.2.2.1, M.2.2.2.2.2.1, x.toInt.toNat, M.2.2.2.2.2.2.2.1, M.2.2.2.2.2.2.2.2.1, M.2.2.2.2.2.2.2.2.2.1, M.2.2.2.2.2.2.2.2.2.2.1, M.2.2.2.2.2.2.2.2.2.2.2), P, L, N, V))) (mB G) (mA G)) 0 0 (mA G) := by
  refine mst "DoFinderModel" (by decide) rfl (Nat.le_of_ble_eq_true rfl) ?_
  intro p e s m args below meth c ls F hr hlk hW hl
  have hl : lv_has ls 3 [(0, .ref (mga G 0)), (1, .int x)] := hl
  have hW : mW G s s.heap s.heap [] M P L N V := hW
  have b_x := i32b x
  refine lv_iload_n F.1 F.2.1 dX8_limit_0 rfl (lv_at hl 1 rfl) ?_
  refine lv_iconst (v := nI 1) F.1 F.2.1 dX8_limit_1 (by decide) ?_
  refine lv_sipush (v := nI 200) F.1 F.2.1 dX8_limit_2 (by decide) ?_
  refine pca (As := [.int x, .int (nI 1), .int (nI 200)]) (rest := []) F (c_X8_in l x (nI 1) (nI 200) x.toInt 1 200 rfl (by decide) (by decide)) (xcwS F.2.2.2.2 ca_X8_in tm_577 rfl rfl ⟨by decide, by decide⟩) rfl hl.1 rfl (Nat.le_of_ble_eq_true rfl) dX8_limit_5 (fun r5 hr5 => ?_)
  rcases hr5 with ⟨rfl, y5⟩ | ⟨rfl, y5⟩
  · skip
    refine lv_if_ne (tgt := 13) F.1 F.2.1 dX8_limit_8 (by decide) (fun _ => ?_) (fun q => absurd q (by decide))
    refine lv_aload_n F.1 F.2.1 dX8_limit_13 rfl (lv_at hl 0 rfl) ?_
    refine mg_fuel F hW tm_506 dX8_limit_14 ?_
    refine lv_istore_n (lv' := [(2, .int (nI M.2.2.2.2.2.2.1)), (0, .ref (mga G 0)), (1, .int x)]) F.1 F.2.1 dX8_limit_17 rfl hl (by decide) rfl (fun ls hl => ?_)
    refine lv_aload_n F.1 F.2.1 dX8_limit_18 rfl (lv_at hl 1 rfl) ?_
    refine lv_iload_n F.1 F.2.1 dX8_limit_19 rfl (lv_at hl 2 rfl) ?_
    refine mp_fuel (k := x.toInt.toNat) F hW tm_506 (ix_of (by omega)) dX8_limit_20 (fun H locs hW => ?_)
    have hW : mW G s s.heap H locs (M.1, M.2.1, M.2.2.1, M.2.2.2.1, M.2.2.2.2.1, M.2.2.2.2.2.1, x.toInt.toNat, M.2.2.2.2.2.2.2.1, M.2.2.2.2.2.2.2.2.1, M.2.2.2.2.2.2.2.2.2.1, M.2.2.2.2.2.2.2.2.2.2.1, M.2.2.2.2.2.2.2.2.2.2.2) P L N V := hW
    refine lv_iload_n F.1 F.2.1 dX8_limit_23 rfl (lv_at hl 0 rfl) ?_
    refine mre_i F hr hlk hW dX8_limit_24 ?_
    first | exact Or.inl ⟨by omega, rfl, rfl⟩ | exact Or.inr ⟨by omega, rfl, rfl⟩
  · skip
    refine lv_if_ne (tgt := 13) F.1 F.2.1 dX8_limit_8 (by decide) (fun q => absurd q (by decide)) (fun _ => ?_)
    refine lv_iconst (v := (-1)) F.1 F.2.1 dX8_limit_11 (by decide) ?_
    refine mre_i F hr hlk hW dX8_limit_12 ?_
    first | exact Or.inl ⟨by omega, rfl, rfl⟩ | exact Or.inr ⟨by omega, rfl, rfl⟩
theorem dX8_ask_0 : decode cX8_ask 0 = .ok (.iload_n 1, 1) := by decide +kernel
theorem dX8_ask_1 : decode cX8_ask 1 = .ok (.iconst 1, 1) := by decide +kernel
theorem dX8_ask_2 : decode cX8_ask 2 = .ok (.iconst 2, 1) := by decide +kernel
theorem dX8_ask_3 : decode cX8_ask 3 = .ok (.invokestatic 60, 3) := by decide +kernel
theorem dX8_ask_6 : decode cX8_ask 6 = .ok (.ifCond .ne 5, 3) := by decide +kernel
theorem dX8_ask_9 : decode cX8_ask 9 = .ok (.iconst (-1), 1) := by decide +kernel
theorem dX8_ask_10 : decode cX8_ask 10 = .ok (.ireturn, 1) := by decide +kernel
theorem dX8_ask_11 : decode cX8_ask 11 = .ok (.aload_n 0, 1) := by decide +kernel
theorem dX8_ask_12 : decode cX8_ask 12 = .ok (.getfield 109, 3) := by decide +kernel
theorem dX8_ask_15 : decode cX8_ask 15 = .ok (.istore_n 2, 1) := by decide +kernel
theorem dX8_ask_16 : decode cX8_ask 16 = .ok (.aload_n 0, 1) := by decide +kernel
theorem dX8_ask_17 : decode cX8_ask 17 = .ok (.iconst 0, 1) := by decide +kernel
theorem dX8_ask_18 : decode cX8_ask 18 = .ok (.putfield 109, 3) := by decide +kernel
theorem dX8_ask_21 : decode cX8_ask 21 = .ok (.aload_n 0, 1) := by decide +kernel
theorem dX8_ask_22 : decode cX8_ask 22 = .ok (.iload_n 1, 1) := by decide +kernel
theorem dX8_ask_23 : decode cX8_ask 23 = .ok (.putfield 26, 3) := by decide +kernel
theorem dX8_ask_26 : decode cX8_ask 26 = .ok (.iload_n 2, 1) := by decide +kernel
theorem dX8_ask_27 : decode cX8_ask 27 = .ok (.ireturn, 1) := by decide +kernel
set_option maxHeartbeats 4000000 in
set_option maxRecDepth 100000 in
theorem c_X8_ask (l : Launch) (G : MG) (M : MM) (P : MP) (L : ML) (N : MN) (V : MV) (hac : M.2.2.2.2.2.2.2.2.1 ≤ 8) (x : Int32) : Met l yX8_ask (wC yX8_ask cX8_ask 3 (some .int)) (rmD 1) (mPc G [.ref (mga G 0), .int x] M P L N V) (va_Qi (fun r u => (¬ (x.toInt = 1 ∨ x.toInt = 2) ∧ r = (-1) ∧ u = (M, P, L, N, V)) ∨ ((x.toInt = 1 ∨ x.toInt = 2) ∧ r = nI M.2.2.2.2.2.2.2.2.1 ∧ u = ((M.1, M.2.1, M.2.2.1, M.2.2.2.1, M.2.2.2.2.1, M.2.2.2.2.2.1, M.2.2.2.2.2.2.1, x.toInt.toNat, 0, M.2.2.2.2.2.2.2.2.2.1, M.2.2.2.2.2.2.2.2.2.2.1, M.2.2.2.2.2.2.2.2.2.2.2), P, L, N, V))) (mB G) (mA G)) 0 0 (mA G) := by
  refine mst "DoFinderModel" (by decide) rfl (Nat.le_of_ble_eq_true rfl) ?_
  intro p e s m args below meth c ls F hr hlk hW hl
  have hl : lv_has ls 3 [(0, .ref (mga G 0)), (1, .int x)] := hl
  have hW : mW G s s.heap s.heap [] M P L N V := hW
  have b_x := i32b x
  refine lv_iload_n F.1 F.2.1 dX8_ask_0 rfl (lv_at hl 1 rfl) ?_
  refine lv_iconst (v := nI 1) F.1 F.2.1 dX8_ask_1 (by decide) ?_
  refine lv_iconst (v := nI 2) F.1 F.2.1 dX8_ask_2 (by decide) ?_
  refine pca (As := [.int x, .int (nI 1), .int (nI 2)]) (rest := []) F (c_X8_in l x (nI 1) (nI 2) x.toInt 1 2 rfl (by decide) (by decide)) (xcwS F.2.2.2.2 ca_X8_in tm_577 rfl rfl ⟨by decide, by decide⟩) rfl hl.1 rfl (Nat.le_of_ble_eq_true rfl) dX8_ask_3 (fun r3 hr3 => ?_)
  rcases hr3 with ⟨rfl, y3⟩ | ⟨rfl, y3⟩
  · skip
    refine lv_if_ne (tgt := 11) F.1 F.2.1 dX8_ask_6 (by decide) (fun _ => ?_) (fun q => absurd q (by decide))
    refine lv_aload_n F.1 F.2.1 dX8_ask_11 rfl (lv_at hl 0 rfl) ?_
    refine mg_examples F hW tm_508 dX8_ask_12 ?_
    refine lv_istore_n (lv' := [(2, .int (nI M.2.2.2.2.2.2.2.2.1)), (0, .ref (mga G 0)), (1, .int x)]) F.1 F.2.1 dX8_ask_15 rfl hl (by decide) rfl (fun ls hl => ?_)
    refine lv_aload_n F.1 F.2.1 dX8_ask_16 rfl (lv_at hl 1 rfl) ?_
    refine lv_iconst (v := nI 0) F.1 F.2.1 dX8_ask_17 (by decide) ?_
    refine mp_examples (k := 0) F hW tm_508 rfl dX8_ask_18 (fun H locs hW => ?_)
    have hW : mW G s s.heap H locs (M.1, M.2.1, M.2.2.1, M.2.2.2.1, M.2.2.2.2.1, M.2.2.2.2.2.1, M.2.2.2.2.2.2.1, M.2.2.2.2.2.2.2.1, 0, M.2.2.2.2.2.2.2.2.2.1, M.2.2.2.2.2.2.2.2.2.2.1, M.2.2.2.2.2.2.2.2.2.2.2) P L N V := hW
    refine lv_aload_n F.1 F.2.1 dX8_ask_21 rfl (lv_at hl 1 rfl) ?_
    refine lv_iload_n F.1 F.2.1 dX8_ask_22 rfl (lv_at hl 2 rfl) ?_
    refine mp_arguments (k := x.toInt.toNat) F hW tm_507 (ix_of (by omega)) dX8_ask_23 (fun H locs hW => ?_)
    have hW : mW G s s.heap H locs (M.1, M.2.1, M.2.2.1, M.2.2.2.1, M.2.2.2.2.1, M.2.2.2.2.2.1, M.2.2.2.2.2.2.1, x.toInt.toNat, 0, M.2.2.2.2.2.2.2.2.2.1, M.2.2.2.2.2.2.2.2.2.2.1, M.2.2.2.2.2.2.2.2.2.2.2) P L N V := hW
    refine lv_iload_n F.1 F.2.1 dX8_ask_26 rfl (lv_at hl 0 rfl) ?_
    refine mre_i F hr hlk hW dX8_ask_27 ?_
    first | exact Or.inl ⟨by omega, rfl, rfl⟩ | exact Or.inr ⟨by omega, rfl, rfl⟩
  · skip
    refine lv_if_ne (tgt := 11) F.1 F.2.1 dX8_ask_6 (by decide) (fun q => absurd q (by decide)) (fun _ => ?_)
    refine lv_iconst (v := (-1)) F.1 F.2.1 dX8_ask_9 (by decide) ?_
    refine mre_i F hr hlk hW dX8_ask_10 ?_
    first | exact Or.inl ⟨by omega, rfl, rfl⟩ | exact Or.inr ⟨by omega, rfl, rfl⟩
theorem dX8_example_0 : decode cX8_example 0 = .ok (.aload_n 0, 1) := by decide +kernel
theorem dX8_example_1 : decode cX8_example 1 = .ok (.getfield 109, 3) := by decide +kernel
theorem dX8_example_4 : decode cX8_example 4 = .ok (.bipush 8, 2) := by decide +kernel
theorem dX8_example_6 : decode cX8_example 6 = .ok (.if_icmp .ne 6, 3) := by decide +kernel
theorem dX8_example_9 : decode cX8_example 9 = .ok (.bipush (-2), 2) := by decide +kernel
theorem dX8_example_11 : decode cX8_example 11 = .ok (.ireturn, 1) := by decide +kernel
theorem dX8_example_12 : decode cX8_example 12 = .ok (.aload_n 0, 1) := by decide +kernel
theorem dX8_example_13 : decode cX8_example 13 = .ok (.getfield 29, 3) := by decide +kernel
theorem dX8_example_16 : decode cX8_example 16 = .ok (.aload_n 0, 1) := by decide +kernel
theorem dX8_example_17 : decode cX8_example 17 = .ok (.getfield 109, 3) := by decide +kernel
theorem dX8_example_20 : decode cX8_example 20 = .ok (.iload_n 1, 1) := by decide +kernel
theorem dX8_example_21 : decode cX8_example 21 = .ok (.iastore, 1) := by decide +kernel
theorem dX8_example_22 : decode cX8_example 22 = .ok (.aload_n 0, 1) := by decide +kernel
theorem dX8_example_23 : decode cX8_example 23 = .ok (.getfield 32, 3) := by decide +kernel
theorem dX8_example_26 : decode cX8_example 26 = .ok (.aload_n 0, 1) := by decide +kernel
theorem dX8_example_27 : decode cX8_example 27 = .ok (.getfield 109, 3) := by decide +kernel
theorem dX8_example_30 : decode cX8_example 30 = .ok (.aload_n 0, 1) := by decide +kernel
theorem dX8_example_31 : decode cX8_example 31 = .ok (.getfield 26, 3) := by decide +kernel
theorem dX8_example_34 : decode cX8_example 34 = .ok (.iconst 1, 1) := by decide +kernel
theorem dX8_example_35 : decode cX8_example 35 = .ok (.if_icmp .ne 7, 3) := by decide +kernel
theorem dX8_example_38 : decode cX8_example 38 = .ok (.iconst 0, 1) := by decide +kernel
theorem dX8_example_39 : decode cX8_example 39 = .ok (.goto 4, 3) := by decide +kernel
theorem dX8_example_42 : decode cX8_example 42 = .ok (.iload_n 2, 1) := by decide +kernel
theorem dX8_example_43 : decode cX8_example 43 = .ok (.iastore, 1) := by decide +kernel
theorem dX8_example_44 : decode cX8_example 44 = .ok (.aload_n 0, 1) := by decide +kernel
theorem dX8_example_45 : decode cX8_example 45 = .ok (.getfield 35, 3) := by decide +kernel
theorem dX8_example_48 : decode cX8_example 48 = .ok (.aload_n 0, 1) := by decide +kernel
theorem dX8_example_49 : decode cX8_example 49 = .ok (.getfield 109, 3) := by decide +kernel
theorem dX8_example_52 : decode cX8_example 52 = .ok (.lload_n 3, 1) := by decide +kernel
theorem dX8_example_53 : decode cX8_example 53 = .ok (.lastore, 1) := by decide +kernel
theorem dX8_example_54 : decode cX8_example 54 = .ok (.aload_n 0, 1) := by decide +kernel
theorem dX8_example_55 : decode cX8_example 55 = .ok (.dup, 1) := by decide +kernel
theorem dX8_example_56 : decode cX8_example 56 = .ok (.getfield 109, 3) := by decide +kernel
theorem dX8_example_59 : decode cX8_example 59 = .ok (.iconst 1, 1) := by decide +kernel
theorem dX8_example_60 : decode cX8_example 60 = .ok (.iadd, 1) := by decide +kernel
theorem dX8_example_61 : decode cX8_example 61 = .ok (.putfield 109, 3) := by decide +kernel
theorem dX8_example_64 : decode cX8_example 64 = .ok (.aload_n 0, 1) := by decide +kernel
theorem dX8_example_65 : decode cX8_example 65 = .ok (.getfield 109, 3) := by decide +kernel
theorem dX8_example_68 : decode cX8_example 68 = .ok (.iconst 1, 1) := by decide +kernel
theorem dX8_example_69 : decode cX8_example 69 = .ok (.isub, 1) := by decide +kernel
theorem dX8_example_70 : decode cX8_example 70 = .ok (.ireturn, 1) := by decide +kernel
set_option maxHeartbeats 4000000 in
set_option maxRecDepth 100000 in
theorem c_X8_example (l : Launch) (G : MG) (mn : Nat) (mra mrc : Nat → Nat) (mss : Nat → Int32) (mwc : Nat) (mwd : Nat → Int32) (mf aa ac : Nat) (af ag : Nat → Int32) (ad : Nat → Int64) (P : MP) (L : ML) (N : MN) (V : MV) (hac : ac ≤ 8) (haa : aa < 1000) (a b : Int32) (v : Int64) : Met l yX8_example (wC yX8_example cX8_example 5 (some .int)) (rmD 0) (mPc G [.ref (mga G 0), .int a, .int b, .long v] (mn, mra, mrc, mss, mwc, mwd, mf, aa, ac, af, ag, ad) P L N V) (va_Qi (fun r u => (ac < 8 ∧ r = nI ac ∧ u = ((mn, mra, mrc, mss, mwc, mwd, mf, aa, ac + 1, upd af ac a, upd ag ac (if aa = 1 then nI 0 else b), vp_updL ad ac v), P, L, N, V)) ∨ (¬ ac < 8 ∧ r = (-2) ∧ u = ((mn, mra, mrc, mss, mwc, mwd, mf, aa, ac, af, ag, ad), P, L, N, V))) (mB G) (mA G)) 0 0 (mA G) := by
  refine mst "DoFinderModel" (by decide) rfl (Nat.le_of_ble_eq_true rfl) ?_
  intro p e s m args below meth c ls F hr hlk hW hl
  have hl : lv_has ls 5 [(0, .ref (mga G 0)), (1, .int a), (2, .int b), (3, .long v)] := hl
  have hW : mW G s s.heap s.heap [] (mn, mra, mrc, mss, mwc, mwd, mf, aa, ac, af, ag, ad) P L N V := hW
  have b_a := i32b a
  have b_b := i32b b
  refine lv_aload_n F.1 F.2.1 dX8_example_0 rfl (lv_at hl 0 rfl) ?_
  refine mg_examples F hW tm_508 dX8_example_1 ?_
  refine lv_bipush (v := nI 8) F.1 F.2.1 dX8_example_4 (by decide) ?_
  refine lv_icmp_ne (tgt := 12) F.1 F.2.1 dX8_example_6 (by decide) (fun c6 => ?_) (fun c6 => ?_)
  · have c6 := ci_ne (a := ((ac : Nat) : Int)) (b := 8) (nI_toInt (by omega)) (by decide) c6
    refine lv_aload_n F.1 F.2.1 dX8_example_12 rfl (lv_at hl 0 rfl) ?_
    refine mg_inputA F hW tm_509 dX8_example_13 ?_
    refine lv_aload_n F.1 F.2.1 dX8_example_16 rfl (lv_at hl 0 rfl) ?_
    refine mg_examples F hW tm_508 dX8_example_17 ?_
    refine lv_iload_n F.1 F.2.1 dX8_example_20 rfl (lv_at hl 1 rfl) ?_
    refine ms_af (i := ac) F hW rfl (by omega) dX8_example_21 (fun H locs hW => ?_)
    have hW : mW G s s.heap H locs (mn, mra, mrc, mss, mwc, mwd, mf, aa, ac, upd af ac a, ag, ad) P L N V := hW
    refine lv_aload_n F.1 F.2.1 dX8_example_22 rfl (lv_at hl 0 rfl) ?_
    refine mg_inputB F hW tm_510 dX8_example_23 ?_
    refine lv_aload_n F.1 F.2.1 dX8_example_26 rfl (lv_at hl 0 rfl) ?_
    refine mg_examples F hW tm_508 dX8_example_27 ?_
    refine lv_aload_n F.1 F.2.1 dX8_example_30 rfl (lv_at hl 0 rfl) ?_
    refine mg_arguments F hW tm_507 dX8_example_31 ?_
    refine lv_iconst (v := nI 1) F.1 F.2.1 dX8_example_34 (by decide) ?_
    refine lv_icmp_ne (tgt := 42) F.1 F.2.1 dX8_example_35 (by decide) (fun c35 => ?_) (fun c35 => ?_)
    · have c35 := ci_ne (a := ((aa : Nat) : Int)) (b := 1) (nI_toInt (by omega)) (by decide) c35
      refine lv_iload_n F.1 F.2.1 dX8_example_42 rfl (lv_at hl 2 rfl) ?_
      refine ms_as (i := ac) F hW rfl (by omega) dX8_example_43 (fun H locs hW => ?_)
      have hW : mW G s s.heap H locs (mn, mra, mrc, mss, mwc, mwd, mf, aa, ac, upd af ac a, upd ag ac b, ad) P L N V := hW
      refine lv_aload_n F.1 F.2.1 dX8_example_44 rfl (lv_at hl 0 rfl) ?_
      refine mg_dueOf F hW tm_511 dX8_example_45 ?_
      refine lv_aload_n F.1 F.2.1 dX8_example_48 rfl (lv_at hl 0 rfl) ?_
      refine mg_examples F hW tm_508 dX8_example_49 ?_
      refine lv_lload_n F.1 F.2.1 dX8_example_52 rfl (lv_at hl 3 rfl) ?_
      refine ms_ad (i := ac) F hW rfl (by omega) dX8_example_53 (fun H locs hW => ?_)
      have hW : mW G s s.heap H locs (mn, mra, mrc, mss, mwc, mwd, mf, aa, ac, upd af ac a, upd ag ac b, vp_updL ad ac v) P L N V := hW
      refine lv_aload_n F.1 F.2.1 dX8_example_54 rfl (lv_at hl 0 rfl) ?_
      refine lv_dup F.1 F.2.1 dX8_example_55 rfl ?_
      refine mg_examples F hW tm_508 dX8_example_56 ?_
      refine lv_iconst (v := nI 1) F.1 F.2.1 dX8_example_59 (by decide) ?_
      refine ax_add (z := nI (ac + 1)) F (nI_add _ _) dX8_example_60 ?_
      refine mp_examples (k := (ac + 1)) F hW tm_508 rfl dX8_example_61 (fun H locs hW => ?_)
      have hW : mW G s s.heap H locs (mn, mra, mrc, mss, mwc, mwd, mf, aa, ac + 1, upd af ac a, upd ag ac b, vp_updL ad ac v) P L N V := hW
      refine lv_aload_n F.1 F.2.1 dX8_example_64 rfl (lv_at hl 0 rfl) ?_
      refine mg_examples F hW tm_508 dX8_example_65 ?_
      refine lv_iconst (v := nI 1) F.1 F.2.1 dX8_example_68 (by decide) ?_
      refine ax_sub (z := nI ((ac + 1) - 1)) F (pk_sub (a := ac + 1) (b := 1) (by omega)) dX8_example_69 ?_
      refine mre_i F hr hlk hW dX8_example_70 ?_
      exact Or.inl ⟨by omega, congrArg nI (by omega), by first | rw [if_pos (by omega)] | rw [if_neg (by omega)]⟩
    · have c35 := ci_eq (a := ((aa : Nat) : Int)) (b := 1) (nI_toInt (by omega)) (by decide) c35
      refine lv_iconst (v := nI 0) F.1 F.2.1 dX8_example_38 (by decide) ?_
      refine lv_goto (tgt := 43) F.1 F.2.1 dX8_example_39 (by decide) ?_
      refine ms_as (i := ac) F hW rfl (by omega) dX8_example_43 (fun H locs hW => ?_)
      have hW : mW G s s.heap H locs (mn, mra, mrc, mss, mwc, mwd, mf, aa, ac, upd af ac a, upd ag ac (nI 0), ad) P L N V := hW
      refine lv_aload_n F.1 F.2.1 dX8_example_44 rfl (lv_at hl 0 rfl) ?_
      refine mg_dueOf F hW tm_511 dX8_example_45 ?_
      refine lv_aload_n F.1 F.2.1 dX8_example_48 rfl (lv_at hl 0 rfl) ?_
      refine mg_examples F hW tm_508 dX8_example_49 ?_
      refine lv_lload_n F.1 F.2.1 dX8_example_52 rfl (lv_at hl 3 rfl) ?_
      refine ms_ad (i := ac) F hW rfl (by omega) dX8_example_53 (fun H locs hW => ?_)
      have hW : mW G s s.heap H locs (mn, mra, mrc, mss, mwc, mwd, mf, aa, ac, upd af ac a, upd ag ac (nI 0), vp_updL ad ac v) P L N V := hW
      refine lv_aload_n F.1 F.2.1 dX8_example_54 rfl (lv_at hl 0 rfl) ?_
      refine lv_dup F.1 F.2.1 dX8_example_55 rfl ?_
      refine mg_examples F hW tm_508 dX8_example_56 ?_
      refine lv_iconst (v := nI 1) F.1 F.2.1 dX8_example_59 (by decide) ?_
      refine ax_add (z := nI (ac + 1)) F (nI_add _ _) dX8_example_60 ?_
      refine mp_examples (k := (ac + 1)) F hW tm_508 rfl dX8_example_61 (fun H locs hW => ?_)
      have hW : mW G s s.heap H locs (mn, mra, mrc, mss, mwc, mwd, mf, aa, ac + 1, upd af ac a, upd ag ac (nI 0), vp_updL ad ac v) P L N V := hW
      refine lv_aload_n F.1 F.2.1 dX8_example_64 rfl (lv_at hl 0 rfl) ?_
      refine mg_examples F hW tm_508 dX8_example_65 ?_
      refine lv_iconst (v := nI 1) F.1 F.2.1 dX8_example_68 (by decide) ?_
      refine ax_sub (z := nI ((ac + 1) - 1)) F (pk_sub (a := ac + 1) (b := 1) (by omega)) dX8_example_69 ?_
      refine mre_i F hr hlk hW dX8_example_70 ?_
      exact Or.inl ⟨by omega, congrArg nI (by omega), by first | rw [if_pos (by omega)] | rw [if_neg (by omega)]⟩
  · have c6 := ci_eq (a := ((ac : Nat) : Int)) (b := 8) (nI_toInt (by omega)) (by decide) c6
    refine lv_bipush (v := (-2)) F.1 F.2.1 dX8_example_9 (by decide) ?_
    refine mre_i F hr hlk hW dX8_example_11 ?_
    exact Or.inr ⟨by omega, rfl, rfl⟩
theorem dX8_show_0 : decode cX8_show 0 = .ok (.aload_n 0, 1) := by decide +kernel
theorem dX8_show_1 : decode cX8_show 1 = .ok (.iload_n 1, 1) := by decide +kernel
theorem dX8_show_2 : decode cX8_show 2 = .ok (.iload_n 2, 1) := by decide +kernel
theorem dX8_show_3 : decode cX8_show 3 = .ok (.iload_n 3, 1) := by decide +kernel
theorem dX8_show_4 : decode cX8_show 4 = .ok (.i2l, 1) := by decide +kernel
theorem dX8_show_5 : decode cX8_show 5 = .ok (.invokevirtual 112, 3) := by decide +kernel
theorem dX8_show_8 : decode cX8_show 8 = .ok (.ireturn, 1) := by decide +kernel
set_option maxHeartbeats 4000000 in
set_option maxRecDepth 100000 in
theorem c_X8_show (l : Launch) (G : MG) (M : MM) (P : MP) (L : ML) (N : MN) (V : MV) (hac : M.2.2.2.2.2.2.2.2.1 ≤ 8) (haa : M.2.2.2.2.2.2.2.1 = 1 ∨ M.2.2.2.2.2.2.2.1 = 2) (a b x : Int32) : Met l yX8_show (wC yX8_show cX8_show 4 (some .int)) (rmD 1) (mPc G [.ref (mga G 0), .int a, .int b, .int x] M P L N V) (va_Qi (fun r u => (M.2.2.2.2.2.2.2.2.1 < 8 ∧ r = nI M.2.2.2.2.2.2.2.2.1 ∧ u = ((M.1, M.2.1, M.2.2.1, M.2.2.2.1, M.2.2.2.2.1, M.2.2.2.2.2.1, M.2.2.2.2.2.2.1, M.2.2.2.2.2.2.2.1, M.2.2.2.2.2.2.2.2.1 + 1, upd M.2.2.2.2.2.2.2.2.2.1 M.2.2.2.2.2.2.2.2.1 a, upd M.2.2.2.2.2.2.2.2.2.2.1 M.2.2.2.2.2.2.2.2.1 (if M.2.2.2.2.2.2.2.1 = 1 then nI 0 else b), vp_updL M.2.2.2.2.2.2.2.2.2.2.2 M.2.2.2.2.2.2.2.2.1 x.toInt64), P, L, N, V)) ∨ (¬ M.2.2.2.2.2.2.2.2.1 < 8 ∧ r = (-2) ∧ u = (M, P, L, N, V))) (mB G) (mA G)) 0 0 (mA G) := by
  refine mst "DoFinderModel" (by decide) rfl (Nat.le_of_ble_eq_true rfl) ?_
  intro p e s m args below meth c ls F hr hlk hW hl
  have hl : lv_has ls 4 [(0, .ref (mga G 0)), (1, .int a), (2, .int b), (3, .int x)] := hl
  have hW : mW G s s.heap s.heap [] M P L N V := hW
  have b_a := i32b a
  have b_b := i32b b
  have b_x := i32b x
  refine lv_aload_n F.1 F.2.1 dX8_show_0 rfl (lv_at hl 0 rfl) ?_
  refine lv_iload_n F.1 F.2.1 dX8_show_1 rfl (lv_at hl 1 rfl) ?_
  refine lv_iload_n F.1 F.2.1 dX8_show_2 rfl (lv_at hl 2 rfl) ?_
  refine lv_iload_n F.1 F.2.1 dX8_show_3 rfl (lv_at hl 3 rfl) ?_
  refine lv_i2l F.1 F.2.1 dX8_show_4 rfl ?_
  refine mca_i (b := (mga G 0)) (As := [.int a, .int b, .long ((x).toInt64)]) (rest := []) F (c_X8_example l G M.1 M.2.1 M.2.2.1 M.2.2.2.1 M.2.2.2.2.1 M.2.2.2.2.2.1 M.2.2.2.2.2.2.1 M.2.2.2.2.2.2.2.1 M.2.2.2.2.2.2.2.2.1 M.2.2.2.2.2.2.2.2.2.1 M.2.2.2.2.2.2.2.2.2.2.1 M.2.2.2.2.2.2.2.2.2.2.2 P L N V (by omega) (by omega) a b ((x).toInt64)) (xcw F.2.2.2.2 ca_X8_example tm_648 rfl rfl ⟨by decide, by decide⟩) (mr_X8 hW) hW rfl hl.1 rfl (Nat.le_of_ble_eq_true rfl) dX8_show_5 (fun r5 u5 H locs hp5 hW => ?_)
  rcases hp5 with ⟨y5, rfl, rfl⟩ | ⟨y5, rfl, rfl⟩
  · skip
    have hW : mW G s s.heap H locs (M.1, M.2.1, M.2.2.1, M.2.2.2.1, M.2.2.2.2.1, M.2.2.2.2.2.1, M.2.2.2.2.2.2.1, M.2.2.2.2.2.2.2.1, M.2.2.2.2.2.2.2.2.1 + 1, upd M.2.2.2.2.2.2.2.2.2.1 M.2.2.2.2.2.2.2.2.1 a, upd M.2.2.2.2.2.2.2.2.2.2.1 M.2.2.2.2.2.2.2.2.1 (if M.2.2.2.2.2.2.2.1 = 1 then nI 0 else b), vp_updL M.2.2.2.2.2.2.2.2.2.2.2 M.2.2.2.2.2.2.2.2.1 ((x).toInt64)) P L N V := hW
    refine mre_i F hr hlk hW dX8_show_8 ?_
    first | exact Or.inl ⟨by omega, rfl, rfl⟩ | exact Or.inr ⟨by omega, rfl, rfl⟩
  · skip
    have hW : mW G s s.heap H locs M P L N V := hW
    refine mre_i F hr hlk hW dX8_show_8 ?_
    first | exact Or.inl ⟨by omega, rfl, rfl⟩ | exact Or.inr ⟨by omega, rfl, rfl⟩
theorem dX8_leave_0 : decode cX8_leave 0 = .ok (.aload_n 0, 1) := by decide +kernel
theorem dX8_leave_1 : decode cX8_leave 1 = .ok (.iload_n 1, 1) := by decide +kernel
theorem dX8_leave_2 : decode cX8_leave 2 = .ok (.iload_n 2, 1) := by decide +kernel
theorem dX8_leave_3 : decode cX8_leave 3 = .ok (.iload_n 3, 1) := by decide +kernel
theorem dX8_leave_4 : decode cX8_leave 4 = .ok (.ifCond .eq 9, 3) := by decide +kernel
theorem dX8_leave_7 : decode cX8_leave 7 = .ok (.ldc2_w 116, 3) := by decide +kernel
theorem dX8_leave_10 : decode cX8_leave 10 = .ok (.goto 6, 3) := by decide +kernel
theorem dX8_leave_13 : decode cX8_leave 13 = .ok (.ldc2_w 97, 3) := by decide +kernel
theorem dX8_leave_16 : decode cX8_leave 16 = .ok (.invokevirtual 112, 3) := by decide +kernel
theorem dX8_leave_19 : decode cX8_leave 19 = .ok (.ireturn, 1) := by decide +kernel
set_option maxHeartbeats 4000000 in
set_option maxRecDepth 100000 in
theorem c_X8_leave (l : Launch) (G : MG) (M : MM) (P : MP) (L : ML) (N : MN) (V : MV) (hac : M.2.2.2.2.2.2.2.2.1 ≤ 8) (haa : M.2.2.2.2.2.2.2.1 = 1 ∨ M.2.2.2.2.2.2.2.1 = 2) (a b : Int32) (f : Nat) (hf : f < 2) : Met l yX8_leave (wC yX8_leave cX8_leave 4 (some .int)) (rmD 1) (mPc G [.ref (mga G 0), .int a, .int b, .int (nI f)] M P L N V) (va_Qi (fun r u => (M.2.2.2.2.2.2.2.2.1 < 8 ∧ r = nI M.2.2.2.2.2.2.2.2.1 ∧ u = ((M.1, M.2.1, M.2.2.1, M.2.2.2.1, M.2.2.2.2.1, M.2.2.2.2.2.1, M.2.2.2.2.2.2.1, M.2.2.2.2.2.2.2.1, M.2.2.2.2.2.2.2.2.1 + 1, upd M.2.2.2.2.2.2.2.2.2.1 M.2.2.2.2.2.2.2.2.1 a, upd M.2.2.2.2.2.2.2.2.2.2.1 M.2.2.2.2.2.2.2.2.1 (if M.2.2.2.2.2.2.2.1 = 1 then nI 0 else b), vp_updL M.2.2.2.2.2.2.2.2.2.2.2 M.2.2.2.2.2.2.2.2.1 (if f = 0 then zBAD else zANY)), P, L, N, V)) ∨ (¬ M.2.2.2.2.2.2.2.2.1 < 8 ∧ r = (-2) ∧ u = (M, P, L, N, V))) (mB G) (mA G)) 0 0 (mA G) := by
  refine mst "DoFinderModel" (by decide) rfl (Nat.le_of_ble_eq_true rfl) ?_
  intro p e s m args below meth c ls F hr hlk hW hl
  have hl : lv_has ls 4 [(0, .ref (mga G 0)), (1, .int a), (2, .int b), (3, .int (nI f))] := hl
  have hW : mW G s s.heap s.heap [] M P L N V := hW
  have b_a := i32b a
  have b_b := i32b b
  refine lv_aload_n F.1 F.2.1 dX8_leave_0 rfl (lv_at hl 0 rfl) ?_
  refine lv_iload_n F.1 F.2.1 dX8_leave_1 rfl (lv_at hl 1 rfl) ?_
  refine lv_iload_n F.1 F.2.1 dX8_leave_2 rfl (lv_at hl 2 rfl) ?_
  refine lv_iload_n F.1 F.2.1 dX8_leave_3 rfl (lv_at hl 3 rfl) ?_
  refine lv_if_eq (tgt := 13) F.1 F.2.1 dX8_leave_4 (by decide) (fun c4 => ?_) (fun c4 => ?_)
  · have c4 := ci_eq (a := ((f : Nat) : Int)) (b := 0) (nI_toInt (by omega)) ci_0 c4
    refine lv_ldc2 (v := zBAD) F.1 F.2.1 F.2.2.2.1 (F.2.2.2.2 _ tm_619) dX8_leave_13 ?_
    refine mca_i (b := (mga G 0)) (As := [.int a, .int b, .long zBAD]) (rest := []) F (c_X8_example l G M.1 M.2.1 M.2.2.1 M.2.2.2.1 M.2.2.2.2.1 M.2.2.2.2.2.1 M.2.2.2.2.2.2.1 M.2.2.2.2.2.2.2.1 M.2.2.2.2.2.2.2.2.1 M.2.2.2.2.2.2.2.2.2.1 M.2.2.2.2.2.2.2.2.2.2.1 M.2.2.2.2.2.2.2.2.2.2.2 P L N V (by omega) (by omega) a b zBAD) (xcw F.2.2.2.2 ca_X8_example tm_648 rfl rfl ⟨by decide, by decide⟩) (mr_X8 hW) hW rfl hl.1 rfl (Nat.le_of_ble_eq_true rfl) dX8_leave_16 (fun r16 u16 H locs hp16 hW => ?_)
    rcases hp16 with ⟨y16, rfl, rfl⟩ | ⟨y16, rfl, rfl⟩
    · skip
      have hW : mW G s s.heap H locs (M.1, M.2.1, M.2.2.1, M.2.2.2.1, M.2.2.2.2.1, M.2.2.2.2.2.1, M.2.2.2.2.2.2.1, M.2.2.2.2.2.2.2.1, M.2.2.2.2.2.2.2.2.1 + 1, upd M.2.2.2.2.2.2.2.2.2.1 M.2.2.2.2.2.2.2.2.1 a, upd M.2.2.2.2.2.2.2.2.2.2.1 M.2.2.2.2.2.2.2.2.1 (if M.2.2.2.2.2.2.2.1 = 1 then nI 0 else b), vp_updL M.2.2.2.2.2.2.2.2.2.2.2 M.2.2.2.2.2.2.2.2.1 zBAD) P L N V := hW
      refine mre_i F hr hlk hW dX8_leave_19 ?_
      first | rw [show (if f = 0 then zBAD else zANY) = zBAD from if_pos (by omega)] | rw [show (if f = 0 then zBAD else zANY) = zANY from if_neg (by omega)]
      first | exact Or.inl ⟨by omega, rfl, rfl⟩ | exact Or.inr ⟨by omega, rfl, rfl⟩
    · skip
      have hW : mW G s s.heap H locs M P L N V := hW
      refine mre_i F hr hlk hW dX8_leave_19 ?_
      first | rw [show (if f = 0 then zBAD else zANY) = zBAD from if_pos (by omega)] | rw [show (if f = 0 then zBAD else zANY) = zANY from if_neg (by omega)]
      first | exact Or.inl ⟨by omega, rfl, rfl⟩ | exact Or.inr ⟨by omega, rfl, rfl⟩
  · have c4 := ci_ne (a := ((f : Nat) : Int)) (b := 0) (nI_toInt (by omega)) ci_0 c4
    refine lv_ldc2 (v := zANY) F.1 F.2.1 F.2.2.2.1 (F.2.2.2.2 _ tm_656) dX8_leave_7 ?_
    refine lv_goto (tgt := 16) F.1 F.2.1 dX8_leave_10 (by decide) ?_
    refine mca_i (b := (mga G 0)) (As := [.int a, .int b, .long zANY]) (rest := []) F (c_X8_example l G M.1 M.2.1 M.2.2.1 M.2.2.2.1 M.2.2.2.2.1 M.2.2.2.2.2.1 M.2.2.2.2.2.2.1 M.2.2.2.2.2.2.2.1 M.2.2.2.2.2.2.2.2.1 M.2.2.2.2.2.2.2.2.2.1 M.2.2.2.2.2.2.2.2.2.2.1 M.2.2.2.2.2.2.2.2.2.2.2 P L N V (by omega) (by omega) a b zANY) (xcw F.2.2.2.2 ca_X8_example tm_648 rfl rfl ⟨by decide, by decide⟩) (mr_X8 hW) hW rfl hl.1 rfl (Nat.le_of_ble_eq_true rfl) dX8_leave_16 (fun r16 u16 H locs hp16 hW => ?_)
    rcases hp16 with ⟨y16, rfl, rfl⟩ | ⟨y16, rfl, rfl⟩
    · skip
      have hW : mW G s s.heap H locs (M.1, M.2.1, M.2.2.1, M.2.2.2.1, M.2.2.2.2.1, M.2.2.2.2.2.1, M.2.2.2.2.2.2.1, M.2.2.2.2.2.2.2.1, M.2.2.2.2.2.2.2.2.1 + 1, upd M.2.2.2.2.2.2.2.2.2.1 M.2.2.2.2.2.2.2.2.1 a, upd M.2.2.2.2.2.2.2.2.2.2.1 M.2.2.2.2.2.2.2.2.1 (if M.2.2.2.2.2.2.2.1 = 1 then nI 0 else b), vp_updL M.2.2.2.2.2.2.2.2.2.2.2 M.2.2.2.2.2.2.2.2.1 zANY) P L N V := hW
      refine mre_i F hr hlk hW dX8_leave_19 ?_
      first | rw [show (if f = 0 then zBAD else zANY) = zBAD from if_pos (by omega)] | rw [show (if f = 0 then zBAD else zANY) = zANY from if_neg (by omega)]
      first | exact Or.inl ⟨by omega, rfl, rfl⟩ | exact Or.inr ⟨by omega, rfl, rfl⟩
    · skip
      have hW : mW G s s.heap H locs M P L N V := hW
      refine mre_i F hr hlk hW dX8_leave_19 ?_
      first | rw [show (if f = 0 then zBAD else zANY) = zBAD from if_pos (by omega)] | rw [show (if f = 0 then zBAD else zANY) = zANY from if_neg (by omega)]
      first | exact Or.inl ⟨by omega, rfl, rfl⟩ | exact Or.inr ⟨by omega, rfl, rfl⟩
theorem dX8_drop_0 : decode cX8_drop 0 = .ok (.aload_n 0, 1) := by decide +kernel
theorem dX8_drop_1 : decode cX8_drop 1 = .ok (.getfield 109, 3) := by decide +kernel
theorem dX8_drop_4 : decode cX8_drop 4 = .ok (.ifCond .ne 6, 3) := by decide +kernel
theorem dX8_drop_7 : decode cX8_drop 7 = .ok (.bipush (-3), 2) := by decide +kernel
theorem dX8_drop_9 : decode cX8_drop 9 = .ok (.ireturn, 1) := by decide +kernel
theorem dX8_drop_10 : decode cX8_drop 10 = .ok (.aload_n 0, 1) := by decide +kernel
theorem dX8_drop_11 : decode cX8_drop 11 = .ok (.dup, 1) := by decide +kernel
theorem dX8_drop_12 : decode cX8_drop 12 = .ok (.getfield 109, 3) := by decide +kernel
theorem dX8_drop_15 : decode cX8_drop 15 = .ok (.iconst 1, 1) := by decide +kernel
theorem dX8_drop_16 : decode cX8_drop 16 = .ok (.isub, 1) := by decide +kernel
theorem dX8_drop_17 : decode cX8_drop 17 = .ok (.putfield 109, 3) := by decide +kernel
theorem dX8_drop_20 : decode cX8_drop 20 = .ok (.aload_n 0, 1) := by decide +kernel
theorem dX8_drop_21 : decode cX8_drop 21 = .ok (.getfield 109, 3) := by decide +kernel
theorem dX8_drop_24 : decode cX8_drop 24 = .ok (.ireturn, 1) := by decide +kernel
set_option maxHeartbeats 4000000 in
set_option maxRecDepth 100000 in
theorem c_X8_drop (l : Launch) (G : MG) (M : MM) (P : MP) (L : ML) (N : MN) (V : MV) (hac : M.2.2.2.2.2.2.2.2.1 ≤ 8) (haa : M.2.2.2.2.2.2.2.1 = 1 ∨ M.2.2.2.2.2.2.2.1 = 2) : Met l yX8_drop (wC yX8_drop cX8_drop 1 (some .int)) (rmD 0) (mPc G [.ref (mga G 0)] M P L N V) (va_Qi (fun r u => (M.2.2.2.2.2.2.2.2.1 = 0 ∧ r = (-3) ∧ u = (M, P, L, N, V)) ∨ (M.2.2.2.2.2.2.2.2.1 ≠ 0 ∧ r = nI (M.2.2.2.2.2.2.2.2.1 - 1) ∧ u = ((M.1, M.2.1, M.2.2.1, M.2.2.2.1, M.2.2.2.2.1, M.2.2.2.2.2.1, M.2.2.2.2.2.2.1, M.2.2.2.2.2.2.2.1, M.2.2.2.2.2.2.2.2.1 - 1, M.2.2.2.2.2.2.2.2.2.1, M.2.2.2.2.2.2.2.2.2.2.1, M.2.2.2.2.2.2.2.2.2.2.2), P, L, N, V))) (mB G) (mA G)) 0 0 (mA G) := by
  refine mst "DoFinderModel" (by decide) rfl (Nat.le_of_ble_eq_true rfl) ?_
  intro p e s m args below meth c ls F hr hlk hW hl
  have hl : lv_has ls 1 [(0, .ref (mga G 0))] := hl
  have hW : mW G s s.heap s.heap [] M P L N V := hW
  refine lv_aload_n F.1 F.2.1 dX8_drop_0 rfl (lv_at hl 0 rfl) ?_
  refine mg_examples F hW tm_508 dX8_drop_1 ?_
  refine lv_if_ne (tgt := 10) F.1 F.2.1 dX8_drop_4 (by decide) (fun c4 => ?_) (fun c4 => ?_)
  · have c4 := ci_ne (a := ((M.2.2.2.2.2.2.2.2.1 : Nat) : Int)) (b := 0) (nI_toInt (by omega)) ci_0 c4
    refine lv_aload_n F.1 F.2.1 dX8_drop_10 rfl (lv_at hl 0 rfl) ?_
    refine lv_dup F.1 F.2.1 dX8_drop_11 rfl ?_
    refine mg_examples F hW tm_508 dX8_drop_12 ?_
    refine lv_iconst (v := nI 1) F.1 F.2.1 dX8_drop_15 (by decide) ?_
    refine ax_sub (z := nI (M.2.2.2.2.2.2.2.2.1 - 1)) F (pk_sub (a := M.2.2.2.2.2.2.2.2.1) (b := 1) (by omega)) dX8_drop_16 ?_
    refine mp_examples (k := (M.2.2.2.2.2.2.2.2.1 - 1)) F hW tm_508 rfl dX8_drop_17 (fun H locs hW => ?_)
    have hW : mW G s s.heap H locs (M.1, M.2.1, M.2.2.1, M.2.2.2.1, M.2.2.2.2.1, M.2.2.2.2.2.1, M.2.2.2.2.2.2.1, M.2.2.2.2.2.2.2.1, M.2.2.2.2.2.2.2.2.1 - 1, M.2.2.2.2.2.2.2.2.2.1, M.2.2.2.2.2.2.2.2.2.2.1, M.2.2.2.2.2.2.2.2.2.2.2) P L N V := hW
    refine lv_aload_n F.1 F.2.1 dX8_drop_20 rfl (lv_at hl 0 rfl) ?_
    refine mg_examples F hW tm_508 dX8_drop_21 ?_
    refine mre_i F hr hlk hW dX8_drop_24 ?_
    first | exact Or.inl ⟨by omega, rfl, rfl⟩ | exact Or.inr ⟨by omega, rfl, rfl⟩
  · have c4 := ci_eq (a := ((M.2.2.2.2.2.2.2.2.1 : Nat) : Int)) (b := 0) (nI_toInt (by omega)) ci_0 c4
    refine lv_bipush (v := (-3)) F.1 F.2.1 dX8_drop_7 (by decide) ?_
    refine mre_i F hr hlk hW dX8_drop_9 ?_
    first | exact Or.inl ⟨by omega, rfl, rfl⟩ | exact Or.inr ⟨by omega, rfl, rfl⟩
theorem dX8_like_0 : decode cX8_like 0 = .ok (.aload_n 0, 1) := by decide +kernel
theorem dX8_like_1 : decode cX8_like 1 = .ok (.iload_n 1, 1) := by decide +kernel
theorem dX8_like_2 : decode cX8_like 2 = .ok (.invokevirtual 70, 3) := by decide +kernel
theorem dX8_like_5 : decode cX8_like 5 = .ok (.ifCond .eq 13, 3) := by decide +kernel
theorem dX8_like_8 : decode cX8_like 8 = .ok (.iload_n 2, 1) := by decide +kernel
theorem dX8_like_9 : decode cX8_like 9 = .ok (.iconst 0, 1) := by decide +kernel
theorem dX8_like_10 : decode cX8_like 10 = .ok (.bipush 8, 2) := by decide +kernel
theorem dX8_like_12 : decode cX8_like 12 = .ok (.invokestatic 60, 3) := by decide +kernel
theorem dX8_like_15 : decode cX8_like 15 = .ok (.ifCond .ne 5, 3) := by decide +kernel
theorem dX8_like_18 : decode cX8_like 18 = .ok (.iconst (-1), 1) := by decide +kernel
theorem dX8_like_19 : decode cX8_like 19 = .ok (.ireturn, 1) := by decide +kernel
theorem dX8_like_20 : decode cX8_like 20 = .ok (.aload_n 0, 1) := by decide +kernel
theorem dX8_like_21 : decode cX8_like 21 = .ok (.aload_n 0, 1) := by decide +kernel
theorem dX8_like_22 : decode cX8_like 22 = .ok (.getfield 7, 3) := by decide +kernel
theorem dX8_like_25 : decode cX8_like 25 = .ok (.iload_n 1, 1) := by decide +kernel
theorem dX8_like_26 : decode cX8_like 26 = .ok (.iaload, 1) := by decide +kernel
theorem dX8_like_27 : decode cX8_like 27 = .ok (.putfield 26, 3) := by decide +kernel
theorem dX8_like_30 : decode cX8_like 30 = .ok (.aload_n 0, 1) := by decide +kernel
theorem dX8_like_31 : decode cX8_like 31 = .ok (.iconst 0, 1) := by decide +kernel
theorem dX8_like_32 : decode cX8_like 32 = .ok (.putfield 109, 3) := by decide +kernel
theorem dX8_like_35 : decode cX8_like 35 = .ok (.iconst 0, 1) := by decide +kernel
theorem dX8_like_36 : decode cX8_like 36 = .ok (.istore_n 3, 1) := by decide +kernel
theorem dX8_like_37 : decode cX8_like 37 = .ok (.iload_n 3, 1) := by decide +kernel
theorem dX8_like_38 : decode cX8_like 38 = .ok (.iload_n 2, 1) := by decide +kernel
theorem dX8_like_39 : decode cX8_like 39 = .ok (.if_icmp .ge 67, 3) := by decide +kernel
theorem dX8_like_42 : decode cX8_like 42 = .ok (.aload_n 0, 1) := by decide +kernel
theorem dX8_like_43 : decode cX8_like 43 = .ok (.getfield 26, 3) := by decide +kernel
theorem dX8_like_46 : decode cX8_like 46 = .ok (.iload_n 3, 1) := by decide +kernel
theorem dX8_like_47 : decode cX8_like 47 = .ok (.invokestatic 118, 3) := by decide +kernel
theorem dX8_like_50 : decode cX8_like 50 = .ok (.istore 4, 2) := by decide +kernel
theorem dX8_like_52 : decode cX8_like 52 = .ok (.aload_n 0, 1) := by decide +kernel
theorem dX8_like_53 : decode cX8_like 53 = .ok (.getfield 26, 3) := by decide +kernel
theorem dX8_like_56 : decode cX8_like 56 = .ok (.iload_n 3, 1) := by decide +kernel
theorem dX8_like_57 : decode cX8_like 57 = .ok (.invokestatic 122, 3) := by decide +kernel
theorem dX8_like_60 : decode cX8_like 60 = .ok (.istore 5, 2) := by decide +kernel
theorem dX8_like_62 : decode cX8_like 62 = .ok (.aload_n 0, 1) := by decide +kernel
theorem dX8_like_63 : decode cX8_like 63 = .ok (.iload_n 1, 1) := by decide +kernel
theorem dX8_like_64 : decode cX8_like 64 = .ok (.iload 4, 2) := by decide +kernel
theorem dX8_like_66 : decode cX8_like 66 = .ok (.iload 5, 2) := by decide +kernel
theorem dX8_like_68 : decode cX8_like 68 = .ok (.invokevirtual 103, 3) := by decide +kernel
theorem dX8_like_71 : decode cX8_like 71 = .ok (.lstore 6, 2) := by decide +kernel
theorem dX8_like_73 : decode cX8_like 73 = .ok (.aload_n 0, 1) := by decide +kernel
theorem dX8_like_74 : decode cX8_like 74 = .ok (.iload 4, 2) := by decide +kernel
theorem dX8_like_76 : decode cX8_like 76 = .ok (.iload 5, 2) := by decide +kernel
theorem dX8_like_78 : decode cX8_like 78 = .ok (.lload 6, 2) := by decide +kernel
theorem dX8_like_80 : decode cX8_like 80 = .ok (.ldc2_w 92, 3) := by decide +kernel
theorem dX8_like_83 : decode cX8_like 83 = .ok (.lcmp, 1) := by decide +kernel
theorem dX8_like_84 : decode cX8_like 84 = .ok (.ifCond .ne 9, 3) := by decide +kernel
theorem dX8_like_87 : decode cX8_like 87 = .ok (.ldc2_w 116, 3) := by decide +kernel
theorem dX8_like_90 : decode cX8_like 90 = .ok (.goto 5, 3) := by decide +kernel
theorem dX8_like_93 : decode cX8_like 93 = .ok (.lload 6, 2) := by decide +kernel
theorem dX8_like_95 : decode cX8_like 95 = .ok (.invokevirtual 112, 3) := by decide +kernel
theorem dX8_like_98 : decode cX8_like 98 = .ok (.istore 8, 2) := by decide +kernel
theorem dX8_like_100 : decode cX8_like 100 = .ok (.iinc 3 1, 3) := by decide +kernel
theorem dX8_like_103 : decode cX8_like 103 = .ok (.goto (-66), 3) := by decide +kernel
theorem dX8_like_106 : decode cX8_like 106 = .ok (.iload_n 2, 1) := by decide +kernel
theorem dX8_like_107 : decode cX8_like 107 = .ok (.ireturn, 1) := by decide +kernel
set_option maxHeartbeats 4000000 in
set_option maxRecDepth 100000 in
theorem c_X8_like (l : Launch) (G : MG) (M : MM) (P : MP) (L : ML) (N : MN) (V : MV) (hn : M.1 ≤ 12) (hrc : ∀ r, r < M.1 → M.2.2.1 r ≤ 12) (hra : ∀ r, r < M.1 → M.2.1 r = 1 ∨ M.2.1 r = 2) (hf : M.2.2.2.2.2.2.1 ≤ 200) (x y : Int32) : Met l yX8_like (wC yX8_like cX8_like 9 (some .int)) (rmD 3) (mPc G [.ref (mga G 0), .int x, .int y] M P L N V) (va_Qi (fun v u => (¬ (zin M.1 x ∧ 0 ≤ y.toInt ∧ y.toInt ≤ 8) ∧ v = (-1) ∧ u = (M, P, L, N, V)) ∨ ((zin M.1 x ∧ 0 ≤ y.toInt ∧ y.toInt ≤ 8) ∧ v = nI y.toInt.toNat ∧ ∃ (af2 ag2 : Nat → Int32) (ad2 : Nat → Int64) (P2 : MP), u = ((M.1, M.2.1, M.2.2.1, M.2.2.2.1, M.2.2.2.2.1, M.2.2.2.2.2.1, M.2.2.2.2.2.2.1, M.2.1 x.toInt.toNat, y.toInt.toNat, af2, ag2, ad2), P2, L, N, V) ∧ ∀ j, j < y.toInt.toNat → af2 j = wA (M.2.1 x.toInt.toNat) j ∧ ag2 j = (if (M.2.1 x.toInt.toNat) = 1 then nI 0 else wB (M.2.1 x.toInt.toNat) j) ∧ ad2 j = (if zout M.2.2.2.2.2.2.1 (M.2.2.1 x.toInt.toNat) (fun k => M.2.2.2.1 (12 * x.toInt.toNat + k)) (wA (M.2.1 x.toInt.toNat) j) (wB (M.2.1 x.toInt.toNat) j) = zUNK then zANY else zout M.2.2.2.2.2.2.1 (M.2.2.1 x.toInt.toNat) (fun k => M.2.2.2.1 (12 * x.toInt.toNat + k)) (wA (M.2.1 x.toInt.toNat) j) (wB (M.2.1 x.toInt.toNat) j)))) (mB G) (mA G)) 0 0 (mA G) := by
  refine mst "DoFinderModel" (by decide) rfl (Nat.le_of_ble_eq_true rfl) ?_
  intro p e s m args below meth c ls F hr hlk hW hl
  have hl : lv_has ls 9 [(0, .ref (mga G 0)), (1, .int x), (2, .int y)] := hl
  have hW : mW G s s.heap s.heap [] M P L N V := hW
  have b_x := i32b x
  have b_y := i32b y
  refine lv_aload_n F.1 F.2.1 dX8_like_0 rfl (lv_at hl 0 rfl) ?_
  refine lv_iload_n F.1 F.2.1 dX8_like_1 rfl (lv_at hl 1 rfl) ?_
  refine mca_i (b := (mga G 0)) (As := [.int x]) (rest := []) F (c_X8_isRoutine l G M P L N V (by omega) x x.toInt rfl) (xcw F.2.2.2.2 ca_X8_isRoutine tm_595 rfl rfl ⟨by decide, by decide⟩) (mr_X8 hW) hW rfl hl.1 rfl (Nat.le_of_ble_eq_true rfl) dX8_like_2 (fun r2 u2 H locs hp2 hW => ?_)
  obtain ⟨hp2, rfl⟩ := hp2
  have hW : mW G s s.heap H locs M P L N V := hW
  rcases hp2 with ⟨rfl, y2⟩ | ⟨rfl, y2⟩
  · skip
    obtain ⟨r, hn_r, hm_r, rfl⟩ := argN (x := x) (by omega)
    have e_r : (nI r).toInt.toNat = r := by omega
    have i_r : r < M.1 := by omega
    have hl : lv_has ls 9 [(0, .ref (mga G 0)), (1, .int (nI r)), (2, .int y)] := hl
    have q1 := hrc r (by omega)
    have q2 := hra r (by omega)
    refine lv_if_eq (tgt := 18) F.1 F.2.1 dX8_like_5 (by decide) (fun q => absurd q (by decide)) (fun _ => ?_)
    refine lv_iload_n F.1 F.2.1 dX8_like_8 rfl (lv_at hl 2 rfl) ?_
    refine lv_iconst (v := nI 0) F.1 F.2.1 dX8_like_9 (by decide) ?_
    refine lv_bipush (v := nI 8) F.1 F.2.1 dX8_like_10 (by decide) ?_
    refine pca (As := [.int y, .int (nI 0), .int (nI 8)]) (rest := []) F (c_X8_in l y (nI 0) (nI 8) y.toInt 0 8 rfl (by decide) (by decide)) (xcwS F.2.2.2.2 ca_X8_in tm_577 rfl rfl ⟨by decide, by decide⟩) rfl hl.1 rfl (Nat.le_of_ble_eq_true rfl) dX8_like_12 (fun r12 hr12 => ?_)
    rcases hr12 with ⟨rfl, y12⟩ | ⟨rfl, y12⟩
    · skip
      obtain ⟨z, hn_z, hm_z, rfl⟩ := argN (x := y) (by omega)
      have e_z : (nI z).toInt.toNat = z := by omega
      have i_z : z ≤ 8 := by omega
      have hl : lv_has ls 9 [(0, .ref (mga G 0)), (1, .int (nI r)), (2, .int (nI z))] := hl
      refine lv_if_ne (tgt := 20) F.1 F.2.1 dX8_like_15 (by decide) (fun _ => ?_) (fun q => absurd q (by decide))
      refine lv_aload_n F.1 F.2.1 dX8_like_20 rfl (lv_at hl 0 rfl) ?_
      refine lv_aload_n F.1 F.2.1 dX8_like_21 rfl (lv_at hl 0 rfl) ?_
      refine mg_argumentsOf F hW tm_501 dX8_like_22 ?_
      refine lv_iload_n F.1 F.2.1 dX8_like_25 rfl (lv_at hl 1 rfl) ?_
      refine ml_ra (i := r) F hW rfl (by omega) dX8_like_26 ?_
      refine mp_arguments (k := (M.2.1 r)) F hW tm_507 rfl dX8_like_27 (fun H locs hW => ?_)
      have hW : mW G s s.heap H locs (M.1, M.2.1, M.2.2.1, M.2.2.2.1, M.2.2.2.2.1, M.2.2.2.2.2.1, M.2.2.2.2.2.2.1, M.2.1 r, M.2.2.2.2.2.2.2.2.1, M.2.2.2.2.2.2.2.2.2.1, M.2.2.2.2.2.2.2.2.2.2.1, M.2.2.2.2.2.2.2.2.2.2.2) P L N V := hW
      refine lv_aload_n F.1 F.2.1 dX8_like_30 rfl (lv_at hl 0 rfl) ?_
      refine lv_iconst (v := nI 0) F.1 F.2.1 dX8_like_31 (by decide) ?_
      refine mp_examples (k := 0) F hW tm_508 rfl dX8_like_32 (fun H locs hW => ?_)
      have hW : mW G s s.heap H locs (M.1, M.2.1, M.2.2.1, M.2.2.2.1, M.2.2.2.2.1, M.2.2.2.2.2.1, M.2.2.2.2.2.2.1, M.2.1 r, 0, M.2.2.2.2.2.2.2.2.2.1, M.2.2.2.2.2.2.2.2.2.2.1, M.2.2.2.2.2.2.2.2.2.2.2) P L N V := hW
      refine lv_iconst (v := nI 0) F.1 F.2.1 dX8_like_35 (by decide) ?_
      refine lv_istore_n (lv' := [(3, .int (nI 0)), (0, .ref (mga G 0)), (1, .int (nI r)), (2, .int (nI z))]) F.1 F.2.1 dX8_like_36 rfl hl (by decide) rfl (fun ls hl => ?_)
      have lp37 : ∀ (k37 : Nat) (Pk : MP) (i : Nat) (af : Nat → Int32) (ag : Nat → Int32) (ad : Nat → Int64), z - i = k37 → (i ≤ z) → (∀ j, j < i → af j = wA (M.2.1 r) j ∧ ag j = (if (M.2.1 r) = 1 then nI 0 else wB (M.2.1 r) j) ∧ ad j = (if zout M.2.2.2.2.2.2.1 (M.2.2.1 r) (fun k => M.2.2.2.1 (12 * r + k)) (wA (M.2.1 r) j) (wB (M.2.1 r) j) = zUNK then zANY else zout M.2.2.2.2.2.2.1 (M.2.2.1 r) (fun k => M.2.2.2.1 (12 * r + k)) (wA (M.2.1 r) j) (wB (M.2.1 r) j))) → ∀ (H : Heap) (locs : List Loc) (ls : Array Slot), mW G s s.heap H locs (M.1, M.2.1, M.2.2.1, M.2.2.2.1, M.2.2.2.2.1, M.2.2.2.2.2.1, M.2.2.2.2.2.2.1, M.2.1 r, i, af, ag, ad) Pk L N V →  lv_has ls 9 [(0, .ref (mga G 0)), (1, .int (nI r)), (2, .int (nI z)), (3, .int (nI i))] → W p l e (rmD 3) s m args below meth c H locs 0 0 (MQ below (va_Qi (fun v u => (¬ (zin M.1 (nI r) ∧ 0 ≤ (nI z).toInt ∧ (nI z).toInt ≤ 8) ∧ v = (-1) ∧ u = (M, P, L, N, V)) ∨ ((zin M.1 (nI r) ∧ 0 ≤ (nI z).toInt ∧ (nI z).toInt ≤ 8) ∧ v = nI (nI z).toInt.toNat ∧ ∃ (af2 ag2 : Nat → Int32) (ad2 : Nat → Int64) (P2 : MP), u = ((M.1, M.2.1, M.2.2.1, M.2.2.2.1, M.2.2.2.2.1, M.2.2.2.2.2.1, M.2.2.2.2.2.2.1, M.2.1 (nI r).toInt.toNat, (nI z).toInt.toNat, af2, ag2, ad2), P2, L, N, V) ∧ ∀ j, j < (nI z).toInt.toNat → af2 j = wA (M.2.1 (nI r).toInt.toNat) j ∧ ag2 j = (if (M.2.1 (nI r).toInt.toNat) = 1 then nI 0 else wB (M.2.1 (nI r).toInt.toNat) j) ∧ ad2 j = (if zout M.2.2.2.2.2.2.1 (M.2.2.1 (nI r).toInt.toNat) (fun k => M.2.2.2.1 (12 * (nI r).toInt.toNat + k)) (wA (M.2.1 (nI r).toInt.toNat) j) (wB (M.2.1 (nI r).toInt.toNat) j) = zUNK then zANY else zout M.2.2.2.2.2.2.1 (M.2.2.1 (nI r).toInt.toNat) (fun k => M.2.2.2.1 (12 * (nI r).toInt.toNat + k)) (wA (M.2.1 (nI r).toInt.toNat) j) (wB (M.2.1 (nI r).toInt.toNat) j)))) (mB G) (mA G)) args s 0 0 (mA G)) (F0 m 37 ls []) := by
        intro k37
        induction k37 using Nat.strongRecOn with
        | ind k37 ih37 =>
          intro Pk i af ag ad hk37 h1 h2 H locs ls hW hl
          refine lv_iload_n F.1 F.2.1 dX8_like_37 rfl (lv_at hl 3 rfl) ?_
          refine lv_iload_n F.1 F.2.1 dX8_like_38 rfl (lv_at hl 2 rfl) ?_
          refine lv_icmp_ge (tgt := 106) F.1 F.2.1 dX8_like_39 (by decide) (fun c39 => ?_) (fun c39 => ?_)
          · have c39 := ci_le (a := ((z : Nat) : Int)) (b := ((i : Nat) : Int)) (nI_toInt (by omega)) (nI_toInt (by omega)) c39
            refine lv_iload_n F.1 F.2.1 dX8_like_106 rfl (lv_at hl 2 rfl) ?_
            refine mre_i F hr hlk hW dX8_like_107 ?_
            refine Or.inr ⟨by unfold zin; omega, by rw [e_z], af, ag, ad, _, by rw [e_z, e_r, show z = i by omega], ?_⟩
            rw [e_z, e_r]
            exact fun j hj => h2 j (by omega)
          · have c39 := ci_nle (a := ((z : Nat) : Int)) (b := ((i : Nat) : Int)) (nI_toInt (by omega)) (nI_toInt (by omega)) c39
            refine lv_aload_n F.1 F.2.1 dX8_like_42 rfl (lv_at hl 0 rfl) ?_
            refine mg_arguments F hW tm_507 dX8_like_43 ?_
            refine lv_iload_n F.1 F.2.1 dX8_like_46 rfl (lv_at hl 3 rfl) ?_
            refine pca (As := [.int (nI (M.2.1 r)), .int (nI i)]) (rest := []) F (c_X8_firstOf l (M.2.1 r) i (by omega) (by omega)) (xcwS F.2.2.2.2 ca_X8_firstOf tm_665 rfl rfl ⟨by decide, by decide⟩) rfl hl.1 rfl (Nat.le_of_ble_eq_true rfl) dX8_like_47 (fun r47 hr47 => ?_)
            subst hr47
            refine lv_istore (lv' := [(4, .int (wA (M.2.1 r) i)), (0, .ref (mga G 0)), (1, .int (nI r)), (2, .int (nI z)), (3, .int (nI i))]) F.1 F.2.1 dX8_like_50 hl (by decide) rfl (fun ls hl => ?_)
            refine lv_aload_n F.1 F.2.1 dX8_like_52 rfl (lv_at hl 1 rfl) ?_
            refine mg_arguments F hW tm_507 dX8_like_53 ?_
            refine lv_iload_n F.1 F.2.1 dX8_like_56 rfl (lv_at hl 4 rfl) ?_
            refine pca (As := [.int (nI (M.2.1 r)), .int (nI i)]) (rest := []) F (c_X8_secondOf l (M.2.1 r) i (by omega) (by omega)) (xcwS F.2.2.2.2 ca_X8_secondOf tm_668 rfl rfl ⟨by decide, by decide⟩) rfl hl.1 rfl (Nat.le_of_ble_eq_true rfl) dX8_like_57 (fun r57 hr57 => ?_)
            subst hr57
            refine lv_istore (lv' := [(5, .int (wB (M.2.1 r) i)), (4, .int (wA (M.2.1 r) i)), (0, .ref (mga G 0)), (1, .int (nI r)), (2, .int (nI z)), (3, .int (nI i))]) F.1 F.2.1 dX8_like_60 hl (by decide) rfl (fun ls hl => ?_)
            refine lv_aload_n F.1 F.2.1 dX8_like_62 rfl (lv_at hl 2 rfl) ?_
            refine lv_iload_n F.1 F.2.1 dX8_like_63 rfl (lv_at hl 3 rfl) ?_
            refine lv_iload F.1 F.2.1 dX8_like_64 (lv_at hl 1 rfl) ?_
            refine lv_iload F.1 F.2.1 dX8_like_66 (lv_at hl 0 rfl) ?_
            refine mca_l (b := (mga G 0)) (As := [.int (nI r), .int (wA (M.2.1 r) i), .int (wB (M.2.1 r) i)]) (rest := []) F (c_X8_runIt l G (M.1, M.2.1, M.2.2.1, M.2.2.2.1, M.2.2.2.2.1, M.2.2.2.2.2.1, M.2.2.2.2.2.2.1, M.2.1 r, i, af, ag, ad) Pk L N V r (by omega) (hrc r (by omega)) hf (wA (M.2.1 r) i) (wB (M.2.1 r) i)) (xcw F.2.2.2.2 ca_X8_runIt tm_607 rfl rfl ⟨by decide, by decide⟩) (mr_X8 hW) hW rfl hl.1 rfl (Nat.le_of_ble_eq_true rfl) dX8_like_68 (fun r68 u68 H locs hp68 hW => ?_)
            obtain ⟨rfl, P68, rfl, e68⟩ := hp68
            have hW : mW G s s.heap H locs (M.1, M.2.1, M.2.2.1, M.2.2.2.1, M.2.2.2.2.1, M.2.2.2.2.2.1, M.2.2.2.2.2.2.1, M.2.1 r, i, af, ag, ad) P68 L N V := hW
            refine lv_lstore (lv' := [(6, .long (zout M.2.2.2.2.2.2.1 (M.2.2.1 r) (fun k => M.2.2.2.1 (12 * r + k)) (wA (M.2.1 r) i) (wB (M.2.1 r) i))), (5, .int (wB (M.2.1 r) i)), (4, .int (wA (M.2.1 r) i)), (0, .ref (mga G 0)), (1, .int (nI r)), (2, .int (nI z)), (3, .int (nI i))]) F.1 F.2.1 dX8_like_71 hl (by decide) rfl (fun ls hl => ?_)
            refine lv_aload_n F.1 F.2.1 dX8_like_73 rfl (lv_at hl 3 rfl) ?_
            refine lv_iload F.1 F.2.1 dX8_like_74 (lv_at hl 2 rfl) ?_
            refine lv_iload F.1 F.2.1 dX8_like_76 (lv_at hl 1 rfl) ?_
            refine lv_lload F.1 F.2.1 dX8_like_78 (lv_at hl 0 rfl) ?_
            refine lv_ldc2 (v := zUNK) F.1 F.2.1 F.2.2.2.1 (F.2.2.2.2 _ tm_611) dX8_like_80 ?_
            refine W.lcmp F.1 F.2.1 dX8_like_83 ?_
            refine lv_if_ne (tgt := 93) F.1 F.2.1 dX8_like_84 (by decide) (fun c84 => ?_) (fun c84 => ?_)
            · have c84 := fun q => c84 ((lg_cmp_eq _ _).mpr q)
              skip
              refine lv_lload F.1 F.2.1 dX8_like_93 (lv_at hl 0 rfl) ?_
              refine mca_i (b := (mga G 0)) (As := [.int (wA (M.2.1 r) i), .int (wB (M.2.1 r) i), .long (zout M.2.2.2.2.2.2.1 (M.2.2.1 r) (fun k => M.2.2.2.1 (12 * r + k)) (wA (M.2.1 r) i) (wB (M.2.1 r) i))]) (rest := []) F (c_X8_example l G M.1 M.2.1 M.2.2.1 M.2.2.2.1 M.2.2.2.2.1 M.2.2.2.2.2.1 M.2.2.2.2.2.2.1 (M.2.1 r) i af ag ad P68 L N V (by omega) (by omega) (wA (M.2.1 r) i) (wB (M.2.1 r) i) (zout M.2.2.2.2.2.2.1 (M.2.2.1 r) (fun k => M.2.2.2.1 (12 * r + k)) (wA (M.2.1 r) i) (wB (M.2.1 r) i))) (xcw F.2.2.2.2 ca_X8_example tm_648 rfl rfl ⟨by decide, by decide⟩) (mr_X8 hW) hW rfl hl.1 rfl (Nat.le_of_ble_eq_true rfl) dX8_like_95 (fun r95 u95 H locs hp95 hW => ?_)
              rcases hp95 with ⟨y95, rfl, rfl⟩ | ⟨y95, rfl, rfl⟩
              · skip
                have hW : mW G s s.heap H locs (M.1, M.2.1, M.2.2.1, M.2.2.2.1, M.2.2.2.2.1, M.2.2.2.2.2.1, M.2.2.2.2.2.2.1, M.2.1 r, i + 1, upd af i (wA (M.2.1 r) i), upd ag i (if M.2.1 r = 1 then nI 0 else (wB (M.2.1 r) i)), vp_updL ad i (zout M.2.2.2.2.2.2.1 (M.2.2.1 r) (fun k => M.2.2.2.1 (12 * r + k)) (wA (M.2.1 r) i) (wB (M.2.1 r) i))) P68 L N V := hW
                refine lv_istore (lv' := [(8, .int (nI i)), (6, .long (zout M.2.2.2.2.2.2.1 (M.2.2.1 r) (fun k => M.2.2.2.1 (12 * r + k)) (wA (M.2.1 r) i) (wB (M.2.1 r) i))), (5, .int (wB (M.2.1 r) i)), (4, .int (wA (M.2.1 r) i)), (0, .ref (mga G 0)), (1, .int (nI r)), (2, .int (nI z)), (3, .int (nI i))]) F.1 F.2.1 dX8_like_98 hl (by decide) rfl (fun ls hl => ?_)
                refine lv_iinc (v := nI (i + 1)) (lv' := [(3, .int (nI (i + 1))), (8, .int (nI i)), (6, .long (zout M.2.2.2.2.2.2.1 (M.2.2.1 r) (fun k => M.2.2.2.1 (12 * r + k)) (wA (M.2.1 r) i) (wB (M.2.1 r) i))), (5, .int (wB (M.2.1 r) i)), (4, .int (wA (M.2.1 r) i)), (0, .ref (mga G 0)), (1, .int (nI r)), (2, .int (nI z))]) F.1 F.2.1 dX8_like_100 hl (k := 7) rfl (nI_add _ 1) (by decide) rfl (fun ls hl => ?_)
                refine lv_goto (tgt := 37) F.1 F.2.1 dX8_like_103 (by decide) ?_
                exact ih37 (z - (i + 1)) (by omega) P68 (i + 1) (upd af i (wA (M.2.1 r) i)) (upd ag i (if M.2.1 r = 1 then nI 0 else (wB (M.2.1 r) i))) (vp_updL ad i (zout M.2.2.2.2.2.2.1 (M.2.2.1 r) (fun k => M.2.2.2.1 (12 * r + k)) (wA (M.2.1 r) i) (wB (M.2.1 r) i))) rfl (by omega) (lt_s (fun j hj => ⟨(pk_un (by omega)).trans (h2 j hj).1, (pk_un (by omega)).trans (h2 j hj).2.1, (pk_uLn (by omega)).trans (h2 j hj).2.2⟩) ⟨pk_us, pk_us, pk_uLs.trans (by rw [if_neg c84])⟩) _ _ _ hW (lv_sub hl [5, 6, 7, 0] rfl)
              · skip
                have hW : mW G s s.heap H locs (M.1, M.2.1, M.2.2.1, M.2.2.2.1, M.2.2.2.2.1, M.2.2.2.2.2.1, M.2.2.2.2.2.2.1, M.2.1 r, i, af, ag, ad) P68 L N V := hW
                exfalso; omega
            · have c84 := (lg_cmp_eq _ _).mp c84
              skip
              refine lv_ldc2 (v := zANY) F.1 F.2.1 F.2.2.2.1 (F.2.2.2.2 _ tm_656) dX8_like_87 ?_
              refine lv_goto (tgt := 95) F.1 F.2.1 dX8_like_90 (by decide) ?_
              refine mca_i (b := (mga G 0)) (As := [.int (wA (M.2.1 r) i), .int (wB (M.2.1 r) i), .long zANY]) (rest := []) F (c_X8_example l G M.1 M.2.1 M.2.2.1 M.2.2.2.1 M.2.2.2.2.1 M.2.2.2.2.2.1 M.2.2.2.2.2.2.1 (M.2.1 r) i af ag ad P68 L N V (by omega) (by omega) (wA (M.2.1 r) i) (wB (M.2.1 r) i) zANY) (xcw F.2.2.2.2 ca_X8_example tm_648 rfl rfl ⟨by decide, by decide⟩) (mr_X8 hW) hW rfl hl.1 rfl (Nat.le_of_ble_eq_true rfl) dX8_like_95 (fun r95 u95 H locs hp95 hW => ?_)
              rcases hp95 with ⟨y95, rfl, rfl⟩ | ⟨y95, rfl, rfl⟩
              · skip
                have hW : mW G s s.heap H locs (M.1, M.2.1, M.2.2.1, M.2.2.2.1, M.2.2.2.2.1, M.2.2.2.2.2.1, M.2.2.2.2.2.2.1, M.2.1 r, i + 1, upd af i (wA (M.2.1 r) i), upd ag i (if M.2.1 r = 1 then nI 0 else (wB (M.2.1 r) i)), vp_updL ad i zANY) P68 L N V := hW
                refine lv_istore (lv' := [(8, .int (nI i)), (6, .long (zout M.2.2.2.2.2.2.1 (M.2.2.1 r) (fun k => M.2.2.2.1 (12 * r + k)) (wA (M.2.1 r) i) (wB (M.2.1 r) i))), (5, .int (wB (M.2.1 r) i)), (4, .int (wA (M.2.1 r) i)), (0, .ref (mga G 0)), (1, .int (nI r)), (2, .int (nI z)), (3, .int (nI i))]) F.1 F.2.1 dX8_like_98 hl (by decide) rfl (fun ls hl => ?_)
                refine lv_iinc (v := nI (i + 1)) (lv' := [(3, .int (nI (i + 1))), (8, .int (nI i)), (6, .long (zout M.2.2.2.2.2.2.1 (M.2.2.1 r) (fun k => M.2.2.2.1 (12 * r + k)) (wA (M.2.1 r) i) (wB (M.2.1 r) i))), (5, .int (wB (M.2.1 r) i)), (4, .int (wA (M.2.1 r) i)), (0, .ref (mga G 0)), (1, .int (nI r)), (2, .int (nI z))]) F.1 F.2.1 dX8_like_100 hl (k := 7) rfl (nI_add _ 1) (by decide) rfl (fun ls hl => ?_)
                refine lv_goto (tgt := 37) F.1 F.2.1 dX8_like_103 (by decide) ?_
                exact ih37 (z - (i + 1)) (by omega) P68 (i + 1) (upd af i (wA (M.2.1 r) i)) (upd ag i (if M.2.1 r = 1 then nI 0 else (wB (M.2.1 r) i))) (vp_updL ad i zANY) rfl (by omega) (lt_s (fun j hj => ⟨(pk_un (by omega)).trans (h2 j hj).1, (pk_un (by omega)).trans (h2 j hj).2.1, (pk_uLn (by omega)).trans (h2 j hj).2.2⟩) ⟨pk_us, pk_us, pk_uLs.trans (by rw [if_pos c84])⟩) _ _ _ hW (lv_sub hl [5, 6, 7, 0] rfl)
              · skip
                have hW : mW G s s.heap H locs (M.1, M.2.1, M.2.2.1, M.2.2.2.1, M.2.2.2.2.1, M.2.2.2.2.2.1, M.2.2.2.2.2.2.1, M.2.1 r, i, af, ag, ad) P68 L N V := hW
                exfalso; omega
      exact lp37 (z - 0) P 0 M.2.2.2.2.2.2.2.2.2.1 M.2.2.2.2.2.2.2.2.2.2.1 M.2.2.2.2.2.2.2.2.2.2.2 rfl (Nat.zero_le _) (lt_0) _ _ _ hW (lv_sub hl [1, 2, 3, 0] rfl)
    · skip
      refine lv_if_ne (tgt := 20) F.1 F.2.1 dX8_like_15 (by decide) (fun q => absurd q (by decide)) (fun _ => ?_)
      refine lv_iconst (v := (-1)) F.1 F.2.1 dX8_like_18 (by decide) ?_
      refine mre_i F hr hlk hW dX8_like_19 ?_
      exact Or.inl ⟨by unfold zin; omega, rfl, rfl⟩
  · skip
    refine lv_if_eq (tgt := 18) F.1 F.2.1 dX8_like_5 (by decide) (fun _ => ?_) (fun q => absurd q (by decide))
    refine lv_iconst (v := (-1)) F.1 F.2.1 dX8_like_18 (by decide) ?_
    refine mre_i F hr hlk hW dX8_like_19 ?_
    exact Or.inl ⟨by unfold zin; omega, rfl, rfl⟩
