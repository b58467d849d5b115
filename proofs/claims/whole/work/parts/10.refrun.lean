theorem dX8_in_0 : decode cX8_in 0 = .ok (.iload_n 0, 1) := by decide +kernel
theorem dX8_in_1 : decode cX8_in 1 = .ok (.iload_n 1, 1) := by decide +kernel
theorem dX8_in_2 : decode cX8_in 2 = .ok (.if_icmp .lt 12, 3) := by decide +kernel
theorem dX8_in_5 : decode cX8_in 5 = .ok (.iload_n 0, 1) := by decide +kernel
theorem dX8_in_6 : decode cX8_in 6 = .ok (.iload_n 2, 1) := by decide +kernel
theorem dX8_in_7 : decode cX8_in 7 = .ok (.if_icmp .gt 7, 3) := by decide +kernel
theorem dX8_in_10 : decode cX8_in 10 = .ok (.iconst 1, 1) := by decide +kernel
theorem dX8_in_11 : decode cX8_in 11 = .ok (.goto 4, 3) := by decide +kernel
theorem dX8_in_14 : decode cX8_in 14 = .ok (.iconst 0, 1) := by decide +kernel
theorem dX8_in_15 : decode cX8_in 15 = .ok (.ireturn, 1) := by decide +kernel
set_option maxHeartbeats 4000000 in
set_option maxRecDepth 100000 in
theorem c_X8_in (l : Launch) (x a b : Int32) (xi ai bi : Int) (ex : x.toInt = xi) (ea : a.toInt = ai) (eb : b.toInt = bi) : Met l yX8_in (wC yX8_in cX8_in 3 (some .boolean)) (rmD 0) (pPc [.int x, .int a, .int b]) (pQi (fun r => yn r (ai ≤ xi ∧ xi ≤ bi))) 0 0 (fun _ => False) := by
  refine pst "DoFinderModel" (by decide) rfl (Nat.le_of_ble_eq_true rfl) ?_
  intro p e s m args below meth c ls F hr hlk hl
  have hl : lv_has ls 3 [(0, .int x), (1, .int a), (2, .int b)] := hl
  have b_x := i32b x
  have b_a := i32b a
  have b_b := i32b b
  refine lv_iload_n F.1 F.2.1 dX8_in_0 rfl (lv_at hl 0 rfl) ?_
  refine lv_iload_n F.1 F.2.1 dX8_in_1 rfl (lv_at hl 1 rfl) ?_
  refine lv_icmp_lt (tgt := 14) F.1 F.2.1 dX8_in_2 (by decide) (fun c2 => ?_) (fun c2 => ?_)
  · have c2 := ci_lt (a := x.toInt) (b := a.toInt) rfl rfl c2
    refine lv_iconst (v := nI 0) F.1 F.2.1 dX8_in_14 (by decide) ?_
    refine pre_z F hr hlk (by decide) dX8_in_15 ?_
    first | exact yn_1 (by omega) | exact yn_0 (by omega)
  · have c2 := ci_nlt (a := x.toInt) (b := a.toInt) rfl rfl c2
    refine lv_iload_n F.1 F.2.1 dX8_in_5 rfl (lv_at hl 0 rfl) ?_
    refine lv_iload_n F.1 F.2.1 dX8_in_6 rfl (lv_at hl 2 rfl) ?_
    refine lv_icmp_gt (tgt := 14) F.1 F.2.1 dX8_in_7 (by decide) (fun c7 => ?_) (fun c7 => ?_)
    · have c7 := ci_lt (a := b.toInt) (b := x.toInt) rfl rfl c7
      refine lv_iconst (v := nI 0) F.1 F.2.1 dX8_in_14 (by decide) ?_
      refine pre_z F hr hlk (by decide) dX8_in_15 ?_
      first | exact yn_1 (by omega) | exact yn_0 (by omega)
    · have c7 := ci_nlt (a := b.toInt) (b := x.toInt) rfl rfl c7
      refine lv_iconst (v := nI 1) F.1 F.2.1 dX8_in_10 (by decide) ?_
      refine lv_goto (tgt := 15) F.1 F.2.1 dX8_in_11 (by decide) ?_
      refine pre_z F hr hlk (by decide) dX8_in_15 ?_
      first | exact yn_1 (by omega) | exact yn_0 (by omega)
theorem dX8_isRoutine_0 : decode cX8_isRoutine 0 = .ok (.iload_n 1, 1) := by decide +kernel
theorem dX8_isRoutine_1 : decode cX8_isRoutine 1 = .ok (.iconst 0, 1) := by decide +kernel
theorem dX8_isRoutine_2 : decode cX8_isRoutine 2 = .ok (.aload_n 0, 1) := by decide +kernel
theorem dX8_isRoutine_3 : decode cX8_isRoutine 3 = .ok (.getfield 57, 3) := by decide +kernel
theorem dX8_isRoutine_6 : decode cX8_isRoutine 6 = .ok (.iconst 1, 1) := by decide +kernel
theorem dX8_isRoutine_7 : decode cX8_isRoutine 7 = .ok (.isub, 1) := by decide +kernel
theorem dX8_isRoutine_8 : decode cX8_isRoutine 8 = .ok (.invokestatic 60, 3) := by decide +kernel
theorem dX8_isRoutine_11 : decode cX8_isRoutine 11 = .ok (.ireturn, 1) := by decide +kernel
set_option maxHeartbeats 4000000 in
set_option maxRecDepth 100000 in
theorem c_X8_isRoutine (l : Launch) (G : MG) (M : MM) (P : MP) (L : ML) (N : MN) (V : MV) (hn : M.1 ≤ 12) (x : Int32) (xi : Int) (ex : x.toInt = xi) : Met l yX8_isRoutine (wC yX8_isRoutine cX8_isRoutine 2 (some .boolean)) (rmD 1) (mPc G [.ref (mga G 0), .int x] M P L N V) (va_Qi (fun r u => yn r (0 ≤ xi ∧ xi < (M.1 : Int)) ∧ u = (M, P, L, N, V)) (mB G) (mA G)) 0 0 (mA G) := by
  refine mst "DoFinderModel" (by decide) rfl (Nat.le_of_ble_eq_true rfl) ?_
  intro p e s m args below meth c ls F hr hlk hW hl
  have hl : lv_has ls 2 [(0, .ref (mga G 0)), (1, .int x)] := hl
  have hW : mW G s s.heap s.heap [] M P L N V := hW
  have b_x := i32b x
  refine lv_iload_n F.1 F.2.1 dX8_isRoutine_0 rfl (lv_at hl 1 rfl) ?_
  refine lv_iconst (v := nI 0) F.1 F.2.1 dX8_isRoutine_1 (by decide) ?_
  refine lv_aload_n F.1 F.2.1 dX8_isRoutine_2 rfl (lv_at hl 0 rfl) ?_
  refine mg_routines F hW tm_500 dX8_isRoutine_3 ?_
  refine lv_iconst (v := nI 1) F.1 F.2.1 dX8_isRoutine_6 (by decide) ?_
  refine ax_sub F rfl dX8_isRoutine_7 ?_
  refine ax_nm (a := ((M.1 : Nat) : Int) - 1) (ci_sub (nI_toInt (by omega)) (by decide) (by omega) (by omega)) (fun v1 hv1 => ?_)
  refine pca (As := [.int x, .int (nI 0), .int v1]) (rest := []) F (c_X8_in l x (nI 0) v1 x.toInt 0 (((M.1 : Nat) : Int) - 1) rfl (by decide) hv1) (xcwS F.2.2.2.2 ca_X8_in tm_577 rfl rfl ⟨by decide, by decide⟩) rfl hl.1 rfl (Nat.le_of_ble_eq_true rfl) dX8_isRoutine_8 (fun r8 hr8 => ?_)
  rcases hr8 with ⟨rfl, y8⟩ | ⟨rfl, y8⟩
  · skip
    refine mre_z F hr hlk hW (by decide) dX8_isRoutine_11 ?_
    exact ⟨by first | exact yn_1 (by omega) | exact yn_0 (by omega), rfl⟩
  · skip
    refine mre_z F hr hlk hW (by decide) dX8_isRoutine_11 ?_
    exact ⟨by first | exact yn_1 (by omega) | exact yn_0 (by omega), rfl⟩
theorem dX8_fits_0 : decode cX8_fits 0 = .ok (.iload_n 0, 1) := by decide +kernel
theorem dX8_fits_1 : decode cX8_fits 1 = .ok (.bipush 11, 2) := by decide +kernel
theorem dX8_fits_3 : decode cX8_fits 3 = .ok (.if_icmp .ne 8, 3) := by decide +kernel
theorem dX8_fits_6 : decode cX8_fits 6 = .ok (.iload_n 1, 1) := by decide +kernel
theorem dX8_fits_7 : decode cX8_fits 7 = .ok (.iconst 2, 1) := by decide +kernel
theorem dX8_fits_8 : decode cX8_fits 8 = .ok (.if_icmp .lt 21, 3) := by decide +kernel
theorem dX8_fits_11 : decode cX8_fits 11 = .ok (.iload_n 0, 1) := by decide +kernel
theorem dX8_fits_12 : decode cX8_fits 12 = .ok (.bipush 21, 2) := by decide +kernel
theorem dX8_fits_14 : decode cX8_fits 14 = .ok (.if_icmp .lt 11, 3) := by decide +kernel
theorem dX8_fits_17 : decode cX8_fits 17 = .ok (.iload_n 0, 1) := by decide +kernel
theorem dX8_fits_18 : decode cX8_fits 18 = .ok (.bipush 21, 2) := by decide +kernel
theorem dX8_fits_20 : decode cX8_fits 20 = .ok (.isub, 1) := by decide +kernel
theorem dX8_fits_21 : decode cX8_fits 21 = .ok (.iload_n 2, 1) := by decide +kernel
theorem dX8_fits_22 : decode cX8_fits 22 = .ok (.if_icmp .ge 7, 3) := by decide +kernel
theorem dX8_fits_25 : decode cX8_fits 25 = .ok (.iconst 1, 1) := by decide +kernel
theorem dX8_fits_26 : decode cX8_fits 26 = .ok (.goto 4, 3) := by decide +kernel
theorem dX8_fits_29 : decode cX8_fits 29 = .ok (.iconst 0, 1) := by decide +kernel
theorem dX8_fits_30 : decode cX8_fits 30 = .ok (.ireturn, 1) := by decide +kernel
set_option maxHeartbeats 4000000 in
set_option maxRecDepth 100000 in
theorem c_X8_fits (l : Launch) (x : Int32) (t sz : Nat) (ht : t = 1 ∨ t = 2) (hc : sz ≤ 12) : Met l yX8_fits (wC yX8_fits cX8_fits 3 (some .boolean)) (rmD 0) (pPc [.int x, .int (nI t), .int (nI sz)]) (pQi (fun r => yn r (sp_may x.toInt t sz))) 0 0 (fun _ => False) := by
  refine pst "DoFinderModel" (by decide) rfl (Nat.le_of_ble_eq_true rfl) ?_
  intro p e s m args below meth c ls F hr hlk hl
  have hl : lv_has ls 3 [(0, .int x), (1, .int (nI t)), (2, .int (nI sz))] := hl
  have b_x := i32b x
  refine lv_iload_n F.1 F.2.1 dX8_fits_0 rfl (lv_at hl 0 rfl) ?_
  refine lv_bipush (v := nI 11) F.1 F.2.1 dX8_fits_1 (by decide) ?_
  refine lv_icmp_ne (tgt := 11) F.1 F.2.1 dX8_fits_3 (by decide) (fun c3 => ?_) (fun c3 => ?_)
  · have c3 := ci_ne (a := x.toInt) (b := 11) rfl (by decide) c3
    refine lv_iload_n F.1 F.2.1 dX8_fits_11 rfl (lv_at hl 0 rfl) ?_
    refine lv_bipush (v := nI 21) F.1 F.2.1 dX8_fits_12 (by decide) ?_
    refine lv_icmp_lt (tgt := 25) F.1 F.2.1 dX8_fits_14 (by decide) (fun c14 => ?_) (fun c14 => ?_)
    · have c14 := ci_lt (a := x.toInt) (b := 21) rfl (by decide) c14
      refine lv_iconst (v := nI 1) F.1 F.2.1 dX8_fits_25 (by decide) ?_
      refine lv_goto (tgt := 30) F.1 F.2.1 dX8_fits_26 (by decide) ?_
      refine pre_z F hr hlk (by decide) dX8_fits_30 ?_
      first | exact yn_1 (by unfold sp_may; omega) | exact yn_0 (by unfold sp_may; omega)
    · have c14 := ci_nlt (a := x.toInt) (b := 21) rfl (by decide) c14
      refine lv_iload_n F.1 F.2.1 dX8_fits_17 rfl (lv_at hl 0 rfl) ?_
      refine lv_bipush (v := nI 21) F.1 F.2.1 dX8_fits_18 (by decide) ?_
      refine ax_sub F rfl dX8_fits_20 ?_
      refine ax_nm (a := x.toInt - 21) (ci_sub rfl (by decide) (by omega) (by omega)) (fun v1 hv1 => ?_)
      refine lv_iload_n F.1 F.2.1 dX8_fits_21 rfl (lv_at hl 2 rfl) ?_
      refine lv_icmp_ge (tgt := 29) F.1 F.2.1 dX8_fits_22 (by decide) (fun c22 => ?_) (fun c22 => ?_)
      · have c22 := ci_le (a := ((sz : Nat) : Int)) (b := (x.toInt - 21)) (nI_toInt (by omega)) hv1 c22
        refine lv_iconst (v := nI 0) F.1 F.2.1 dX8_fits_29 (by decide) ?_
        refine pre_z F hr hlk (by decide) dX8_fits_30 ?_
        first | exact yn_1 (by unfold sp_may; omega) | exact yn_0 (by unfold sp_may; omega)
      · have c22 := ci_nle (a := ((sz : Nat) : Int)) (b := (x.toInt - 21)) (nI_toInt (by omega)) hv1 c22
        refine lv_iconst (v := nI 1) F.1 F.2.1 dX8_fits_25 (by decide) ?_
        refine lv_goto (tgt := 30) F.1 F.2.1 dX8_fits_26 (by decide) ?_
        refine pre_z F hr hlk (by decide) dX8_fits_30 ?_
        first | exact yn_1 (by unfold sp_may; omega) | exact yn_0 (by unfold sp_may; omega)
  · have c3 := ci_eq (a := x.toInt) (b := 11) rfl (by decide) c3
    refine lv_iload_n F.1 F.2.1 dX8_fits_6 rfl (lv_at hl 1 rfl) ?_
    refine lv_iconst (v := nI 2) F.1 F.2.1 dX8_fits_7 (by decide) ?_
    refine lv_icmp_lt (tgt := 29) F.1 F.2.1 dX8_fits_8 (by decide) (fun c8 => ?_) (fun c8 => ?_)
    · have c8 := ci_lt (a := ((t : Nat) : Int)) (b := 2) (nI_toInt (by omega)) (by decide) c8
      refine lv_iconst (v := nI 0) F.1 F.2.1 dX8_fits_29 (by decide) ?_
      refine pre_z F hr hlk (by decide) dX8_fits_30 ?_
      first | exact yn_1 (by unfold sp_may; omega) | exact yn_0 (by unfold sp_may; omega)
    · have c8 := ci_nlt (a := ((t : Nat) : Int)) (b := 2) (nI_toInt (by omega)) (by decide) c8
      refine lv_iload_n F.1 F.2.1 dX8_fits_11 rfl (lv_at hl 0 rfl) ?_
      refine lv_bipush (v := nI 21) F.1 F.2.1 dX8_fits_12 (by decide) ?_
      refine lv_icmp_lt (tgt := 25) F.1 F.2.1 dX8_fits_14 (by decide) (fun c14 => ?_) (fun c14 => ?_)
      · have c14 := ci_lt (a := x.toInt) (b := 21) rfl (by decide) c14
        refine lv_iconst (v := nI 1) F.1 F.2.1 dX8_fits_25 (by decide) ?_
        refine lv_goto (tgt := 30) F.1 F.2.1 dX8_fits_26 (by decide) ?_
        refine pre_z F hr hlk (by decide) dX8_fits_30 ?_
        first | exact yn_1 (by unfold sp_may; omega) | exact yn_0 (by unfold sp_may; omega)
      · have c14 := ci_nlt (a := x.toInt) (b := 21) rfl (by decide) c14
        refine lv_iload_n F.1 F.2.1 dX8_fits_17 rfl (lv_at hl 0 rfl) ?_
        refine lv_bipush (v := nI 21) F.1 F.2.1 dX8_fits_18 (by decide) ?_
        refine ax_sub F rfl dX8_fits_20 ?_
        refine ax_nm (a := x.toInt - 21) (ci_sub rfl (by decide) (by omega) (by omega)) (fun v2 hv2 => ?_)
        refine lv_iload_n F.1 F.2.1 dX8_fits_21 rfl (lv_at hl 2 rfl) ?_
        refine lv_icmp_ge (tgt := 29) F.1 F.2.1 dX8_fits_22 (by decide) (fun c22 => ?_) (fun c22 => ?_)
        · have c22 := ci_le (a := ((sz : Nat) : Int)) (b := (x.toInt - 21)) (nI_toInt (by omega)) hv2 c22
          refine lv_iconst (v := nI 0) F.1 F.2.1 dX8_fits_29 (by decide) ?_
          refine pre_z F hr hlk (by decide) dX8_fits_30 ?_
          first | exact yn_1 (by unfold sp_may; omega) | exact yn_0 (by unfold sp_may; omega)
        · have c22 := ci_nle (a := ((sz : Nat) : Int)) (b := (x.toInt - 21)) (nI_toInt (by omega)) hv2 c22
          refine lv_iconst (v := nI 1) F.1 F.2.1 dX8_fits_25 (by decide) ?_
          refine lv_goto (tgt := 30) F.1 F.2.1 dX8_fits_26 (by decide) ?_
          refine pre_z F hr hlk (by decide) dX8_fits_30 ?_
          first | exact yn_1 (by unfold sp_may; omega) | exact yn_0 (by unfold sp_may; omega)
theorem dX8_worked_0 : decode cX8_worked 0 = .ok (.iload_n 0, 1) := by decide +kernel
theorem dX8_worked_1 : decode cX8_worked 1 = .ok (.tableswitch 62 12 16 #[35, 39, 43, 47, 51], 35) := by decide +kernel
theorem dX8_worked_36 : decode cX8_worked 36 = .ok (.iload_n 1, 1) := by decide +kernel
theorem dX8_worked_37 : decode cX8_worked 37 = .ok (.iload_n 2, 1) := by decide +kernel
theorem dX8_worked_38 : decode cX8_worked 38 = .ok (.iadd, 1) := by decide +kernel
theorem dX8_worked_39 : decode cX8_worked 39 = .ok (.ireturn, 1) := by decide +kernel
theorem dX8_worked_40 : decode cX8_worked 40 = .ok (.iload_n 1, 1) := by decide +kernel
theorem dX8_worked_41 : decode cX8_worked 41 = .ok (.iload_n 2, 1) := by decide +kernel
theorem dX8_worked_42 : decode cX8_worked 42 = .ok (.isub, 1) := by decide +kernel
theorem dX8_worked_43 : decode cX8_worked 43 = .ok (.ireturn, 1) := by decide +kernel
theorem dX8_worked_44 : decode cX8_worked 44 = .ok (.iload_n 1, 1) := by decide +kernel
theorem dX8_worked_45 : decode cX8_worked 45 = .ok (.iload_n 2, 1) := by decide +kernel
theorem dX8_worked_46 : decode cX8_worked 46 = .ok (.imul, 1) := by decide +kernel
theorem dX8_worked_47 : decode cX8_worked 47 = .ok (.ireturn, 1) := by decide +kernel
theorem dX8_worked_48 : decode cX8_worked 48 = .ok (.iload_n 1, 1) := by decide +kernel
theorem dX8_worked_49 : decode cX8_worked 49 = .ok (.iload_n 2, 1) := by decide +kernel
theorem dX8_worked_50 : decode cX8_worked 50 = .ok (.idiv, 1) := by decide +kernel
theorem dX8_worked_51 : decode cX8_worked 51 = .ok (.ireturn, 1) := by decide +kernel
theorem dX8_worked_52 : decode cX8_worked 52 = .ok (.iload_n 1, 1) := by decide +kernel
theorem dX8_worked_53 : decode cX8_worked 53 = .ok (.iload_n 2, 1) := by decide +kernel
theorem dX8_worked_54 : decode cX8_worked 54 = .ok (.if_icmp .ge 7, 3) := by decide +kernel
theorem dX8_worked_57 : decode cX8_worked 57 = .ok (.iload_n 1, 1) := by decide +kernel
theorem dX8_worked_58 : decode cX8_worked 58 = .ok (.goto 4, 3) := by decide +kernel
theorem dX8_worked_61 : decode cX8_worked 61 = .ok (.iload_n 2, 1) := by decide +kernel
theorem dX8_worked_62 : decode cX8_worked 62 = .ok (.ireturn, 1) := by decide +kernel
theorem dX8_worked_63 : decode cX8_worked 63 = .ok (.iload_n 1, 1) := by decide +kernel
theorem dX8_worked_64 : decode cX8_worked 64 = .ok (.iload_n 2, 1) := by decide +kernel
theorem dX8_worked_65 : decode cX8_worked 65 = .ok (.if_icmp .le 7, 3) := by decide +kernel
theorem dX8_worked_68 : decode cX8_worked 68 = .ok (.iload_n 1, 1) := by decide +kernel
theorem dX8_worked_69 : decode cX8_worked 69 = .ok (.goto 4, 3) := by decide +kernel
theorem dX8_worked_72 : decode cX8_worked 72 = .ok (.iload_n 2, 1) := by decide +kernel
theorem dX8_worked_73 : decode cX8_worked 73 = .ok (.ireturn, 1) := by decide +kernel
set_option maxHeartbeats 4000000 in
set_option maxRecDepth 100000 in
theorem c_X8_worked (l : Launch) (x a b : Int32) (hx : 12 ≤ x.toInt) (hx2 : x.toInt < 18) (h5 : x.toInt = 15 → b.toInt ≠ 0) : Met l yX8_worked (wC yX8_worked cX8_worked 3 (some .int)) (rmD 0) (pPc [.int x, .int a, .int b]) (pQi (fun r => r = sp_wk x.toInt a b)) 0 0 (fun _ => False) := by
  refine pst "DoFinderModel" (by decide) rfl (Nat.le_of_ble_eq_true rfl) ?_
  intro p e s m args below meth c ls F hr hlk hl
  have hl : lv_has ls 3 [(0, .int x), (1, .int a), (2, .int b)] := hl
  have b_x := i32b x
  have b_a := i32b a
  have b_b := i32b b
  refine lv_iload_n F.1 F.2.1 dX8_worked_0 rfl (lv_at hl 0 rfl) ?_
  by_cases q1 : x.toInt < 12 ∨ 16 < x.toInt
  · refine lv_tableOut (tgt := 63) F.1 F.2.1 dX8_worked_1 (by have := True.intro; omega) (by decide) ?_
    refine lv_iload_n F.1 F.2.1 dX8_worked_63 rfl (lv_at hl 1 rfl) ?_
    refine lv_iload_n F.1 F.2.1 dX8_worked_64 rfl (lv_at hl 2 rfl) ?_
    refine lv_icmp_le (tgt := 72) F.1 F.2.1 dX8_worked_65 (by decide) (fun c65 => ?_) (fun c65 => ?_)
    · have c65 := ci_le (a := a.toInt) (b := b.toInt) rfl rfl c65
      refine lv_iload_n F.1 F.2.1 dX8_worked_72 rfl (lv_at hl 2 rfl) ?_
      refine pre_i F hr hlk dX8_worked_73 ?_
      unfold sp_wk; repeat first | rw [if_pos (by omega)] | rw [if_neg (by omega)]
    · have c65 := ci_nle (a := a.toInt) (b := b.toInt) rfl rfl c65
      refine lv_iload_n F.1 F.2.1 dX8_worked_68 rfl (lv_at hl 1 rfl) ?_
      refine lv_goto (tgt := 73) F.1 F.2.1 dX8_worked_69 (by decide) ?_
      refine pre_i F hr hlk dX8_worked_73 ?_
      unfold sp_wk; repeat first | rw [if_pos (by omega)] | rw [if_neg (by omega)]
  by_cases q1_0 : x.toInt = 12
  · skip
    refine lv_tableIn (tgt := 36) (off := 35) F.1 F.2.1 dX8_worked_1 (by have := True.intro; omega) (by have := True.intro; omega) (by rw [show ((x).toInt - 12).toNat = 0 from by have := True.intro; omega]; rfl) (by decide) ?_
    refine lv_iload_n F.1 F.2.1 dX8_worked_36 rfl (lv_at hl 1 rfl) ?_
    refine lv_iload_n F.1 F.2.1 dX8_worked_37 rfl (lv_at hl 2 rfl) ?_
    refine ax_add F rfl dX8_worked_38 ?_
    refine pre_i F hr hlk dX8_worked_39 ?_
    unfold sp_wk; repeat first | rw [if_pos (by omega)] | rw [if_neg (by omega)]
  by_cases q1_1 : x.toInt = 13
  · skip
    refine lv_tableIn (tgt := 40) (off := 39) F.1 F.2.1 dX8_worked_1 (by have := True.intro; omega) (by have := True.intro; omega) (by rw [show ((x).toInt - 12).toNat = 1 from by have := True.intro; omega]; rfl) (by decide) ?_
    refine lv_iload_n F.1 F.2.1 dX8_worked_40 rfl (lv_at hl 1 rfl) ?_
    refine lv_iload_n F.1 F.2.1 dX8_worked_41 rfl (lv_at hl 2 rfl) ?_
    refine ax_sub F rfl dX8_worked_42 ?_
    refine pre_i F hr hlk dX8_worked_43 ?_
    unfold sp_wk; repeat first | rw [if_pos (by omega)] | rw [if_neg (by omega)]
  by_cases q1_2 : x.toInt = 14
  · skip
    refine lv_tableIn (tgt := 44) (off := 43) F.1 F.2.1 dX8_worked_1 (by have := True.intro; omega) (by have := True.intro; omega) (by rw [show ((x).toInt - 12).toNat = 2 from by have := True.intro; omega]; rfl) (by decide) ?_
    refine lv_iload_n F.1 F.2.1 dX8_worked_44 rfl (lv_at hl 1 rfl) ?_
    refine lv_iload_n F.1 F.2.1 dX8_worked_45 rfl (lv_at hl 2 rfl) ?_
    refine ax_mul F rfl dX8_worked_46 ?_
    refine pre_i F hr hlk dX8_worked_47 ?_
    unfold sp_wk; repeat first | rw [if_pos (by omega)] | rw [if_neg (by omega)]
  by_cases q1_3 : x.toInt = 15
  · skip
    refine lv_tableIn (tgt := 48) (off := 47) F.1 F.2.1 dX8_worked_1 (by have := True.intro; omega) (by have := True.intro; omega) (by rw [show ((x).toInt - 12).toNat = 3 from by have := True.intro; omega]; rfl) (by decide) ?_
    refine lv_iload_n F.1 F.2.1 dX8_worked_48 rfl (lv_at hl 1 rfl) ?_
    refine lv_iload_n F.1 F.2.1 dX8_worked_49 rfl (lv_at hl 2 rfl) ?_
    refine ax_div F (fun q => h5 (by omega) (by rw [q]; decide)) rfl dX8_worked_50 ?_
    refine pre_i F hr hlk dX8_worked_51 ?_
    unfold sp_wk; repeat first | rw [if_pos (by omega)] | rw [if_neg (by omega)]
  have q1_4 : x.toInt = 16 := by omega
  refine lv_tableIn (tgt := 52) (off := 51) F.1 F.2.1 dX8_worked_1 (by have := True.intro; omega) (by have := True.intro; omega) (by rw [show ((x).toInt - 12).toNat = 4 from by have := True.intro; omega]; rfl) (by decide) ?_
  refine lv_iload_n F.1 F.2.1 dX8_worked_52 rfl (lv_at hl 1 rfl) ?_
  refine lv_iload_n F.1 F.2.1 dX8_worked_53 rfl (lv_at hl 2 rfl) ?_
  refine lv_icmp_ge (tgt := 61) F.1 F.2.1 dX8_worked_54 (by decide) (fun c54 => ?_) (fun c54 => ?_)
  · have c54 := ci_le (a := b.toInt) (b := a.toInt) rfl rfl c54
    refine lv_iload_n F.1 F.2.1 dX8_worked_61 rfl (lv_at hl 2 rfl) ?_
    refine pre_i F hr hlk dX8_worked_62 ?_
    unfold sp_wk; repeat first | rw [if_pos (by omega)] | rw [if_neg (by omega)]
  · have c54 := ci_nle (a := b.toInt) (b := a.toInt) rfl rfl c54
    refine lv_iload_n F.1 F.2.1 dX8_worked_57 rfl (lv_at hl 1 rfl) ?_
    refine lv_goto (tgt := 62) F.1 F.2.1 dX8_worked_58 (by decide) ?_
    refine pre_i F hr hlk dX8_worked_62 ?_
    unfold sp_wk; repeat first | rw [if_pos (by omega)] | rw [if_neg (by omega)]
theorem dX8_needs_0 : decode cX8_needs 0 = .ok (.iload_n 0, 1) := by decide +kernel
theorem dX8_needs_1 : decode cX8_needs 1 = .ok (.bipush 12, 2) := by decide +kernel
theorem dX8_needs_3 : decode cX8_needs 3 = .ok (.if_icmp .ge 7, 3) := by decide +kernel
theorem dX8_needs_6 : decode cX8_needs 6 = .ok (.iconst 0, 1) := by decide +kernel
theorem dX8_needs_7 : decode cX8_needs 7 = .ok (.goto 20, 3) := by decide +kernel
theorem dX8_needs_10 : decode cX8_needs 10 = .ok (.iload_n 0, 1) := by decide +kernel
theorem dX8_needs_11 : decode cX8_needs 11 = .ok (.bipush 18, 2) := by decide +kernel
theorem dX8_needs_13 : decode cX8_needs 13 = .ok (.if_icmp .lt 9, 3) := by decide +kernel
theorem dX8_needs_16 : decode cX8_needs 16 = .ok (.iload_n 0, 1) := by decide +kernel
theorem dX8_needs_17 : decode cX8_needs 17 = .ok (.bipush 19, 2) := by decide +kernel
theorem dX8_needs_19 : decode cX8_needs 19 = .ok (.if_icmp .ne 7, 3) := by decide +kernel
theorem dX8_needs_22 : decode cX8_needs 22 = .ok (.iconst 2, 1) := by decide +kernel
theorem dX8_needs_23 : decode cX8_needs 23 = .ok (.goto 4, 3) := by decide +kernel
theorem dX8_needs_26 : decode cX8_needs 26 = .ok (.iconst 1, 1) := by decide +kernel
theorem dX8_needs_27 : decode cX8_needs 27 = .ok (.ireturn, 1) := by decide +kernel
set_option maxHeartbeats 4000000 in
set_option maxRecDepth 100000 in
theorem c_X8_needs (l : Launch) (x : Int32) : Met l yX8_needs (wC yX8_needs cX8_needs 1 (some .int)) (rmD 0) (pPc [.int x]) (pQi (fun r => ∃ k : Nat, r = nI k ∧ k ≤ 2 ∧ (x.toInt < 12 → k = 0) ∧ (12 ≤ x.toInt ∧ x.toInt < 18 ∨ x.toInt = 19 → k = 2) ∧ (18 ≤ x.toInt → x.toInt ≠ 19 → k = 1))) 0 0 (fun _ => False) := by
  refine pst "DoFinderModel" (by decide) rfl (Nat.le_of_ble_eq_true rfl) ?_
  intro p e s m args below meth c ls F hr hlk hl
  have hl : lv_has ls 1 [(0, .int x)] := hl
  have b_x := i32b x
  refine lv_iload_n F.1 F.2.1 dX8_needs_0 rfl (lv_at hl 0 rfl) ?_
  refine lv_bipush (v := nI 12) F.1 F.2.1 dX8_needs_1 (by decide) ?_
  refine lv_icmp_ge (tgt := 10) F.1 F.2.1 dX8_needs_3 (by decide) (fun c3 => ?_) (fun c3 => ?_)
  · have c3 := ci_le (a := 12) (b := x.toInt) (by decide) rfl c3
    refine lv_iload_n F.1 F.2.1 dX8_needs_10 rfl (lv_at hl 0 rfl) ?_
    refine lv_bipush (v := nI 18) F.1 F.2.1 dX8_needs_11 (by decide) ?_
    refine lv_icmp_lt (tgt := 22) F.1 F.2.1 dX8_needs_13 (by decide) (fun c13 => ?_) (fun c13 => ?_)
    · have c13 := ci_lt (a := x.toInt) (b := 18) rfl (by decide) c13
      refine lv_iconst (v := nI 2) F.1 F.2.1 dX8_needs_22 (by decide) ?_
      refine lv_goto (tgt := 27) F.1 F.2.1 dX8_needs_23 (by decide) ?_
      refine pre_i F hr hlk dX8_needs_27 ?_
      exact ⟨_, rfl, by omega, by omega, by omega, by omega⟩
    · have c13 := ci_nlt (a := x.toInt) (b := 18) rfl (by decide) c13
      refine lv_iload_n F.1 F.2.1 dX8_needs_16 rfl (lv_at hl 0 rfl) ?_
      refine lv_bipush (v := nI 19) F.1 F.2.1 dX8_needs_17 (by decide) ?_
      refine lv_icmp_ne (tgt := 26) F.1 F.2.1 dX8_needs_19 (by decide) (fun c19 => ?_) (fun c19 => ?_)
      · have c19 := ci_ne (a := x.toInt) (b := 19) rfl (by decide) c19
        refine lv_iconst (v := nI 1) F.1 F.2.1 dX8_needs_26 (by decide) ?_
        refine pre_i F hr hlk dX8_needs_27 ?_
        exact ⟨_, rfl, by omega, by omega, by omega, by omega⟩
      · have c19 := ci_eq (a := x.toInt) (b := 19) rfl (by decide) c19
        refine lv_iconst (v := nI 2) F.1 F.2.1 dX8_needs_22 (by decide) ?_
        refine lv_goto (tgt := 27) F.1 F.2.1 dX8_needs_23 (by decide) ?_
        refine pre_i F hr hlk dX8_needs_27 ?_
        exact ⟨_, rfl, by omega, by omega, by omega, by omega⟩
  · have c3 := ci_nle (a := 12) (b := x.toInt) (by decide) rfl c3
    refine lv_iconst (v := nI 0) F.1 F.2.1 dX8_needs_6 (by decide) ?_
    refine lv_goto (tgt := 27) F.1 F.2.1 dX8_needs_7 (by decide) ?_
    refine pre_i F hr hlk dX8_needs_27 ?_
    exact ⟨_, rfl, by omega, by omega, by omega, by omega⟩
theorem dX8_isGood_0 : decode cX8_isGood 0 = .ok (.aload_n 0, 1) := by decide +kernel
theorem dX8_isGood_1 : decode cX8_isGood 1 = .ok (.getfield 74, 3) := by decide +kernel
theorem dX8_isGood_4 : decode cX8_isGood 4 = .ok (.iload_n 1, 1) := by decide +kernel
theorem dX8_isGood_5 : decode cX8_isGood 5 = .ok (.invokestatic 77, 3) := by decide +kernel
theorem dX8_isGood_8 : decode cX8_isGood 8 = .ok (.if_icmp .lt 24, 3) := by decide +kernel
theorem dX8_isGood_11 : decode cX8_isGood 11 = .ok (.iload_n 1, 1) := by decide +kernel
theorem dX8_isGood_12 : decode cX8_isGood 12 = .ok (.bipush 12, 2) := by decide +kernel
theorem dX8_isGood_14 : decode cX8_isGood 14 = .ok (.if_icmp .lt 9, 3) := by decide +kernel
theorem dX8_isGood_17 : decode cX8_isGood 17 = .ok (.iload_n 1, 1) := by decide +kernel
theorem dX8_isGood_18 : decode cX8_isGood 18 = .ok (.bipush 18, 2) := by decide +kernel
theorem dX8_isGood_20 : decode cX8_isGood 20 = .ok (.if_icmp .ne 14, 3) := by decide +kernel
theorem dX8_isGood_23 : decode cX8_isGood 23 = .ok (.aload_n 0, 1) := by decide +kernel
theorem dX8_isGood_24 : decode cX8_isGood 24 = .ok (.getfield 74, 3) := by decide +kernel
theorem dX8_isGood_27 : decode cX8_isGood 27 = .ok (.bipush 8, 2) := by decide +kernel
theorem dX8_isGood_29 : decode cX8_isGood 29 = .ok (.if_icmp .ne 5, 3) := by decide +kernel
theorem dX8_isGood_32 : decode cX8_isGood 32 = .ok (.iconst 0, 1) := by decide +kernel
theorem dX8_isGood_33 : decode cX8_isGood 33 = .ok (.ireturn, 1) := by decide +kernel
theorem dX8_isGood_34 : decode cX8_isGood 34 = .ok (.iload_n 1, 1) := by decide +kernel
theorem dX8_isGood_35 : decode cX8_isGood 35 = .ok (.bipush 15, 2) := by decide +kernel
theorem dX8_isGood_37 : decode cX8_isGood 37 = .ok (.if_icmp .ne 17, 3) := by decide +kernel
theorem dX8_isGood_40 : decode cX8_isGood 40 = .ok (.aload_n 0, 1) := by decide +kernel
theorem dX8_isGood_41 : decode cX8_isGood 41 = .ok (.getfield 39, 3) := by decide +kernel
theorem dX8_isGood_44 : decode cX8_isGood 44 = .ok (.aload_n 0, 1) := by decide +kernel
theorem dX8_isGood_45 : decode cX8_isGood 45 = .ok (.getfield 74, 3) := by decide +kernel
theorem dX8_isGood_48 : decode cX8_isGood 48 = .ok (.iconst 1, 1) := by decide +kernel
theorem dX8_isGood_49 : decode cX8_isGood 49 = .ok (.isub, 1) := by decide +kernel
theorem dX8_isGood_50 : decode cX8_isGood 50 = .ok (.iaload, 1) := by decide +kernel
theorem dX8_isGood_51 : decode cX8_isGood 51 = .ok (.ifCond .eq 7, 3) := by decide +kernel
theorem dX8_isGood_54 : decode cX8_isGood 54 = .ok (.iconst 1, 1) := by decide +kernel
theorem dX8_isGood_55 : decode cX8_isGood 55 = .ok (.goto 4, 3) := by decide +kernel
theorem dX8_isGood_58 : decode cX8_isGood 58 = .ok (.iconst 0, 1) := by decide +kernel
theorem dX8_isGood_59 : decode cX8_isGood 59 = .ok (.ireturn, 1) := by decide +kernel
set_option maxHeartbeats 4000000 in
set_option maxRecDepth 100000 in
theorem c_X8_isGood (l : Launch) (G : MG) (M : MM) (h i : Nat) (f : Nat → Int32) (L : ML) (N : MN) (V : MV) (hh : h ≤ 8) (x : Int32) : Met l yX8_isGood (wC yX8_isGood cX8_isGood 2 (some .boolean)) (rmD 1) (mPc G [.ref (mga G 0), .int x] M (h, i, f) L N V) (va_Qi (fun r u => yn r (sp_good x.toInt h f = true) ∧ u = (M, (h, i, f), L, N, V)) (mB G) (mA G)) 0 0 (mA G) := by
  refine mst "DoFinderModel" (by decide) rfl (Nat.le_of_ble_eq_true rfl) ?_
  intro p e s m args below meth c ls F hr hlk hW hl
  have hl : lv_has ls 2 [(0, .ref (mga G 0)), (1, .int x)] := hl
  have hW : mW G s s.heap s.heap [] M (h, i, f) L N V := hW
  have b_x := i32b x
  refine lv_aload_n F.1 F.2.1 dX8_isGood_0 rfl (lv_at hl 0 rfl) ?_
  refine mg_high F hW tm_513 dX8_isGood_1 ?_
  refine lv_iload_n F.1 F.2.1 dX8_isGood_4 rfl (lv_at hl 1 rfl) ?_
  refine pca (As := [.int x]) (rest := [.int (nI h)]) F (c_X8_needs l x) (xcwS F.2.2.2.2 ca_X8_needs tm_616 rfl rfl ⟨by decide, by decide⟩) rfl hl.1 rfl (Nat.le_of_ble_eq_true rfl) dX8_isGood_5 (fun r5 hr5 => ?_)
  obtain ⟨k5, rfl, n1, n2, n3, n4⟩ := hr5
  refine lv_icmp_lt (tgt := 32) F.1 F.2.1 dX8_isGood_8 (by decide) (fun c8 => ?_) (fun c8 => ?_)
  · have c8 := ci_lt (a := ((h : Nat) : Int)) (b := ((k5 : Nat) : Int)) (nI_toInt (by omega)) (nI_toInt (by omega)) c8
    refine lv_iconst (v := nI 0) F.1 F.2.1 dX8_isGood_32 (by decide) ?_
    refine mre_z F hr hlk hW (by decide) dX8_isGood_33 ?_
    exact ⟨by first | exact yn_1 (decide_eq_true (by omega)) | exact yn_0 (fun q => by have := sp_good_spec q; omega), rfl⟩
  · have c8 := ci_nlt (a := ((h : Nat) : Int)) (b := ((k5 : Nat) : Int)) (nI_toInt (by omega)) (nI_toInt (by omega)) c8
    refine lv_iload_n F.1 F.2.1 dX8_isGood_11 rfl (lv_at hl 1 rfl) ?_
    refine lv_bipush (v := nI 12) F.1 F.2.1 dX8_isGood_12 (by decide) ?_
    refine lv_icmp_lt (tgt := 23) F.1 F.2.1 dX8_isGood_14 (by decide) (fun c14 => ?_) (fun c14 => ?_)
    · have c14 := ci_lt (a := x.toInt) (b := 12) rfl (by decide) c14
      refine lv_aload_n F.1 F.2.1 dX8_isGood_23 rfl (lv_at hl 0 rfl) ?_
      refine mg_high F hW tm_513 dX8_isGood_24 ?_
      refine lv_bipush (v := nI 8) F.1 F.2.1 dX8_isGood_27 (by decide) ?_
      refine lv_icmp_ne (tgt := 34) F.1 F.2.1 dX8_isGood_29 (by decide) (fun c29 => ?_) (fun c29 => ?_)
      · have c29 := ci_ne (a := ((h : Nat) : Int)) (b := 8) (nI_toInt (by omega)) (by decide) c29
        refine lv_iload_n F.1 F.2.1 dX8_isGood_34 rfl (lv_at hl 1 rfl) ?_
        refine lv_bipush (v := nI 15) F.1 F.2.1 dX8_isGood_35 (by decide) ?_
        refine lv_icmp_ne (tgt := 54) F.1 F.2.1 dX8_isGood_37 (by decide) (fun c37 => ?_) (fun c37 => ?_)
        · have c37 := ci_ne (a := x.toInt) (b := 15) rfl (by decide) c37
          refine lv_iconst (v := nI 1) F.1 F.2.1 dX8_isGood_54 (by decide) ?_
          refine lv_goto (tgt := 59) F.1 F.2.1 dX8_isGood_55 (by decide) ?_
          refine mre_z F hr hlk hW (by decide) dX8_isGood_59 ?_
          exact ⟨by first | exact yn_1 (decide_eq_true (by omega)) | exact yn_0 (fun q => by have := sp_good_spec q; omega), rfl⟩
        · have c37 := ci_eq (a := x.toInt) (b := 15) rfl (by decide) c37
          refine lv_aload_n F.1 F.2.1 dX8_isGood_40 rfl (lv_at hl 0 rfl) ?_
          refine mg_pile F hW tm_512 dX8_isGood_41 ?_
          refine lv_aload_n F.1 F.2.1 dX8_isGood_44 rfl (lv_at hl 0 rfl) ?_
          refine mg_high F hW tm_513 dX8_isGood_45 ?_
          refine lv_iconst (v := nI 1) F.1 F.2.1 dX8_isGood_48 (by decide) ?_
          refine ax_sub (z := nI (h - 1)) F (pk_sub (a := h) (b := 1) (by omega)) dX8_isGood_49 ?_
          refine ml_nu (i := (h - 1)) F hW rfl (by omega) dX8_isGood_50 ?_
          have b50 := i32b (f (h - 1))
          refine lv_if_eq (tgt := 58) F.1 F.2.1 dX8_isGood_51 (by decide) (fun c51 => ?_) (fun c51 => ?_)
          · have c51 := ci_eq (a := (f (h - 1)).toInt) (b := 0) rfl ci_0 c51
            refine lv_iconst (v := nI 0) F.1 F.2.1 dX8_isGood_58 (by decide) ?_
            refine mre_z F hr hlk hW (by decide) dX8_isGood_59 ?_
            exact ⟨by first | exact yn_1 (decide_eq_true (by omega)) | exact yn_0 (fun q => by have := sp_good_spec q; omega), rfl⟩
          · have c51 := ci_ne (a := (f (h - 1)).toInt) (b := 0) rfl ci_0 c51
            refine lv_iconst (v := nI 1) F.1 F.2.1 dX8_isGood_54 (by decide) ?_
            refine lv_goto (tgt := 59) F.1 F.2.1 dX8_isGood_55 (by decide) ?_
            refine mre_z F hr hlk hW (by decide) dX8_isGood_59 ?_
            exact ⟨by first | exact yn_1 (decide_eq_true (by omega)) | exact yn_0 (fun q => by have := sp_good_spec q; omega), rfl⟩
      · have c29 := ci_eq (a := ((h : Nat) : Int)) (b := 8) (nI_toInt (by omega)) (by decide) c29
        refine lv_iconst (v := nI 0) F.1 F.2.1 dX8_isGood_32 (by decide) ?_
        refine mre_z F hr hlk hW (by decide) dX8_isGood_33 ?_
        exact ⟨by first | exact yn_1 (decide_eq_true (by omega)) | exact yn_0 (fun q => by have := sp_good_spec q; omega), rfl⟩
    · have c14 := ci_nlt (a := x.toInt) (b := 12) rfl (by decide) c14
      refine lv_iload_n F.1 F.2.1 dX8_isGood_17 rfl (lv_at hl 1 rfl) ?_
      refine lv_bipush (v := nI 18) F.1 F.2.1 dX8_isGood_18 (by decide) ?_
      refine lv_icmp_ne (tgt := 34) F.1 F.2.1 dX8_isGood_20 (by decide) (fun c20 => ?_) (fun c20 => ?_)
      · have c20 := ci_ne (a := x.toInt) (b := 18) rfl (by decide) c20
        refine lv_iload_n F.1 F.2.1 dX8_isGood_34 rfl (lv_at hl 1 rfl) ?_
        refine lv_bipush (v := nI 15) F.1 F.2.1 dX8_isGood_35 (by decide) ?_
        refine lv_icmp_ne (tgt := 54) F.1 F.2.1 dX8_isGood_37 (by decide) (fun c37 => ?_) (fun c37 => ?_)
        · have c37 := ci_ne (a := x.toInt) (b := 15) rfl (by decide) c37
          refine lv_iconst (v := nI 1) F.1 F.2.1 dX8_isGood_54 (by decide) ?_
          refine lv_goto (tgt := 59) F.1 F.2.1 dX8_isGood_55 (by decide) ?_
          refine mre_z F hr hlk hW (by decide) dX8_isGood_59 ?_
          exact ⟨by first | exact yn_1 (decide_eq_true (by omega)) | exact yn_0 (fun q => by have := sp_good_spec q; omega), rfl⟩
        · have c37 := ci_eq (a := x.toInt) (b := 15) rfl (by decide) c37
          refine lv_aload_n F.1 F.2.1 dX8_isGood_40 rfl (lv_at hl 0 rfl) ?_
          refine mg_pile F hW tm_512 dX8_isGood_41 ?_
          refine lv_aload_n F.1 F.2.1 dX8_isGood_44 rfl (lv_at hl 0 rfl) ?_
          refine mg_high F hW tm_513 dX8_isGood_45 ?_
          refine lv_iconst (v := nI 1) F.1 F.2.1 dX8_isGood_48 (by decide) ?_
          refine ax_sub (z := nI (h - 1)) F (pk_sub (a := h) (b := 1) (by omega)) dX8_isGood_49 ?_
          refine ml_nu (i := (h - 1)) F hW rfl (by omega) dX8_isGood_50 ?_
          have b50 := i32b (f (h - 1))
          refine lv_if_eq (tgt := 58) F.1 F.2.1 dX8_isGood_51 (by decide) (fun c51 => ?_) (fun c51 => ?_)
          · have c51 := ci_eq (a := (f (h - 1)).toInt) (b := 0) rfl ci_0 c51
            refine lv_iconst (v := nI 0) F.1 F.2.1 dX8_isGood_58 (by decide) ?_
            refine mre_z F hr hlk hW (by decide) dX8_isGood_59 ?_
            exact ⟨by first | exact yn_1 (decide_eq_true (by omega)) | exact yn_0 (fun q => by have := sp_good_spec q; omega), rfl⟩
          · have c51 := ci_ne (a := (f (h - 1)).toInt) (b := 0) rfl ci_0 c51
            refine lv_iconst (v := nI 1) F.1 F.2.1 dX8_isGood_54 (by decide) ?_
            refine lv_goto (tgt := 59) F.1 F.2.1 dX8_isGood_55 (by decide) ?_
            refine mre_z F hr hlk hW (by decide) dX8_isGood_59 ?_
            exact ⟨by first | exact yn_1 (decide_eq_true (by omega)) | exact yn_0 (fun q => by have := sp_good_spec q; omega), rfl⟩
      · have c20 := ci_eq (a := x.toInt) (b := 18) rfl (by decide) c20
        refine lv_aload_n F.1 F.2.1 dX8_isGood_23 rfl (lv_at hl 0 rfl) ?_
        refine mg_high F hW tm_513 dX8_isGood_24 ?_
        refine lv_bipush (v := nI 8) F.1 F.2.1 dX8_isGood_27 (by decide) ?_
        refine lv_icmp_ne (tgt := 34) F.1 F.2.1 dX8_isGood_29 (by decide) (fun c29 => ?_) (fun c29 => ?_)
        · have c29 := ci_ne (a := ((h : Nat) : Int)) (b := 8) (nI_toInt (by omega)) (by decide) c29
          refine lv_iload_n F.1 F.2.1 dX8_isGood_34 rfl (lv_at hl 1 rfl) ?_
          refine lv_bipush (v := nI 15) F.1 F.2.1 dX8_isGood_35 (by decide) ?_
          refine lv_icmp_ne (tgt := 54) F.1 F.2.1 dX8_isGood_37 (by decide) (fun c37 => ?_) (fun c37 => ?_)
          · have c37 := ci_ne (a := x.toInt) (b := 15) rfl (by decide) c37
            refine lv_iconst (v := nI 1) F.1 F.2.1 dX8_isGood_54 (by decide) ?_
            refine lv_goto (tgt := 59) F.1 F.2.1 dX8_isGood_55 (by decide) ?_
            refine mre_z F hr hlk hW (by decide) dX8_isGood_59 ?_
            exact ⟨by first | exact yn_1 (decide_eq_true (by omega)) | exact yn_0 (fun q => by have := sp_good_spec q; omega), rfl⟩
          · have c37 := ci_eq (a := x.toInt) (b := 15) rfl (by decide) c37
            refine lv_aload_n F.1 F.2.1 dX8_isGood_40 rfl (lv_at hl 0 rfl) ?_
            refine mg_pile F hW tm_512 dX8_isGood_41 ?_
            refine lv_aload_n F.1 F.2.1 dX8_isGood_44 rfl (lv_at hl 0 rfl) ?_
            refine mg_high F hW tm_513 dX8_isGood_45 ?_
            refine lv_iconst (v := nI 1) F.1 F.2.1 dX8_isGood_48 (by decide) ?_
            refine ax_sub (z := nI (h - 1)) F (pk_sub (a := h) (b := 1) (by omega)) dX8_isGood_49 ?_
            refine ml_nu (i := (h - 1)) F hW rfl (by omega) dX8_isGood_50 ?_
            have b50 := i32b (f (h - 1))
            refine lv_if_eq (tgt := 58) F.1 F.2.1 dX8_isGood_51 (by decide) (fun c51 => ?_) (fun c51 => ?_)
            · have c51 := ci_eq (a := (f (h - 1)).toInt) (b := 0) rfl ci_0 c51
              refine lv_iconst (v := nI 0) F.1 F.2.1 dX8_isGood_58 (by decide) ?_
              refine mre_z F hr hlk hW (by decide) dX8_isGood_59 ?_
              exact ⟨by first | exact yn_1 (decide_eq_true (by omega)) | exact yn_0 (fun q => by have := sp_good_spec q; omega), rfl⟩
            · have c51 := ci_ne (a := (f (h - 1)).toInt) (b := 0) rfl ci_0 c51
              refine lv_iconst (v := nI 1) F.1 F.2.1 dX8_isGood_54 (by decide) ?_
              refine lv_goto (tgt := 59) F.1 F.2.1 dX8_isGood_55 (by decide) ?_
              refine mre_z F hr hlk hW (by decide) dX8_isGood_59 ?_
              exact ⟨by first | exact yn_1 (decide_eq_true (by omega)) | exact yn_0 (fun q => by have := sp_good_spec q; omega), rfl⟩
        · have c29 := ci_eq (a := ((h : Nat) : Int)) (b := 8) (nI_toInt (by omega)) (by decide) c29
          refine lv_iconst (v := nI 0) F.1 F.2.1 dX8_isGood_32 (by decide) ?_
          refine mre_z F hr hlk hW (by decide) dX8_isGood_33 ?_
          exact ⟨by first | exact yn_1 (decide_eq_true (by omega)) | exact yn_0 (fun q => by have := sp_good_spec q; omega), rfl⟩
theorem dX8_lay_0 : decode cX8_lay 0 = .ok (.aload_n 0, 1) := by decide +kernel
theorem dX8_lay_1 : decode cX8_lay 1 = .ok (.getfield 39, 3) := by decide +kernel
theorem dX8_lay_4 : decode cX8_lay 4 = .ok (.aload_n 0, 1) := by decide +kernel
theorem dX8_lay_5 : decode cX8_lay 5 = .ok (.getfield 74, 3) := by decide +kernel
theorem dX8_lay_8 : decode cX8_lay 8 = .ok (.iload_n 1, 1) := by decide +kernel
theorem dX8_lay_9 : decode cX8_lay 9 = .ok (.iastore, 1) := by decide +kernel
theorem dX8_lay_10 : decode cX8_lay 10 = .ok (.aload_n 0, 1) := by decide +kernel
theorem dX8_lay_11 : decode cX8_lay 11 = .ok (.dup, 1) := by decide +kernel
theorem dX8_lay_12 : decode cX8_lay 12 = .ok (.getfield 74, 3) := by decide +kernel
theorem dX8_lay_15 : decode cX8_lay 15 = .ok (.iconst 1, 1) := by decide +kernel
theorem dX8_lay_16 : decode cX8_lay 16 = .ok (.iadd, 1) := by decide +kernel
theorem dX8_lay_17 : decode cX8_lay 17 = .ok (.putfield 74, 3) := by decide +kernel
theorem dX8_lay_20 : decode cX8_lay 20 = .ok (.return_, 1) := by decide +kernel
set_option maxHeartbeats 4000000 in
set_option maxRecDepth 100000 in
theorem c_X8_lay (l : Launch) (G : MG) (M : MM) (h i : Nat) (f : Nat → Int32) (L : ML) (N : MN) (V : MV) (hh : h < 8) (v : Int32) : Met l yX8_lay (wC yX8_lay cX8_lay 2 none) (rmD 0) (mPc G [.ref (mga G 0), .int v] M (h, i, f) L N V) (va_Qv (fun u => u = (M, (h + 1, i, upd f h v), L, N, V)) (mB G) (mA G)) 0 0 (mA G) := by
  refine mst "DoFinderModel" (by decide) rfl (Nat.le_of_ble_eq_true rfl) ?_
  intro p e s m args below meth c ls F hr hlk hW hl
  have hl : lv_has ls 2 [(0, .ref (mga G 0)), (1, .int v)] := hl
  have hW : mW G s s.heap s.heap [] M (h, i, f) L N V := hW
  have b_v := i32b v
  refine lv_aload_n F.1 F.2.1 dX8_lay_0 rfl (lv_at hl 0 rfl) ?_
  refine mg_pile F hW tm_512 dX8_lay_1 ?_
  refine lv_aload_n F.1 F.2.1 dX8_lay_4 rfl (lv_at hl 0 rfl) ?_
  refine mg_high F hW tm_513 dX8_lay_5 ?_
  refine lv_iload_n F.1 F.2.1 dX8_lay_8 rfl (lv_at hl 1 rfl) ?_
  refine ms_nu (i := h) F hW rfl (by omega) dX8_lay_9 (fun H locs hW => ?_)
  have hW : mW G s s.heap H locs M (h, i, upd f h v) L N V := hW
  refine lv_aload_n F.1 F.2.1 dX8_lay_10 rfl (lv_at hl 0 rfl) ?_
  refine lv_dup F.1 F.2.1 dX8_lay_11 rfl ?_
  refine mg_high F hW tm_513 dX8_lay_12 ?_
  refine lv_iconst (v := nI 1) F.1 F.2.1 dX8_lay_15 (by decide) ?_
  refine ax_add (z := nI (h + 1)) F (nI_add _ _) dX8_lay_16 ?_
  refine mp_high (k := (h + 1)) F hW tm_513 rfl dX8_lay_17 (fun H locs hW => ?_)
  have hW : mW G s s.heap H locs M (h + 1, i, upd f h v) L N V := hW
  refine mre_v F hr hlk hW dX8_lay_20 ?_
  rfl
theorem dX8_goOn_0 : decode cX8_goOn 0 = .ok (.iload_n 1, 1) := by decide +kernel
theorem dX8_goOn_1 : decode cX8_goOn 1 = .ok (.bipush 12, 2) := by decide +kernel
theorem dX8_goOn_3 : decode cX8_goOn 3 = .ok (.if_icmp .ge 32, 3) := by decide +kernel
theorem dX8_goOn_6 : decode cX8_goOn 6 = .ok (.aload_n 0, 1) := by decide +kernel
theorem dX8_goOn_7 : decode cX8_goOn 7 = .ok (.iload_n 1, 1) := by decide +kernel
theorem dX8_goOn_8 : decode cX8_goOn 8 = .ok (.bipush 10, 2) := by decide +kernel
theorem dX8_goOn_10 : decode cX8_goOn 10 = .ok (.if_icmp .ge 7, 3) := by decide +kernel
theorem dX8_goOn_13 : decode cX8_goOn 13 = .ok (.iload_n 1, 1) := by decide +kernel
theorem dX8_goOn_14 : decode cX8_goOn 14 = .ok (.goto 15, 3) := by decide +kernel
theorem dX8_goOn_17 : decode cX8_goOn 17 = .ok (.iload_n 1, 1) := by decide +kernel
theorem dX8_goOn_18 : decode cX8_goOn 18 = .ok (.bipush 10, 2) := by decide +kernel
theorem dX8_goOn_20 : decode cX8_goOn 20 = .ok (.if_icmp .ne 7, 3) := by decide +kernel
theorem dX8_goOn_23 : decode cX8_goOn 23 = .ok (.iload_n 3, 1) := by decide +kernel
theorem dX8_goOn_24 : decode cX8_goOn 24 = .ok (.goto 5, 3) := by decide +kernel
theorem dX8_goOn_27 : decode cX8_goOn 27 = .ok (.iload 4, 2) := by decide +kernel
theorem dX8_goOn_29 : decode cX8_goOn 29 = .ok (.invokevirtual 81, 3) := by decide +kernel
theorem dX8_goOn_32 : decode cX8_goOn 32 = .ok (.goto 179, 3) := by decide +kernel
theorem dX8_goOn_35 : decode cX8_goOn 35 = .ok (.iload_n 1, 1) := by decide +kernel
theorem dX8_goOn_36 : decode cX8_goOn 36 = .ok (.bipush 18, 2) := by decide +kernel
theorem dX8_goOn_38 : decode cX8_goOn 38 = .ok (.if_icmp .ge 53, 3) := by decide +kernel
theorem dX8_goOn_41 : decode cX8_goOn 41 = .ok (.aload_n 0, 1) := by decide +kernel
theorem dX8_goOn_42 : decode cX8_goOn 42 = .ok (.getfield 39, 3) := by decide +kernel
theorem dX8_goOn_45 : decode cX8_goOn 45 = .ok (.aload_n 0, 1) := by decide +kernel
theorem dX8_goOn_46 : decode cX8_goOn 46 = .ok (.getfield 74, 3) := by decide +kernel
theorem dX8_goOn_49 : decode cX8_goOn 49 = .ok (.iconst 2, 1) := by decide +kernel
theorem dX8_goOn_50 : decode cX8_goOn 50 = .ok (.isub, 1) := by decide +kernel
theorem dX8_goOn_51 : decode cX8_goOn 51 = .ok (.iload_n 1, 1) := by decide +kernel
theorem dX8_goOn_52 : decode cX8_goOn 52 = .ok (.aload_n 0, 1) := by decide +kernel
theorem dX8_goOn_53 : decode cX8_goOn 53 = .ok (.getfield 39, 3) := by decide +kernel
theorem dX8_goOn_56 : decode cX8_goOn 56 = .ok (.aload_n 0, 1) := by decide +kernel
theorem dX8_goOn_57 : decode cX8_goOn 57 = .ok (.getfield 74, 3) := by decide +kernel
theorem dX8_goOn_60 : decode cX8_goOn 60 = .ok (.iconst 2, 1) := by decide +kernel
theorem dX8_goOn_61 : decode cX8_goOn 61 = .ok (.isub, 1) := by decide +kernel
theorem dX8_goOn_62 : decode cX8_goOn 62 = .ok (.iaload, 1) := by decide +kernel
theorem dX8_goOn_63 : decode cX8_goOn 63 = .ok (.aload_n 0, 1) := by decide +kernel
theorem dX8_goOn_64 : decode cX8_goOn 64 = .ok (.getfield 39, 3) := by decide +kernel
theorem dX8_goOn_67 : decode cX8_goOn 67 = .ok (.aload_n 0, 1) := by decide +kernel
theorem dX8_goOn_68 : decode cX8_goOn 68 = .ok (.getfield 74, 3) := by decide +kernel
theorem dX8_goOn_71 : decode cX8_goOn 71 = .ok (.iconst 1, 1) := by decide +kernel
theorem dX8_goOn_72 : decode cX8_goOn 72 = .ok (.isub, 1) := by decide +kernel
theorem dX8_goOn_73 : decode cX8_goOn 73 = .ok (.iaload, 1) := by decide +kernel
theorem dX8_goOn_74 : decode cX8_goOn 74 = .ok (.invokestatic 85, 3) := by decide +kernel
theorem dX8_goOn_77 : decode cX8_goOn 77 = .ok (.iastore, 1) := by decide +kernel
theorem dX8_goOn_78 : decode cX8_goOn 78 = .ok (.aload_n 0, 1) := by decide +kernel
theorem dX8_goOn_79 : decode cX8_goOn 79 = .ok (.dup, 1) := by decide +kernel
theorem dX8_goOn_80 : decode cX8_goOn 80 = .ok (.getfield 74, 3) := by decide +kernel
theorem dX8_goOn_83 : decode cX8_goOn 83 = .ok (.iconst 1, 1) := by decide +kernel
theorem dX8_goOn_84 : decode cX8_goOn 84 = .ok (.isub, 1) := by decide +kernel
theorem dX8_goOn_85 : decode cX8_goOn 85 = .ok (.putfield 74, 3) := by decide +kernel
theorem dX8_goOn_88 : decode cX8_goOn 88 = .ok (.goto 123, 3) := by decide +kernel
theorem dX8_goOn_91 : decode cX8_goOn 91 = .ok (.iload_n 1, 1) := by decide +kernel
theorem dX8_goOn_92 : decode cX8_goOn 92 = .ok (.bipush 18, 2) := by decide +kernel
theorem dX8_goOn_94 : decode cX8_goOn 94 = .ok (.if_icmp .ne 21, 3) := by decide +kernel
theorem dX8_goOn_97 : decode cX8_goOn 97 = .ok (.aload_n 0, 1) := by decide +kernel
theorem dX8_goOn_98 : decode cX8_goOn 98 = .ok (.aload_n 0, 1) := by decide +kernel
theorem dX8_goOn_99 : decode cX8_goOn 99 = .ok (.getfield 39, 3) := by decide +kernel
theorem dX8_goOn_102 : decode cX8_goOn 102 = .ok (.aload_n 0, 1) := by decide +kernel
theorem dX8_goOn_103 : decode cX8_goOn 103 = .ok (.getfield 74, 3) := by decide +kernel
theorem dX8_goOn_106 : decode cX8_goOn 106 = .ok (.iconst 1, 1) := by decide +kernel
theorem dX8_goOn_107 : decode cX8_goOn 107 = .ok (.isub, 1) := by decide +kernel
theorem dX8_goOn_108 : decode cX8_goOn 108 = .ok (.iaload, 1) := by decide +kernel
theorem dX8_goOn_109 : decode cX8_goOn 109 = .ok (.invokevirtual 81, 3) := by decide +kernel
theorem dX8_goOn_112 : decode cX8_goOn 112 = .ok (.goto 99, 3) := by decide +kernel
theorem dX8_goOn_115 : decode cX8_goOn 115 = .ok (.iload_n 1, 1) := by decide +kernel
theorem dX8_goOn_116 : decode cX8_goOn 116 = .ok (.bipush 19, 2) := by decide +kernel
theorem dX8_goOn_118 : decode cX8_goOn 118 = .ok (.if_icmp .ne 54, 3) := by decide +kernel
theorem dX8_goOn_121 : decode cX8_goOn 121 = .ok (.aload_n 0, 1) := by decide +kernel
theorem dX8_goOn_122 : decode cX8_goOn 122 = .ok (.getfield 39, 3) := by decide +kernel
theorem dX8_goOn_125 : decode cX8_goOn 125 = .ok (.aload_n 0, 1) := by decide +kernel
theorem dX8_goOn_126 : decode cX8_goOn 126 = .ok (.getfield 74, 3) := by decide +kernel
theorem dX8_goOn_129 : decode cX8_goOn 129 = .ok (.iconst 1, 1) := by decide +kernel
theorem dX8_goOn_130 : decode cX8_goOn 130 = .ok (.isub, 1) := by decide +kernel
theorem dX8_goOn_131 : decode cX8_goOn 131 = .ok (.iaload, 1) := by decide +kernel
theorem dX8_goOn_132 : decode cX8_goOn 132 = .ok (.istore 5, 2) := by decide +kernel
theorem dX8_goOn_134 : decode cX8_goOn 134 = .ok (.aload_n 0, 1) := by decide +kernel
theorem dX8_goOn_135 : decode cX8_goOn 135 = .ok (.getfield 39, 3) := by decide +kernel
theorem dX8_goOn_138 : decode cX8_goOn 138 = .ok (.aload_n 0, 1) := by decide +kernel
theorem dX8_goOn_139 : decode cX8_goOn 139 = .ok (.getfield 74, 3) := by decide +kernel
theorem dX8_goOn_142 : decode cX8_goOn 142 = .ok (.iconst 1, 1) := by decide +kernel
theorem dX8_goOn_143 : decode cX8_goOn 143 = .ok (.isub, 1) := by decide +kernel
theorem dX8_goOn_144 : decode cX8_goOn 144 = .ok (.aload_n 0, 1) := by decide +kernel
theorem dX8_goOn_145 : decode cX8_goOn 145 = .ok (.getfield 39, 3) := by decide +kernel
theorem dX8_goOn_148 : decode cX8_goOn 148 = .ok (.aload_n 0, 1) := by decide +kernel
theorem dX8_goOn_149 : decode cX8_goOn 149 = .ok (.getfield 74, 3) := by decide +kernel
theorem dX8_goOn_152 : decode cX8_goOn 152 = .ok (.iconst 2, 1) := by decide +kernel
theorem dX8_goOn_153 : decode cX8_goOn 153 = .ok (.isub, 1) := by decide +kernel
theorem dX8_goOn_154 : decode cX8_goOn 154 = .ok (.iaload, 1) := by decide +kernel
theorem dX8_goOn_155 : decode cX8_goOn 155 = .ok (.iastore, 1) := by decide +kernel
theorem dX8_goOn_156 : decode cX8_goOn 156 = .ok (.aload_n 0, 1) := by decide +kernel
theorem dX8_goOn_157 : decode cX8_goOn 157 = .ok (.getfield 39, 3) := by decide +kernel
theorem dX8_goOn_160 : decode cX8_goOn 160 = .ok (.aload_n 0, 1) := by decide +kernel
theorem dX8_goOn_161 : decode cX8_goOn 161 = .ok (.getfield 74, 3) := by decide +kernel
theorem dX8_goOn_164 : decode cX8_goOn 164 = .ok (.iconst 2, 1) := by decide +kernel
theorem dX8_goOn_165 : decode cX8_goOn 165 = .ok (.isub, 1) := by decide +kernel
theorem dX8_goOn_166 : decode cX8_goOn 166 = .ok (.iload 5, 2) := by decide +kernel
theorem dX8_goOn_168 : decode cX8_goOn 168 = .ok (.iastore, 1) := by decide +kernel
theorem dX8_goOn_169 : decode cX8_goOn 169 = .ok (.goto 42, 3) := by decide +kernel
theorem dX8_goOn_172 : decode cX8_goOn 172 = .ok (.aload_n 0, 1) := by decide +kernel
theorem dX8_goOn_173 : decode cX8_goOn 173 = .ok (.dup, 1) := by decide +kernel
theorem dX8_goOn_174 : decode cX8_goOn 174 = .ok (.getfield 74, 3) := by decide +kernel
theorem dX8_goOn_177 : decode cX8_goOn 177 = .ok (.iconst 1, 1) := by decide +kernel
theorem dX8_goOn_178 : decode cX8_goOn 178 = .ok (.isub, 1) := by decide +kernel
theorem dX8_goOn_179 : decode cX8_goOn 179 = .ok (.putfield 74, 3) := by decide +kernel
theorem dX8_goOn_182 : decode cX8_goOn 182 = .ok (.iload_n 1, 1) := by decide +kernel
theorem dX8_goOn_183 : decode cX8_goOn 183 = .ok (.bipush 20, 2) := by decide +kernel
theorem dX8_goOn_185 : decode cX8_goOn 185 = .ok (.if_icmp .le 22, 3) := by decide +kernel
theorem dX8_goOn_188 : decode cX8_goOn 188 = .ok (.aload_n 0, 1) := by decide +kernel
theorem dX8_goOn_189 : decode cX8_goOn 189 = .ok (.getfield 39, 3) := by decide +kernel
theorem dX8_goOn_192 : decode cX8_goOn 192 = .ok (.aload_n 0, 1) := by decide +kernel
theorem dX8_goOn_193 : decode cX8_goOn 193 = .ok (.getfield 74, 3) := by decide +kernel
theorem dX8_goOn_196 : decode cX8_goOn 196 = .ok (.iaload, 1) := by decide +kernel
theorem dX8_goOn_197 : decode cX8_goOn 197 = .ok (.ifCond .eq 10, 3) := by decide +kernel
theorem dX8_goOn_200 : decode cX8_goOn 200 = .ok (.iload_n 1, 1) := by decide +kernel
theorem dX8_goOn_201 : decode cX8_goOn 201 = .ok (.bipush 21, 2) := by decide +kernel
theorem dX8_goOn_203 : decode cX8_goOn 203 = .ok (.isub, 1) := by decide +kernel
theorem dX8_goOn_204 : decode cX8_goOn 204 = .ok (.goto 6, 3) := by decide +kernel
theorem dX8_goOn_207 : decode cX8_goOn 207 = .ok (.iload_n 2, 1) := by decide +kernel
theorem dX8_goOn_208 : decode cX8_goOn 208 = .ok (.iconst 1, 1) := by decide +kernel
theorem dX8_goOn_209 : decode cX8_goOn 209 = .ok (.iadd, 1) := by decide +kernel
theorem dX8_goOn_210 : decode cX8_goOn 210 = .ok (.ireturn, 1) := by decide +kernel
theorem dX8_goOn_211 : decode cX8_goOn 211 = .ok (.iload_n 2, 1) := by decide +kernel
theorem dX8_goOn_212 : decode cX8_goOn 212 = .ok (.iconst 1, 1) := by decide +kernel
theorem dX8_goOn_213 : decode cX8_goOn 213 = .ok (.iadd, 1) := by decide +kernel
theorem dX8_goOn_214 : decode cX8_goOn 214 = .ok (.ireturn, 1) := by decide +kernel
set_option maxHeartbeats 4000000 in
set_option maxRecDepth 100000 in
theorem c_X8_goOn (l : Launch) (G : MG) (M : MM) (h i : Nat) (f : Nat → Int32) (L : ML) (N : MN) (V : MV) (hh : h ≤ 8) (x : Int32) (q : Nat) (hq : q < 1000) (a b : Int32) (hg : sp_good x.toInt h f = true) : Met l yX8_goOn (wC yX8_goOn cX8_goOn 6 (some .int)) (rmD 1) (mPc G [.ref (mga G 0), .int x, .int (nI q), .int a, .int b] M (h, i, f) L N V) (va_Qi (fun r u => r = nI (sp_at x.toInt q h f) ∧ u = (M, (sp_h x.toInt h, i, sp_f x a b h f), L, N, V)) (mB G) (mA G)) 0 0 (mA G) := by
  refine mst "DoFinderModel" (by decide) rfl (Nat.le_of_ble_eq_true rfl) ?_
  intro p e s m args below meth c ls F hr hlk hW hl
  have hl : lv_has ls 6 [(0, .ref (mga G 0)), (1, .int x), (2, .int (nI q)), (3, .int a), (4, .int b)] := hl
  have hW : mW G s s.heap s.heap [] M (h, i, f) L N V := hW
  have b_x := i32b x
  have b_a := i32b a
  have b_b := i32b b
  have g := sp_good_spec hg
  refine lv_iload_n F.1 F.2.1 dX8_goOn_0 rfl (lv_at hl 1 rfl) ?_
  refine lv_bipush (v := nI 12) F.1 F.2.1 dX8_goOn_1 (by decide) ?_
  refine lv_icmp_ge (tgt := 35) F.1 F.2.1 dX8_goOn_3 (by decide) (fun c3 => ?_) (fun c3 => ?_)
  · have c3 := ci_le (a := 12) (b := x.toInt) (by decide) rfl c3
    refine lv_iload_n F.1 F.2.1 dX8_goOn_35 rfl (lv_at hl 1 rfl) ?_
    refine lv_bipush (v := nI 18) F.1 F.2.1 dX8_goOn_36 (by decide) ?_
    refine lv_icmp_ge (tgt := 91) F.1 F.2.1 dX8_goOn_38 (by decide) (fun c38 => ?_) (fun c38 => ?_)
    · have c38 := ci_le (a := 18) (b := x.toInt) (by decide) rfl c38
      refine lv_iload_n F.1 F.2.1 dX8_goOn_91 rfl (lv_at hl 1 rfl) ?_
      refine lv_bipush (v := nI 18) F.1 F.2.1 dX8_goOn_92 (by decide) ?_
      refine lv_icmp_ne (tgt := 115) F.1 F.2.1 dX8_goOn_94 (by decide) (fun c94 => ?_) (fun c94 => ?_)
      · have c94 := ci_ne (a := x.toInt) (b := 18) rfl (by decide) c94
        refine lv_iload_n F.1 F.2.1 dX8_goOn_115 rfl (lv_at hl 1 rfl) ?_
        refine lv_bipush (v := nI 19) F.1 F.2.1 dX8_goOn_116 (by decide) ?_
        refine lv_icmp_ne (tgt := 172) F.1 F.2.1 dX8_goOn_118 (by decide) (fun c118 => ?_) (fun c118 => ?_)
        · have c118 := ci_ne (a := x.toInt) (b := 19) rfl (by decide) c118
          refine lv_aload_n F.1 F.2.1 dX8_goOn_172 rfl (lv_at hl 0 rfl) ?_
          refine lv_dup F.1 F.2.1 dX8_goOn_173 rfl ?_
          refine mg_high F hW tm_513 dX8_goOn_174 ?_
          refine lv_iconst (v := nI 1) F.1 F.2.1 dX8_goOn_177 (by decide) ?_
          refine ax_sub (z := nI (h - 1)) F (pk_sub (a := h) (b := 1) (by omega)) dX8_goOn_178 ?_
          refine mp_high (k := (h - 1)) F hW tm_513 rfl dX8_goOn_179 (fun H locs hW => ?_)
          have hW : mW G s s.heap H locs M (h - 1, i, f) L N V := hW
          refine lv_iload_n F.1 F.2.1 dX8_goOn_182 rfl (lv_at hl 1 rfl) ?_
          refine lv_bipush (v := nI 20) F.1 F.2.1 dX8_goOn_183 (by decide) ?_
          refine lv_icmp_le (tgt := 207) F.1 F.2.1 dX8_goOn_185 (by decide) (fun c185 => ?_) (fun c185 => ?_)
          · have c185 := ci_le (a := x.toInt) (b := 20) rfl (by decide) c185
            refine lv_iload_n F.1 F.2.1 dX8_goOn_207 rfl (lv_at hl 2 rfl) ?_
            refine lv_iconst (v := nI 1) F.1 F.2.1 dX8_goOn_208 (by decide) ?_
            refine ax_add (z := nI (q + 1)) F (nI_add _ _) dX8_goOn_209 ?_
            refine mre_i F hr hlk hW dX8_goOn_210 ?_
            refine ⟨congrArg nI (by unfold sp_at; rw [if_neg (by omega)]), ?_⟩
            unfold sp_h sp_f; repeat first | rw [if_pos (by omega)] | rw [if_neg (by omega)]
          · have c185 := ci_nle (a := x.toInt) (b := 20) rfl (by decide) c185
            refine lv_aload_n F.1 F.2.1 dX8_goOn_188 rfl (lv_at hl 0 rfl) ?_
            refine mg_pile F hW tm_512 dX8_goOn_189 ?_
            refine lv_aload_n F.1 F.2.1 dX8_goOn_192 rfl (lv_at hl 0 rfl) ?_
            refine mg_high F hW tm_513 dX8_goOn_193 ?_
            refine ml_nu (i := (h - 1)) F hW rfl (by omega) dX8_goOn_196 ?_
            have b196 := i32b (f (h - 1))
            refine lv_if_eq (tgt := 207) F.1 F.2.1 dX8_goOn_197 (by decide) (fun c197 => ?_) (fun c197 => ?_)
            · have c197 := ci_eq (a := (f (h - 1)).toInt) (b := 0) rfl ci_0 c197
              refine lv_iload_n F.1 F.2.1 dX8_goOn_207 rfl (lv_at hl 2 rfl) ?_
              refine lv_iconst (v := nI 1) F.1 F.2.1 dX8_goOn_208 (by decide) ?_
              refine ax_add (z := nI (q + 1)) F (nI_add _ _) dX8_goOn_209 ?_
              refine mre_i F hr hlk hW dX8_goOn_210 ?_
              refine ⟨congrArg nI (by unfold sp_at; rw [if_neg (by omega)]), ?_⟩
              unfold sp_h sp_f; repeat first | rw [if_pos (by omega)] | rw [if_neg (by omega)]
            · have c197 := ci_ne (a := (f (h - 1)).toInt) (b := 0) rfl ci_0 c197
              refine lv_iload_n F.1 F.2.1 dX8_goOn_200 rfl (lv_at hl 1 rfl) ?_
              refine lv_bipush (v := nI 21) F.1 F.2.1 dX8_goOn_201 (by decide) ?_
              refine ax_sub F rfl dX8_goOn_203 ?_
              refine ax_nm (a := x.toInt - 21) (ci_sub rfl (by decide) (by omega) (by omega)) (fun v1 hv1 => ?_)
              refine lv_goto (tgt := 210) F.1 F.2.1 dX8_goOn_204 (by decide) ?_
              refine mre_i F hr hlk hW dX8_goOn_210 ?_
              refine ⟨ix_of (by unfold sp_at; rw [if_pos (by omega)]; omega), ?_⟩
              unfold sp_h sp_f; repeat first | rw [if_pos (by omega)] | rw [if_neg (by omega)]
        · have c118 := ci_eq (a := x.toInt) (b := 19) rfl (by decide) c118
          refine lv_aload_n F.1 F.2.1 dX8_goOn_121 rfl (lv_at hl 0 rfl) ?_
          refine mg_pile F hW tm_512 dX8_goOn_122 ?_
          refine lv_aload_n F.1 F.2.1 dX8_goOn_125 rfl (lv_at hl 0 rfl) ?_
          refine mg_high F hW tm_513 dX8_goOn_126 ?_
          refine lv_iconst (v := nI 1) F.1 F.2.1 dX8_goOn_129 (by decide) ?_
          refine ax_sub (z := nI (h - 1)) F (pk_sub (a := h) (b := 1) (by omega)) dX8_goOn_130 ?_
          refine ml_nu (i := (h - 1)) F hW rfl (by omega) dX8_goOn_131 ?_
          have b131 := i32b (f (h - 1))
          refine lv_istore (lv' := [(5, .int (f (h - 1))), (0, .ref (mga G 0)), (1, .int x), (2, .int (nI q)), (3, .int a), (4, .int b)]) F.1 F.2.1 dX8_goOn_132 hl (by decide) rfl (fun ls hl => ?_)
          refine lv_aload_n F.1 F.2.1 dX8_goOn_134 rfl (lv_at hl 1 rfl) ?_
          refine mg_pile F hW tm_512 dX8_goOn_135 ?_
          refine lv_aload_n F.1 F.2.1 dX8_goOn_138 rfl (lv_at hl 1 rfl) ?_
          refine mg_high F hW tm_513 dX8_goOn_139 ?_
          refine lv_iconst (v := nI 1) F.1 F.2.1 dX8_goOn_142 (by decide) ?_
          refine ax_sub (z := nI (h - 1)) F (pk_sub (a := h) (b := 1) (by omega)) dX8_goOn_143 ?_
          refine lv_aload_n F.1 F.2.1 dX8_goOn_144 rfl (lv_at hl 1 rfl) ?_
          refine mg_pile F hW tm_512 dX8_goOn_145 ?_
          refine lv_aload_n F.1 F.2.1 dX8_goOn_148 rfl (lv_at hl 1 rfl) ?_
          refine mg_high F hW tm_513 dX8_goOn_149 ?_
          refine lv_iconst (v := nI 2) F.1 F.2.1 dX8_goOn_152 (by decide) ?_
          refine ax_sub (z := nI (h - 2)) F (pk_sub (a := h) (b := 2) (by omega)) dX8_goOn_153 ?_
          refine ml_nu (i := (h - 2)) F hW rfl (by omega) dX8_goOn_154 ?_
          have b154 := i32b (f (h - 2))
          refine ms_nu (i := (h - 1)) F hW rfl (by omega) dX8_goOn_155 (fun H locs hW => ?_)
          have hW : mW G s s.heap H locs M (h, i, upd f (h - 1) (f (h - 2))) L N V := hW
          refine lv_aload_n F.1 F.2.1 dX8_goOn_156 rfl (lv_at hl 1 rfl) ?_
          refine mg_pile F hW tm_512 dX8_goOn_157 ?_
          refine lv_aload_n F.1 F.2.1 dX8_goOn_160 rfl (lv_at hl 1 rfl) ?_
          refine mg_high F hW tm_513 dX8_goOn_161 ?_
          refine lv_iconst (v := nI 2) F.1 F.2.1 dX8_goOn_164 (by decide) ?_
          refine ax_sub (z := nI (h - 2)) F (pk_sub (a := h) (b := 2) (by omega)) dX8_goOn_165 ?_
          refine lv_iload F.1 F.2.1 dX8_goOn_166 (lv_at hl 0 rfl) ?_
          refine ms_nu (i := (h - 2)) F hW rfl (by omega) dX8_goOn_168 (fun H locs hW => ?_)
          have hW : mW G s s.heap H locs M (h, i, upd (upd f (h - 1) (f (h - 2))) (h - 2) (f (h - 1))) L N V := hW
          refine lv_goto (tgt := 211) F.1 F.2.1 dX8_goOn_169 (by decide) ?_
          refine lv_iload_n F.1 F.2.1 dX8_goOn_211 rfl (lv_at hl 3 rfl) ?_
          refine lv_iconst (v := nI 1) F.1 F.2.1 dX8_goOn_212 (by decide) ?_
          refine ax_add (z := nI (q + 1)) F (nI_add _ _) dX8_goOn_213 ?_
          refine mre_i F hr hlk hW dX8_goOn_214 ?_
          refine ⟨congrArg nI (by unfold sp_at; rw [if_neg (by omega)]), ?_⟩
          unfold sp_h sp_f sp_lay; repeat first | rw [if_pos (by omega)] | rw [if_neg (by omega)]
      · have c94 := ci_eq (a := x.toInt) (b := 18) rfl (by decide) c94
        refine lv_aload_n F.1 F.2.1 dX8_goOn_97 rfl (lv_at hl 0 rfl) ?_
        refine lv_aload_n F.1 F.2.1 dX8_goOn_98 rfl (lv_at hl 0 rfl) ?_
        refine mg_pile F hW tm_512 dX8_goOn_99 ?_
        refine lv_aload_n F.1 F.2.1 dX8_goOn_102 rfl (lv_at hl 0 rfl) ?_
        refine mg_high F hW tm_513 dX8_goOn_103 ?_
        refine lv_iconst (v := nI 1) F.1 F.2.1 dX8_goOn_106 (by decide) ?_
        refine ax_sub (z := nI (h - 1)) F (pk_sub (a := h) (b := 1) (by omega)) dX8_goOn_107 ?_
        refine ml_nu (i := (h - 1)) F hW rfl (by omega) dX8_goOn_108 ?_
        have b108 := i32b (f (h - 1))
        refine mca_v (b := (mga G 0)) (As := [.int (f (h - 1))]) (rest := []) F (c_X8_lay l G M h i f L N V (by omega) (f (h - 1))) (xcw F.2.2.2.2 ca_X8_lay tm_624 rfl rfl ⟨by decide, by decide⟩) (mr_X8 hW) hW rfl hl.1 rfl (Nat.le_of_ble_eq_true rfl) dX8_goOn_109 (fun u109 H locs hp109 hW => ?_)
        obtain rfl := hp109
        have hW : mW G s s.heap H locs M (h + 1, i, upd f h (f (h - 1))) L N V := hW
        refine lv_goto (tgt := 211) F.1 F.2.1 dX8_goOn_112 (by decide) ?_
        refine lv_iload_n F.1 F.2.1 dX8_goOn_211 rfl (lv_at hl 2 rfl) ?_
        refine lv_iconst (v := nI 1) F.1 F.2.1 dX8_goOn_212 (by decide) ?_
        refine ax_add (z := nI (q + 1)) F (nI_add _ _) dX8_goOn_213 ?_
        refine mre_i F hr hlk hW dX8_goOn_214 ?_
        refine ⟨congrArg nI (by unfold sp_at; rw [if_neg (by omega)]), ?_⟩
        unfold sp_h sp_f sp_lay; repeat first | rw [if_pos (by omega)] | rw [if_neg (by omega)]
    · have c38 := ci_nle (a := 18) (b := x.toInt) (by decide) rfl c38
      refine lv_aload_n F.1 F.2.1 dX8_goOn_41 rfl (lv_at hl 0 rfl) ?_
      refine mg_pile F hW tm_512 dX8_goOn_42 ?_
      refine lv_aload_n F.1 F.2.1 dX8_goOn_45 rfl (lv_at hl 0 rfl) ?_
      refine mg_high F hW tm_513 dX8_goOn_46 ?_
      refine lv_iconst (v := nI 2) F.1 F.2.1 dX8_goOn_49 (by decide) ?_
      refine ax_sub (z := nI (h - 2)) F (pk_sub (a := h) (b := 2) (by omega)) dX8_goOn_50 ?_
      refine lv_iload_n F.1 F.2.1 dX8_goOn_51 rfl (lv_at hl 1 rfl) ?_
      refine lv_aload_n F.1 F.2.1 dX8_goOn_52 rfl (lv_at hl 0 rfl) ?_
      refine mg_pile F hW tm_512 dX8_goOn_53 ?_
      refine lv_aload_n F.1 F.2.1 dX8_goOn_56 rfl (lv_at hl 0 rfl) ?_
      refine mg_high F hW tm_513 dX8_goOn_57 ?_
      refine lv_iconst (v := nI 2) F.1 F.2.1 dX8_goOn_60 (by decide) ?_
      refine ax_sub (z := nI (h - 2)) F (pk_sub (a := h) (b := 2) (by omega)) dX8_goOn_61 ?_
      refine ml_nu (i := (h - 2)) F hW rfl (by omega) dX8_goOn_62 ?_
      have b62 := i32b (f (h - 2))
      refine lv_aload_n F.1 F.2.1 dX8_goOn_63 rfl (lv_at hl 0 rfl) ?_
      refine mg_pile F hW tm_512 dX8_goOn_64 ?_
      refine lv_aload_n F.1 F.2.1 dX8_goOn_67 rfl (lv_at hl 0 rfl) ?_
      refine mg_high F hW tm_513 dX8_goOn_68 ?_
      refine lv_iconst (v := nI 1) F.1 F.2.1 dX8_goOn_71 (by decide) ?_
      refine ax_sub (z := nI (h - 1)) F (pk_sub (a := h) (b := 1) (by omega)) dX8_goOn_72 ?_
      refine ml_nu (i := (h - 1)) F hW rfl (by omega) dX8_goOn_73 ?_
      have b73 := i32b (f (h - 1))
      refine pca (As := [.int x, .int (f (h - 2)), .int (f (h - 1))]) (rest := [.int (nI (h - 2)), .ref (mga G 8)]) F (c_X8_worked l x (f (h - 2)) (f (h - 1)) (by omega) (by omega) (by omega)) (xcwS F.2.2.2.2 ca_X8_worked tm_628 rfl rfl ⟨by decide, by decide⟩) rfl hl.1 rfl (Nat.le_of_ble_eq_true rfl) dX8_goOn_74 (fun r74 hr74 => ?_)
      subst hr74
      refine ms_nu (i := (h - 2)) F hW rfl (by omega) dX8_goOn_77 (fun H locs hW => ?_)
      have hW : mW G s s.heap H locs M (h, i, upd f (h - 2) (sp_wk x.toInt (f (h - 2)) (f (h - 1)))) L N V := hW
      refine lv_aload_n F.1 F.2.1 dX8_goOn_78 rfl (lv_at hl 0 rfl) ?_
      refine lv_dup F.1 F.2.1 dX8_goOn_79 rfl ?_
      refine mg_high F hW tm_513 dX8_goOn_80 ?_
      refine lv_iconst (v := nI 1) F.1 F.2.1 dX8_goOn_83 (by decide) ?_
      refine ax_sub (z := nI (h - 1)) F (pk_sub (a := h) (b := 1) (by omega)) dX8_goOn_84 ?_
      refine mp_high (k := (h - 1)) F hW tm_513 rfl dX8_goOn_85 (fun H locs hW => ?_)
      have hW : mW G s s.heap H locs M (h - 1, i, upd f (h - 2) (sp_wk x.toInt (f (h - 2)) (f (h - 1)))) L N V := hW
      refine lv_goto (tgt := 211) F.1 F.2.1 dX8_goOn_88 (by decide) ?_
      refine lv_iload_n F.1 F.2.1 dX8_goOn_211 rfl (lv_at hl 2 rfl) ?_
      refine lv_iconst (v := nI 1) F.1 F.2.1 dX8_goOn_212 (by decide) ?_
      refine ax_add (z := nI (q + 1)) F (nI_add _ _) dX8_goOn_213 ?_
      refine mre_i F hr hlk hW dX8_goOn_214 ?_
      refine ⟨congrArg nI (by unfold sp_at; rw [if_neg (by omega)]), ?_⟩
      unfold sp_h sp_f sp_lay; repeat first | rw [if_pos (by omega)] | rw [if_neg (by omega)]
  · have c3 := ci_nle (a := 12) (b := x.toInt) (by decide) rfl c3
    refine lv_aload_n F.1 F.2.1 dX8_goOn_6 rfl (lv_at hl 0 rfl) ?_
    refine lv_iload_n F.1 F.2.1 dX8_goOn_7 rfl (lv_at hl 1 rfl) ?_
    refine lv_bipush (v := nI 10) F.1 F.2.1 dX8_goOn_8 (by decide) ?_
    refine lv_icmp_ge (tgt := 17) F.1 F.2.1 dX8_goOn_10 (by decide) (fun c10 => ?_) (fun c10 => ?_)
    · have c10 := ci_le (a := 10) (b := x.toInt) (by decide) rfl c10
      refine lv_iload_n F.1 F.2.1 dX8_goOn_17 rfl (lv_at hl 1 rfl) ?_
      refine lv_bipush (v := nI 10) F.1 F.2.1 dX8_goOn_18 (by decide) ?_
      refine lv_icmp_ne (tgt := 27) F.1 F.2.1 dX8_goOn_20 (by decide) (fun c20 => ?_) (fun c20 => ?_)
      · have c20 := ci_ne (a := x.toInt) (b := 10) rfl (by decide) c20
        refine lv_iload F.1 F.2.1 dX8_goOn_27 (lv_at hl 4 rfl) ?_
        refine mca_v (b := (mga G 0)) (As := [.int b]) (rest := []) F (c_X8_lay l G M h i f L N V (by omega) b) (xcw F.2.2.2.2 ca_X8_lay tm_624 rfl rfl ⟨by decide, by decide⟩) (mr_X8 hW) hW rfl hl.1 rfl (Nat.le_of_ble_eq_true rfl) dX8_goOn_29 (fun u29 H locs hp29 hW => ?_)
        obtain rfl := hp29
        have hW : mW G s s.heap H locs M (h + 1, i, upd f h b) L N V := hW
        refine lv_goto (tgt := 211) F.1 F.2.1 dX8_goOn_32 (by decide) ?_
        refine lv_iload_n F.1 F.2.1 dX8_goOn_211 rfl (lv_at hl 2 rfl) ?_
        refine lv_iconst (v := nI 1) F.1 F.2.1 dX8_goOn_212 (by decide) ?_
        refine ax_add (z := nI (q + 1)) F (nI_add _ _) dX8_goOn_213 ?_
        refine mre_i F hr hlk hW dX8_goOn_214 ?_
        refine ⟨congrArg nI (by unfold sp_at; rw [if_neg (by omega)]), ?_⟩
        unfold sp_h sp_f sp_lay; repeat first | rw [if_pos (by omega)] | rw [if_neg (by omega)]
      · have c20 := ci_eq (a := x.toInt) (b := 10) rfl (by decide) c20
        refine lv_iload_n F.1 F.2.1 dX8_goOn_23 rfl (lv_at hl 3 rfl) ?_
        refine lv_goto (tgt := 29) F.1 F.2.1 dX8_goOn_24 (by decide) ?_
        refine mca_v (b := (mga G 0)) (As := [.int a]) (rest := []) F (c_X8_lay l G M h i f L N V (by omega) a) (xcw F.2.2.2.2 ca_X8_lay tm_624 rfl rfl ⟨by decide, by decide⟩) (mr_X8 hW) hW rfl hl.1 rfl (Nat.le_of_ble_eq_true rfl) dX8_goOn_29 (fun u29 H locs hp29 hW => ?_)
        obtain rfl := hp29
        have hW : mW G s s.heap H locs M (h + 1, i, upd f h a) L N V := hW
        refine lv_goto (tgt := 211) F.1 F.2.1 dX8_goOn_32 (by decide) ?_
        refine lv_iload_n F.1 F.2.1 dX8_goOn_211 rfl (lv_at hl 2 rfl) ?_
        refine lv_iconst (v := nI 1) F.1 F.2.1 dX8_goOn_212 (by decide) ?_
        refine ax_add (z := nI (q + 1)) F (nI_add _ _) dX8_goOn_213 ?_
        refine mre_i F hr hlk hW dX8_goOn_214 ?_
        refine ⟨congrArg nI (by unfold sp_at; rw [if_neg (by omega)]), ?_⟩
        unfold sp_h sp_f sp_lay; repeat first | rw [if_pos (by omega)] | rw [if_neg (by omega)]
    · have c10 := ci_nle (a := 10) (b := x.toInt) (by decide) rfl c10
      refine lv_iload_n F.1 F.2.1 dX8_goOn_13 rfl (lv_at hl 1 rfl) ?_
      refine lv_goto (tgt := 29) F.1 F.2.1 dX8_goOn_14 (by decide) ?_
      refine mca_v (b := (mga G 0)) (As := [.int x]) (rest := []) F (c_X8_lay l G M h i f L N V (by omega) x) (xcw F.2.2.2.2 ca_X8_lay tm_624 rfl rfl ⟨by decide, by decide⟩) (mr_X8 hW) hW rfl hl.1 rfl (Nat.le_of_ble_eq_true rfl) dX8_goOn_29 (fun u29 H locs hp29 hW => ?_)
      obtain rfl := hp29
      have hW : mW G s s.heap H locs M (h + 1, i, upd f h x) L N V := hW
      refine lv_goto (tgt := 211) F.1 F.2.1 dX8_goOn_32 (by decide) ?_
      refine lv_iload_n F.1 F.2.1 dX8_goOn_211 rfl (lv_at hl 2 rfl) ?_
      refine lv_iconst (v := nI 1) F.1 F.2.1 dX8_goOn_212 (by decide) ?_
      refine ax_add (z := nI (q + 1)) F (nI_add _ _) dX8_goOn_213 ?_
      refine mre_i F hr hlk hW dX8_goOn_214 ?_
      refine ⟨congrArg nI (by unfold sp_at; rw [if_neg (by omega)]), ?_⟩
      unfold sp_h sp_f sp_lay; repeat first | rw [if_pos (by omega)] | rw [if_neg (by omega)]
theorem dX8_runIt_0 : decode cX8_runIt 0 = .ok (.aload_n 0, 1) := by decide +kernel
theorem dX8_runIt_1 : decode cX8_runIt 1 = .ok (.iconst 0, 1) := by decide +kernel
theorem dX8_runIt_2 : decode cX8_runIt 2 = .ok (.putfield 74, 3) := by decide +kernel
theorem dX8_runIt_5 : decode cX8_runIt 5 = .ok (.aload_n 0, 1) := by decide +kernel
theorem dX8_runIt_6 : decode cX8_runIt 6 = .ok (.iconst 0, 1) := by decide +kernel
theorem dX8_runIt_7 : decode cX8_runIt 7 = .ok (.putfield 89, 3) := by decide +kernel
theorem dX8_runIt_10 : decode cX8_runIt 10 = .ok (.iconst 0, 1) := by decide +kernel
theorem dX8_runIt_11 : decode cX8_runIt 11 = .ok (.istore 4, 2) := by decide +kernel
theorem dX8_runIt_13 : decode cX8_runIt 13 = .ok (.iload 4, 2) := by decide +kernel
theorem dX8_runIt_15 : decode cX8_runIt 15 = .ok (.aload_n 0, 1) := by decide +kernel
theorem dX8_runIt_16 : decode cX8_runIt 16 = .ok (.getfield 13, 3) := by decide +kernel
theorem dX8_runIt_19 : decode cX8_runIt 19 = .ok (.iload_n 1, 1) := by decide +kernel
theorem dX8_runIt_20 : decode cX8_runIt 20 = .ok (.iaload, 1) := by decide +kernel
theorem dX8_runIt_21 : decode cX8_runIt 21 = .ok (.if_icmp .ge 70, 3) := by decide +kernel
theorem dX8_runIt_24 : decode cX8_runIt 24 = .ok (.aload_n 0, 1) := by decide +kernel
theorem dX8_runIt_25 : decode cX8_runIt 25 = .ok (.getfield 89, 3) := by decide +kernel
theorem dX8_runIt_28 : decode cX8_runIt 28 = .ok (.aload_n 0, 1) := by decide +kernel
theorem dX8_runIt_29 : decode cX8_runIt 29 = .ok (.getfield 22, 3) := by decide +kernel
theorem dX8_runIt_32 : decode cX8_runIt 32 = .ok (.if_icmp .ne 7, 3) := by decide +kernel
theorem dX8_runIt_35 : decode cX8_runIt 35 = .ok (.ldc2_w 92, 3) := by decide +kernel
theorem dX8_runIt_38 : decode cX8_runIt 38 = .ok (.lreturn, 1) := by decide +kernel
theorem dX8_runIt_39 : decode cX8_runIt 39 = .ok (.aload_n 0, 1) := by decide +kernel
theorem dX8_runIt_40 : decode cX8_runIt 40 = .ok (.dup, 1) := by decide +kernel
theorem dX8_runIt_41 : decode cX8_runIt 41 = .ok (.getfield 89, 3) := by decide +kernel
theorem dX8_runIt_44 : decode cX8_runIt 44 = .ok (.iconst 1, 1) := by decide +kernel
theorem dX8_runIt_45 : decode cX8_runIt 45 = .ok (.iadd, 1) := by decide +kernel
theorem dX8_runIt_46 : decode cX8_runIt 46 = .ok (.putfield 89, 3) := by decide +kernel
theorem dX8_runIt_49 : decode cX8_runIt 49 = .ok (.aload_n 0, 1) := by decide +kernel
theorem dX8_runIt_50 : decode cX8_runIt 50 = .ok (.getfield 16, 3) := by decide +kernel
theorem dX8_runIt_53 : decode cX8_runIt 53 = .ok (.bipush 12, 2) := by decide +kernel
theorem dX8_runIt_55 : decode cX8_runIt 55 = .ok (.iload_n 1, 1) := by decide +kernel
theorem dX8_runIt_56 : decode cX8_runIt 56 = .ok (.imul, 1) := by decide +kernel
theorem dX8_runIt_57 : decode cX8_runIt 57 = .ok (.iload 4, 2) := by decide +kernel
theorem dX8_runIt_59 : decode cX8_runIt 59 = .ok (.iadd, 1) := by decide +kernel
theorem dX8_runIt_60 : decode cX8_runIt 60 = .ok (.iaload, 1) := by decide +kernel
theorem dX8_runIt_61 : decode cX8_runIt 61 = .ok (.istore 5, 2) := by decide +kernel
theorem dX8_runIt_63 : decode cX8_runIt 63 = .ok (.aload_n 0, 1) := by decide +kernel
theorem dX8_runIt_64 : decode cX8_runIt 64 = .ok (.iload 5, 2) := by decide +kernel
theorem dX8_runIt_66 : decode cX8_runIt 66 = .ok (.invokevirtual 94, 3) := by decide +kernel
theorem dX8_runIt_69 : decode cX8_runIt 69 = .ok (.ifCond .ne 7, 3) := by decide +kernel
theorem dX8_runIt_72 : decode cX8_runIt 72 = .ok (.ldc2_w 97, 3) := by decide +kernel
theorem dX8_runIt_75 : decode cX8_runIt 75 = .ok (.lreturn, 1) := by decide +kernel
theorem dX8_runIt_76 : decode cX8_runIt 76 = .ok (.aload_n 0, 1) := by decide +kernel
theorem dX8_runIt_77 : decode cX8_runIt 77 = .ok (.iload 5, 2) := by decide +kernel
theorem dX8_runIt_79 : decode cX8_runIt 79 = .ok (.iload 4, 2) := by decide +kernel
theorem dX8_runIt_81 : decode cX8_runIt 81 = .ok (.iload_n 2, 1) := by decide +kernel
theorem dX8_runIt_82 : decode cX8_runIt 82 = .ok (.iload_n 3, 1) := by decide +kernel
theorem dX8_runIt_83 : decode cX8_runIt 83 = .ok (.invokevirtual 99, 3) := by decide +kernel
theorem dX8_runIt_86 : decode cX8_runIt 86 = .ok (.istore 4, 2) := by decide +kernel
theorem dX8_runIt_88 : decode cX8_runIt 88 = .ok (.goto (-75), 3) := by decide +kernel
theorem dX8_runIt_91 : decode cX8_runIt 91 = .ok (.aload_n 0, 1) := by decide +kernel
theorem dX8_runIt_92 : decode cX8_runIt 92 = .ok (.getfield 74, 3) := by decide +kernel
theorem dX8_runIt_95 : decode cX8_runIt 95 = .ok (.ifCond .ne 9, 3) := by decide +kernel
theorem dX8_runIt_98 : decode cX8_runIt 98 = .ok (.ldc2_w 97, 3) := by decide +kernel
theorem dX8_runIt_101 : decode cX8_runIt 101 = .ok (.goto 15, 3) := by decide +kernel
theorem dX8_runIt_104 : decode cX8_runIt 104 = .ok (.aload_n 0, 1) := by decide +kernel
theorem dX8_runIt_105 : decode cX8_runIt 105 = .ok (.getfield 39, 3) := by decide +kernel
theorem dX8_runIt_108 : decode cX8_runIt 108 = .ok (.aload_n 0, 1) := by decide +kernel
theorem dX8_runIt_109 : decode cX8_runIt 109 = .ok (.getfield 74, 3) := by decide +kernel
theorem dX8_runIt_112 : decode cX8_runIt 112 = .ok (.iconst 1, 1) := by decide +kernel
theorem dX8_runIt_113 : decode cX8_runIt 113 = .ok (.isub, 1) := by decide +kernel
theorem dX8_runIt_114 : decode cX8_runIt 114 = .ok (.iaload, 1) := by decide +kernel
theorem dX8_runIt_115 : decode cX8_runIt 115 = .ok (.i2l, 1) := by decide +kernel
theorem dX8_runIt_116 : decode cX8_runIt 116 = .ok (.lreturn, 1) := by decide +kernel
set_option maxHeartbeats 4000000 in
set_option maxRecDepth 100000 in
theorem c_X8_runIt (l : Launch) (G : MG) (M : MM) (P : MP) (L : ML) (N : MN) (V : MV) (r : Nat) (hr0 : r < 12) (hc : M.2.2.1 r ≤ 12) (hf : M.2.2.2.2.2.2.1 ≤ 200) (a b : Int32) : Met l yX8_runIt (wC yX8_runIt cX8_runIt 6 (some .long)) (rmD 2) (mPc G [.ref (mga G 0), .int (nI r), .int a, .int b] M P L N V) (va_Ql (fun v u => v = zout M.2.2.2.2.2.2.1 (M.2.2.1 r) (fun k => M.2.2.2.1 (12 * r + k)) a b ∧ ∃ P2 : MP, u = (M, P2, L, N, V) ∧ P2.2.1 = zuse M.2.2.2.2.2.2.1 (M.2.2.1 r) (fun k => M.2.2.2.1 (12 * r + k)) a b) (mB G) (mA G)) 0 0 (mA G) := by
  refine mst "DoFinderModel" (by decide) rfl (Nat.le_of_ble_eq_true rfl) ?_
  intro p e s m args below meth c ls F hr hlk hW hl
  have hl : lv_has ls 6 [(0, .ref (mga G 0)), (1, .int (nI r)), (2, .int a), (3, .int b)] := hl
  have hW : mW G s s.heap s.heap [] M P L N V := hW
  have b_a := i32b a
  have b_b := i32b b
  refine lv_aload_n F.1 F.2.1 dX8_runIt_0 rfl (lv_at hl 0 rfl) ?_
  refine lv_iconst (v := nI 0) F.1 F.2.1 dX8_runIt_1 (by decide) ?_
  refine mp_high (k := 0) F hW tm_513 rfl dX8_runIt_2 (fun H locs hW => ?_)
  have hW : mW G s s.heap H locs M (0, P.2.1, P.2.2) L N V := hW
  refine lv_aload_n F.1 F.2.1 dX8_runIt_5 rfl (lv_at hl 0 rfl) ?_
  refine lv_iconst (v := nI 0) F.1 F.2.1 dX8_runIt_6 (by decide) ?_
  refine mp_used (k := 0) F hW tm_514 rfl dX8_runIt_7 (fun H locs hW => ?_)
  have hW : mW G s s.heap H locs M (0, 0, P.2.2) L N V := hW
  refine lv_iconst (v := nI 0) F.1 F.2.1 dX8_runIt_10 (by decide) ?_
  refine lv_istore (lv' := [(4, .int (nI 0)), (0, .ref (mga G 0)), (1, .int (nI r)), (2, .int a), (3, .int b)]) F.1 F.2.1 dX8_runIt_11 hl (by decide) rfl (fun ls hl => ?_)
  have lp13 : ∀ (k13 : Nat) (q : Nat) (i : Nat) (h : Nat) (f : Nat → Int32), M.2.2.2.2.2.2.1 - i = k13 → (q < 2147483648) → (i ≤ M.2.2.2.2.2.2.1) → (h ≤ 8) → ((zout M.2.2.2.2.2.2.1 (M.2.2.1 r) (fun k => M.2.2.2.1 (12 * r + k)) a b, zuse M.2.2.2.2.2.2.1 (M.2.2.1 r) (fun k => M.2.2.2.1 (12 * r + k)) a b) = ((sp_run (M.2.2.1 r) (fun k => M.2.2.2.1 (12 * r + k)) a b (M.2.2.2.2.2.2.1 - i) q h f).1, (sp_run (M.2.2.1 r) (fun k => M.2.2.2.1 (12 * r + k)) a b (M.2.2.2.2.2.2.1 - i) q h f).2 + i)) → ∀ (H : Heap) (locs : List Loc) (ls : Array Slot), mW G s s.heap H locs M (h, i, f) L N V →  lv_has ls 6 [(0, .ref (mga G 0)), (1, .int (nI r)), (2, .int a), (3, .int b), (4, .int (nI q))] → W p l e (rmD 2) s m args below meth c H locs 0 0 (MQ below (va_Ql (fun v u => v = zout M.2.2.2.2.2.2.1 (M.2.2.1 r) (fun k => M.2.2.2.1 (12 * r + k)) a b ∧ ∃ P2 : MP, u = (M, P2, L, N, V) ∧ P2.2.1 = zuse M.2.2.2.2.2.2.1 (M.2.2.1 r) (fun k => M.2.2.2.1 (12 * r + k)) a b) (mB G) (mA G)) args s 0 0 (mA G)) (F0 m 13 ls []) := by
    intro k13
    induction k13 using Nat.strongRecOn with
    | ind k13 ih13 =>
      intro q i h f hk13 hq hi hh hR H locs ls hW hl
      refine lv_iload F.1 F.2.1 dX8_runIt_13 (lv_at hl 4 rfl) ?_
      refine lv_aload_n F.1 F.2.1 dX8_runIt_15 rfl (lv_at hl 0 rfl) ?_
      refine mg_sizeOf F hW tm_502 dX8_runIt_16 ?_
      refine lv_iload_n F.1 F.2.1 dX8_runIt_19 rfl (lv_at hl 1 rfl) ?_
      refine ml_rc (i := r) F hW rfl (by omega) dX8_runIt_20 ?_
      refine lv_icmp_ge (tgt := 91) F.1 F.2.1 dX8_runIt_21 (by decide) (fun c21 => ?_) (fun c21 => ?_)
      · have c21 := ci_le (a := ((M.2.2.1 r : Nat) : Int)) (b := ((q : Nat) : Int)) (nI_toInt (by omega)) (nI_toInt (by omega)) c21
        refine lv_aload_n F.1 F.2.1 dX8_runIt_91 rfl (lv_at hl 0 rfl) ?_
        refine mg_high F hW tm_513 dX8_runIt_92 ?_
        refine lv_if_ne (tgt := 104) F.1 F.2.1 dX8_runIt_95 (by decide) (fun c95 => ?_) (fun c95 => ?_)
        · have c95 := ci_ne (a := ((h : Nat) : Int)) (b := 0) (nI_toInt (by omega)) ci_0 c95
          refine lv_aload_n F.1 F.2.1 dX8_runIt_104 rfl (lv_at hl 0 rfl) ?_
          refine mg_pile F hW tm_512 dX8_runIt_105 ?_
          refine lv_aload_n F.1 F.2.1 dX8_runIt_108 rfl (lv_at hl 0 rfl) ?_
          refine mg_high F hW tm_513 dX8_runIt_109 ?_
          refine lv_iconst (v := nI 1) F.1 F.2.1 dX8_runIt_112 (by decide) ?_
          refine ax_sub (z := nI (h - 1)) F (pk_sub (a := h) (b := 1) (by omega)) dX8_runIt_113 ?_
          refine ml_nu (i := (h - 1)) F hW rfl (by omega) dX8_runIt_114 ?_
          have b114 := i32b (f (h - 1))
          refine lv_i2l F.1 F.2.1 dX8_runIt_115 rfl ?_
          refine mre_l F hr hlk hW dX8_runIt_116 ?_
          rw [sp_run_end (by omega)] at hR
          have h1 := congrArg Prod.fst hR
          have h2 := congrArg Prod.snd hR
          simp only at h1 h2
          refine ⟨?_, _, rfl, by simp only; omega⟩
          rw [h1]; unfold sp_fin; first | rw [if_pos (by omega)] | (rw [if_pos (by omega)]; rfl) | rw [if_neg (by omega)]
        · have c95 := ci_eq (a := ((h : Nat) : Int)) (b := 0) (nI_toInt (by omega)) ci_0 c95
          refine lv_ldc2 (v := zBAD) F.1 F.2.1 F.2.2.2.1 (F.2.2.2.2 _ tm_619) dX8_runIt_98 ?_
          refine lv_goto (tgt := 116) F.1 F.2.1 dX8_runIt_101 (by decide) ?_
          refine mre_l F hr hlk hW dX8_runIt_116 ?_
          rw [sp_run_end (by omega)] at hR
          have h1 := congrArg Prod.fst hR
          have h2 := congrArg Prod.snd hR
          simp only at h1 h2
          refine ⟨?_, _, rfl, by simp only; omega⟩
          rw [h1]; unfold sp_fin; first | rw [if_pos (by omega)] | (rw [if_pos (by omega)]; rfl) | rw [if_neg (by omega)]
      · have c21 := ci_nle (a := ((M.2.2.1 r : Nat) : Int)) (b := ((q : Nat) : Int)) (nI_toInt (by omega)) (nI_toInt (by omega)) c21
        refine lv_aload_n F.1 F.2.1 dX8_runIt_24 rfl (lv_at hl 0 rfl) ?_
        refine mg_used F hW tm_514 dX8_runIt_25 ?_
        refine lv_aload_n F.1 F.2.1 dX8_runIt_28 rfl (lv_at hl 0 rfl) ?_
        refine mg_fuel F hW tm_506 dX8_runIt_29 ?_
        refine lv_icmp_ne (tgt := 39) F.1 F.2.1 dX8_runIt_32 (by decide) (fun c32 => ?_) (fun c32 => ?_)
        · have c32 := ci_ne (a := ((i : Nat) : Int)) (b := ((M.2.2.2.2.2.2.1 : Nat) : Int)) (nI_toInt (by omega)) (nI_toInt (by omega)) c32
          refine lv_aload_n F.1 F.2.1 dX8_runIt_39 rfl (lv_at hl 0 rfl) ?_
          refine lv_dup F.1 F.2.1 dX8_runIt_40 rfl ?_
          refine mg_used F hW tm_514 dX8_runIt_41 ?_
          refine lv_iconst (v := nI 1) F.1 F.2.1 dX8_runIt_44 (by decide) ?_
          refine ax_add (z := nI (i + 1)) F (nI_add _ _) dX8_runIt_45 ?_
          refine mp_used (k := (i + 1)) F hW tm_514 rfl dX8_runIt_46 (fun H locs hW => ?_)
          have hW : mW G s s.heap H locs M (h, i + 1, f) L N V := hW
          refine lv_aload_n F.1 F.2.1 dX8_runIt_49 rfl (lv_at hl 0 rfl) ?_
          refine mg_stepOf F hW tm_503 dX8_runIt_50 ?_
          refine lv_bipush (v := nI 12) F.1 F.2.1 dX8_runIt_53 (by decide) ?_
          refine lv_iload_n F.1 F.2.1 dX8_runIt_55 rfl (lv_at hl 1 rfl) ?_
          refine ax_mul (z := nI (12 * r)) F (pk_mul _ _) dX8_runIt_56 ?_
          refine lv_iload F.1 F.2.1 dX8_runIt_57 (lv_at hl 4 rfl) ?_
          refine ax_add (z := nI ((12 * r) + q)) F (nI_add _ _) dX8_runIt_59 ?_
          refine ml_st (i := ((12 * r) + q)) F hW rfl (by omega) dX8_runIt_60 ?_
          have b60 := i32b (M.2.2.2.1 ((12 * r) + q))
          refine lv_istore (lv' := [(5, .int (M.2.2.2.1 ((12 * r) + q))), (0, .ref (mga G 0)), (1, .int (nI r)), (2, .int a), (3, .int b), (4, .int (nI q))]) F.1 F.2.1 dX8_runIt_61 hl (by decide) rfl (fun ls hl => ?_)
          refine lv_aload_n F.1 F.2.1 dX8_runIt_63 rfl (lv_at hl 1 rfl) ?_
          refine lv_iload F.1 F.2.1 dX8_runIt_64 (lv_at hl 0 rfl) ?_
          refine mca_i (b := (mga G 0)) (As := [.int (M.2.2.2.1 ((12 * r) + q))]) (rest := []) F (c_X8_isGood l G M h (i + 1) f L N V (by omega) (M.2.2.2.1 ((12 * r) + q))) (xcw F.2.2.2.2 ca_X8_isGood tm_612 rfl rfl ⟨by decide, by decide⟩) (mr_X8 hW) hW rfl hl.1 rfl (Nat.le_of_ble_eq_true rfl) dX8_runIt_66 (fun r66 u66 H locs hp66 hW => ?_)
          obtain ⟨hp66, rfl⟩ := hp66
          have hW : mW G s s.heap H locs M (h, i + 1, f) L N V := hW
          rcases hp66 with ⟨rfl, y66⟩ | ⟨rfl, y66⟩
          · skip
            refine lv_if_ne (tgt := 76) F.1 F.2.1 dX8_runIt_69 (by decide) (fun _ => ?_) (fun q => absurd q (by decide))
            refine lv_aload_n F.1 F.2.1 dX8_runIt_76 rfl (lv_at hl 1 rfl) ?_
            refine lv_iload F.1 F.2.1 dX8_runIt_77 (lv_at hl 0 rfl) ?_
            refine lv_iload F.1 F.2.1 dX8_runIt_79 (lv_at hl 5 rfl) ?_
            refine lv_iload_n F.1 F.2.1 dX8_runIt_81 rfl (lv_at hl 3 rfl) ?_
            refine lv_iload_n F.1 F.2.1 dX8_runIt_82 rfl (lv_at hl 4 rfl) ?_
            refine mca_i (b := (mga G 0)) (As := [.int (M.2.2.2.1 ((12 * r) + q)), .int (nI q), .int a, .int b]) (rest := []) F (c_X8_goOn l G M h (i + 1) f L N V (by omega) (M.2.2.2.1 ((12 * r) + q)) q (by omega) a b y66) (xcw F.2.2.2.2 ca_X8_goOn tm_620 rfl rfl ⟨by decide, by decide⟩) (mr_X8 hW) hW rfl hl.1 rfl (Nat.le_of_ble_eq_true rfl) dX8_runIt_83 (fun r83 u83 H locs hp83 hW => ?_)
            obtain ⟨rfl, rfl⟩ := hp83
            have hW : mW G s s.heap H locs M (sp_h (M.2.2.2.1 ((12 * r) + q)).toInt h, i + 1, sp_f (M.2.2.2.1 ((12 * r) + q)) a b h f) L N V := hW
            refine lv_istore (lv' := [(4, .int (nI (sp_at (M.2.2.2.1 ((12 * r) + q)).toInt q h f))), (5, .int (M.2.2.2.1 ((12 * r) + q))), (0, .ref (mga G 0)), (1, .int (nI r)), (2, .int a), (3, .int b)]) F.1 F.2.1 dX8_runIt_86 hl (by decide) rfl (fun ls hl => ?_)
            refine lv_goto (tgt := 13) F.1 F.2.1 dX8_runIt_88 (by decide) ?_
            exact ih13 (M.2.2.2.2.2.2.1 - (i + 1)) (by omega) (sp_at (M.2.2.2.1 ((12 * r) + q)).toInt q h f) (i + 1) (sp_h (M.2.2.2.1 ((12 * r) + q)).toInt h) (sp_f (M.2.2.2.1 ((12 * r) + q)) a b h f) rfl (by unfold sp_at; split <;> omega) (by omega) (sp_h_le hh y66) (by rw [hR, sp_run_step (st := (fun k => M.2.2.2.1 (12 * r + k))) (q := q) (by omega) (by omega) y66, show M.2.2.2.2.2.2.1 - (i + 1) = M.2.2.2.2.2.2.1 - i - 1 by omega]; simp only [Prod.mk.injEq, true_and]; omega) _ _ _ hW (lv_sub hl [2, 3, 4, 5, 0] rfl)
          · skip
            refine lv_if_ne (tgt := 76) F.1 F.2.1 dX8_runIt_69 (by decide) (fun q => absurd q (by decide)) (fun _ => ?_)
            refine lv_ldc2 (v := zBAD) F.1 F.2.1 F.2.2.2.1 (F.2.2.2.2 _ tm_619) dX8_runIt_72 ?_
            refine mre_l F hr hlk hW dX8_runIt_75 ?_
            rw [sp_run_bad (st := (fun k => M.2.2.2.1 (12 * r + k))) (q := q) (by omega) (by omega) (Bool.eq_false_iff.mpr y66)] at hR
            exact ⟨(congrArg Prod.fst hR).symm, _, rfl, by have := congrArg Prod.snd hR; simp only at this ⊢; omega⟩
        · have c32 := ci_eq (a := ((i : Nat) : Int)) (b := ((M.2.2.2.2.2.2.1 : Nat) : Int)) (nI_toInt (by omega)) (nI_toInt (by omega)) c32
          refine lv_ldc2 (v := zUNK) F.1 F.2.1 F.2.2.2.1 (F.2.2.2.2 _ tm_611) dX8_runIt_35 ?_
          refine mre_l F hr hlk hW dX8_runIt_38 ?_
          rw [show M.2.2.2.2.2.2.1 - i = 0 by omega, sp_run_zero (by omega)] at hR
          exact ⟨(congrArg Prod.fst hR).symm, _, rfl, by have := congrArg Prod.snd hR; simp only at this ⊢; omega⟩
  exact lp13 (M.2.2.2.2.2.2.1 - 0) 0 0 0 P.2.2 rfl (by omega) (Nat.zero_le _) (Nat.zero_le _) ((zrun_of _ _ _ _ _ P.2.2).symm) _ _ _ hW (lv_sub hl [1, 2, 3, 4, 0] rfl)
theorem dX8_inputs_0 : decode cX8_inputs 0 = .ok (.iload_n 0, 1) := by decide +kernel
theorem dX8_inputs_1 : decode cX8_inputs 1 = .ok (.iconst 1, 1) := by decide +kernel
theorem dX8_inputs_2 : decode cX8_inputs 2 = .ok (.if_icmp .ne 8, 3) := by decide +kernel
theorem dX8_inputs_5 : decode cX8_inputs 5 = .ok (.bipush 13, 2) := by decide +kernel
theorem dX8_inputs_7 : decode cX8_inputs 7 = .ok (.goto 5, 3) := by decide +kernel
theorem dX8_inputs_10 : decode cX8_inputs 10 = .ok (.bipush 49, 2) := by decide +kernel
theorem dX8_inputs_12 : decode cX8_inputs 12 = .ok (.ireturn, 1) := by decide +kernel
set_option maxHeartbeats 4000000 in
set_option maxRecDepth 100000 in
theorem c_X8_inputs (l : Launch) (t : Nat) (ht : t < 1000) : Met l yX8_inputs (wC yX8_inputs cX8_inputs 1 (some .int)) (rmD 0) (pPc [.int (nI t)]) (pQi (fun r => r = nI (wN t))) 0 0 (fun _ => False) := by
  refine pst "DoFinderModel" (by decide) rfl (Nat.le_of_ble_eq_true rfl) ?_
  intro p e s m args below meth c ls F hr hlk hl
  have hl : lv_has ls 1 [(0, .int (nI t))] := hl
  refine lv_iload_n F.1 F.2.1 dX8_inputs_0 rfl (lv_at hl 0 rfl) ?_
  refine lv_iconst (v := nI 1) F.1 F.2.1 dX8_inputs_1 (by decide) ?_
  refine lv_icmp_ne (tgt := 10) F.1 F.2.1 dX8_inputs_2 (by decide) (fun c2 => ?_) (fun c2 => ?_)
  · have c2 := ci_ne (a := ((t : Nat) : Int)) (b := 1) (nI_toInt (by omega)) (by decide) c2
    refine lv_bipush (v := nI 49) F.1 F.2.1 dX8_inputs_10 (by decide) ?_
    refine pre_i F hr hlk dX8_inputs_12 ?_
    unfold wN; first | rw [if_pos (by omega)] | rw [if_neg (by omega)]
  · have c2 := ci_eq (a := ((t : Nat) : Int)) (b := 1) (nI_toInt (by omega)) (by decide) c2
    refine lv_bipush (v := nI 13) F.1 F.2.1 dX8_inputs_5 (by decide) ?_
    refine lv_goto (tgt := 12) F.1 F.2.1 dX8_inputs_7 (by decide) ?_
    refine pre_i F hr hlk dX8_inputs_12 ?_
    unfold wN; first | rw [if_pos (by omega)] | rw [if_neg (by omega)]
theorem dX8_firstOf_0 : decode cX8_firstOf 0 = .ok (.iload_n 0, 1) := by decide +kernel
theorem dX8_firstOf_1 : decode cX8_firstOf 1 = .ok (.iconst 1, 1) := by decide +kernel
theorem dX8_firstOf_2 : decode cX8_firstOf 2 = .ok (.if_icmp .ne 10, 3) := by decide +kernel
theorem dX8_firstOf_5 : decode cX8_firstOf 5 = .ok (.iload_n 1, 1) := by decide +kernel
theorem dX8_firstOf_6 : decode cX8_firstOf 6 = .ok (.bipush 6, 2) := by decide +kernel
theorem dX8_firstOf_8 : decode cX8_firstOf 8 = .ok (.isub, 1) := by decide +kernel
theorem dX8_firstOf_9 : decode cX8_firstOf 9 = .ok (.goto 9, 3) := by decide +kernel
theorem dX8_firstOf_12 : decode cX8_firstOf 12 = .ok (.iload_n 1, 1) := by decide +kernel
theorem dX8_firstOf_13 : decode cX8_firstOf 13 = .ok (.bipush 7, 2) := by decide +kernel
theorem dX8_firstOf_15 : decode cX8_firstOf 15 = .ok (.idiv, 1) := by decide +kernel
theorem dX8_firstOf_16 : decode cX8_firstOf 16 = .ok (.iconst 3, 1) := by decide +kernel
theorem dX8_firstOf_17 : decode cX8_firstOf 17 = .ok (.isub, 1) := by decide +kernel
theorem dX8_firstOf_18 : decode cX8_firstOf 18 = .ok (.ireturn, 1) := by decide +kernel
set_option maxHeartbeats 4000000 in
set_option maxRecDepth 100000 in
theorem c_X8_firstOf (l : Launch) (t k : Nat) (ht : t < 1000) (hk : k < 1000) : Met l yX8_firstOf (wC yX8_firstOf cX8_firstOf 2 (some .int)) (rmD 0) (pPc [.int (nI t), .int (nI k)]) (pQi (fun r => r = wA t k)) 0 0 (fun _ => False) := by
  refine pst "DoFinderModel" (by decide) rfl (Nat.le_of_ble_eq_true rfl) ?_
  intro p e s m args below meth c ls F hr hlk hl
  have hl : lv_has ls 2 [(0, .int (nI t)), (1, .int (nI k))] := hl
  refine lv_iload_n F.1 F.2.1 dX8_firstOf_0 rfl (lv_at hl 0 rfl) ?_
  refine lv_iconst (v := nI 1) F.1 F.2.1 dX8_firstOf_1 (by decide) ?_
  refine lv_icmp_ne (tgt := 12) F.1 F.2.1 dX8_firstOf_2 (by decide) (fun c2 => ?_) (fun c2 => ?_)
  · have c2 := ci_ne (a := ((t : Nat) : Int)) (b := 1) (nI_toInt (by omega)) (by decide) c2
    refine lv_iload_n F.1 F.2.1 dX8_firstOf_12 rfl (lv_at hl 1 rfl) ?_
    refine lv_bipush (v := nI 7) F.1 F.2.1 dX8_firstOf_13 (by decide) ?_
    refine ax_div (z := nI (k / 7)) F (by decide) (pk_div (a := k) (d := 7) (by omega) (by omega) (by omega)) dX8_firstOf_15 ?_
    refine lv_iconst (v := nI 3) F.1 F.2.1 dX8_firstOf_16 (by decide) ?_
    refine ax_sub F rfl dX8_firstOf_17 ?_
    refine pre_i F hr hlk dX8_firstOf_18 ?_
    unfold wA; first | rw [if_pos (by omega)] | rw [if_neg (by omega)]
  · have c2 := ci_eq (a := ((t : Nat) : Int)) (b := 1) (nI_toInt (by omega)) (by decide) c2
    refine lv_iload_n F.1 F.2.1 dX8_firstOf_5 rfl (lv_at hl 1 rfl) ?_
    refine lv_bipush (v := nI 6) F.1 F.2.1 dX8_firstOf_6 (by decide) ?_
    refine ax_sub F rfl dX8_firstOf_8 ?_
    refine lv_goto (tgt := 18) F.1 F.2.1 dX8_firstOf_9 (by decide) ?_
    refine pre_i F hr hlk dX8_firstOf_18 ?_
    unfold wA; first | rw [if_pos (by omega)] | rw [if_neg (by omega)]
theorem dX8_secondOf_0 : decode cX8_secondOf 0 = .ok (.iload_n 0, 1) := by decide +kernel
theorem dX8_secondOf_1 : decode cX8_secondOf 1 = .ok (.iconst 1, 1) := by decide +kernel
theorem dX8_secondOf_2 : decode cX8_secondOf 2 = .ok (.if_icmp .ne 7, 3) := by decide +kernel
theorem dX8_secondOf_5 : decode cX8_secondOf 5 = .ok (.iconst 0, 1) := by decide +kernel
theorem dX8_secondOf_6 : decode cX8_secondOf 6 = .ok (.goto 9, 3) := by decide +kernel
theorem dX8_secondOf_9 : decode cX8_secondOf 9 = .ok (.iload_n 1, 1) := by decide +kernel
theorem dX8_secondOf_10 : decode cX8_secondOf 10 = .ok (.bipush 7, 2) := by decide +kernel
theorem dX8_secondOf_12 : decode cX8_secondOf 12 = .ok (.irem, 1) := by decide +kernel
theorem dX8_secondOf_13 : decode cX8_secondOf 13 = .ok (.iconst 3, 1) := by decide +kernel
theorem dX8_secondOf_14 : decode cX8_secondOf 14 = .ok (.isub, 1) := by decide +kernel
theorem dX8_secondOf_15 : decode cX8_secondOf 15 = .ok (.ireturn, 1) := by decide +kernel
set_option maxHeartbeats 4000000 in
set_option maxRecDepth 100000 in
theorem c_X8_secondOf (l : Launch) (t k : Nat) (ht : t < 1000) (hk : k < 1000) : Met l yX8_secondOf (wC yX8_secondOf cX8_secondOf 2 (some .int)) (rmD 0) (pPc [.int (nI t), .int (nI k)]) (pQi (fun r => r = wB t k)) 0 0 (fun _ => False) := by
  refine pst "DoFinderModel" (by decide) rfl (Nat.le_of_ble_eq_true rfl) ?_
  intro p e s m args below meth c ls F hr hlk hl
  have hl : lv_has ls 2 [(0, .int (nI t)), (1, .int (nI k))] := hl
  refine lv_iload_n F.1 F.2.1 dX8_secondOf_0 rfl (lv_at hl 0 rfl) ?_
  refine lv_iconst (v := nI 1) F.1 F.2.1 dX8_secondOf_1 (by decide) ?_
  refine lv_icmp_ne (tgt := 9) F.1 F.2.1 dX8_secondOf_2 (by decide) (fun c2 => ?_) (fun c2 => ?_)
  · have c2 := ci_ne (a := ((t : Nat) : Int)) (b := 1) (nI_toInt (by omega)) (by decide) c2
    refine lv_iload_n F.1 F.2.1 dX8_secondOf_9 rfl (lv_at hl 1 rfl) ?_
    refine lv_bipush (v := nI 7) F.1 F.2.1 dX8_secondOf_10 (by decide) ?_
    refine ax_rem (z := nI (k % 7)) F (by decide) (pk_rem (a := k) (d := 7) (by omega) (by omega) (by omega)) dX8_secondOf_12 ?_
    refine lv_iconst (v := nI 3) F.1 F.2.1 dX8_secondOf_13 (by decide) ?_
    refine ax_sub F rfl dX8_secondOf_14 ?_
    refine pre_i F hr hlk dX8_secondOf_15 ?_
    unfold wB; first | rw [if_pos (by omega)] | rw [if_neg (by omega)]
  · have c2 := ci_eq (a := ((t : Nat) : Int)) (b := 1) (nI_toInt (by omega)) (by decide) c2
    refine lv_iconst (v := nI 0) F.1 F.2.1 dX8_secondOf_5 (by decide) ?_
    refine lv_goto (tgt := 15) F.1 F.2.1 dX8_secondOf_6 (by decide) ?_
    refine pre_i F hr hlk dX8_secondOf_15 ?_
    unfold wB; first | rw [if_pos (by omega)] | rw [if_neg (by omega)]
