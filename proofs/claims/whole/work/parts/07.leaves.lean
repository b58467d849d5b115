theorem dX6_size_0 : decode cX6_size 0 = .ok (.iload_n 0, 1) := by decide +kernel
theorem dX6_size_1 : decode cX6_size 1 = .ok (.iconst 1, 1) := by decide +kernel
theorem dX6_size_2 : decode cX6_size 2 = .ok (.if_icmp .ne 8, 3) := by decide +kernel
theorem dX6_size_5 : decode cX6_size 5 = .ok (.bipush 13, 2) := by decide +kernel
theorem dX6_size_7 : decode cX6_size 7 = .ok (.goto 5, 3) := by decide +kernel
theorem dX6_size_10 : decode cX6_size 10 = .ok (.bipush 49, 2) := by decide +kernel
theorem dX6_size_12 : decode cX6_size 12 = .ok (.ireturn, 1) := by decide +kernel
set_option maxHeartbeats 4000000 in
set_option maxRecDepth 100000 in
theorem c_X6_size (l : Launch) (t : Nat) (ht : t < 1000) : Met l yX6_size (wC yX6_size cX6_size 1 (some .int)) (rmD 0) (pPc [.int (nI t)]) (pQi (fun r => r = nI (wN t))) 0 0 (fun _ => False) := by
  refine pst "DoFinder$World" (by decide) rfl (Nat.le_of_ble_eq_true rfl) ?_
  intro p e s m args below meth c ls F hr hlk hl
  have hl : lv_has ls 1 [(0, .int (nI t))] := hl
  refine lv_iload_n F.1 F.2.1 dX6_size_0 rfl (lv_at hl 0 rfl) ?_
  refine lv_iconst (v := nI 1) F.1 F.2.1 dX6_size_1 (by decide) ?_
  refine lv_icmp_ne (tgt := 10) F.1 F.2.1 dX6_size_2 (by decide) (fun c2 => ?_) (fun c2 => ?_)
  · have c2 := ci_ne (a := ((t : Nat) : Int)) (b := 1) (nI_toInt (by omega)) (by decide) c2
    refine lv_bipush (v := nI 49) F.1 F.2.1 dX6_size_10 (by decide) ?_
    refine pre_i F hr hlk dX6_size_12 ?_
    unfold wN; first | rw [if_pos (by omega)] | rw [if_neg (by omega)]
  · have c2 := ci_eq (a := ((t : Nat) : Int)) (b := 1) (nI_toInt (by omega)) (by decide) c2
    refine lv_bipush (v := nI 13) F.1 F.2.1 dX6_size_5 (by decide) ?_
    refine lv_goto (tgt := 12) F.1 F.2.1 dX6_size_7 (by decide) ?_
    refine pre_i F hr hlk dX6_size_12 ?_
    unfold wN; first | rw [if_pos (by omega)] | rw [if_neg (by omega)]
theorem dX6_firstAt_0 : decode cX6_firstAt 0 = .ok (.iload_n 0, 1) := by decide +kernel
theorem dX6_firstAt_1 : decode cX6_firstAt 1 = .ok (.iconst 1, 1) := by decide +kernel
theorem dX6_firstAt_2 : decode cX6_firstAt 2 = .ok (.if_icmp .ne 10, 3) := by decide +kernel
theorem dX6_firstAt_5 : decode cX6_firstAt 5 = .ok (.iload_n 1, 1) := by decide +kernel
theorem dX6_firstAt_6 : decode cX6_firstAt 6 = .ok (.bipush 6, 2) := by decide +kernel
theorem dX6_firstAt_8 : decode cX6_firstAt 8 = .ok (.isub, 1) := by decide +kernel
theorem dX6_firstAt_9 : decode cX6_firstAt 9 = .ok (.goto 9, 3) := by decide +kernel
theorem dX6_firstAt_12 : decode cX6_firstAt 12 = .ok (.iload_n 1, 1) := by decide +kernel
theorem dX6_firstAt_13 : decode cX6_firstAt 13 = .ok (.bipush 7, 2) := by decide +kernel
theorem dX6_firstAt_15 : decode cX6_firstAt 15 = .ok (.idiv, 1) := by decide +kernel
theorem dX6_firstAt_16 : decode cX6_firstAt 16 = .ok (.iconst 3, 1) := by decide +kernel
theorem dX6_firstAt_17 : decode cX6_firstAt 17 = .ok (.isub, 1) := by decide +kernel
theorem dX6_firstAt_18 : decode cX6_firstAt 18 = .ok (.ireturn, 1) := by decide +kernel
set_option maxHeartbeats 4000000 in
set_option maxRecDepth 100000 in
theorem c_X6_firstAt (l : Launch) (t k : Nat) (ht : t < 1000) (hk : k < 1000) : Met l yX6_firstAt (wC yX6_firstAt cX6_firstAt 2 (some .int)) (rmD 0) (pPc [.int (nI t), .int (nI k)]) (pQi (fun r => r = wA t k)) 0 0 (fun _ => False) := by
  refine pst "DoFinder$World" (by decide) rfl (Nat.le_of_ble_eq_true rfl) ?_
  intro p e s m args below meth c ls F hr hlk hl
  have hl : lv_has ls 2 [(0, .int (nI t)), (1, .int (nI k))] := hl
  refine lv_iload_n F.1 F.2.1 dX6_firstAt_0 rfl (lv_at hl 0 rfl) ?_
  refine lv_iconst (v := nI 1) F.1 F.2.1 dX6_firstAt_1 (by decide) ?_
  refine lv_icmp_ne (tgt := 12) F.1 F.2.1 dX6_firstAt_2 (by decide) (fun c2 => ?_) (fun c2 => ?_)
  · have c2 := ci_ne (a := ((t : Nat) : Int)) (b := 1) (nI_toInt (by omega)) (by decide) c2
    refine lv_iload_n F.1 F.2.1 dX6_firstAt_12 rfl (lv_at hl 1 rfl) ?_
    refine lv_bipush (v := nI 7) F.1 F.2.1 dX6_firstAt_13 (by decide) ?_
    refine ax_div (z := nI (k / 7)) F (by decide) (pk_div (a := k) (d := 7) (by omega) (by omega) (by omega)) dX6_firstAt_15 ?_
    refine lv_iconst (v := nI 3) F.1 F.2.1 dX6_firstAt_16 (by decide) ?_
    refine ax_sub F rfl dX6_firstAt_17 ?_
    refine pre_i F hr hlk dX6_firstAt_18 ?_
    unfold wA; first | rw [if_pos (by omega)] | rw [if_neg (by omega)]
  · have c2 := ci_eq (a := ((t : Nat) : Int)) (b := 1) (nI_toInt (by omega)) (by decide) c2
    refine lv_iload_n F.1 F.2.1 dX6_firstAt_5 rfl (lv_at hl 1 rfl) ?_
    refine lv_bipush (v := nI 6) F.1 F.2.1 dX6_firstAt_6 (by decide) ?_
    refine ax_sub F rfl dX6_firstAt_8 ?_
    refine lv_goto (tgt := 18) F.1 F.2.1 dX6_firstAt_9 (by decide) ?_
    refine pre_i F hr hlk dX6_firstAt_18 ?_
    unfold wA; first | rw [if_pos (by omega)] | rw [if_neg (by omega)]
theorem dX6_secondAt_0 : decode cX6_secondAt 0 = .ok (.iload_n 0, 1) := by decide +kernel
theorem dX6_secondAt_1 : decode cX6_secondAt 1 = .ok (.iconst 1, 1) := by decide +kernel
theorem dX6_secondAt_2 : decode cX6_secondAt 2 = .ok (.if_icmp .ne 7, 3) := by decide +kernel
theorem dX6_secondAt_5 : decode cX6_secondAt 5 = .ok (.iconst 0, 1) := by decide +kernel
theorem dX6_secondAt_6 : decode cX6_secondAt 6 = .ok (.goto 9, 3) := by decide +kernel
theorem dX6_secondAt_9 : decode cX6_secondAt 9 = .ok (.iload_n 1, 1) := by decide +kernel
theorem dX6_secondAt_10 : decode cX6_secondAt 10 = .ok (.bipush 7, 2) := by decide +kernel
theorem dX6_secondAt_12 : decode cX6_secondAt 12 = .ok (.irem, 1) := by decide +kernel
theorem dX6_secondAt_13 : decode cX6_secondAt 13 = .ok (.iconst 3, 1) := by decide +kernel
theorem dX6_secondAt_14 : decode cX6_secondAt 14 = .ok (.isub, 1) := by decide +kernel
theorem dX6_secondAt_15 : decode cX6_secondAt 15 = .ok (.ireturn, 1) := by decide +kernel
set_option maxHeartbeats 4000000 in
set_option maxRecDepth 100000 in
theorem c_X6_secondAt (l : Launch) (t k : Nat) (ht : t < 1000) (hk : k < 1000) : Met l yX6_secondAt (wC yX6_secondAt cX6_secondAt 2 (some .int)) (rmD 0) (pPc [.int (nI t), .int (nI k)]) (pQi (fun r => r = wB t k)) 0 0 (fun _ => False) := by
  refine pst "DoFinder$World" (by decide) rfl (Nat.le_of_ble_eq_true rfl) ?_
  intro p e s m args below meth c ls F hr hlk hl
  have hl : lv_has ls 2 [(0, .int (nI t)), (1, .int (nI k))] := hl
  refine lv_iload_n F.1 F.2.1 dX6_secondAt_0 rfl (lv_at hl 0 rfl) ?_
  refine lv_iconst (v := nI 1) F.1 F.2.1 dX6_secondAt_1 (by decide) ?_
  refine lv_icmp_ne (tgt := 9) F.1 F.2.1 dX6_secondAt_2 (by decide) (fun c2 => ?_) (fun c2 => ?_)
  · have c2 := ci_ne (a := ((t : Nat) : Int)) (b := 1) (nI_toInt (by omega)) (by decide) c2
    refine lv_iload_n F.1 F.2.1 dX6_secondAt_9 rfl (lv_at hl 1 rfl) ?_
    refine lv_bipush (v := nI 7) F.1 F.2.1 dX6_secondAt_10 (by decide) ?_
    refine ax_rem (z := nI (k % 7)) F (by decide) (pk_rem (a := k) (d := 7) (by omega) (by omega) (by omega)) dX6_secondAt_12 ?_
    refine lv_iconst (v := nI 3) F.1 F.2.1 dX6_secondAt_13 (by decide) ?_
    refine ax_sub F rfl dX6_secondAt_14 ?_
    refine pre_i F hr hlk dX6_secondAt_15 ?_
    unfold wB; first | rw [if_pos (by omega)] | rw [if_neg (by omega)]
  · have c2 := ci_eq (a := ((t : Nat) : Int)) (b := 1) (nI_toInt (by omega)) (by decide) c2
    refine lv_iconst (v := nI 0) F.1 F.2.1 dX6_secondAt_5 (by decide) ?_
    refine lv_goto (tgt := 15) F.1 F.2.1 dX6_secondAt_6 (by decide) ?_
    refine pre_i F hr hlk dX6_secondAt_15 ?_
    unfold wB; first | rw [if_pos (by omega)] | rw [if_neg (by omega)]
theorem dX4_hasStep_0 : decode cX4_hasStep 0 = .ok (.iload_n 1, 1) := by decide +kernel
theorem dX4_hasStep_1 : decode cX4_hasStep 1 = .ok (.ifCond .lt 15, 3) := by decide +kernel
theorem dX4_hasStep_4 : decode cX4_hasStep 4 = .ok (.iload_n 1, 1) := by decide +kernel
theorem dX4_hasStep_5 : decode cX4_hasStep 5 = .ok (.aload_n 0, 1) := by decide +kernel
theorem dX4_hasStep_6 : decode cX4_hasStep 6 = .ok (.getfield 15, 3) := by decide +kernel
theorem dX4_hasStep_9 : decode cX4_hasStep 9 = .ok (.if_icmp .ge 7, 3) := by decide +kernel
theorem dX4_hasStep_12 : decode cX4_hasStep 12 = .ok (.iconst 1, 1) := by decide +kernel
theorem dX4_hasStep_13 : decode cX4_hasStep 13 = .ok (.goto 4, 3) := by decide +kernel
theorem dX4_hasStep_16 : decode cX4_hasStep 16 = .ok (.iconst 0, 1) := by decide +kernel
theorem dX4_hasStep_17 : decode cX4_hasStep 17 = .ok (.ireturn, 1) := by decide +kernel
set_option maxHeartbeats 4000000 in
set_option maxRecDepth 100000 in
theorem c_X4_hasStep (l : Launch) (G : XG) (M : XM) (P : XP) (S : XS) (V : XV) (j : Nat) (hj : j < 13) (hc : M.2.2.1 j ≤ 12) (x : Int32) : Met l yX4_hasStep (wC yX4_hasStep cX4_hasStep 2 (some .boolean)) (rmD 0) (xPc G [.ref (xgo G j), .int x] M P S V) (va_Qi (fun r u => yn r (0 ≤ x.toInt ∧ x.toInt < (M.2.2.1 j : Int)) ∧ u = (M, P, S, V)) (xB G) (xA G)) 0 0 (xA G) := by
  refine xst "DoFinder$Routine" (by decide) rfl (Nat.le_of_ble_eq_true rfl) ?_
  intro p e s m args below meth c ls F hr hlk hW hl
  have hl : lv_has ls 2 [(0, .ref (xgo G j)), (1, .int x)] := hl
  have hW : xW G s s.heap s.heap [] M P S V := hW
  have b_x := i32b x
  refine lv_iload_n F.1 F.2.1 dX4_hasStep_0 rfl (lv_at hl 1 rfl) ?_
  refine lv_if_lt (tgt := 16) F.1 F.2.1 dX4_hasStep_1 (by decide) (fun c1 => ?_) (fun c1 => ?_)
  · have c1 := ci_lt (a := x.toInt) (b := 0) rfl ci_0 c1
    refine lv_iconst (v := nI 0) F.1 F.2.1 dX4_hasStep_16 (by decide) ?_
    refine xre_z F hr hlk hW (by decide) dX4_hasStep_17 ?_
    exact ⟨by first | exact yn_1 (by omega) | exact yn_0 (by omega), rfl⟩
  · have c1 := ci_nlt (a := x.toInt) (b := 0) rfl ci_0 c1
    refine lv_iload_n F.1 F.2.1 dX4_hasStep_4 rfl (lv_at hl 1 rfl) ?_
    refine lv_aload_n F.1 F.2.1 dX4_hasStep_5 rfl (lv_at hl 0 rfl) ?_
    refine xg_Routine_count F hW (j := j) (by omega) tm_28 dX4_hasStep_6 ?_
    refine lv_icmp_ge (tgt := 16) F.1 F.2.1 dX4_hasStep_9 (by decide) (fun c9 => ?_) (fun c9 => ?_)
    · have c9 := ci_le (a := ((M.2.2.1 j : Nat) : Int)) (b := x.toInt) (nI_toInt (by omega)) rfl c9
      refine lv_iconst (v := nI 0) F.1 F.2.1 dX4_hasStep_16 (by decide) ?_
      refine xre_z F hr hlk hW (by decide) dX4_hasStep_17 ?_
      exact ⟨by first | exact yn_1 (by omega) | exact yn_0 (by omega), rfl⟩
    · have c9 := ci_nle (a := ((M.2.2.1 j : Nat) : Int)) (b := x.toInt) (nI_toInt (by omega)) rfl c9
      refine lv_iconst (v := nI 1) F.1 F.2.1 dX4_hasStep_12 (by decide) ?_
      refine lv_goto (tgt := 17) F.1 F.2.1 dX4_hasStep_13 (by decide) ?_
      refine xre_z F hr hlk hW (by decide) dX4_hasStep_17 ?_
      exact ⟨by first | exact yn_1 (by omega) | exact yn_0 (by omega), rfl⟩
theorem dX4_mayHold_0 : decode cX4_mayHold 0 = .ok (.iload_n 1, 1) := by decide +kernel
theorem dX4_mayHold_1 : decode cX4_mayHold 1 = .ok (.bipush 11, 2) := by decide +kernel
theorem dX4_mayHold_3 : decode cX4_mayHold 3 = .ok (.if_icmp .ne 14, 3) := by decide +kernel
theorem dX4_mayHold_6 : decode cX4_mayHold 6 = .ok (.iload_n 2, 1) := by decide +kernel
theorem dX4_mayHold_7 : decode cX4_mayHold 7 = .ok (.iconst 2, 1) := by decide +kernel
theorem dX4_mayHold_8 : decode cX4_mayHold 8 = .ok (.if_icmp .ne 7, 3) := by decide +kernel
theorem dX4_mayHold_11 : decode cX4_mayHold 11 = .ok (.iconst 1, 1) := by decide +kernel
theorem dX4_mayHold_12 : decode cX4_mayHold 12 = .ok (.goto 4, 3) := by decide +kernel
theorem dX4_mayHold_15 : decode cX4_mayHold 15 = .ok (.iconst 0, 1) := by decide +kernel
theorem dX4_mayHold_16 : decode cX4_mayHold 16 = .ok (.ireturn, 1) := by decide +kernel
theorem dX4_mayHold_17 : decode cX4_mayHold 17 = .ok (.iload_n 1, 1) := by decide +kernel
theorem dX4_mayHold_18 : decode cX4_mayHold 18 = .ok (.bipush 21, 2) := by decide +kernel
theorem dX4_mayHold_20 : decode cX4_mayHold 20 = .ok (.if_icmp .lt 14, 3) := by decide +kernel
theorem dX4_mayHold_23 : decode cX4_mayHold 23 = .ok (.aload_n 0, 1) := by decide +kernel
theorem dX4_mayHold_24 : decode cX4_mayHold 24 = .ok (.iload_n 1, 1) := by decide +kernel
theorem dX4_mayHold_25 : decode cX4_mayHold 25 = .ok (.bipush 21, 2) := by decide +kernel
theorem dX4_mayHold_27 : decode cX4_mayHold 27 = .ok (.isub, 1) := by decide +kernel
theorem dX4_mayHold_28 : decode cX4_mayHold 28 = .ok (.invokevirtual 22, 3) := by decide +kernel
theorem dX4_mayHold_31 : decode cX4_mayHold 31 = .ok (.ifCond .eq 7, 3) := by decide +kernel
theorem dX4_mayHold_34 : decode cX4_mayHold 34 = .ok (.iconst 1, 1) := by decide +kernel
theorem dX4_mayHold_35 : decode cX4_mayHold 35 = .ok (.goto 4, 3) := by decide +kernel
theorem dX4_mayHold_38 : decode cX4_mayHold 38 = .ok (.iconst 0, 1) := by decide +kernel
theorem dX4_mayHold_39 : decode cX4_mayHold 39 = .ok (.ireturn, 1) := by decide +kernel
set_option maxHeartbeats 4000000 in
set_option maxRecDepth 100000 in
theorem c_X4_mayHold (l : Launch) (G : XG) (M : XM) (P : XP) (S : XS) (V : XV) (j : Nat) (hj : j < 13) (hc : M.2.2.1 j ≤ 12) (x : Int32) (t : Nat) (ht : t < 1000) : Met l yX4_mayHold (wC yX4_mayHold cX4_mayHold 3 (some .boolean)) (rmD 1) (xPc G [.ref (xgo G j), .int x, .int (nI t)] M P S V) (va_Qi (fun r u => yn r (sp_may x.toInt t (M.2.2.1 j)) ∧ u = (M, P, S, V)) (xB G) (xA G)) 0 0 (xA G) := by
  refine xst "DoFinder$Routine" (by decide) rfl (Nat.le_of_ble_eq_true rfl) ?_
  intro p e s m args below meth c ls F hr hlk hW hl
  have hl : lv_has ls 3 [(0, .ref (xgo G j)), (1, .int x), (2, .int (nI t))] := hl
  have hW : xW G s s.heap s.heap [] M P S V := hW
  have b_x := i32b x
  refine lv_iload_n F.1 F.2.1 dX4_mayHold_0 rfl (lv_at hl 1 rfl) ?_
  refine lv_bipush (v := nI 11) F.1 F.2.1 dX4_mayHold_1 (by decide) ?_
  refine lv_icmp_ne (tgt := 17) F.1 F.2.1 dX4_mayHold_3 (by decide) (fun c3 => ?_) (fun c3 => ?_)
  · have c3 := ci_ne (a := x.toInt) (b := 11) rfl (by decide) c3
    refine lv_iload_n F.1 F.2.1 dX4_mayHold_17 rfl (lv_at hl 1 rfl) ?_
    refine lv_bipush (v := nI 21) F.1 F.2.1 dX4_mayHold_18 (by decide) ?_
    refine lv_icmp_lt (tgt := 34) F.1 F.2.1 dX4_mayHold_20 (by decide) (fun c20 => ?_) (fun c20 => ?_)
    · have c20 := ci_lt (a := x.toInt) (b := 21) rfl (by decide) c20
      refine lv_iconst (v := nI 1) F.1 F.2.1 dX4_mayHold_34 (by decide) ?_
      refine lv_goto (tgt := 39) F.1 F.2.1 dX4_mayHold_35 (by decide) ?_
      refine xre_z F hr hlk hW (by decide) dX4_mayHold_39 ?_
      exact ⟨by first | exact yn_1 (by unfold sp_may; omega) | exact yn_0 (by unfold sp_may; omega), rfl⟩
    · have c20 := ci_nlt (a := x.toInt) (b := 21) rfl (by decide) c20
      refine lv_aload_n F.1 F.2.1 dX4_mayHold_23 rfl (lv_at hl 0 rfl) ?_
      refine lv_iload_n F.1 F.2.1 dX4_mayHold_24 rfl (lv_at hl 1 rfl) ?_
      refine lv_bipush (v := nI 21) F.1 F.2.1 dX4_mayHold_25 (by decide) ?_
      refine ax_sub F rfl dX4_mayHold_27 ?_
      refine ax_nm (a := x.toInt - 21) (ci_sub rfl (by decide) (by omega) (by omega)) (fun v1 hv1 => ?_)
      refine xca_i (b := (xgo G j)) (As := [.int v1]) (rest := []) F (c_X4_hasStep l G M P S V j (by omega) (by omega) v1) (xcw F.2.2.2.2 ca_X4_hasStep tm_225 rfl rfl ⟨by decide, by decide⟩) (xr_X4 hW (j := j) (by omega)) hW rfl hl.1 rfl (Nat.le_of_ble_eq_true rfl) dX4_mayHold_28 (fun r28 u28 H locs hp28 hW => ?_)
      obtain ⟨hp28, rfl⟩ := hp28
      have hW : xW G s s.heap H locs M P S V := hW
      rcases hp28 with ⟨rfl, y28⟩ | ⟨rfl, y28⟩
      · skip
        refine lv_if_eq (tgt := 38) F.1 F.2.1 dX4_mayHold_31 (by decide) (fun q => absurd q (by decide)) (fun _ => ?_)
        refine lv_iconst (v := nI 1) F.1 F.2.1 dX4_mayHold_34 (by decide) ?_
        refine lv_goto (tgt := 39) F.1 F.2.1 dX4_mayHold_35 (by decide) ?_
        refine xre_z F hr hlk hW (by decide) dX4_mayHold_39 ?_
        exact ⟨by first | exact yn_1 (by unfold sp_may; omega) | exact yn_0 (by unfold sp_may; omega), rfl⟩
      · skip
        refine lv_if_eq (tgt := 38) F.1 F.2.1 dX4_mayHold_31 (by decide) (fun _ => ?_) (fun q => absurd q (by decide))
        refine lv_iconst (v := nI 0) F.1 F.2.1 dX4_mayHold_38 (by decide) ?_
        refine xre_z F hr hlk hW (by decide) dX4_mayHold_39 ?_
        exact ⟨by first | exact yn_1 (by unfold sp_may; omega) | exact yn_0 (by unfold sp_may; omega), rfl⟩
  · have c3 := ci_eq (a := x.toInt) (b := 11) rfl (by decide) c3
    refine lv_iload_n F.1 F.2.1 dX4_mayHold_6 rfl (lv_at hl 2 rfl) ?_
    refine lv_iconst (v := nI 2) F.1 F.2.1 dX4_mayHold_7 (by decide) ?_
    refine lv_icmp_ne (tgt := 15) F.1 F.2.1 dX4_mayHold_8 (by decide) (fun c8 => ?_) (fun c8 => ?_)
    · have c8 := ci_ne (a := ((t : Nat) : Int)) (b := 2) (nI_toInt (by omega)) (by decide) c8
      refine lv_iconst (v := nI 0) F.1 F.2.1 dX4_mayHold_15 (by decide) ?_
      refine xre_z F hr hlk hW (by decide) dX4_mayHold_16 ?_
      exact ⟨by first | exact yn_1 (by unfold sp_may; omega) | exact yn_0 (by unfold sp_may; omega), rfl⟩
    · have c8 := ci_eq (a := ((t : Nat) : Int)) (b := 2) (nI_toInt (by omega)) (by decide) c8
      refine lv_iconst (v := nI 1) F.1 F.2.1 dX4_mayHold_11 (by decide) ?_
      refine lv_goto (tgt := 16) F.1 F.2.1 dX4_mayHold_12 (by decide) ?_
      refine xre_z F hr hlk hW (by decide) dX4_mayHold_16 ?_
      exact ⟨by first | exact yn_1 (by unfold sp_may; omega) | exact yn_0 (by unfold sp_may; omega), rfl⟩
theorem dX3_clear_0 : decode cX3_clear 0 = .ok (.aload_n 0, 1) := by decide +kernel
theorem dX3_clear_1 : decode cX3_clear 1 = .ok (.iconst 0, 1) := by decide +kernel
theorem dX3_clear_2 : decode cX3_clear 2 = .ok (.putfield 15, 3) := by decide +kernel
theorem dX3_clear_5 : decode cX3_clear 5 = .ok (.return_, 1) := by decide +kernel
set_option maxHeartbeats 4000000 in
set_option maxRecDepth 100000 in
theorem c_X3_clear (l : Launch) (G : XG) (M : XM) (dn h : Nat) (tk : Int32) (f : Nat → Int32) (S : XS) (V : XV) : Met l yX3_clear (wC yX3_clear cX3_clear 1 none) (rmD 0) (xPc G [.ref (xga G 5)] M (dn, h, tk, f) S V) (va_Qv (fun u => u = (M, (dn, 0, tk, f), S, V)) (xB G) (xA G)) 0 0 (xA G) := by
  refine xst "DoFinder$Pile" (by decide) rfl (Nat.le_of_ble_eq_true rfl) ?_
  intro p e s m args below meth c ls F hr hlk hW hl
  have hl : lv_has ls 1 [(0, .ref (xga G 5))] := hl
  have hW : xW G s s.heap s.heap [] M (dn, h, tk, f) S V := hW
  refine lv_aload_n F.1 F.2.1 dX3_clear_0 rfl (lv_at hl 0 rfl) ?_
  refine lv_iconst (v := nI 0) F.1 F.2.1 dX3_clear_1 (by decide) ?_
  refine xp_Pile_height (k := 0) F hW tm_57 rfl dX3_clear_2 (fun H locs hW => ?_)
  have hW : xW G s s.heap H locs M (dn, 0, tk, f) S V := hW
  refine xre_v F hr hlk hW dX3_clear_5 ?_
  rfl
theorem dX3_isEmpty_0 : decode cX3_isEmpty 0 = .ok (.aload_n 0, 1) := by decide +kernel
theorem dX3_isEmpty_1 : decode cX3_isEmpty 1 = .ok (.getfield 15, 3) := by decide +kernel
theorem dX3_isEmpty_4 : decode cX3_isEmpty 4 = .ok (.ifCond .ne 7, 3) := by decide +kernel
theorem dX3_isEmpty_7 : decode cX3_isEmpty 7 = .ok (.iconst 1, 1) := by decide +kernel
theorem dX3_isEmpty_8 : decode cX3_isEmpty 8 = .ok (.goto 4, 3) := by decide +kernel
theorem dX3_isEmpty_11 : decode cX3_isEmpty 11 = .ok (.iconst 0, 1) := by decide +kernel
theorem dX3_isEmpty_12 : decode cX3_isEmpty 12 = .ok (.ireturn, 1) := by decide +kernel
set_option maxHeartbeats 4000000 in
set_option maxRecDepth 100000 in
theorem c_X3_isEmpty (l : Launch) (G : XG) (M : XM) (dn h : Nat) (tk : Int32) (f : Nat → Int32) (S : XS) (V : XV) (hh : h ≤ 8) : Met l yX3_isEmpty (wC yX3_isEmpty cX3_isEmpty 1 (some .boolean)) (rmD 0) (xPc G [.ref (xga G 5)] M (dn, h, tk, f) S V) (va_Qi (fun r u => yn r (h = 0) ∧ u = (M, (dn, h, tk, f), S, V)) (xB G) (xA G)) 0 0 (xA G) := by
  refine xst "DoFinder$Pile" (by decide) rfl (Nat.le_of_ble_eq_true rfl) ?_
  intro p e s m args below meth c ls F hr hlk hW hl
  have hl : lv_has ls 1 [(0, .ref (xga G 5))] := hl
  have hW : xW G s s.heap s.heap [] M (dn, h, tk, f) S V := hW
  refine lv_aload_n F.1 F.2.1 dX3_isEmpty_0 rfl (lv_at hl 0 rfl) ?_
  refine xg_Pile_height F hW tm_57 dX3_isEmpty_1 ?_
  refine lv_if_ne (tgt := 11) F.1 F.2.1 dX3_isEmpty_4 (by decide) (fun c4 => ?_) (fun c4 => ?_)
  · have c4 := ci_ne (a := ((h : Nat) : Int)) (b := 0) (nI_toInt (by omega)) ci_0 c4
    refine lv_iconst (v := nI 0) F.1 F.2.1 dX3_isEmpty_11 (by decide) ?_
    refine xre_z F hr hlk hW (by decide) dX3_isEmpty_12 ?_
    exact ⟨by first | exact yn_1 (by omega) | exact yn_0 (by omega), rfl⟩
  · have c4 := ci_eq (a := ((h : Nat) : Int)) (b := 0) (nI_toInt (by omega)) ci_0 c4
    refine lv_iconst (v := nI 1) F.1 F.2.1 dX3_isEmpty_7 (by decide) ?_
    refine lv_goto (tgt := 12) F.1 F.2.1 dX3_isEmpty_8 (by decide) ?_
    refine xre_z F hr hlk hW (by decide) dX3_isEmpty_12 ?_
    exact ⟨by first | exact yn_1 (by omega) | exact yn_0 (by omega), rfl⟩
theorem dX3_top_0 : decode cX3_top 0 = .ok (.aload_n 0, 1) := by decide +kernel
theorem dX3_top_1 : decode cX3_top 1 = .ok (.getfield 15, 3) := by decide +kernel
theorem dX3_top_4 : decode cX3_top 4 = .ok (.ifCond .le 17, 3) := by decide +kernel
theorem dX3_top_7 : decode cX3_top 7 = .ok (.aload_n 0, 1) := by decide +kernel
theorem dX3_top_8 : decode cX3_top 8 = .ok (.getfield 9, 3) := by decide +kernel
theorem dX3_top_11 : decode cX3_top 11 = .ok (.aload_n 0, 1) := by decide +kernel
theorem dX3_top_12 : decode cX3_top 12 = .ok (.getfield 15, 3) := by decide +kernel
theorem dX3_top_15 : decode cX3_top 15 = .ok (.iconst 1, 1) := by decide +kernel
theorem dX3_top_16 : decode cX3_top 16 = .ok (.isub, 1) := by decide +kernel
theorem dX3_top_17 : decode cX3_top 17 = .ok (.iaload, 1) := by decide +kernel
theorem dX3_top_18 : decode cX3_top 18 = .ok (.goto 4, 3) := by decide +kernel
theorem dX3_top_21 : decode cX3_top 21 = .ok (.iconst 0, 1) := by decide +kernel
theorem dX3_top_22 : decode cX3_top 22 = .ok (.ireturn, 1) := by decide +kernel
set_option maxHeartbeats 4000000 in
set_option maxRecDepth 100000 in
theorem c_X3_top (l : Launch) (G : XG) (M : XM) (dn h : Nat) (tk : Int32) (f : Nat → Int32) (S : XS) (V : XV) (hh : h ≤ 8) (h0 : 0 < h) : Met l yX3_top (wC yX3_top cX3_top 1 (some .int)) (rmD 0) (xPc G [.ref (xga G 5)] M (dn, h, tk, f) S V) (va_Qi (fun r u => r = f (h - 1) ∧ u = (M, (dn, h, tk, f), S, V)) (xB G) (xA G)) 0 0 (xA G) := by
  refine xst "DoFinder$Pile" (by decide) rfl (Nat.le_of_ble_eq_true rfl) ?_
  intro p e s m args below meth c ls F hr hlk hW hl
  have hl : lv_has ls 1 [(0, .ref (xga G 5))] := hl
  have hW : xW G s s.heap s.heap [] M (dn, h, tk, f) S V := hW
  refine lv_aload_n F.1 F.2.1 dX3_top_0 rfl (lv_at hl 0 rfl) ?_
  refine xg_Pile_height F hW tm_57 dX3_top_1 ?_
  refine lv_if_le (tgt := 21) F.1 F.2.1 dX3_top_4 (by decide) (fun c4 => ?_) (fun c4 => ?_)
  · exfalso
    have c4 := ci_le (a := ((h : Nat) : Int)) (b := 0) (nI_toInt (by omega)) ci_0 c4
    omega
  have c4 := ci_nle (a := ((h : Nat) : Int)) (b := 0) (nI_toInt (by omega)) ci_0 c4
  refine lv_aload_n F.1 F.2.1 dX3_top_7 rfl (lv_at hl 0 rfl) ?_
  refine xg_Pile_numbers F hW tm_56 dX3_top_8 ?_
  refine lv_aload_n F.1 F.2.1 dX3_top_11 rfl (lv_at hl 0 rfl) ?_
  refine xg_Pile_height F hW tm_57 dX3_top_12 ?_
  refine lv_iconst (v := nI 1) F.1 F.2.1 dX3_top_15 (by decide) ?_
  refine ax_sub (z := nI (h - 1)) F (pk_sub (a := h) (b := 1) (by omega)) dX3_top_16 ?_
  refine xl_nu (i := (h - 1)) F hW rfl (by omega) dX3_top_17 ?_
  have b17 := i32b (f (h - 1))
  refine lv_goto (tgt := 22) F.1 F.2.1 dX3_top_18 (by decide) ?_
  refine xre_i F hr hlk hW dX3_top_22 ?_
  exact ⟨rfl, rfl⟩
theorem dX3_lay_0 : decode cX3_lay 0 = .ok (.aload_n 0, 1) := by decide +kernel
theorem dX3_lay_1 : decode cX3_lay 1 = .ok (.getfield 15, 3) := by decide +kernel
theorem dX3_lay_4 : decode cX3_lay 4 = .ok (.bipush 8, 2) := by decide +kernel
theorem dX3_lay_6 : decode cX3_lay 6 = .ok (.if_icmp .lt 5, 3) := by decide +kernel
theorem dX3_lay_9 : decode cX3_lay 9 = .ok (.iconst 0, 1) := by decide +kernel
theorem dX3_lay_10 : decode cX3_lay 10 = .ok (.ireturn, 1) := by decide +kernel
theorem dX3_lay_11 : decode cX3_lay 11 = .ok (.aload_n 0, 1) := by decide +kernel
theorem dX3_lay_12 : decode cX3_lay 12 = .ok (.getfield 9, 3) := by decide +kernel
theorem dX3_lay_15 : decode cX3_lay 15 = .ok (.aload_n 0, 1) := by decide +kernel
theorem dX3_lay_16 : decode cX3_lay 16 = .ok (.getfield 15, 3) := by decide +kernel
theorem dX3_lay_19 : decode cX3_lay 19 = .ok (.iload_n 1, 1) := by decide +kernel
theorem dX3_lay_20 : decode cX3_lay 20 = .ok (.iastore, 1) := by decide +kernel
theorem dX3_lay_21 : decode cX3_lay 21 = .ok (.aload_n 0, 1) := by decide +kernel
theorem dX3_lay_22 : decode cX3_lay 22 = .ok (.dup, 1) := by decide +kernel
theorem dX3_lay_23 : decode cX3_lay 23 = .ok (.getfield 15, 3) := by decide +kernel
theorem dX3_lay_26 : decode cX3_lay 26 = .ok (.iconst 1, 1) := by decide +kernel
theorem dX3_lay_27 : decode cX3_lay 27 = .ok (.iadd, 1) := by decide +kernel
theorem dX3_lay_28 : decode cX3_lay 28 = .ok (.putfield 15, 3) := by decide +kernel
theorem dX3_lay_31 : decode cX3_lay 31 = .ok (.iconst 1, 1) := by decide +kernel
theorem dX3_lay_32 : decode cX3_lay 32 = .ok (.ireturn, 1) := by decide +kernel
set_option maxHeartbeats 4000000 in
set_option maxRecDepth 100000 in
theorem c_X3_lay (l : Launch) (G : XG) (M : XM) (dn h : Nat) (tk : Int32) (f : Nat → Int32) (S : XS) (V : XV) (hh : h ≤ 8) (v : Int32) : Met l yX3_lay (wC yX3_lay cX3_lay 2 (some .boolean)) (rmD 0) (xPc G [.ref (xga G 5), .int v] M (dn, h, tk, f) S V) (va_Qi (fun r u => (h < 8 ∧ r = nI 1 ∧ u = (M, (dn, h + 1, tk, upd f h v), S, V)) ∨ (¬ h < 8 ∧ r = nI 0 ∧ u = (M, (dn, h, tk, f), S, V))) (xB G) (xA G)) 0 0 (xA G) := by
  refine xst "DoFinder$Pile" (by decide) rfl (Nat.le_of_ble_eq_true rfl) ?_
  intro p e s m args below meth c ls F hr hlk hW hl
  have hl : lv_has ls 2 [(0, .ref (xga G 5)), (1, .int v)] := hl
  have hW : xW G s s.heap s.heap [] M (dn, h, tk, f) S V := hW
  have b_v := i32b v
  refine lv_aload_n F.1 F.2.1 dX3_lay_0 rfl (lv_at hl 0 rfl) ?_
  refine xg_Pile_height F hW tm_57 dX3_lay_1 ?_
  refine lv_bipush (v := nI 8) F.1 F.2.1 dX3_lay_4 (by decide) ?_
  refine lv_icmp_lt (tgt := 11) F.1 F.2.1 dX3_lay_6 (by decide) (fun c6 => ?_) (fun c6 => ?_)
  · have c6 := ci_lt (a := ((h : Nat) : Int)) (b := 8) (nI_toInt (by omega)) (by decide) c6
    refine lv_aload_n F.1 F.2.1 dX3_lay_11 rfl (lv_at hl 0 rfl) ?_
    refine xg_Pile_numbers F hW tm_56 dX3_lay_12 ?_
    refine lv_aload_n F.1 F.2.1 dX3_lay_15 rfl (lv_at hl 0 rfl) ?_
    refine xg_Pile_height F hW tm_57 dX3_lay_16 ?_
    refine lv_iload_n F.1 F.2.1 dX3_lay_19 rfl (lv_at hl 1 rfl) ?_
    refine xs_nu (i := h) F hW rfl (by omega) dX3_lay_20 (fun H locs hW => ?_)
    have hW : xW G s s.heap H locs M (dn, h, tk, upd f h v) S V := hW
    refine lv_aload_n F.1 F.2.1 dX3_lay_21 rfl (lv_at hl 0 rfl) ?_
    refine lv_dup F.1 F.2.1 dX3_lay_22 rfl ?_
    refine xg_Pile_height F hW tm_57 dX3_lay_23 ?_
    refine lv_iconst (v := nI 1) F.1 F.2.1 dX3_lay_26 (by decide) ?_
    refine ax_add (z := nI (h + 1)) F (nI_add _ _) dX3_lay_27 ?_
    refine xp_Pile_height (k := (h + 1)) F hW tm_57 rfl dX3_lay_28 (fun H locs hW => ?_)
    have hW : xW G s s.heap H locs M (dn, h + 1, tk, upd f h v) S V := hW
    refine lv_iconst (v := nI 1) F.1 F.2.1 dX3_lay_31 (by decide) ?_
    refine xre_z F hr hlk hW (by decide) dX3_lay_32 ?_
    first | exact Or.inl ⟨by omega, rfl, rfl⟩ | exact Or.inr ⟨by omega, rfl, rfl⟩
  · have c6 := ci_nlt (a := ((h : Nat) : Int)) (b := 8) (nI_toInt (by omega)) (by decide) c6
    refine lv_iconst (v := nI 0) F.1 F.2.1 dX3_lay_9 (by decide) ?_
    refine xre_z F hr hlk hW (by decide) dX3_lay_10 ?_
    first | exact Or.inl ⟨by omega, rfl, rfl⟩ | exact Or.inr ⟨by omega, rfl, rfl⟩
