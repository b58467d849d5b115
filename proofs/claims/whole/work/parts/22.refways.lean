theorem zok_of_way {n aa : Nat} {ra : Nat → Nat} {w : Nat} (hn : n ≤ 12) (h : zway n aa ra w = true) : zok n aa ra w = true := zok_way h (by have := (zway_iff.mp h).1; omega)
theorem dX8_isWay_0 : decode cX8_isWay 0 = .ok (.iload_n 1, 1) := by decide +kernel
theorem dX8_isWay_1 : decode cX8_isWay 1 = .ok (.bipush 100, 2) := by decide +kernel
theorem dX8_isWay_3 : decode cX8_isWay 3 = .ok (.idiv, 1) := by decide +kernel
theorem dX8_isWay_4 : decode cX8_isWay 4 = .ok (.istore_n 2, 1) := by decide +kernel
theorem dX8_isWay_5 : decode cX8_isWay 5 = .ok (.iload_n 1, 1) := by decide +kernel
theorem dX8_isWay_6 : decode cX8_isWay 6 = .ok (.bipush 100, 2) := by decide +kernel
theorem dX8_isWay_8 : decode cX8_isWay 8 = .ok (.irem, 1) := by decide +kernel
theorem dX8_isWay_9 : decode cX8_isWay 9 = .ok (.istore_n 3, 1) := by decide +kernel
theorem dX8_isWay_10 : decode cX8_isWay 10 = .ok (.iload_n 1, 1) := by decide +kernel
theorem dX8_isWay_11 : decode cX8_isWay 11 = .ok (.ifCond .lt 11, 3) := by decide +kernel
theorem dX8_isWay_14 : decode cX8_isWay 14 = .ok (.aload_n 0, 1) := by decide +kernel
theorem dX8_isWay_15 : decode cX8_isWay 15 = .ok (.iload_n 2, 1) := by decide +kernel
theorem dX8_isWay_16 : decode cX8_isWay 16 = .ok (.invokevirtual 70, 3) := by decide +kernel
theorem dX8_isWay_19 : decode cX8_isWay 19 = .ok (.ifCond .ne 5, 3) := by decide +kernel
theorem dX8_isWay_22 : decode cX8_isWay 22 = .ok (.iconst 0, 1) := by decide +kernel
theorem dX8_isWay_23 : decode cX8_isWay 23 = .ok (.ireturn, 1) := by decide +kernel
theorem dX8_isWay_24 : decode cX8_isWay 24 = .ok (.aload_n 0, 1) := by decide +kernel
theorem dX8_isWay_25 : decode cX8_isWay 25 = .ok (.getfield 26, 3) := by decide +kernel
theorem dX8_isWay_28 : decode cX8_isWay 28 = .ok (.iconst 2, 1) := by decide +kernel
theorem dX8_isWay_29 : decode cX8_isWay 29 = .ok (.if_icmp .ne 16, 3) := by decide +kernel
theorem dX8_isWay_32 : decode cX8_isWay 32 = .ok (.iload_n 3, 1) := by decide +kernel
theorem dX8_isWay_33 : decode cX8_isWay 33 = .ok (.iconst 2, 1) := by decide +kernel
theorem dX8_isWay_34 : decode cX8_isWay 34 = .ok (.if_icmp .ge 7, 3) := by decide +kernel
theorem dX8_isWay_37 : decode cX8_isWay 37 = .ok (.iconst 1, 1) := by decide +kernel
theorem dX8_isWay_38 : decode cX8_isWay 38 = .ok (.goto 37, 3) := by decide +kernel
theorem dX8_isWay_41 : decode cX8_isWay 41 = .ok (.iconst 0, 1) := by decide +kernel
theorem dX8_isWay_42 : decode cX8_isWay 42 = .ok (.goto 33, 3) := by decide +kernel
theorem dX8_isWay_45 : decode cX8_isWay 45 = .ok (.aload_n 0, 1) := by decide +kernel
theorem dX8_isWay_46 : decode cX8_isWay 46 = .ok (.getfield 7, 3) := by decide +kernel
theorem dX8_isWay_49 : decode cX8_isWay 49 = .ok (.iload_n 2, 1) := by decide +kernel
theorem dX8_isWay_50 : decode cX8_isWay 50 = .ok (.iaload, 1) := by decide +kernel
theorem dX8_isWay_51 : decode cX8_isWay 51 = .ok (.iconst 1, 1) := by decide +kernel
theorem dX8_isWay_52 : decode cX8_isWay 52 = .ok (.if_icmp .ne 15, 3) := by decide +kernel
theorem dX8_isWay_55 : decode cX8_isWay 55 = .ok (.iload_n 3, 1) := by decide +kernel
theorem dX8_isWay_56 : decode cX8_isWay 56 = .ok (.ifCond .ne 7, 3) := by decide +kernel
theorem dX8_isWay_59 : decode cX8_isWay 59 = .ok (.iconst 1, 1) := by decide +kernel
theorem dX8_isWay_60 : decode cX8_isWay 60 = .ok (.goto 15, 3) := by decide +kernel
theorem dX8_isWay_63 : decode cX8_isWay 63 = .ok (.iconst 0, 1) := by decide +kernel
theorem dX8_isWay_64 : decode cX8_isWay 64 = .ok (.goto 11, 3) := by decide +kernel
theorem dX8_isWay_67 : decode cX8_isWay 67 = .ok (.iload_n 3, 1) := by decide +kernel
theorem dX8_isWay_68 : decode cX8_isWay 68 = .ok (.bipush 10, 2) := by decide +kernel
theorem dX8_isWay_70 : decode cX8_isWay 70 = .ok (.bipush 29, 2) := by decide +kernel
theorem dX8_isWay_72 : decode cX8_isWay 72 = .ok (.invokestatic 60, 3) := by decide +kernel
theorem dX8_isWay_75 : decode cX8_isWay 75 = .ok (.ireturn, 1) := by decide +kernel
set_option maxHeartbeats 4000000 in
set_option maxRecDepth 100000 in
theorem c_X8_isWay (l : Launch) (G : MG) (M : MM) (P : MP) (L : ML) (N : MN) (V : MV) (n aa ac : Nat) (ra : Nat → Nat) (o : Nat → Int32 → Int32 → Int64) (zf zs : Nat → Int32) (zd : Nat → Int64) (hV : mV M n aa ac ra o zf zs zd) (w : Nat) (hw : w < 2147483648) : Met l yX8_isWay (wC yX8_isWay cX8_isWay 4 (some .boolean)) (rmD 2) (mPc G [.ref (mga G 0), .int (nI w)] M P L N V) (va_Qi (fun r u => yn r (zway n aa ra w = true) ∧ u = (M, P, L, N, V)) (mB G) (mA G)) 0 0 (mA G) := by
  refine mst "DoFinderModel" (by decide) rfl (Nat.le_of_ble_eq_true rfl) ?_
  intro p e s m args below meth c ls F hr hlk hW hl
  have hl : lv_has ls 4 [(0, .ref (mga G 0)), (1, .int (nI w))] := hl
  have hW : mW G s s.heap s.heap [] M P L N V := hW
  obtain ⟨en, ea, ec, era, eo, ef, es, ed, bn, ba, bc, bf, brc, bra, bd⟩ := id hV
  refine lv_iload_n F.1 F.2.1 dX8_isWay_0 rfl (lv_at hl 1 rfl) ?_
  refine lv_bipush (v := nI 100) F.1 F.2.1 dX8_isWay_1 (by decide) ?_
  refine ax_div (z := nI (w / 100)) F (by decide) (pk_div (a := w) (d := 100) (by omega) (by omega) (by omega)) dX8_isWay_3 ?_
  refine lv_istore_n (lv' := [(2, .int (nI (w / 100))), (0, .ref (mga G 0)), (1, .int (nI w))]) F.1 F.2.1 dX8_isWay_4 rfl hl (by decide) rfl (fun ls hl => ?_)
  refine lv_iload_n F.1 F.2.1 dX8_isWay_5 rfl (lv_at hl 2 rfl) ?_
  refine lv_bipush (v := nI 100) F.1 F.2.1 dX8_isWay_6 (by decide) ?_
  refine ax_rem (z := nI (w % 100)) F (by decide) (pk_rem (a := w) (d := 100) (by omega) (by omega) (by omega)) dX8_isWay_8 ?_
  refine lv_istore_n (lv' := [(3, .int (nI (w % 100))), (2, .int (nI (w / 100))), (0, .ref (mga G 0)), (1, .int (nI w))]) F.1 F.2.1 dX8_isWay_9 rfl hl (by decide) rfl (fun ls hl => ?_)
  refine lv_iload_n F.1 F.2.1 dX8_isWay_10 rfl (lv_at hl 3 rfl) ?_
  refine lv_if_lt (tgt := 22) F.1 F.2.1 dX8_isWay_11 (by decide) (fun c11 => ?_) (fun c11 => ?_)
  · exfalso
    have c11 := ci_lt (a := ((w : Nat) : Int)) (b := 0) (nI_toInt (by omega)) ci_0 c11
    omega
  have c11 := ci_nlt (a := ((w : Nat) : Int)) (b := 0) (nI_toInt (by omega)) ci_0 c11
  refine lv_aload_n F.1 F.2.1 dX8_isWay_14 rfl (lv_at hl 2 rfl) ?_
  refine lv_iload_n F.1 F.2.1 dX8_isWay_15 rfl (lv_at hl 1 rfl) ?_
  refine mca_i (b := (mga G 0)) (As := [.int (nI (w / 100))]) (rest := []) F (c_X8_isRoutine l G M P L N V (by omega) (nI (w / 100)) ((w / 100 : Nat) : Int) (nI_toInt (by omega))) (xcw F.2.2.2.2 ca_X8_isRoutine tm_595 rfl rfl ⟨by decide, by decide⟩) (mr_X8 hW) hW rfl hl.1 rfl (Nat.le_of_ble_eq_true rfl) dX8_isWay_16 (fun r16 u16 H locs hp16 hW => ?_)
  obtain ⟨hp16, rfl⟩ := hp16
  have hW : mW G s s.heap H locs M P L N V := hW
  rcases hp16 with ⟨rfl, y16⟩ | ⟨rfl, y16⟩
  · skip
    have q1 := bra (w / 100) (by omega)
    have q2 := era (w / 100) (by omega)
    refine lv_if_ne (tgt := 24) F.1 F.2.1 dX8_isWay_19 (by decide) (fun _ => ?_) (fun q => absurd q (by decide))
    refine lv_aload_n F.1 F.2.1 dX8_isWay_24 rfl (lv_at hl 2 rfl) ?_
    refine mg_arguments F hW tm_507 dX8_isWay_25 ?_
    refine lv_iconst (v := nI 2) F.1 F.2.1 dX8_isWay_28 (by decide) ?_
    refine lv_icmp_ne (tgt := 45) F.1 F.2.1 dX8_isWay_29 (by decide) (fun c29 => ?_) (fun c29 => ?_)
    · have c29 := ci_ne (a := ((M.2.2.2.2.2.2.2.1 : Nat) : Int)) (b := 2) (nI_toInt (by omega)) (by decide) c29
      refine lv_aload_n F.1 F.2.1 dX8_isWay_45 rfl (lv_at hl 2 rfl) ?_
      refine mg_argumentsOf F hW tm_501 dX8_isWay_46 ?_
      refine lv_iload_n F.1 F.2.1 dX8_isWay_49 rfl (lv_at hl 1 rfl) ?_
      refine ml_ra (i := (w / 100)) F hW rfl (by omega) dX8_isWay_50 ?_
      refine ax_re (show nI (M.2.1 (w / 100)) = nI (ra (w / 100)) from congrArg nI q2) ?_
      refine lv_iconst (v := nI 1) F.1 F.2.1 dX8_isWay_51 (by decide) ?_
      refine lv_icmp_ne (tgt := 67) F.1 F.2.1 dX8_isWay_52 (by decide) (fun c52 => ?_) (fun c52 => ?_)
      · have c52 := ci_ne (a := ((ra (w / 100) : Nat) : Int)) (b := 1) (nI_toInt (by omega)) (by decide) c52
        refine lv_iload_n F.1 F.2.1 dX8_isWay_67 rfl (lv_at hl 0 rfl) ?_
        refine lv_bipush (v := nI 10) F.1 F.2.1 dX8_isWay_68 (by decide) ?_
        refine lv_bipush (v := nI 29) F.1 F.2.1 dX8_isWay_70 (by decide) ?_
        refine pca (As := [.int (nI (w % 100)), .int (nI 10), .int (nI 29)]) (rest := []) F (c_X8_in l (nI (w % 100)) (nI 10) (nI 29) ((w % 100 : Nat) : Int) 10 29 (nI_toInt (by omega)) (by decide) (by decide)) (xcwS F.2.2.2.2 ca_X8_in tm_577 rfl rfl ⟨by decide, by decide⟩) rfl hl.1 rfl (Nat.le_of_ble_eq_true rfl) dX8_isWay_72 (fun r72 hr72 => ?_)
        rcases hr72 with ⟨rfl, y72⟩ | ⟨rfl, y72⟩
        · skip
          refine mre_z F hr hlk hW (by decide) dX8_isWay_75 ?_
          first | exact ⟨yn_1 (zway_iff.mpr ⟨by omega, by unfold zfit; omega⟩), rfl⟩ | exact ⟨yn_0 (fun z => by have z2 := zway_iff.mp z; unfold zfit at z2; omega), rfl⟩
        · skip
          refine mre_z F hr hlk hW (by decide) dX8_isWay_75 ?_
          first | exact ⟨yn_1 (zway_iff.mpr ⟨by omega, by unfold zfit; omega⟩), rfl⟩ | exact ⟨yn_0 (fun z => by have z2 := zway_iff.mp z; unfold zfit at z2; omega), rfl⟩
      · have c52 := ci_eq (a := ((ra (w / 100) : Nat) : Int)) (b := 1) (nI_toInt (by omega)) (by decide) c52
        refine lv_iload_n F.1 F.2.1 dX8_isWay_55 rfl (lv_at hl 0 rfl) ?_
        refine lv_if_ne (tgt := 63) F.1 F.2.1 dX8_isWay_56 (by decide) (fun c56 => ?_) (fun c56 => ?_)
        · have c56 := ci_ne (a := ((w % 100 : Nat) : Int)) (b := 0) (nI_toInt (by omega)) ci_0 c56
          refine lv_iconst (v := nI 0) F.1 F.2.1 dX8_isWay_63 (by decide) ?_
          refine lv_goto (tgt := 75) F.1 F.2.1 dX8_isWay_64 (by decide) ?_
          refine mre_z F hr hlk hW (by decide) dX8_isWay_75 ?_
          first | exact ⟨yn_1 (zway_iff.mpr ⟨by omega, by unfold zfit; omega⟩), rfl⟩ | exact ⟨yn_0 (fun z => by have z2 := zway_iff.mp z; unfold zfit at z2; omega), rfl⟩
        · have c56 := ci_eq (a := ((w % 100 : Nat) : Int)) (b := 0) (nI_toInt (by omega)) ci_0 c56
          refine lv_iconst (v := nI 1) F.1 F.2.1 dX8_isWay_59 (by decide) ?_
          refine lv_goto (tgt := 75) F.1 F.2.1 dX8_isWay_60 (by decide) ?_
          refine mre_z F hr hlk hW (by decide) dX8_isWay_75 ?_
          first | exact ⟨yn_1 (zway_iff.mpr ⟨by omega, by unfold zfit; omega⟩), rfl⟩ | exact ⟨yn_0 (fun z => by have z2 := zway_iff.mp z; unfold zfit at z2; omega), rfl⟩
    · have c29 := ci_eq (a := ((M.2.2.2.2.2.2.2.1 : Nat) : Int)) (b := 2) (nI_toInt (by omega)) (by decide) c29
      refine lv_iload_n F.1 F.2.1 dX8_isWay_32 rfl (lv_at hl 0 rfl) ?_
      refine lv_iconst (v := nI 2) F.1 F.2.1 dX8_isWay_33 (by decide) ?_
      refine lv_icmp_ge (tgt := 41) F.1 F.2.1 dX8_isWay_34 (by decide) (fun c34 => ?_) (fun c34 => ?_)
      · have c34 := ci_le (a := 2) (b := ((w % 100 : Nat) : Int)) (by decide) (nI_toInt (by omega)) c34
        refine lv_iconst (v := nI 0) F.1 F.2.1 dX8_isWay_41 (by decide) ?_
        refine lv_goto (tgt := 75) F.1 F.2.1 dX8_isWay_42 (by decide) ?_
        refine mre_z F hr hlk hW (by decide) dX8_isWay_75 ?_
        first | exact ⟨yn_1 (zway_iff.mpr ⟨by omega, by unfold zfit; omega⟩), rfl⟩ | exact ⟨yn_0 (fun z => by have z2 := zway_iff.mp z; unfold zfit at z2; omega), rfl⟩
      · have c34 := ci_nle (a := 2) (b := ((w % 100 : Nat) : Int)) (by decide) (nI_toInt (by omega)) c34
        refine lv_iconst (v := nI 1) F.1 F.2.1 dX8_isWay_37 (by decide) ?_
        refine lv_goto (tgt := 75) F.1 F.2.1 dX8_isWay_38 (by decide) ?_
        refine mre_z F hr hlk hW (by decide) dX8_isWay_75 ?_
        first | exact ⟨yn_1 (zway_iff.mpr ⟨by omega, by unfold zfit; omega⟩), rfl⟩ | exact ⟨yn_0 (fun z => by have z2 := zway_iff.mp z; unfold zfit at z2; omega), rfl⟩
  · skip
    refine lv_if_ne (tgt := 24) F.1 F.2.1 dX8_isWay_19 (by decide) (fun q => absurd q (by decide)) (fun _ => ?_)
    refine lv_iconst (v := nI 0) F.1 F.2.1 dX8_isWay_22 (by decide) ?_
    refine mre_z F hr hlk hW (by decide) dX8_isWay_23 ?_
    first | exact ⟨yn_1 (zway_iff.mpr ⟨by omega, by unfold zfit; omega⟩), rfl⟩ | exact ⟨yn_0 (fun z => by have z2 := zway_iff.mp z; unfold zfit at z2; omega), rfl⟩
set_option maxHeartbeats 4000000 in
set_option maxRecDepth 100000 in
theorem c_X8_isWay_neg (l : Launch) (G : MG) (M : MM) (P : MP) (L : ML) (N : MN) (V : MV) (n aa ac : Nat) (ra : Nat → Nat) (o : Nat → Int32 → Int32 → Int64) (zf zs : Nat → Int32) (zd : Nat → Int64) (hV : mV M n aa ac ra o zf zs zd) (x : Int32) (hx : x.toInt < 0) : Met l yX8_isWay (wC yX8_isWay cX8_isWay 4 (some .boolean)) (rmD 2) (mPc G [.ref (mga G 0), .int x] M P L N V) (va_Qi (fun r u => r = nI 0 ∧ u = (M, P, L, N, V)) (mB G) (mA G)) 0 0 (mA G) := by
  refine mst "DoFinderModel" (by decide) rfl (Nat.le_of_ble_eq_true rfl) ?_
  intro p e s m args below meth c ls F hr hlk hW hl
  have hl : lv_has ls 4 [(0, .ref (mga G 0)), (1, .int x)] := hl
  have hW : mW G s s.heap s.heap [] M P L N V := hW
  have b_x := i32b x
  refine lv_iload_n F.1 F.2.1 dX8_isWay_0 rfl (lv_at hl 1 rfl) ?_
  refine lv_bipush (v := nI 100) F.1 F.2.1 dX8_isWay_1 (by decide) ?_
  refine ax_div F (by decide) rfl dX8_isWay_3 ?_
  refine lv_istore_n (lv' := [(2, .int (x / (nI 100))), (0, .ref (mga G 0)), (1, .int x)]) F.1 F.2.1 dX8_isWay_4 rfl hl (by decide) rfl (fun ls hl => ?_)
  refine lv_iload_n F.1 F.2.1 dX8_isWay_5 rfl (lv_at hl 2 rfl) ?_
  refine lv_bipush (v := nI 100) F.1 F.2.1 dX8_isWay_6 (by decide) ?_
  refine ax_rem F (by decide) rfl dX8_isWay_8 ?_
  refine lv_istore_n (lv' := [(3, .int (x - x / (nI 100) * (nI 100))), (2, .int (x / (nI 100))), (0, .ref (mga G 0)), (1, .int x)]) F.1 F.2.1 dX8_isWay_9 rfl hl (by decide) rfl (fun ls hl => ?_)
  refine lv_iload_n F.1 F.2.1 dX8_isWay_10 rfl (lv_at hl 3 rfl) ?_
  refine lv_if_lt (tgt := 22) F.1 F.2.1 dX8_isWay_11 (by decide) (fun c11 => ?_) (fun c11 => ?_)
  rotate_left
  · exfalso
    have c11 := ci_nlt (a := x.toInt) (b := 0) rfl ci_0 c11
    omega
  have c11 := ci_lt (a := x.toInt) (b := 0) rfl ci_0 c11
  refine lv_iconst (v := nI 0) F.1 F.2.1 dX8_isWay_22 (by decide) ?_
  refine mre_z F hr hlk hW (by decide) dX8_isWay_23 ?_
  exact ⟨rfl, rfl⟩
theorem dX8_isJoint_0 : decode cX8_isJoint 0 = .ok (.iload_n 1, 1) := by decide +kernel
theorem dX8_isJoint_1 : decode cX8_isJoint 1 = .ok (.sipush 10000, 3) := by decide +kernel
theorem dX8_isJoint_4 : decode cX8_isJoint 4 = .ok (.idiv, 1) := by decide +kernel
theorem dX8_isJoint_5 : decode cX8_isJoint 5 = .ok (.iconst 1, 1) := by decide +kernel
theorem dX8_isJoint_6 : decode cX8_isJoint 6 = .ok (.isub, 1) := by decide +kernel
theorem dX8_isJoint_7 : decode cX8_isJoint 7 = .ok (.istore_n 2, 1) := by decide +kernel
theorem dX8_isJoint_8 : decode cX8_isJoint 8 = .ok (.iload_n 1, 1) := by decide +kernel
theorem dX8_isJoint_9 : decode cX8_isJoint 9 = .ok (.sipush 10000, 3) := by decide +kernel
theorem dX8_isJoint_12 : decode cX8_isJoint 12 = .ok (.if_icmp .lt 37, 3) := by decide +kernel
theorem dX8_isJoint_15 : decode cX8_isJoint 15 = .ok (.aload_n 0, 1) := by decide +kernel
theorem dX8_isJoint_16 : decode cX8_isJoint 16 = .ok (.iload_n 2, 1) := by decide +kernel
theorem dX8_isJoint_17 : decode cX8_isJoint 17 = .ok (.invokevirtual 70, 3) := by decide +kernel
theorem dX8_isJoint_20 : decode cX8_isJoint 20 = .ok (.ifCond .eq 29, 3) := by decide +kernel
theorem dX8_isJoint_23 : decode cX8_isJoint 23 = .ok (.aload_n 0, 1) := by decide +kernel
theorem dX8_isJoint_24 : decode cX8_isJoint 24 = .ok (.getfield 7, 3) := by decide +kernel
theorem dX8_isJoint_27 : decode cX8_isJoint 27 = .ok (.iload_n 2, 1) := by decide +kernel
theorem dX8_isJoint_28 : decode cX8_isJoint 28 = .ok (.iaload, 1) := by decide +kernel
theorem dX8_isJoint_29 : decode cX8_isJoint 29 = .ok (.iconst 1, 1) := by decide +kernel
theorem dX8_isJoint_30 : decode cX8_isJoint 30 = .ok (.if_icmp .ne 19, 3) := by decide +kernel
theorem dX8_isJoint_33 : decode cX8_isJoint 33 = .ok (.aload_n 0, 1) := by decide +kernel
theorem dX8_isJoint_34 : decode cX8_isJoint 34 = .ok (.iload_n 1, 1) := by decide +kernel
theorem dX8_isJoint_35 : decode cX8_isJoint 35 = .ok (.sipush 10000, 3) := by decide +kernel
theorem dX8_isJoint_38 : decode cX8_isJoint 38 = .ok (.irem, 1) := by decide +kernel
theorem dX8_isJoint_39 : decode cX8_isJoint 39 = .ok (.invokevirtual 125, 3) := by decide +kernel
theorem dX8_isJoint_42 : decode cX8_isJoint 42 = .ok (.ifCond .eq 7, 3) := by decide +kernel
theorem dX8_isJoint_45 : decode cX8_isJoint 45 = .ok (.iconst 1, 1) := by decide +kernel
theorem dX8_isJoint_46 : decode cX8_isJoint 46 = .ok (.goto 4, 3) := by decide +kernel
theorem dX8_isJoint_49 : decode cX8_isJoint 49 = .ok (.iconst 0, 1) := by decide +kernel
theorem dX8_isJoint_50 : decode cX8_isJoint 50 = .ok (.ireturn, 1) := by decide +kernel
set_option maxHeartbeats 4000000 in
set_option maxRecDepth 100000 in
theorem c_X8_isJoint (l : Launch) (G : MG) (M : MM) (P : MP) (L : ML) (N : MN) (V : MV) (n aa ac : Nat) (ra : Nat → Nat) (o : Nat → Int32 → Int32 → Int64) (zf zs : Nat → Int32) (zd : Nat → Int64) (hV : mV M n aa ac ra o zf zs zd) (w : Nat) (hw : w < 2147483648) : Met l yX8_isJoint (wC yX8_isJoint cX8_isJoint 3 (some .boolean)) (rmD 3) (mPc G [.ref (mga G 0), .int (nI w)] M P L N V) (va_Qi (fun r u => yn r (10000 ≤ w ∧ zok n aa ra w = true) ∧ u = (M, P, L, N, V)) (mB G) (mA G)) 0 0 (mA G) := by
  refine mst "DoFinderModel" (by decide) rfl (Nat.le_of_ble_eq_true rfl) ?_
  intro p e s m args below meth c ls F hr hlk hW hl
  have hl : lv_has ls 3 [(0, .ref (mga G 0)), (1, .int (nI w))] := hl
  have hW : mW G s s.heap s.heap [] M P L N V := hW
  obtain ⟨en, ea, ec, era, eo, ef, es, ed, bn, ba, bc, bf, brc, bra, bd⟩ := id hV
  refine lv_iload_n F.1 F.2.1 dX8_isJoint_0 rfl (lv_at hl 1 rfl) ?_
  refine lv_sipush (v := nI 10000) F.1 F.2.1 dX8_isJoint_1 (by decide) ?_
  refine ax_div (z := nI (w / 10000)) F (by decide) (pk_div (a := w) (d := 10000) (by omega) (by omega) (by omega)) dX8_isJoint_4 ?_
  refine lv_iconst (v := nI 1) F.1 F.2.1 dX8_isJoint_5 (by decide) ?_
  refine ax_sub F rfl dX8_isJoint_6 ?_
  refine ax_nm (a := ((w / 10000 : Nat) : Int) - 1) (ci_sub (nI_toInt (by omega)) (by decide) (by omega) (by omega)) (fun v1 hv1 => ?_)
  refine lv_istore_n (lv' := [(2, .int v1), (0, .ref (mga G 0)), (1, .int (nI w))]) F.1 F.2.1 dX8_isJoint_7 rfl hl (by decide) rfl (fun ls hl => ?_)
  refine lv_iload_n F.1 F.2.1 dX8_isJoint_8 rfl (lv_at hl 2 rfl) ?_
  refine lv_sipush (v := nI 10000) F.1 F.2.1 dX8_isJoint_9 (by decide) ?_
  refine lv_icmp_lt (tgt := 49) F.1 F.2.1 dX8_isJoint_12 (by decide) (fun c12 => ?_) (fun c12 => ?_)
  · have c12 := ci_lt (a := ((w : Nat) : Int)) (b := 10000) (nI_toInt (by omega)) (by decide) c12
    refine lv_iconst (v := nI 0) F.1 F.2.1 dX8_isJoint_49 (by decide) ?_
    refine mre_z F hr hlk hW (by decide) dX8_isJoint_50 ?_
    first | exact ⟨yn_1 ⟨by omega, zok_iff.mpr ⟨fun q => by omega, fun _ => ⟨by omega, by omega, y39⟩⟩⟩, rfl⟩ | exact ⟨yn_0 (fun z => by omega), rfl⟩ | exact ⟨yn_0 (fun z => by have z2 := (zok_iff.mp z.2).2 z.1; omega), rfl⟩ | exact ⟨yn_0 (fun z => y39 ((zok_iff.mp z.2).2 z.1).2.2), rfl⟩
  · have c12 := ci_nlt (a := ((w : Nat) : Int)) (b := 10000) (nI_toInt (by omega)) (by decide) c12
    refine lv_aload_n F.1 F.2.1 dX8_isJoint_15 rfl (lv_at hl 1 rfl) ?_
    refine lv_iload_n F.1 F.2.1 dX8_isJoint_16 rfl (lv_at hl 0 rfl) ?_
    refine mca_i (b := (mga G 0)) (As := [.int v1]) (rest := []) F (c_X8_isRoutine l G M P L N V (by omega) v1 (((w / 10000 : Nat) : Int) - 1) hv1) (xcw F.2.2.2.2 ca_X8_isRoutine tm_595 rfl rfl ⟨by decide, by decide⟩) (mr_X8 hW) hW rfl hl.1 rfl (Nat.le_of_ble_eq_true rfl) dX8_isJoint_17 (fun r17 u17 H locs hp17 hW => ?_)
    obtain ⟨hp17, rfl⟩ := hp17
    have hW : mW G s s.heap H locs M P L N V := hW
    rcases hp17 with ⟨rfl, y17⟩ | ⟨rfl, y17⟩
    · skip
      have q1 := bra (w / 10000 - 1) (by omega)
      refine lv_if_eq (tgt := 49) F.1 F.2.1 dX8_isJoint_20 (by decide) (fun q => absurd q (by decide)) (fun _ => ?_)
      refine lv_aload_n F.1 F.2.1 dX8_isJoint_23 rfl (lv_at hl 1 rfl) ?_
      refine mg_argumentsOf F hW tm_501 dX8_isJoint_24 ?_
      refine lv_iload_n F.1 F.2.1 dX8_isJoint_27 rfl (lv_at hl 0 rfl) ?_
      refine ml_ra (i := (w / 10000 - 1)) F hW (ix_of (by omega)) (by omega) dX8_isJoint_28 ?_
      refine ax_re (show nI (M.2.1 (w / 10000 - 1)) = nI (ra (w / 10000 - 1)) from congrArg nI (era _ (by omega))) ?_
      refine lv_iconst (v := nI 1) F.1 F.2.1 dX8_isJoint_29 (by decide) ?_
      refine lv_icmp_ne (tgt := 49) F.1 F.2.1 dX8_isJoint_30 (by decide) (fun c30 => ?_) (fun c30 => ?_)
      · have c30 := ci_ne (a := ((ra (w / 10000 - 1) : Nat) : Int)) (b := 1) (nI_toInt (by omega)) (by decide) c30
        refine lv_iconst (v := nI 0) F.1 F.2.1 dX8_isJoint_49 (by decide) ?_
        refine mre_z F hr hlk hW (by decide) dX8_isJoint_50 ?_
        first | exact ⟨yn_1 ⟨by omega, zok_iff.mpr ⟨fun q => by omega, fun _ => ⟨by omega, by omega, y39⟩⟩⟩, rfl⟩ | exact ⟨yn_0 (fun z => by omega), rfl⟩ | exact ⟨yn_0 (fun z => by have z2 := (zok_iff.mp z.2).2 z.1; omega), rfl⟩ | exact ⟨yn_0 (fun z => y39 ((zok_iff.mp z.2).2 z.1).2.2), rfl⟩
      · have c30 := ci_eq (a := ((ra (w / 10000 - 1) : Nat) : Int)) (b := 1) (nI_toInt (by omega)) (by decide) c30
        refine lv_aload_n F.1 F.2.1 dX8_isJoint_33 rfl (lv_at hl 1 rfl) ?_
        refine lv_iload_n F.1 F.2.1 dX8_isJoint_34 rfl (lv_at hl 2 rfl) ?_
        refine lv_sipush (v := nI 10000) F.1 F.2.1 dX8_isJoint_35 (by decide) ?_
        refine ax_rem (z := nI (w % 10000)) F (by decide) (pk_rem (a := w) (d := 10000) (by omega) (by omega) (by omega)) dX8_isJoint_38 ?_
        refine mca_i (b := (mga G 0)) (As := [.int (nI (w % 10000))]) (rest := []) F (c_X8_isWay l G M P L N V n aa ac ra o zf zs zd hV (w % 10000) (by omega)) (xcw F.2.2.2.2 ca_X8_isWay tm_675 rfl rfl ⟨by decide, by decide⟩) (mr_X8 hW) hW rfl hl.1 rfl (Nat.le_of_ble_eq_true rfl) dX8_isJoint_39 (fun r39 u39 H locs hp39 hW => ?_)
        obtain ⟨hp39, rfl⟩ := hp39
        have hW : mW G s s.heap H locs M P L N V := hW
        rcases hp39 with ⟨rfl, y39⟩ | ⟨rfl, y39⟩
        · skip
          refine lv_if_eq (tgt := 49) F.1 F.2.1 dX8_isJoint_42 (by decide) (fun q => absurd q (by decide)) (fun _ => ?_)
          refine lv_iconst (v := nI 1) F.1 F.2.1 dX8_isJoint_45 (by decide) ?_
          refine lv_goto (tgt := 50) F.1 F.2.1 dX8_isJoint_46 (by decide) ?_
          refine mre_z F hr hlk hW (by decide) dX8_isJoint_50 ?_
          first | exact ⟨yn_1 ⟨by omega, zok_iff.mpr ⟨fun q => by omega, fun _ => ⟨by omega, by omega, y39⟩⟩⟩, rfl⟩ | exact ⟨yn_0 (fun z => by omega), rfl⟩ | exact ⟨yn_0 (fun z => by have z2 := (zok_iff.mp z.2).2 z.1; omega), rfl⟩ | exact ⟨yn_0 (fun z => y39 ((zok_iff.mp z.2).2 z.1).2.2), rfl⟩
        · skip
          refine lv_if_eq (tgt := 49) F.1 F.2.1 dX8_isJoint_42 (by decide) (fun _ => ?_) (fun q => absurd q (by decide))
          refine lv_iconst (v := nI 0) F.1 F.2.1 dX8_isJoint_49 (by decide) ?_
          refine mre_z F hr hlk hW (by decide) dX8_isJoint_50 ?_
          first | exact ⟨yn_1 ⟨by omega, zok_iff.mpr ⟨fun q => by omega, fun _ => ⟨by omega, by omega, y39⟩⟩⟩, rfl⟩ | exact ⟨yn_0 (fun z => by omega), rfl⟩ | exact ⟨yn_0 (fun z => by have z2 := (zok_iff.mp z.2).2 z.1; omega), rfl⟩ | exact ⟨yn_0 (fun z => y39 ((zok_iff.mp z.2).2 z.1).2.2), rfl⟩
    · skip
      refine lv_if_eq (tgt := 49) F.1 F.2.1 dX8_isJoint_20 (by decide) (fun _ => ?_) (fun q => absurd q (by decide))
      refine lv_iconst (v := nI 0) F.1 F.2.1 dX8_isJoint_49 (by decide) ?_
      refine mre_z F hr hlk hW (by decide) dX8_isJoint_50 ?_
      first | exact ⟨yn_1 ⟨by omega, zok_iff.mpr ⟨fun q => by omega, fun _ => ⟨by omega, by omega, y39⟩⟩⟩, rfl⟩ | exact ⟨yn_0 (fun z => by omega), rfl⟩ | exact ⟨yn_0 (fun z => by have z2 := (zok_iff.mp z.2).2 z.1; omega), rfl⟩ | exact ⟨yn_0 (fun z => y39 ((zok_iff.mp z.2).2 z.1).2.2), rfl⟩
set_option maxHeartbeats 4000000 in
set_option maxRecDepth 100000 in
theorem c_X8_isJoint_neg (l : Launch) (G : MG) (M : MM) (P : MP) (L : ML) (N : MN) (V : MV) (n aa ac : Nat) (ra : Nat → Nat) (o : Nat → Int32 → Int32 → Int64) (zf zs : Nat → Int32) (zd : Nat → Int64) (hV : mV M n aa ac ra o zf zs zd) (x : Int32) (hx : x.toInt < 0) : Met l yX8_isJoint (wC yX8_isJoint cX8_isJoint 3 (some .boolean)) (rmD 3) (mPc G [.ref (mga G 0), .int x] M P L N V) (va_Qi (fun r u => r = nI 0 ∧ u = (M, P, L, N, V)) (mB G) (mA G)) 0 0 (mA G) := by
  refine mst "DoFinderModel" (by decide) rfl (Nat.le_of_ble_eq_true rfl) ?_
  intro p e s m args below meth c ls F hr hlk hW hl
  have hl : lv_has ls 3 [(0, .ref (mga G 0)), (1, .int x)] := hl
  have hW : mW G s s.heap s.heap [] M P L N V := hW
  have b_x := i32b x
  refine lv_iload_n F.1 F.2.1 dX8_isJoint_0 rfl (lv_at hl 1 rfl) ?_
  refine lv_sipush (v := nI 10000) F.1 F.2.1 dX8_isJoint_1 (by decide) ?_
  refine ax_div F (by decide) rfl dX8_isJoint_4 ?_
  refine lv_iconst (v := nI 1) F.1 F.2.1 dX8_isJoint_5 (by decide) ?_
  refine ax_sub F rfl dX8_isJoint_6 ?_
  refine lv_istore_n (lv' := [(2, .int ((x / (nI 10000)) - (nI 1))), (0, .ref (mga G 0)), (1, .int x)]) F.1 F.2.1 dX8_isJoint_7 rfl hl (by decide) rfl (fun ls hl => ?_)
  refine lv_iload_n F.1 F.2.1 dX8_isJoint_8 rfl (lv_at hl 2 rfl) ?_
  refine lv_sipush (v := nI 10000) F.1 F.2.1 dX8_isJoint_9 (by decide) ?_
  refine lv_icmp_lt (tgt := 49) F.1 F.2.1 dX8_isJoint_12 (by decide) (fun c12 => ?_) (fun c12 => ?_)
  rotate_left
  · exfalso
    have c12 := ci_nlt (a := x.toInt) (b := 10000) rfl (by decide) c12
    omega
  have c12 := ci_lt (a := x.toInt) (b := 10000) rfl (by decide) c12
  refine lv_iconst (v := nI 0) F.1 F.2.1 dX8_isJoint_49 (by decide) ?_
  refine mre_z F hr hlk hW (by decide) dX8_isJoint_50 ?_
  exact ⟨rfl, rfl⟩
theorem dX8_wayAt_0 : decode cX8_wayAt 0 = .ok (.iload_n 1, 1) := by decide +kernel
theorem dX8_wayAt_1 : decode cX8_wayAt 1 = .ok (.bipush 100, 2) := by decide +kernel
theorem dX8_wayAt_3 : decode cX8_wayAt 3 = .ok (.idiv, 1) := by decide +kernel
theorem dX8_wayAt_4 : decode cX8_wayAt 4 = .ok (.istore 4, 2) := by decide +kernel
theorem dX8_wayAt_6 : decode cX8_wayAt 6 = .ok (.iload_n 1, 1) := by decide +kernel
theorem dX8_wayAt_7 : decode cX8_wayAt 7 = .ok (.bipush 100, 2) := by decide +kernel
theorem dX8_wayAt_9 : decode cX8_wayAt 9 = .ok (.irem, 1) := by decide +kernel
theorem dX8_wayAt_10 : decode cX8_wayAt 10 = .ok (.istore 5, 2) := by decide +kernel
theorem dX8_wayAt_12 : decode cX8_wayAt 12 = .ok (.iload 5, 2) := by decide +kernel
theorem dX8_wayAt_14 : decode cX8_wayAt 14 = .ok (.iconst 2, 1) := by decide +kernel
theorem dX8_wayAt_15 : decode cX8_wayAt 15 = .ok (.if_icmp .ge 28, 3) := by decide +kernel
theorem dX8_wayAt_18 : decode cX8_wayAt 18 = .ok (.iload 5, 2) := by decide +kernel
theorem dX8_wayAt_20 : decode cX8_wayAt 20 = .ok (.ifCond .ne 14, 3) := by decide +kernel
theorem dX8_wayAt_23 : decode cX8_wayAt 23 = .ok (.aload_n 0, 1) := by decide +kernel
theorem dX8_wayAt_24 : decode cX8_wayAt 24 = .ok (.iload 4, 2) := by decide +kernel
theorem dX8_wayAt_26 : decode cX8_wayAt 26 = .ok (.iload_n 2, 1) := by decide +kernel
theorem dX8_wayAt_27 : decode cX8_wayAt 27 = .ok (.iload_n 3, 1) := by decide +kernel
theorem dX8_wayAt_28 : decode cX8_wayAt 28 = .ok (.invokevirtual 103, 3) := by decide +kernel
theorem dX8_wayAt_31 : decode cX8_wayAt 31 = .ok (.goto 11, 3) := by decide +kernel
theorem dX8_wayAt_34 : decode cX8_wayAt 34 = .ok (.aload_n 0, 1) := by decide +kernel
theorem dX8_wayAt_35 : decode cX8_wayAt 35 = .ok (.iload 4, 2) := by decide +kernel
theorem dX8_wayAt_37 : decode cX8_wayAt 37 = .ok (.iload_n 3, 1) := by decide +kernel
theorem dX8_wayAt_38 : decode cX8_wayAt 38 = .ok (.iload_n 2, 1) := by decide +kernel
theorem dX8_wayAt_39 : decode cX8_wayAt 39 = .ok (.invokevirtual 103, 3) := by decide +kernel
theorem dX8_wayAt_42 : decode cX8_wayAt 42 = .ok (.lreturn, 1) := by decide +kernel
theorem dX8_wayAt_43 : decode cX8_wayAt 43 = .ok (.iload 5, 2) := by decide +kernel
theorem dX8_wayAt_45 : decode cX8_wayAt 45 = .ok (.bipush 20, 2) := by decide +kernel
theorem dX8_wayAt_47 : decode cX8_wayAt 47 = .ok (.if_icmp .ge 18, 3) := by decide +kernel
theorem dX8_wayAt_50 : decode cX8_wayAt 50 = .ok (.aload_n 0, 1) := by decide +kernel
theorem dX8_wayAt_51 : decode cX8_wayAt 51 = .ok (.iload 4, 2) := by decide +kernel
theorem dX8_wayAt_53 : decode cX8_wayAt 53 = .ok (.iload 5, 2) := by decide +kernel
theorem dX8_wayAt_55 : decode cX8_wayAt 55 = .ok (.bipush 10, 2) := by decide +kernel
theorem dX8_wayAt_57 : decode cX8_wayAt 57 = .ok (.isub, 1) := by decide +kernel
theorem dX8_wayAt_58 : decode cX8_wayAt 58 = .ok (.iload_n 2, 1) := by decide +kernel
theorem dX8_wayAt_59 : decode cX8_wayAt 59 = .ok (.invokevirtual 103, 3) := by decide +kernel
theorem dX8_wayAt_62 : decode cX8_wayAt 62 = .ok (.goto 15, 3) := by decide +kernel
theorem dX8_wayAt_65 : decode cX8_wayAt 65 = .ok (.aload_n 0, 1) := by decide +kernel
theorem dX8_wayAt_66 : decode cX8_wayAt 66 = .ok (.iload 4, 2) := by decide +kernel
theorem dX8_wayAt_68 : decode cX8_wayAt 68 = .ok (.iload_n 2, 1) := by decide +kernel
theorem dX8_wayAt_69 : decode cX8_wayAt 69 = .ok (.iload 5, 2) := by decide +kernel
theorem dX8_wayAt_71 : decode cX8_wayAt 71 = .ok (.bipush 20, 2) := by decide +kernel
theorem dX8_wayAt_73 : decode cX8_wayAt 73 = .ok (.isub, 1) := by decide +kernel
theorem dX8_wayAt_74 : decode cX8_wayAt 74 = .ok (.invokevirtual 103, 3) := by decide +kernel
theorem dX8_wayAt_77 : decode cX8_wayAt 77 = .ok (.lreturn, 1) := by decide +kernel
set_option maxHeartbeats 4000000 in
set_option maxRecDepth 100000 in
theorem c_X8_wayAt (l : Launch) (G : MG) (M : MM) (P : MP) (L : ML) (N : MN) (V : MV) (n aa ac : Nat) (ra : Nat → Nat) (o : Nat → Int32 → Int32 → Int64) (zf zs : Nat → Int32) (zd : Nat → Int64) (hV : mV M n aa ac ra o zf zs zd) (w : Nat) (hw : w < 2147483648) (hk : zway n aa ra w = true) (a b : Int32) : Met l yX8_wayAt (wC yX8_wayAt cX8_wayAt 6 (some .long)) (rmD 3) (mPc G [.ref (mga G 0), .int (nI w), .int a, .int b] M P L N V) (va_Ql (fun v u => v = zwo o w a b ∧ ∃ P2 : MP, u = (M, P2, L, N, V)) (mB G) (mA G)) 0 0 (mA G) := by
  refine mst "DoFinderModel" (by decide) rfl (Nat.le_of_ble_eq_true rfl) ?_
  intro p e s m args below meth c ls F hr hlk hW hl
  have hl : lv_has ls 6 [(0, .ref (mga G 0)), (1, .int (nI w)), (2, .int a), (3, .int b)] := hl
  have hW : mW G s s.heap s.heap [] M P L N V := hW
  have b_a := i32b a
  have b_b := i32b b
  obtain ⟨en, ea, ec, era, eo, ef, es, ed, bn, ba, bc, bf, brc, bra, bd⟩ := id hV
  have hz2 := zway_iff.mp hk
  have hz3 : w % 100 < 2 ∨ (10 ≤ w % 100 ∧ w % 100 < 30) := by have := hz2.2; unfold zfit at this; omega
  have hz4 := hz2.1
  refine lv_iload_n F.1 F.2.1 dX8_wayAt_0 rfl (lv_at hl 1 rfl) ?_
  refine lv_bipush (v := nI 100) F.1 F.2.1 dX8_wayAt_1 (by decide) ?_
  refine ax_div (z := nI (w / 100)) F (by decide) (pk_div (a := w) (d := 100) (by omega) (by omega) (by omega)) dX8_wayAt_3 ?_
  refine lv_istore (lv' := [(4, .int (nI (w / 100))), (0, .ref (mga G 0)), (1, .int (nI w)), (2, .int a), (3, .int b)]) F.1 F.2.1 dX8_wayAt_4 hl (by decide) rfl (fun ls hl => ?_)
  refine lv_iload_n F.1 F.2.1 dX8_wayAt_6 rfl (lv_at hl 2 rfl) ?_
  refine lv_bipush (v := nI 100) F.1 F.2.1 dX8_wayAt_7 (by decide) ?_
  refine ax_rem (z := nI (w % 100)) F (by decide) (pk_rem (a := w) (d := 100) (by omega) (by omega) (by omega)) dX8_wayAt_9 ?_
  refine lv_istore (lv' := [(5, .int (nI (w % 100))), (4, .int (nI (w / 100))), (0, .ref (mga G 0)), (1, .int (nI w)), (2, .int a), (3, .int b)]) F.1 F.2.1 dX8_wayAt_10 hl (by decide) rfl (fun ls hl => ?_)
  refine lv_iload F.1 F.2.1 dX8_wayAt_12 (lv_at hl 0 rfl) ?_
  refine lv_iconst (v := nI 2) F.1 F.2.1 dX8_wayAt_14 (by decide) ?_
  refine lv_icmp_ge (tgt := 43) F.1 F.2.1 dX8_wayAt_15 (by decide) (fun c15 => ?_) (fun c15 => ?_)
  · have c15 := ci_le (a := 2) (b := ((w % 100 : Nat) : Int)) (by decide) (nI_toInt (by omega)) c15
    refine lv_iload F.1 F.2.1 dX8_wayAt_43 (lv_at hl 0 rfl) ?_
    refine lv_bipush (v := nI 20) F.1 F.2.1 dX8_wayAt_45 (by decide) ?_
    refine lv_icmp_ge (tgt := 65) F.1 F.2.1 dX8_wayAt_47 (by decide) (fun c47 => ?_) (fun c47 => ?_)
    · have c47 := ci_le (a := 20) (b := ((w % 100 : Nat) : Int)) (by decide) (nI_toInt (by omega)) c47
      refine lv_aload_n F.1 F.2.1 dX8_wayAt_65 rfl (lv_at hl 2 rfl) ?_
      refine lv_iload F.1 F.2.1 dX8_wayAt_66 (lv_at hl 1 rfl) ?_
      refine lv_iload_n F.1 F.2.1 dX8_wayAt_68 rfl (lv_at hl 4 rfl) ?_
      refine lv_iload F.1 F.2.1 dX8_wayAt_69 (lv_at hl 0 rfl) ?_
      refine lv_bipush (v := nI 20) F.1 F.2.1 dX8_wayAt_71 (by decide) ?_
      refine ax_sub (z := nI ((w % 100) - 20)) F (pk_sub (a := w % 100) (b := 20) (by omega)) dX8_wayAt_73 ?_
      refine mca_l (b := (mga G 0)) (As := [.int (nI (w / 100)), .int a, .int (nI ((w % 100) - 20))]) (rest := []) F (c_X8_runIt l G M P L N V (w / 100) (by omega) (brc _ (by omega)) bf a (nI ((w % 100) - 20))) (xcw F.2.2.2.2 ca_X8_runIt tm_607 rfl rfl ⟨by decide, by decide⟩) (mr_X8 hW) hW rfl hl.1 rfl (Nat.le_of_ble_eq_true rfl) dX8_wayAt_74 (fun r74 u74 H locs hp74 hW => ?_)
      obtain ⟨rfl, P74, rfl, e74⟩ := hp74
      have hW : mW G s s.heap H locs M P74 L N V := hW
      refine ax_reL (eo (w / 100) (by omega) a (nI ((w % 100) - 20))) ?_
      refine mre_l F hr hlk hW dX8_wayAt_77 ?_
      exact ⟨by unfold zwo; repeat first | rw [if_pos (by omega)] | rw [if_neg (by omega)], _, rfl⟩
    · have c47 := ci_nle (a := 20) (b := ((w % 100 : Nat) : Int)) (by decide) (nI_toInt (by omega)) c47
      refine lv_aload_n F.1 F.2.1 dX8_wayAt_50 rfl (lv_at hl 2 rfl) ?_
      refine lv_iload F.1 F.2.1 dX8_wayAt_51 (lv_at hl 1 rfl) ?_
      refine lv_iload F.1 F.2.1 dX8_wayAt_53 (lv_at hl 0 rfl) ?_
      refine lv_bipush (v := nI 10) F.1 F.2.1 dX8_wayAt_55 (by decide) ?_
      refine ax_sub (z := nI ((w % 100) - 10)) F (pk_sub (a := w % 100) (b := 10) (by omega)) dX8_wayAt_57 ?_
      refine lv_iload_n F.1 F.2.1 dX8_wayAt_58 rfl (lv_at hl 4 rfl) ?_
      refine mca_l (b := (mga G 0)) (As := [.int (nI (w / 100)), .int (nI ((w % 100) - 10)), .int a]) (rest := []) F (c_X8_runIt l G M P L N V (w / 100) (by omega) (brc _ (by omega)) bf (nI ((w % 100) - 10)) a) (xcw F.2.2.2.2 ca_X8_runIt tm_607 rfl rfl ⟨by decide, by decide⟩) (mr_X8 hW) hW rfl hl.1 rfl (Nat.le_of_ble_eq_true rfl) dX8_wayAt_59 (fun r59 u59 H locs hp59 hW => ?_)
      obtain ⟨rfl, P59, rfl, e59⟩ := hp59
      have hW : mW G s s.heap H locs M P59 L N V := hW
      refine ax_reL (eo (w / 100) (by omega) (nI ((w % 100) - 10)) a) ?_
      refine lv_goto (tgt := 77) F.1 F.2.1 dX8_wayAt_62 (by decide) ?_
      refine mre_l F hr hlk hW dX8_wayAt_77 ?_
      exact ⟨by unfold zwo; repeat first | rw [if_pos (by omega)] | rw [if_neg (by omega)], _, rfl⟩
  · have c15 := ci_nle (a := 2) (b := ((w % 100 : Nat) : Int)) (by decide) (nI_toInt (by omega)) c15
    refine lv_iload F.1 F.2.1 dX8_wayAt_18 (lv_at hl 0 rfl) ?_
    refine lv_if_ne (tgt := 34) F.1 F.2.1 dX8_wayAt_20 (by decide) (fun c20 => ?_) (fun c20 => ?_)
    · have c20 := ci_ne (a := ((w % 100 : Nat) : Int)) (b := 0) (nI_toInt (by omega)) ci_0 c20
      refine lv_aload_n F.1 F.2.1 dX8_wayAt_34 rfl (lv_at hl 2 rfl) ?_
      refine lv_iload F.1 F.2.1 dX8_wayAt_35 (lv_at hl 1 rfl) ?_
      refine lv_iload_n F.1 F.2.1 dX8_wayAt_37 rfl (lv_at hl 5 rfl) ?_
      refine lv_iload_n F.1 F.2.1 dX8_wayAt_38 rfl (lv_at hl 4 rfl) ?_
      refine mca_l (b := (mga G 0)) (As := [.int (nI (w / 100)), .int b, .int a]) (rest := []) F (c_X8_runIt l G M P L N V (w / 100) (by omega) (brc _ (by omega)) bf b a) (xcw F.2.2.2.2 ca_X8_runIt tm_607 rfl rfl ⟨by decide, by decide⟩) (mr_X8 hW) hW rfl hl.1 rfl (Nat.le_of_ble_eq_true rfl) dX8_wayAt_39 (fun r39 u39 H locs hp39 hW => ?_)
      obtain ⟨rfl, P39, rfl, e39⟩ := hp39
      have hW : mW G s s.heap H locs M P39 L N V := hW
      refine ax_reL (eo (w / 100) (by omega) b a) ?_
      refine mre_l F hr hlk hW dX8_wayAt_42 ?_
      exact ⟨by unfold zwo; repeat first | rw [if_pos (by omega)] | rw [if_neg (by omega)], _, rfl⟩
    · have c20 := ci_eq (a := ((w % 100 : Nat) : Int)) (b := 0) (nI_toInt (by omega)) ci_0 c20
      refine lv_aload_n F.1 F.2.1 dX8_wayAt_23 rfl (lv_at hl 2 rfl) ?_
      refine lv_iload F.1 F.2.1 dX8_wayAt_24 (lv_at hl 1 rfl) ?_
      refine lv_iload_n F.1 F.2.1 dX8_wayAt_26 rfl (lv_at hl 4 rfl) ?_
      refine lv_iload_n F.1 F.2.1 dX8_wayAt_27 rfl (lv_at hl 5 rfl) ?_
      refine mca_l (b := (mga G 0)) (As := [.int (nI (w / 100)), .int a, .int b]) (rest := []) F (c_X8_runIt l G M P L N V (w / 100) (by omega) (brc _ (by omega)) bf a b) (xcw F.2.2.2.2 ca_X8_runIt tm_607 rfl rfl ⟨by decide, by decide⟩) (mr_X8 hW) hW rfl hl.1 rfl (Nat.le_of_ble_eq_true rfl) dX8_wayAt_28 (fun r28 u28 H locs hp28 hW => ?_)
      obtain ⟨rfl, P28, rfl, e28⟩ := hp28
      have hW : mW G s s.heap H locs M P28 L N V := hW
      refine ax_reL (eo (w / 100) (by omega) a b) ?_
      refine lv_goto (tgt := 42) F.1 F.2.1 dX8_wayAt_31 (by decide) ?_
      refine mre_l F hr hlk hW dX8_wayAt_42 ?_
      exact ⟨by unfold zwo; repeat first | rw [if_pos (by omega)] | rw [if_neg (by omega)], _, rfl⟩
theorem dX8_outcomeAt_0 : decode cX8_outcomeAt 0 = .ok (.aload_n 0, 1) := by decide +kernel
theorem dX8_outcomeAt_1 : decode cX8_outcomeAt 1 = .ok (.iload_n 1, 1) := by decide +kernel
theorem dX8_outcomeAt_2 : decode cX8_outcomeAt 2 = .ok (.sipush 10000, 3) := by decide +kernel
theorem dX8_outcomeAt_5 : decode cX8_outcomeAt 5 = .ok (.irem, 1) := by decide +kernel
theorem dX8_outcomeAt_6 : decode cX8_outcomeAt 6 = .ok (.iload_n 2, 1) := by decide +kernel
theorem dX8_outcomeAt_7 : decode cX8_outcomeAt 7 = .ok (.iload_n 3, 1) := by decide +kernel
theorem dX8_outcomeAt_8 : decode cX8_outcomeAt 8 = .ok (.invokevirtual 128, 3) := by decide +kernel
theorem dX8_outcomeAt_11 : decode cX8_outcomeAt 11 = .ok (.lstore 4, 2) := by decide +kernel
theorem dX8_outcomeAt_13 : decode cX8_outcomeAt 13 = .ok (.iload_n 1, 1) := by decide +kernel
theorem dX8_outcomeAt_14 : decode cX8_outcomeAt 14 = .ok (.sipush 10000, 3) := by decide +kernel
theorem dX8_outcomeAt_17 : decode cX8_outcomeAt 17 = .ok (.if_icmp .lt 21, 3) := by decide +kernel
theorem dX8_outcomeAt_20 : decode cX8_outcomeAt 20 = .ok (.lload 4, 2) := by decide +kernel
theorem dX8_outcomeAt_22 : decode cX8_outcomeAt 22 = .ok (.ldc2_w 97, 3) := by decide +kernel
theorem dX8_outcomeAt_25 : decode cX8_outcomeAt 25 = .ok (.lcmp, 1) := by decide +kernel
theorem dX8_outcomeAt_26 : decode cX8_outcomeAt 26 = .ok (.ifCond .eq 12, 3) := by decide +kernel
theorem dX8_outcomeAt_29 : decode cX8_outcomeAt 29 = .ok (.lload 4, 2) := by decide +kernel
theorem dX8_outcomeAt_31 : decode cX8_outcomeAt 31 = .ok (.ldc2_w 92, 3) := by decide +kernel
theorem dX8_outcomeAt_34 : decode cX8_outcomeAt 34 = .ok (.lcmp, 1) := by decide +kernel
theorem dX8_outcomeAt_35 : decode cX8_outcomeAt 35 = .ok (.ifCond .ne 8, 3) := by decide +kernel
theorem dX8_outcomeAt_38 : decode cX8_outcomeAt 38 = .ok (.lload 4, 2) := by decide +kernel
theorem dX8_outcomeAt_40 : decode cX8_outcomeAt 40 = .ok (.goto 18, 3) := by decide +kernel
theorem dX8_outcomeAt_43 : decode cX8_outcomeAt 43 = .ok (.aload_n 0, 1) := by decide +kernel
theorem dX8_outcomeAt_44 : decode cX8_outcomeAt 44 = .ok (.iload_n 1, 1) := by decide +kernel
theorem dX8_outcomeAt_45 : decode cX8_outcomeAt 45 = .ok (.sipush 10000, 3) := by decide +kernel
theorem dX8_outcomeAt_48 : decode cX8_outcomeAt 48 = .ok (.idiv, 1) := by decide +kernel
theorem dX8_outcomeAt_49 : decode cX8_outcomeAt 49 = .ok (.iconst 1, 1) := by decide +kernel
theorem dX8_outcomeAt_50 : decode cX8_outcomeAt 50 = .ok (.isub, 1) := by decide +kernel
theorem dX8_outcomeAt_51 : decode cX8_outcomeAt 51 = .ok (.lload 4, 2) := by decide +kernel
theorem dX8_outcomeAt_53 : decode cX8_outcomeAt 53 = .ok (.l2i, 1) := by decide +kernel
theorem dX8_outcomeAt_54 : decode cX8_outcomeAt 54 = .ok (.iconst 0, 1) := by decide +kernel
theorem dX8_outcomeAt_55 : decode cX8_outcomeAt 55 = .ok (.invokevirtual 103, 3) := by decide +kernel
theorem dX8_outcomeAt_58 : decode cX8_outcomeAt 58 = .ok (.lreturn, 1) := by decide +kernel
set_option maxHeartbeats 4000000 in
set_option maxRecDepth 100000 in
theorem c_X8_outcomeAt (l : Launch) (G : MG) (M : MM) (P : MP) (L : ML) (N : MN) (V : MV) (n aa ac : Nat) (ra : Nat → Nat) (o : Nat → Int32 → Int32 → Int64) (zf zs : Nat → Int32) (zd : Nat → Int64) (hV : mV M n aa ac ra o zf zs zd) (w : Nat) (hw : w < 2147483648) (hk : zok n aa ra w = true) (a b : Int32) : Met l yX8_outcomeAt (wC yX8_outcomeAt cX8_outcomeAt 6 (some .long)) (rmD 4) (mPc G [.ref (mga G 0), .int (nI w), .int a, .int b] M P L N V) (va_Ql (fun v u => v = zjo o w a b ∧ ∃ P2 : MP, u = (M, P2, L, N, V)) (mB G) (mA G)) 0 0 (mA G) := by
  refine mst "DoFinderModel" (by decide) rfl (Nat.le_of_ble_eq_true rfl) ?_
  intro p e s m args below meth c ls F hr hlk hW hl
  have hl : lv_has ls 6 [(0, .ref (mga G 0)), (1, .int (nI w)), (2, .int a), (3, .int b)] := hl
  have hW : mW G s s.heap s.heap [] M P L N V := hW
  have b_a := i32b a
  have b_b := i32b b
  obtain ⟨en, ea, ec, era, eo, ef, es, ed, bn, ba, bc, bf, brc, bra, bd⟩ := id hV
  have hz := zok_iff.mp hk
  have hz1 : zway n aa ra (w % 10000) = true := by
    by_cases q : w < 10000
    · rw [Nat.mod_eq_of_lt q]; exact hz.1 q
    · exact (hz.2 (by omega)).2.2
  refine lv_aload_n F.1 F.2.1 dX8_outcomeAt_0 rfl (lv_at hl 0 rfl) ?_
  refine lv_iload_n F.1 F.2.1 dX8_outcomeAt_1 rfl (lv_at hl 1 rfl) ?_
  refine lv_sipush (v := nI 10000) F.1 F.2.1 dX8_outcomeAt_2 (by decide) ?_
  refine ax_rem (z := nI (w % 10000)) F (by decide) (pk_rem (a := w) (d := 10000) (by omega) (by omega) (by omega)) dX8_outcomeAt_5 ?_
  refine lv_iload_n F.1 F.2.1 dX8_outcomeAt_6 rfl (lv_at hl 2 rfl) ?_
  refine lv_iload_n F.1 F.2.1 dX8_outcomeAt_7 rfl (lv_at hl 3 rfl) ?_
  refine mca_l (b := (mga G 0)) (As := [.int (nI (w % 10000)), .int a, .int b]) (rest := []) F (c_X8_wayAt l G M P L N V n aa ac ra o zf zs zd hV (w % 10000) (by omega) hz1 a b) (xcw F.2.2.2.2 ca_X8_wayAt tm_687 rfl rfl ⟨by decide, by decide⟩) (mr_X8 hW) hW rfl hl.1 rfl (Nat.le_of_ble_eq_true rfl) dX8_outcomeAt_8 (fun r8 u8 H locs hp8 hW => ?_)
  obtain ⟨rfl, P8, rfl⟩ := hp8
  have hW : mW G s s.heap H locs M P8 L N V := hW
  refine lv_lstore (lv' := [(4, .long (zwo o (w % 10000) a b)), (0, .ref (mga G 0)), (1, .int (nI w)), (2, .int a), (3, .int b)]) F.1 F.2.1 dX8_outcomeAt_11 hl (by decide) rfl (fun ls hl => ?_)
  refine lv_iload_n F.1 F.2.1 dX8_outcomeAt_13 rfl (lv_at hl 2 rfl) ?_
  refine lv_sipush (v := nI 10000) F.1 F.2.1 dX8_outcomeAt_14 (by decide) ?_
  refine lv_icmp_lt (tgt := 38) F.1 F.2.1 dX8_outcomeAt_17 (by decide) (fun c17 => ?_) (fun c17 => ?_)
  · have c17 := ci_lt (a := ((w : Nat) : Int)) (b := 10000) (nI_toInt (by omega)) (by decide) c17
    skip
    refine lv_lload F.1 F.2.1 dX8_outcomeAt_38 (lv_at hl 0 rfl) ?_
    refine lv_goto (tgt := 58) F.1 F.2.1 dX8_outcomeAt_40 (by decide) ?_
    refine mre_l F hr hlk hW dX8_outcomeAt_58 ?_
    exact ⟨by unfold zjo; rw [if_pos (Or.inl (by omega))], _, rfl⟩
  · have c17 := ci_nlt (a := ((w : Nat) : Int)) (b := 10000) (nI_toInt (by omega)) (by decide) c17
    have hz5 := hz.2 (by omega)
    refine lv_lload F.1 F.2.1 dX8_outcomeAt_20 (lv_at hl 0 rfl) ?_
    refine lv_ldc2 (v := zBAD) F.1 F.2.1 F.2.2.2.1 (F.2.2.2.2 _ tm_619) dX8_outcomeAt_22 ?_
    refine W.lcmp F.1 F.2.1 dX8_outcomeAt_25 ?_
    refine lv_if_eq (tgt := 38) F.1 F.2.1 dX8_outcomeAt_26 (by decide) (fun c26 => ?_) (fun c26 => ?_)
    · have c26 := (lg_cmp_eq _ _).mp c26
      skip
      refine lv_lload F.1 F.2.1 dX8_outcomeAt_38 (lv_at hl 0 rfl) ?_
      refine lv_goto (tgt := 58) F.1 F.2.1 dX8_outcomeAt_40 (by decide) ?_
      refine mre_l F hr hlk hW dX8_outcomeAt_58 ?_
      exact ⟨by unfold zjo; rw [if_pos (Or.inr (Or.inl c26))], _, rfl⟩
    · have c26 := fun q => c26 ((lg_cmp_eq _ _).mpr q)
      refine lv_lload F.1 F.2.1 dX8_outcomeAt_29 (lv_at hl 0 rfl) ?_
      refine lv_ldc2 (v := zUNK) F.1 F.2.1 F.2.2.2.1 (F.2.2.2.2 _ tm_611) dX8_outcomeAt_31 ?_
      refine W.lcmp F.1 F.2.1 dX8_outcomeAt_34 ?_
      refine lv_if_ne (tgt := 43) F.1 F.2.1 dX8_outcomeAt_35 (by decide) (fun c35 => ?_) (fun c35 => ?_)
      · have c35 := fun q => c35 ((lg_cmp_eq _ _).mpr q)
        skip
        refine lv_aload_n F.1 F.2.1 dX8_outcomeAt_43 rfl (lv_at hl 1 rfl) ?_
        refine lv_iload_n F.1 F.2.1 dX8_outcomeAt_44 rfl (lv_at hl 2 rfl) ?_
        refine lv_sipush (v := nI 10000) F.1 F.2.1 dX8_outcomeAt_45 (by decide) ?_
        refine ax_div (z := nI (w / 10000)) F (by decide) (pk_div (a := w) (d := 10000) (by omega) (by omega) (by omega)) dX8_outcomeAt_48 ?_
        refine lv_iconst (v := nI 1) F.1 F.2.1 dX8_outcomeAt_49 (by decide) ?_
        refine ax_sub (z := nI ((w / 10000) - 1)) F (pk_sub (a := w / 10000) (b := 1) (by omega)) dX8_outcomeAt_50 ?_
        refine lv_lload F.1 F.2.1 dX8_outcomeAt_51 (lv_at hl 0 rfl) ?_
        refine lv_l2i F.1 F.2.1 dX8_outcomeAt_53 rfl ?_
        refine lv_iconst (v := nI 0) F.1 F.2.1 dX8_outcomeAt_54 (by decide) ?_
        refine mca_l (b := (mga G 0)) (As := [.int (nI ((w / 10000) - 1)), .int (((zwo o (w % 10000) a b)).toInt32), .int (nI 0)]) (rest := []) F (c_X8_runIt l G M P8 L N V ((w / 10000) - 1) (by omega) (brc _ (by omega)) bf (((zwo o (w % 10000) a b)).toInt32) (nI 0)) (xcw F.2.2.2.2 ca_X8_runIt tm_607 rfl rfl ⟨by decide, by decide⟩) (mr_X8 hW) hW rfl hl.1 rfl (Nat.le_of_ble_eq_true rfl) dX8_outcomeAt_55 (fun r55 u55 H locs hp55 hW => ?_)
        obtain ⟨rfl, P55, rfl, e55⟩ := hp55
        have hW : mW G s s.heap H locs M P55 L N V := hW
        refine ax_reL (eo ((w / 10000) - 1) (by omega) (((zwo o (w % 10000) a b)).toInt32) (nI 0)) ?_
        refine mre_l F hr hlk hW dX8_outcomeAt_58 ?_
        exact ⟨by unfold zjo; rw [if_neg (fun q => q.elim (fun q => by omega) (fun q => q.elim c26 c35))], _, rfl⟩
      · have c35 := (lg_cmp_eq _ _).mp c35
        skip
        refine lv_lload F.1 F.2.1 dX8_outcomeAt_38 (lv_at hl 0 rfl) ?_
        refine lv_goto (tgt := 58) F.1 F.2.1 dX8_outcomeAt_40 (by decide) ?_
        refine mre_l F hr hlk hW dX8_outcomeAt_58 ?_
        exact ⟨by unfold zjo; rw [if_pos (Or.inr (Or.inr c35))], _, rfl⟩
theorem dX8_would_0 : decode cX8_would 0 = .ok (.aload_n 0, 1) := by decide +kernel
theorem dX8_would_1 : decode cX8_would 1 = .ok (.iload_n 1, 1) := by decide +kernel
theorem dX8_would_2 : decode cX8_would 2 = .ok (.invokevirtual 125, 3) := by decide +kernel
theorem dX8_would_5 : decode cX8_would 5 = .ok (.ifCond .ne 11, 3) := by decide +kernel
theorem dX8_would_8 : decode cX8_would 8 = .ok (.aload_n 0, 1) := by decide +kernel
theorem dX8_would_9 : decode cX8_would 9 = .ok (.iload_n 1, 1) := by decide +kernel
theorem dX8_would_10 : decode cX8_would 10 = .ok (.invokevirtual 131, 3) := by decide +kernel
theorem dX8_would_13 : decode cX8_would 13 = .ok (.ifCond .eq 13, 3) := by decide +kernel
theorem dX8_would_16 : decode cX8_would 16 = .ok (.aload_n 0, 1) := by decide +kernel
theorem dX8_would_17 : decode cX8_would 17 = .ok (.iload_n 1, 1) := by decide +kernel
theorem dX8_would_18 : decode cX8_would 18 = .ok (.iload_n 2, 1) := by decide +kernel
theorem dX8_would_19 : decode cX8_would 19 = .ok (.iload_n 3, 1) := by decide +kernel
theorem dX8_would_20 : decode cX8_would 20 = .ok (.invokevirtual 134, 3) := by decide +kernel
theorem dX8_would_23 : decode cX8_would 23 = .ok (.goto 6, 3) := by decide +kernel
theorem dX8_would_26 : decode cX8_would 26 = .ok (.ldc2_w 107, 3) := by decide +kernel
theorem dX8_would_29 : decode cX8_would 29 = .ok (.lreturn, 1) := by decide +kernel
set_option maxHeartbeats 4000000 in
set_option maxRecDepth 100000 in
theorem c_X8_would (l : Launch) (G : MG) (M : MM) (P : MP) (L : ML) (N : MN) (V : MV) (n aa ac : Nat) (ra : Nat → Nat) (o : Nat → Int32 → Int32 → Int64) (zf zs : Nat → Int32) (zd : Nat → Int64) (hV : mV M n aa ac ra o zf zs zd) (w : Nat) (hw : w < 2147483648) (a b : Int32) : Met l yX8_would (wC yX8_would cX8_would 4 (some .long)) (rmD 5) (mPc G [.ref (mga G 0), .int (nI w), .int a, .int b] M P L N V) (va_Ql (fun v u => ((zok n aa ra w = true ∧ v = zjo o w a b) ∨ (¬ zok n aa ra w = true ∧ v = zNOT)) ∧ ∃ (P2 : MP) (L2 : ML) (N2 : MN) (V2 : MV), u = (M, P2, L2, N2, V2)) (mB G) (mA G)) 0 0 (mA G) := by
  refine mst "DoFinderModel" (by decide) rfl (Nat.le_of_ble_eq_true rfl) ?_
  intro p e s m args below meth c ls F hr hlk hW hl
  have hl : lv_has ls 4 [(0, .ref (mga G 0)), (1, .int (nI w)), (2, .int a), (3, .int b)] := hl
  have hW : mW G s s.heap s.heap [] M P L N V := hW
  have b_a := i32b a
  have b_b := i32b b
  obtain ⟨en, ea, ec, era, eo, ef, es, ed, bn, ba, bc, bf, brc, bra, bd⟩ := id hV
  refine lv_aload_n F.1 F.2.1 dX8_would_0 rfl (lv_at hl 0 rfl) ?_
  refine lv_iload_n F.1 F.2.1 dX8_would_1 rfl (lv_at hl 1 rfl) ?_
  refine mca_i (b := (mga G 0)) (As := [.int (nI w)]) (rest := []) F (c_X8_isWay l G M P L N V n aa ac ra o zf zs zd hV w (by omega)) (xcw F.2.2.2.2 ca_X8_isWay tm_675 rfl rfl ⟨by decide, by decide⟩) (mr_X8 hW) hW rfl hl.1 rfl (Nat.le_of_ble_eq_true rfl) dX8_would_2 (fun r2 u2 H locs hp2 hW => ?_)
  obtain ⟨hp2, rfl⟩ := hp2
  have hW : mW G s s.heap H locs M P L N V := hW
  rcases hp2 with ⟨rfl, y2⟩ | ⟨rfl, y2⟩
  · skip
    have hkk : zok n aa ra w = true := zok_of_way bn y2
    refine lv_if_ne (tgt := 16) F.1 F.2.1 dX8_would_5 (by decide) (fun _ => ?_) (fun q => absurd q (by decide))
    refine lv_aload_n F.1 F.2.1 dX8_would_16 rfl (lv_at hl 0 rfl) ?_
    refine lv_iload_n F.1 F.2.1 dX8_would_17 rfl (lv_at hl 1 rfl) ?_
    refine lv_iload_n F.1 F.2.1 dX8_would_18 rfl (lv_at hl 2 rfl) ?_
    refine lv_iload_n F.1 F.2.1 dX8_would_19 rfl (lv_at hl 3 rfl) ?_
    refine mca_l (b := (mga G 0)) (As := [.int (nI w), .int a, .int b]) (rest := []) F (c_X8_outcomeAt l G M P L N V n aa ac ra o zf zs zd hV w (by omega) hkk a b) (xcw F.2.2.2.2 ca_X8_outcomeAt tm_683 rfl rfl ⟨by decide, by decide⟩) (mr_X8 hW) hW rfl hl.1 rfl (Nat.le_of_ble_eq_true rfl) dX8_would_20 (fun r20 u20 H locs hp20 hW => ?_)
    obtain ⟨rfl, P20, rfl⟩ := hp20
    have hW : mW G s s.heap H locs M P20 L N V := hW
    refine lv_goto (tgt := 29) F.1 F.2.1 dX8_would_23 (by decide) ?_
    refine mre_l F hr hlk hW dX8_would_29 ?_
    exact ⟨Or.inl ⟨hkk, rfl⟩, _, _, _, _, rfl⟩
  · skip
    refine lv_if_ne (tgt := 16) F.1 F.2.1 dX8_would_5 (by decide) (fun q => absurd q (by decide)) (fun _ => ?_)
    refine lv_aload_n F.1 F.2.1 dX8_would_8 rfl (lv_at hl 0 rfl) ?_
    refine lv_iload_n F.1 F.2.1 dX8_would_9 rfl (lv_at hl 1 rfl) ?_
    refine mca_i (b := (mga G 0)) (As := [.int (nI w)]) (rest := []) F (c_X8_isJoint l G M P L N V n aa ac ra o zf zs zd hV w (by omega)) (xcw F.2.2.2.2 ca_X8_isJoint tm_679 rfl rfl ⟨by decide, by decide⟩) (mr_X8 hW) hW rfl hl.1 rfl (Nat.le_of_ble_eq_true rfl) dX8_would_10 (fun r10 u10 H locs hp10 hW => ?_)
    obtain ⟨hp10, rfl⟩ := hp10
    have hW : mW G s s.heap H locs M P L N V := hW
    rcases hp10 with ⟨rfl, y10⟩ | ⟨rfl, y10⟩
    · skip
      have hkk := y10.2
      refine lv_if_eq (tgt := 26) F.1 F.2.1 dX8_would_13 (by decide) (fun q => absurd q (by decide)) (fun _ => ?_)
      refine lv_aload_n F.1 F.2.1 dX8_would_16 rfl (lv_at hl 0 rfl) ?_
      refine lv_iload_n F.1 F.2.1 dX8_would_17 rfl (lv_at hl 1 rfl) ?_
      refine lv_iload_n F.1 F.2.1 dX8_would_18 rfl (lv_at hl 2 rfl) ?_
      refine lv_iload_n F.1 F.2.1 dX8_would_19 rfl (lv_at hl 3 rfl) ?_
      refine mca_l (b := (mga G 0)) (As := [.int (nI w), .int a, .int b]) (rest := []) F (c_X8_outcomeAt l G M P L N V n aa ac ra o zf zs zd hV w (by omega) hkk a b) (xcw F.2.2.2.2 ca_X8_outcomeAt tm_683 rfl rfl ⟨by decide, by decide⟩) (mr_X8 hW) hW rfl hl.1 rfl (Nat.le_of_ble_eq_true rfl) dX8_would_20 (fun r20 u20 H locs hp20 hW => ?_)
      obtain ⟨rfl, P20, rfl⟩ := hp20
      have hW : mW G s s.heap H locs M P20 L N V := hW
      refine lv_goto (tgt := 29) F.1 F.2.1 dX8_would_23 (by decide) ?_
      refine mre_l F hr hlk hW dX8_would_29 ?_
      exact ⟨Or.inl ⟨hkk, rfl⟩, _, _, _, _, rfl⟩
    · skip
      have hkn : ¬ zok n aa ra w = true := fun z => by
        by_cases q : 10000 ≤ w
        · exact y10 ⟨q, z⟩
        · exact y2 ((zok_iff.mp z).1 (by omega))
      refine lv_if_eq (tgt := 26) F.1 F.2.1 dX8_would_13 (by decide) (fun _ => ?_) (fun q => absurd q (by decide))
      refine lv_ldc2 (v := zNOT) F.1 F.2.1 F.2.2.2.1 (F.2.2.2.2 _ tm_631) dX8_would_26 ?_
      refine mre_l F hr hlk hW dX8_would_29 ?_
      exact ⟨Or.inr ⟨hkn, rfl⟩, _, _, _, _, rfl⟩
set_option maxHeartbeats 4000000 in
set_option maxRecDepth 100000 in
theorem c_X8_would_neg (l : Launch) (G : MG) (M : MM) (P : MP) (L : ML) (N : MN) (V : MV) (n aa ac : Nat) (ra : Nat → Nat) (o : Nat → Int32 → Int32 → Int64) (zf zs : Nat → Int32) (zd : Nat → Int64) (hV : mV M n aa ac ra o zf zs zd) (x : Int32) (hx : x.toInt < 0) (a b : Int32) : Met l yX8_would (wC yX8_would cX8_would 4 (some .long)) (rmD 5) (mPc G [.ref (mga G 0), .int x, .int a, .int b] M P L N V) (va_Ql (fun v u => v = zNOT ∧ ∃ (P2 : MP) (L2 : ML) (N2 : MN) (V2 : MV), u = (M, P2, L2, N2, V2)) (mB G) (mA G)) 0 0 (mA G) := by
  refine mst "DoFinderModel" (by decide) rfl (Nat.le_of_ble_eq_true rfl) ?_
  intro p e s m args below meth c ls F hr hlk hW hl
  have hl : lv_has ls 4 [(0, .ref (mga G 0)), (1, .int x), (2, .int a), (3, .int b)] := hl
  have hW : mW G s s.heap s.heap [] M P L N V := hW
  have b_x := i32b x
  have b_a := i32b a
  have b_b := i32b b
  refine lv_aload_n F.1 F.2.1 dX8_would_0 rfl (lv_at hl 0 rfl) ?_
  refine lv_iload_n F.1 F.2.1 dX8_would_1 rfl (lv_at hl 1 rfl) ?_
  refine mca_i (b := (mga G 0)) (As := [.int x]) (rest := []) F (c_X8_isWay_neg l G M P L N V n aa ac ra o zf zs zd hV x hx) (xcw F.2.2.2.2 ca_X8_isWay tm_675 rfl rfl ⟨by decide, by decide⟩) (mr_X8 hW) hW rfl hl.1 rfl (Nat.le_of_ble_eq_true rfl) dX8_would_2 (fun r2 u2 H locs hp2 hW => ?_)
  obtain ⟨rfl, rfl⟩ := hp2
  have hW : mW G s s.heap H locs M P L N V := hW
  refine lv_if_ne (tgt := 16) F.1 F.2.1 dX8_would_5 (by decide) (fun q => absurd q (by decide)) (fun _ => ?_)
  refine lv_aload_n F.1 F.2.1 dX8_would_8 rfl (lv_at hl 0 rfl) ?_
  refine lv_iload_n F.1 F.2.1 dX8_would_9 rfl (lv_at hl 1 rfl) ?_
  refine mca_i (b := (mga G 0)) (As := [.int x]) (rest := []) F (c_X8_isJoint_neg l G M P L N V n aa ac ra o zf zs zd hV x hx) (xcw F.2.2.2.2 ca_X8_isJoint tm_679 rfl rfl ⟨by decide, by decide⟩) (mr_X8 hW) hW rfl hl.1 rfl (Nat.le_of_ble_eq_true rfl) dX8_would_10 (fun r10 u10 H locs hp10 hW => ?_)
  obtain ⟨rfl, rfl⟩ := hp10
  have hW : mW G s s.heap H locs M P L N V := hW
  refine lv_if_eq (tgt := 26) F.1 F.2.1 dX8_would_13 (by decide) (fun _ => ?_) (fun q => absurd q (by decide))
  refine lv_ldc2 (v := zNOT) F.1 F.2.1 F.2.2.2.1 (F.2.2.2.2 _ tm_631) dX8_would_26 ?_
  refine mre_l F hr hlk hW dX8_would_29 ?_
  exact ⟨rfl, _, _, _, _, rfl⟩
theorem dX8_look_0 : decode cX8_look 0 = .ok (.aload_n 0, 1) := by decide +kernel
theorem dX8_look_1 : decode cX8_look 1 = .ok (.iconst 0, 1) := by decide +kernel
theorem dX8_look_2 : decode cX8_look 2 = .ok (.putfield 137, 3) := by decide +kernel
theorem dX8_look_5 : decode cX8_look 5 = .ok (.aload_n 0, 1) := by decide +kernel
theorem dX8_look_6 : decode cX8_look 6 = .ok (.iconst 0, 1) := by decide +kernel
theorem dX8_look_7 : decode cX8_look 7 = .ok (.putfield 140, 3) := by decide +kernel
theorem dX8_look_10 : decode cX8_look 10 = .ok (.iconst 0, 1) := by decide +kernel
theorem dX8_look_11 : decode cX8_look 11 = .ok (.istore_n 2, 1) := by decide +kernel
theorem dX8_look_12 : decode cX8_look 12 = .ok (.iload_n 2, 1) := by decide +kernel
theorem dX8_look_13 : decode cX8_look 13 = .ok (.aload_n 0, 1) := by decide +kernel
theorem dX8_look_14 : decode cX8_look 14 = .ok (.getfield 109, 3) := by decide +kernel
theorem dX8_look_17 : decode cX8_look 17 = .ok (.if_icmp .ge 95, 3) := by decide +kernel
theorem dX8_look_20 : decode cX8_look 20 = .ok (.aload_n 0, 1) := by decide +kernel
theorem dX8_look_21 : decode cX8_look 21 = .ok (.getfield 35, 3) := by decide +kernel
theorem dX8_look_24 : decode cX8_look 24 = .ok (.iload_n 2, 1) := by decide +kernel
theorem dX8_look_25 : decode cX8_look 25 = .ok (.laload, 1) := by decide +kernel
theorem dX8_look_26 : decode cX8_look 26 = .ok (.ldc2_w 116, 3) := by decide +kernel
theorem dX8_look_29 : decode cX8_look 29 = .ok (.lcmp, 1) := by decide +kernel
theorem dX8_look_30 : decode cX8_look 30 = .ok (.ifCond .eq 76, 3) := by decide +kernel
theorem dX8_look_33 : decode cX8_look 33 = .ok (.aload_n 0, 1) := by decide +kernel
theorem dX8_look_34 : decode cX8_look 34 = .ok (.iload_n 1, 1) := by decide +kernel
theorem dX8_look_35 : decode cX8_look 35 = .ok (.aload_n 0, 1) := by decide +kernel
theorem dX8_look_36 : decode cX8_look 36 = .ok (.getfield 29, 3) := by decide +kernel
theorem dX8_look_39 : decode cX8_look 39 = .ok (.iload_n 2, 1) := by decide +kernel
theorem dX8_look_40 : decode cX8_look 40 = .ok (.iaload, 1) := by decide +kernel
theorem dX8_look_41 : decode cX8_look 41 = .ok (.aload_n 0, 1) := by decide +kernel
theorem dX8_look_42 : decode cX8_look 42 = .ok (.getfield 32, 3) := by decide +kernel
theorem dX8_look_45 : decode cX8_look 45 = .ok (.iload_n 2, 1) := by decide +kernel
theorem dX8_look_46 : decode cX8_look 46 = .ok (.iaload, 1) := by decide +kernel
theorem dX8_look_47 : decode cX8_look 47 = .ok (.invokevirtual 134, 3) := by decide +kernel
theorem dX8_look_50 : decode cX8_look 50 = .ok (.lstore_n 3, 1) := by decide +kernel
theorem dX8_look_51 : decode cX8_look 51 = .ok (.aload_n 0, 1) := by decide +kernel
theorem dX8_look_52 : decode cX8_look 52 = .ok (.dup, 1) := by decide +kernel
theorem dX8_look_53 : decode cX8_look 53 = .ok (.getfield 140, 3) := by decide +kernel
theorem dX8_look_56 : decode cX8_look 56 = .ok (.lload_n 3, 1) := by decide +kernel
theorem dX8_look_57 : decode cX8_look 57 = .ok (.ldc2_w 92, 3) := by decide +kernel
theorem dX8_look_60 : decode cX8_look 60 = .ok (.lcmp, 1) := by decide +kernel
theorem dX8_look_61 : decode cX8_look 61 = .ok (.ifCond .ne 7, 3) := by decide +kernel
theorem dX8_look_64 : decode cX8_look 64 = .ok (.iconst 1, 1) := by decide +kernel
theorem dX8_look_65 : decode cX8_look 65 = .ok (.goto 4, 3) := by decide +kernel
theorem dX8_look_68 : decode cX8_look 68 = .ok (.iconst 0, 1) := by decide +kernel
theorem dX8_look_69 : decode cX8_look 69 = .ok (.iadd, 1) := by decide +kernel
theorem dX8_look_70 : decode cX8_look 70 = .ok (.putfield 140, 3) := by decide +kernel
theorem dX8_look_73 : decode cX8_look 73 = .ok (.aload_n 0, 1) := by decide +kernel
theorem dX8_look_74 : decode cX8_look 74 = .ok (.dup, 1) := by decide +kernel
theorem dX8_look_75 : decode cX8_look 75 = .ok (.getfield 137, 3) := by decide +kernel
theorem dX8_look_78 : decode cX8_look 78 = .ok (.lload_n 3, 1) := by decide +kernel
theorem dX8_look_79 : decode cX8_look 79 = .ok (.ldc2_w 92, 3) := by decide +kernel
theorem dX8_look_82 : decode cX8_look 82 = .ok (.lcmp, 1) := by decide +kernel
theorem dX8_look_83 : decode cX8_look 83 = .ok (.ifCond .eq 18, 3) := by decide +kernel
theorem dX8_look_86 : decode cX8_look 86 = .ok (.lload_n 3, 1) := by decide +kernel
theorem dX8_look_87 : decode cX8_look 87 = .ok (.aload_n 0, 1) := by decide +kernel
theorem dX8_look_88 : decode cX8_look 88 = .ok (.getfield 35, 3) := by decide +kernel
theorem dX8_look_91 : decode cX8_look 91 = .ok (.iload_n 2, 1) := by decide +kernel
theorem dX8_look_92 : decode cX8_look 92 = .ok (.laload, 1) := by decide +kernel
theorem dX8_look_93 : decode cX8_look 93 = .ok (.lcmp, 1) := by decide +kernel
theorem dX8_look_94 : decode cX8_look 94 = .ok (.ifCond .eq 7, 3) := by decide +kernel
theorem dX8_look_97 : decode cX8_look 97 = .ok (.iconst 1, 1) := by decide +kernel
theorem dX8_look_98 : decode cX8_look 98 = .ok (.goto 4, 3) := by decide +kernel
theorem dX8_look_101 : decode cX8_look 101 = .ok (.iconst 0, 1) := by decide +kernel
theorem dX8_look_102 : decode cX8_look 102 = .ok (.iadd, 1) := by decide +kernel
theorem dX8_look_103 : decode cX8_look 103 = .ok (.putfield 137, 3) := by decide +kernel
theorem dX8_look_106 : decode cX8_look 106 = .ok (.iinc 2 1, 3) := by decide +kernel
theorem dX8_look_109 : decode cX8_look 109 = .ok (.goto (-97), 3) := by decide +kernel
theorem dX8_look_112 : decode cX8_look 112 = .ok (.return_, 1) := by decide +kernel
set_option maxHeartbeats 4000000 in
set_option maxRecDepth 100000 in
theorem c_X8_look (l : Launch) (G : MG) (M : MM) (P : MP) (mi md : Nat) (N : MN) (V : MV) (n aa ac : Nat) (ra : Nat → Nat) (o : Nat → Int32 → Int32 → Int64) (zf zs : Nat → Int32) (zd : Nat → Int64) (hV : mV M n aa ac ra o zf zs zd) (w : Nat) (hw : w < 2147483648) (hk : zok n aa ra w = true) : Met l yX8_look (wC yX8_look cX8_look 5 none) (rmD 5) (mPc G [.ref (mga G 0), .int (nI w)] M P (mi, md) N V) (va_Qv (fun u => ∃ P2 : MP, u = (M, P2, (zmi o zf zs zd ac w, zdo o zf zs zd ac w), N, V)) (mB G) (mA G)) 0 0 (mA G) := by
  refine mst "DoFinderModel" (by decide) rfl (Nat.le_of_ble_eq_true rfl) ?_
  intro p e s m args below meth c ls F hr hlk hW hl
  have hl : lv_has ls 5 [(0, .ref (mga G 0)), (1, .int (nI w))] := hl
  have hW : mW G s s.heap s.heap [] M P (mi, md) N V := hW
  obtain ⟨en, ea, ec, era, eo, ef, es, ed, bn, ba, bc, bf, brc, bra, bd⟩ := id hV
  refine lv_aload_n F.1 F.2.1 dX8_look_0 rfl (lv_at hl 0 rfl) ?_
  refine lv_iconst (v := nI 0) F.1 F.2.1 dX8_look_1 (by decide) ?_
  refine mp_missesOf (k := 0) F hW tm_515 rfl dX8_look_2 (fun H locs hW => ?_)
  have hW : mW G s s.heap H locs M P (0, md) N V := hW
  refine lv_aload_n F.1 F.2.1 dX8_look_5 rfl (lv_at hl 0 rfl) ?_
  refine lv_iconst (v := nI 0) F.1 F.2.1 dX8_look_6 (by decide) ?_
  refine mp_doubtsOf (k := 0) F hW tm_516 rfl dX8_look_7 (fun H locs hW => ?_)
  have hW : mW G s s.heap H locs M P (0, 0) N V := hW
  refine lv_iconst (v := nI 0) F.1 F.2.1 dX8_look_10 (by decide) ?_
  refine lv_istore_n (lv' := [(2, .int (nI 0)), (0, .ref (mga G 0)), (1, .int (nI w))]) F.1 F.2.1 dX8_look_11 rfl hl (by decide) rfl (fun ls hl => ?_)
  have lp12 : ∀ (k12 : Nat) (Pk : MP) (k : Nat) (a2 : Nat) (a1 : Nat), ac - k = k12 → (k ≤ ac) → (a2 = zcnt (fun k => decide (zj o zf zs zd w k = 2)) k) → (a1 = zcnt (fun k => decide (zj o zf zs zd w k = 1)) k) → ∀ (H : Heap) (locs : List Loc) (ls : Array Slot), mW G s s.heap H locs M Pk (a2, a1) N V →  lv_has ls 5 [(0, .ref (mga G 0)), (1, .int (nI w)), (2, .int (nI k))] → W p l e (rmD 5) s m args below meth c H locs 0 0 (MQ below (va_Qv (fun u => ∃ P2 : MP, u = (M, P2, (zmi o zf zs zd ac w, zdo o zf zs zd ac w), N, V)) (mB G) (mA G)) args s 0 0 (mA G)) (F0 m 12 ls []) := by
    intro k12
    induction k12 using Nat.strongRecOn with
    | ind k12 ih12 =>
      intro Pk k a2 a1 hk12 h1 h2 h3 H locs ls hW hl
      have u2 := zcnt_le (fun k => decide (zj o zf zs zd w k = 2)) k
      have u1 := zcnt_le (fun k => decide (zj o zf zs zd w k = 1)) k
      refine lv_iload_n F.1 F.2.1 dX8_look_12 rfl (lv_at hl 2 rfl) ?_
      refine lv_aload_n F.1 F.2.1 dX8_look_13 rfl (lv_at hl 0 rfl) ?_
      refine mg_examples F hW tm_508 dX8_look_14 ?_
      refine lv_icmp_ge (tgt := 112) F.1 F.2.1 dX8_look_17 (by decide) (fun c17 => ?_) (fun c17 => ?_)
      · have c17 := ci_le (a := ((M.2.2.2.2.2.2.2.2.1 : Nat) : Int)) (b := ((k : Nat) : Int)) (nI_toInt (by omega)) (nI_toInt (by omega)) c17
        refine mre_v F hr hlk hW dX8_look_112 ?_
        rw [show k = ac by omega] at h2 h3
        exact ⟨_, by rw [h2, h3]; rfl⟩
      · have c17 := ci_nle (a := ((M.2.2.2.2.2.2.2.2.1 : Nat) : Int)) (b := ((k : Nat) : Int)) (nI_toInt (by omega)) (nI_toInt (by omega)) c17
        refine lv_aload_n F.1 F.2.1 dX8_look_20 rfl (lv_at hl 0 rfl) ?_
        refine mg_dueOf F hW tm_511 dX8_look_21 ?_
        refine lv_iload_n F.1 F.2.1 dX8_look_24 rfl (lv_at hl 2 rfl) ?_
        refine ml_ad (i := k) F hW rfl (by omega) dX8_look_25 ?_
        refine ax_reL (show (M.2.2.2.2.2.2.2.2.2.2.2 k) = zd k from (ed k (by omega))) ?_
        refine lv_ldc2 (v := zANY) F.1 F.2.1 F.2.2.2.1 (F.2.2.2.2 _ tm_656) dX8_look_26 ?_
        refine W.lcmp F.1 F.2.1 dX8_look_29 ?_
        refine lv_if_eq (tgt := 106) F.1 F.2.1 dX8_look_30 (by decide) (fun c30 => ?_) (fun c30 => ?_)
        · have c30 := (lg_cmp_eq _ _).mp c30
          have zjk : zj o zf zs zd w k = 0 := by unfold zj; rw [if_pos c30]
          refine lv_iinc (v := nI (k + 1)) (lv' := [(2, .int (nI (k + 1))), (0, .ref (mga G 0)), (1, .int (nI w))]) F.1 F.2.1 dX8_look_106 hl (k := 2) rfl (nI_add _ 1) (by decide) rfl (fun ls hl => ?_)
          refine lv_goto (tgt := 12) F.1 F.2.1 dX8_look_109 (by decide) ?_
          exact ih12 (ac - (k + 1)) (by omega) Pk (k + 1) a2 a1 rfl (by omega) (by rw [zcnt_f (p := fun k => decide (zj o zf zs zd w k = 2)) (k := k) (by simp only [decide_eq_true_eq]; omega)]; omega) (by rw [zcnt_f (p := fun k => decide (zj o zf zs zd w k = 1)) (k := k) (by simp only [decide_eq_true_eq]; omega)]; omega) _ _ _ hW (lv_sub hl [1, 2, 0] rfl)
        · have c30 := fun q => c30 ((lg_cmp_eq _ _).mpr q)
          refine lv_aload_n F.1 F.2.1 dX8_look_33 rfl (lv_at hl 0 rfl) ?_
          refine lv_iload_n F.1 F.2.1 dX8_look_34 rfl (lv_at hl 1 rfl) ?_
          refine lv_aload_n F.1 F.2.1 dX8_look_35 rfl (lv_at hl 0 rfl) ?_
          refine mg_inputA F hW tm_509 dX8_look_36 ?_
          refine lv_iload_n F.1 F.2.1 dX8_look_39 rfl (lv_at hl 2 rfl) ?_
          refine ml_af (i := k) F hW rfl (by omega) dX8_look_40 ?_
          have b40 := i32b (M.2.2.2.2.2.2.2.2.2.1 k)
          refine ax_re (show (M.2.2.2.2.2.2.2.2.2.1 k) = zf k from (ef k (by omega))) ?_
          refine lv_aload_n F.1 F.2.1 dX8_look_41 rfl (lv_at hl 0 rfl) ?_
          refine mg_inputB F hW tm_510 dX8_look_42 ?_
          refine lv_iload_n F.1 F.2.1 dX8_look_45 rfl (lv_at hl 2 rfl) ?_
          refine ml_as (i := k) F hW rfl (by omega) dX8_look_46 ?_
          have b46 := i32b (M.2.2.2.2.2.2.2.2.2.2.1 k)
          refine ax_re (show (M.2.2.2.2.2.2.2.2.2.2.1 k) = zs k from (es k (by omega))) ?_
          refine mca_l (b := (mga G 0)) (As := [.int (nI w), .int (zf k), .int (zs k)]) (rest := []) F (c_X8_outcomeAt l G M Pk (a2, a1) N V n aa ac ra o zf zs zd hV w (by omega) hk (zf k) (zs k)) (xcw F.2.2.2.2 ca_X8_outcomeAt tm_683 rfl rfl ⟨by decide, by decide⟩) (mr_X8 hW) hW rfl hl.1 rfl (Nat.le_of_ble_eq_true rfl) dX8_look_47 (fun r47 u47 H locs hp47 hW => ?_)
          obtain ⟨rfl, P47, rfl⟩ := hp47
          have hW : mW G s s.heap H locs M P47 (a2, a1) N V := hW
          refine lv_lstore_n (lv' := [(3, .long (zjo o w (zf k) (zs k))), (0, .ref (mga G 0)), (1, .int (nI w)), (2, .int (nI k))]) F.1 F.2.1 dX8_look_50 rfl hl (by decide) rfl (fun ls hl => ?_)
          refine lv_aload_n F.1 F.2.1 dX8_look_51 rfl (lv_at hl 1 rfl) ?_
          refine lv_dup F.1 F.2.1 dX8_look_52 rfl ?_
          refine mg_doubtsOf F hW tm_516 dX8_look_53 ?_
          refine lv_lload_n F.1 F.2.1 dX8_look_56 rfl (lv_at hl 0 rfl) ?_
          refine lv_ldc2 (v := zUNK) F.1 F.2.1 F.2.2.2.1 (F.2.2.2.2 _ tm_611) dX8_look_57 ?_
          refine W.lcmp F.1 F.2.1 dX8_look_60 ?_
          refine lv_if_ne (tgt := 68) F.1 F.2.1 dX8_look_61 (by decide) (fun c61 => ?_) (fun c61 => ?_)
          · have c61 := fun q => c61 ((lg_cmp_eq _ _).mpr q)
            skip
            refine lv_iconst (v := nI 0) F.1 F.2.1 dX8_look_68 (by decide) ?_
            refine ax_add (z := nI (a1 + 0)) F (nI_add _ _) dX8_look_69 ?_
            refine mp_doubtsOf (k := (a1 + 0)) F hW tm_516 rfl dX8_look_70 (fun H locs hW => ?_)
            have hW : mW G s s.heap H locs M P47 (a2, a1 + 0) N V := hW
            refine lv_aload_n F.1 F.2.1 dX8_look_73 rfl (lv_at hl 1 rfl) ?_
            refine lv_dup F.1 F.2.1 dX8_look_74 rfl ?_
            refine mg_missesOf F hW tm_515 dX8_look_75 ?_
            refine lv_lload_n F.1 F.2.1 dX8_look_78 rfl (lv_at hl 0 rfl) ?_
            refine lv_ldc2 (v := zUNK) F.1 F.2.1 F.2.2.2.1 (F.2.2.2.2 _ tm_611) dX8_look_79 ?_
            refine W.lcmp F.1 F.2.1 dX8_look_82 ?_
            refine lv_if_eq (tgt := 101) F.1 F.2.1 dX8_look_83 (by decide) (fun c83 => ?_) (fun c83 => ?_)
            · exfalso
              have c83 := (lg_cmp_eq _ _).mp c83
              exact c61 c83
            have c83 := fun q => c83 ((lg_cmp_eq _ _).mpr q)
            refine lv_lload_n F.1 F.2.1 dX8_look_86 rfl (lv_at hl 0 rfl) ?_
            refine lv_aload_n F.1 F.2.1 dX8_look_87 rfl (lv_at hl 1 rfl) ?_
            refine mg_dueOf F hW tm_511 dX8_look_88 ?_
            refine lv_iload_n F.1 F.2.1 dX8_look_91 rfl (lv_at hl 3 rfl) ?_
            refine ml_ad (i := k) F hW rfl (by omega) dX8_look_92 ?_
            refine ax_reL (show (M.2.2.2.2.2.2.2.2.2.2.2 k) = zd k from (ed k (by omega))) ?_
            refine W.lcmp F.1 F.2.1 dX8_look_93 ?_
            refine lv_if_eq (tgt := 101) F.1 F.2.1 dX8_look_94 (by decide) (fun c94 => ?_) (fun c94 => ?_)
            · have c94 := (lg_cmp_eq _ _).mp c94
              have zjk : zj o zf zs zd w k = 0 := by unfold zj; rw [if_neg c30, if_pos c94]
              refine lv_iconst (v := nI 0) F.1 F.2.1 dX8_look_101 (by decide) ?_
              refine ax_add (z := nI (a2 + 0)) F (nI_add _ _) dX8_look_102 ?_
              refine mp_missesOf (k := (a2 + 0)) F hW tm_515 rfl dX8_look_103 (fun H locs hW => ?_)
              have hW : mW G s s.heap H locs M P47 (a2 + 0, a1 + 0) N V := hW
              refine lv_iinc (v := nI (k + 1)) (lv' := [(2, .int (nI (k + 1))), (3, .long (zjo o w (zf k) (zs k))), (0, .ref (mga G 0)), (1, .int (nI w))]) F.1 F.2.1 dX8_look_106 hl (k := 3) rfl (nI_add _ 1) (by decide) rfl (fun ls hl => ?_)
              refine lv_goto (tgt := 12) F.1 F.2.1 dX8_look_109 (by decide) ?_
              exact ih12 (ac - (k + 1)) (by omega) P47 (k + 1) (a2 + 0) (a1 + 0) rfl (by omega) (by rw [zcnt_f (p := fun k => decide (zj o zf zs zd w k = 2)) (k := k) (by simp only [decide_eq_true_eq]; omega)]; omega) (by rw [zcnt_f (p := fun k => decide (zj o zf zs zd w k = 1)) (k := k) (by simp only [decide_eq_true_eq]; omega)]; omega) _ _ _ hW (lv_sub hl [2, 3, 0] rfl)
            · have c94 := fun q => c94 ((lg_cmp_eq _ _).mpr q)
              have zjk : zj o zf zs zd w k = 2 := by unfold zj; rw [if_neg c30, if_neg c94, if_neg c61]
              refine lv_iconst (v := nI 1) F.1 F.2.1 dX8_look_97 (by decide) ?_
              refine lv_goto (tgt := 102) F.1 F.2.1 dX8_look_98 (by decide) ?_
              refine ax_add (z := nI (a2 + 1)) F (nI_add _ _) dX8_look_102 ?_
              refine mp_missesOf (k := (a2 + 1)) F hW tm_515 rfl dX8_look_103 (fun H locs hW => ?_)
              have hW : mW G s s.heap H locs M P47 (a2 + 1, a1 + 0) N V := hW
              refine lv_iinc (v := nI (k + 1)) (lv' := [(2, .int (nI (k + 1))), (3, .long (zjo o w (zf k) (zs k))), (0, .ref (mga G 0)), (1, .int (nI w))]) F.1 F.2.1 dX8_look_106 hl (k := 3) rfl (nI_add _ 1) (by decide) rfl (fun ls hl => ?_)
              refine lv_goto (tgt := 12) F.1 F.2.1 dX8_look_109 (by decide) ?_
              exact ih12 (ac - (k + 1)) (by omega) P47 (k + 1) (a2 + 1) (a1 + 0) rfl (by omega) (by rw [zcnt_t (p := fun k => decide (zj o zf zs zd w k = 2)) (k := k) (decide_eq_true zjk)]; omega) (by rw [zcnt_f (p := fun k => decide (zj o zf zs zd w k = 1)) (k := k) (by simp only [decide_eq_true_eq]; omega)]; omega) _ _ _ hW (lv_sub hl [2, 3, 0] rfl)
          · have c61 := (lg_cmp_eq _ _).mp c61
            have zjk : zj o zf zs zd w k = 1 := by unfold zj; rw [if_neg c30, if_neg (fun z => bd k (by omega) (z.symm.trans c61)), if_pos c61]
            refine lv_iconst (v := nI 1) F.1 F.2.1 dX8_look_64 (by decide) ?_
            refine lv_goto (tgt := 69) F.1 F.2.1 dX8_look_65 (by decide) ?_
            refine ax_add (z := nI (a1 + 1)) F (nI_add _ _) dX8_look_69 ?_
            refine mp_doubtsOf (k := (a1 + 1)) F hW tm_516 rfl dX8_look_70 (fun H locs hW => ?_)
            have hW : mW G s s.heap H locs M P47 (a2, a1 + 1) N V := hW
            refine lv_aload_n F.1 F.2.1 dX8_look_73 rfl (lv_at hl 1 rfl) ?_
            refine lv_dup F.1 F.2.1 dX8_look_74 rfl ?_
            refine mg_missesOf F hW tm_515 dX8_look_75 ?_
            refine lv_lload_n F.1 F.2.1 dX8_look_78 rfl (lv_at hl 0 rfl) ?_
            refine lv_ldc2 (v := zUNK) F.1 F.2.1 F.2.2.2.1 (F.2.2.2.2 _ tm_611) dX8_look_79 ?_
            refine W.lcmp F.1 F.2.1 dX8_look_82 ?_
            refine lv_if_eq (tgt := 101) F.1 F.2.1 dX8_look_83 (by decide) (fun c83 => ?_) (fun c83 => ?_)
            rotate_left
            · exfalso
              have c83 := fun q => c83 ((lg_cmp_eq _ _).mpr q)
              exact c83 c61
            have c83 := (lg_cmp_eq _ _).mp c83
            refine lv_iconst (v := nI 0) F.1 F.2.1 dX8_look_101 (by decide) ?_
            refine ax_add (z := nI (a2 + 0)) F (nI_add _ _) dX8_look_102 ?_
            refine mp_missesOf (k := (a2 + 0)) F hW tm_515 rfl dX8_look_103 (fun H locs hW => ?_)
            have hW : mW G s s.heap H locs M P47 (a2 + 0, a1 + 1) N V := hW
            refine lv_iinc (v := nI (k + 1)) (lv' := [(2, .int (nI (k + 1))), (3, .long (zjo o w (zf k) (zs k))), (0, .ref (mga G 0)), (1, .int (nI w))]) F.1 F.2.1 dX8_look_106 hl (k := 3) rfl (nI_add _ 1) (by decide) rfl (fun ls hl => ?_)
            refine lv_goto (tgt := 12) F.1 F.2.1 dX8_look_109 (by decide) ?_
            exact ih12 (ac - (k + 1)) (by omega) P47 (k + 1) (a2 + 0) (a1 + 1) rfl (by omega) (by rw [zcnt_f (p := fun k => decide (zj o zf zs zd w k = 2)) (k := k) (by simp only [decide_eq_true_eq]; omega)]; omega) (by rw [zcnt_t (p := fun k => decide (zj o zf zs zd w k = 1)) (k := k) (decide_eq_true zjk)]; omega) _ _ _ hW (lv_sub hl [2, 3, 0] rfl)
  exact lp12 (ac - 0) P 0 0 0 rfl (Nat.zero_le _) (rfl) (rfl) _ _ _ hW (lv_sub hl [1, 2, 0] rfl)
