/-! ===== the class's own state ===== -/
theorem xcopy {p : Program} {l : Launch} {e : Env} {R : Room} {s : State} {m : MethodId} {args : Array Value} {below : List Frame} {meth : Method} {c : Code} {H : Heap} {locs : List Loc} {cells slots : Nat} {Q : State → Prop} {cc : ByteArray} {pc nL : Nat} {ls : Array Slot} {own : String} {G : XG} {H0 : Heap} {M : XM} {P : XP} {S : XS} {V : XV}
    (F : CallFix p m c cc nL s args gtbl own) (hW : xW G s H0 H locs M P S V) {i j idx : Nat} (hi : i < 13) (hj : j < 13) (hl : Cond.methodLink own idx ⟨"java/lang/System", "arraycopy", "(Ljava/lang/Object;ILjava/lang/Object;II)V"⟩ ∈ gtbl) (hR : 1 ≤ R.frames) (hR2 : nativeFrameWords "java/lang/System" "arraycopy" 5 + 11 ≤ R.locals) (hls : ls.size = nL) (hdg : decode cc pc = .ok (.invokestatic idx, 3))
    (kk : ∀ (H1 : Heap) (locs1 : List Loc), xW G s H0 H1 locs1 (M.1, M.2.1, M.2.2.1, M.2.2.2.1, upF M.2.2.2.2.1 j (va_cpy (M.2.2.2.2.1 i) (M.2.2.2.2.1 j) 0 0 12), M.2.2.2.2.2.1, M.2.2.2.2.2.2.1, M.2.2.2.2.2.2.2.1, M.2.2.2.2.2.2.2.2.1, M.2.2.2.2.2.2.2.2.2) P S V → W p l e R s m args below meth c H1 locs1 cells slots Q (F0 m (pc + 3) ls [])) : W p l e R s m args below meth c H locs cells slots Q (F0 m pc ls [.int (nI 12), .int (nI 0), .ref (xgs G j), .int (nI 0), .ref (xgs G i)]) := by
  refine va_copyi F.1 F.2.1 (F.2.2.1.trans hls.symm) F.2.2.2.1 (F.2.2.2.2 _ hl) (F.2.2.2.2 _ tm_239) (F.2.2.2.2 _ tm_238) (F.2.2.2.2 _ tm_9) hW.2.2.2 hW.1 hW.2.1 hW.2.2.1 (29 + i) (29 + j) 0 0 (ty := .int) (xw_s hi) (xw_s hj) rfl rfl rfl (by decide) (by decide) (by decide) (by decide) (by decide) (fun _ _ => rfl) hR (by simpa using hR2) hdg (fun H1 locs1 hP hD hS => kk H1 locs1 ⟨?_, ?_, hS, hW.2.2.2⟩)
  · rw [xw_setS hj] at hP; exact hP
  · rw [xw_setS hj] at hD; exact hD
theorem arg12 {x : Int32} (h : x.toInt = 1 ∨ x.toInt = 2) : ∃ t : Nat, (t = 1 ∨ t = 2) ∧ x = nI t := ⟨x.toInt.toNat, by omega, ix_of (by omega)⟩
theorem argN {x : Int32} (h : 0 ≤ x.toInt) : ∃ t : Nat, (t : Int) = x.toInt ∧ t < 2147483648 ∧ x = nI t := ⟨x.toInt.toNat, by omega, by have := i32b x; omega, ix_of (by omega)⟩
theorem dX4_copy_0 : decode cX4_copy 0 = .ok (.aload_n 1, 1) := by decide +kernel
theorem dX4_copy_1 : decode cX4_copy 1 = .ok (.getfield 9, 3) := by decide +kernel
theorem dX4_copy_4 : decode cX4_copy 4 = .ok (.iconst 0, 1) := by decide +kernel
theorem dX4_copy_5 : decode cX4_copy 5 = .ok (.aload_n 0, 1) := by decide +kernel
theorem dX4_copy_6 : decode cX4_copy 6 = .ok (.getfield 9, 3) := by decide +kernel
theorem dX4_copy_9 : decode cX4_copy 9 = .ok (.iconst 0, 1) := by decide +kernel
theorem dX4_copy_10 : decode cX4_copy 10 = .ok (.bipush 12, 2) := by decide +kernel
theorem dX4_copy_12 : decode cX4_copy 12 = .ok (.invokestatic 30, 3) := by decide +kernel
theorem dX4_copy_15 : decode cX4_copy 15 = .ok (.aload_n 0, 1) := by decide +kernel
theorem dX4_copy_16 : decode cX4_copy 16 = .ok (.aload_n 1, 1) := by decide +kernel
theorem dX4_copy_17 : decode cX4_copy 17 = .ok (.getfield 15, 3) := by decide +kernel
theorem dX4_copy_20 : decode cX4_copy 20 = .ok (.putfield 15, 3) := by decide +kernel
theorem dX4_copy_23 : decode cX4_copy 23 = .ok (.aload_n 0, 1) := by decide +kernel
theorem dX4_copy_24 : decode cX4_copy 24 = .ok (.iload_n 2, 1) := by decide +kernel
theorem dX4_copy_25 : decode cX4_copy 25 = .ok (.putfield 19, 3) := by decide +kernel
theorem dX4_copy_28 : decode cX4_copy 28 = .ok (.return_, 1) := by decide +kernel
set_option maxHeartbeats 4000000 in
set_option maxRecDepth 100000 in
theorem c_X4_copy (l : Launch) (G : XG) (M : XM) (P : XP) (S : XS) (V : XV) (j i : Nat) (hj : j < 13) (hi : i < 13) (hij : i ≠ j) (hc : M.2.2.1 i ≤ 12) (t : Nat) (ht : t < 1000) : Met l yX4_copy (wC yX4_copy cX4_copy 3 none) (rmD 1) (xPc G [.ref (xgo G j), .ref (xgo G i), .int (nI t)] M P S V) (va_Qv (fun u => u = ((M.1, M.2.1, upN M.2.2.1 j (M.2.2.1 i), upN M.2.2.2.1 j t, upF M.2.2.2.2.1 j (va_cpy (M.2.2.2.2.1 i) (M.2.2.2.2.1 j) 0 0 12), M.2.2.2.2.2.1, M.2.2.2.2.2.2.1, M.2.2.2.2.2.2.2.1, M.2.2.2.2.2.2.2.2.1, M.2.2.2.2.2.2.2.2.2), P, S, V)) (xB G) (xA G)) 0 0 (xA G) := by
  refine xst "DoFinder$Routine" (by decide) rfl (Nat.le_of_ble_eq_true rfl) ?_
  intro p e s m args below meth c ls F hr hlk hW hl
  have hl : lv_has ls 3 [(0, .ref (xgo G j)), (1, .ref (xgo G i)), (2, .int (nI t))] := hl
  have hW : xW G s s.heap s.heap [] M P S V := hW
  refine lv_aload_n F.1 F.2.1 dX4_copy_0 rfl (lv_at hl 1 rfl) ?_
  refine xg_Routine_steps F hW (j := i) (by omega) tm_25 dX4_copy_1 ?_
  refine lv_iconst (v := nI 0) F.1 F.2.1 dX4_copy_4 (by decide) ?_
  refine lv_aload_n F.1 F.2.1 dX4_copy_5 rfl (lv_at hl 0 rfl) ?_
  refine xg_Routine_steps F hW (j := j) (by omega) tm_25 dX4_copy_6 ?_
  refine lv_iconst (v := nI 0) F.1 F.2.1 dX4_copy_9 (by decide) ?_
  refine lv_bipush (v := nI 12) F.1 F.2.1 dX4_copy_10 (by decide) ?_
  refine xcopy (i := i) (j := j) F hW hi hj tm_237 (by decide) (by decide) hl.1 dX4_copy_12 (fun H locs hW => ?_)
  have hW : xW G s s.heap H locs (M.1, M.2.1, M.2.2.1, M.2.2.2.1, upF M.2.2.2.2.1 j (va_cpy (M.2.2.2.2.1 i) (M.2.2.2.2.1 j) 0 0 12), M.2.2.2.2.2.1, M.2.2.2.2.2.2.1, M.2.2.2.2.2.2.2.1, M.2.2.2.2.2.2.2.2.1, M.2.2.2.2.2.2.2.2.2) P S V := hW
  refine lv_aload_n F.1 F.2.1 dX4_copy_15 rfl (lv_at hl 0 rfl) ?_
  refine lv_aload_n F.1 F.2.1 dX4_copy_16 rfl (lv_at hl 1 rfl) ?_
  refine xg_Routine_count F hW (j := i) (by omega) tm_28 dX4_copy_17 ?_
  refine xp_Routine_count (j := j) (k := (M.2.2.1 i)) F hW (by omega) tm_28 rfl dX4_copy_20 (fun H locs hW => ?_)
  have hW : xW G s s.heap H locs (M.1, M.2.1, upN M.2.2.1 j (M.2.2.1 i), M.2.2.2.1, upF M.2.2.2.2.1 j (va_cpy (M.2.2.2.2.1 i) (M.2.2.2.2.1 j) 0 0 12), M.2.2.2.2.2.1, M.2.2.2.2.2.2.1, M.2.2.2.2.2.2.2.1, M.2.2.2.2.2.2.2.2.1, M.2.2.2.2.2.2.2.2.2) P S V := hW
  refine lv_aload_n F.1 F.2.1 dX4_copy_23 rfl (lv_at hl 0 rfl) ?_
  refine lv_iload_n F.1 F.2.1 dX4_copy_24 rfl (lv_at hl 2 rfl) ?_
  refine xp_Routine_arguments (j := j) (k := t) F hW (by omega) tm_30 rfl dX4_copy_25 (fun H locs hW => ?_)
  have hW : xW G s s.heap H locs (M.1, M.2.1, upN M.2.2.1 j (M.2.2.1 i), upN M.2.2.2.1 j t, upF M.2.2.2.2.1 j (va_cpy (M.2.2.2.2.1 i) (M.2.2.2.2.1 j) 0 0 12), M.2.2.2.2.2.1, M.2.2.2.2.2.2.1, M.2.2.2.2.2.2.2.1, M.2.2.2.2.2.2.2.2.1, M.2.2.2.2.2.2.2.2.2) P S V := hW
  refine xre_v F hr hlk hW dX4_copy_28 ?_
  rfl
theorem dX1_take_0 : decode cX1_take 0 = .ok (.aload_n 0, 1) := by decide +kernel
theorem dX1_take_1 : decode cX1_take 1 = .ok (.getfield 24, 3) := by decide +kernel
theorem dX1_take_4 : decode cX1_take 4 = .ok (.bipush 12, 2) := by decide +kernel
theorem dX1_take_6 : decode cX1_take 6 = .ok (.if_icmp .lt 6, 3) := by decide +kernel
theorem dX1_take_9 : decode cX1_take 9 = .ok (.bipush (-2), 2) := by decide +kernel
theorem dX1_take_11 : decode cX1_take 11 = .ok (.ireturn, 1) := by decide +kernel
theorem dX1_take_12 : decode cX1_take 12 = .ok (.aload_n 0, 1) := by decide +kernel
theorem dX1_take_13 : decode cX1_take 13 = .ok (.getfield 11, 3) := by decide +kernel
theorem dX1_take_16 : decode cX1_take 16 = .ok (.aload_n 0, 1) := by decide +kernel
theorem dX1_take_17 : decode cX1_take 17 = .ok (.getfield 24, 3) := by decide +kernel
theorem dX1_take_20 : decode cX1_take 20 = .ok (.aaload, 1) := by decide +kernel
theorem dX1_take_21 : decode cX1_take 21 = .ok (.aload_n 1, 1) := by decide +kernel
theorem dX1_take_22 : decode cX1_take 22 = .ok (.iload_n 2, 1) := by decide +kernel
theorem dX1_take_23 : decode cX1_take 23 = .ok (.invokevirtual 35, 3) := by decide +kernel
theorem dX1_take_26 : decode cX1_take 26 = .ok (.aload_n 0, 1) := by decide +kernel
theorem dX1_take_27 : decode cX1_take 27 = .ok (.dup, 1) := by decide +kernel
theorem dX1_take_28 : decode cX1_take 28 = .ok (.getfield 24, 3) := by decide +kernel
theorem dX1_take_31 : decode cX1_take 31 = .ok (.iconst 1, 1) := by decide +kernel
theorem dX1_take_32 : decode cX1_take 32 = .ok (.iadd, 1) := by decide +kernel
theorem dX1_take_33 : decode cX1_take 33 = .ok (.putfield 24, 3) := by decide +kernel
theorem dX1_take_36 : decode cX1_take 36 = .ok (.aload_n 0, 1) := by decide +kernel
theorem dX1_take_37 : decode cX1_take 37 = .ok (.getfield 24, 3) := by decide +kernel
theorem dX1_take_40 : decode cX1_take 40 = .ok (.iconst 1, 1) := by decide +kernel
theorem dX1_take_41 : decode cX1_take 41 = .ok (.isub, 1) := by decide +kernel
theorem dX1_take_42 : decode cX1_take 42 = .ok (.ireturn, 1) := by decide +kernel
set_option maxHeartbeats 4000000 in
set_option maxRecDepth 100000 in
theorem c_X1_take (l : Launch) (G : XG) (M : XM) (P : XP) (S : XS) (V : XV) (hn : M.1 ≤ 12) (hc : M.2.2.1 12 ≤ 12) (t : Nat) (ht : t < 1000) : Met l yX1_take (wC yX1_take cX1_take 3 (some .int)) (rmD 2) (xPc G [.ref (xga G 1), .ref (xgo G 12), .int (nI t)] M P S V) (va_Qi (fun r u => (M.1 < 12 ∧ r = nI M.1 ∧ u = ((M.1 + 1, M.2.1, upN M.2.2.1 M.1 (M.2.2.1 12), upN M.2.2.2.1 M.1 t, upF M.2.2.2.2.1 M.1 (va_cpy (M.2.2.2.2.1 12) (M.2.2.2.2.1 M.1) 0 0 12), M.2.2.2.2.2.1, M.2.2.2.2.2.2.1, M.2.2.2.2.2.2.2.1, M.2.2.2.2.2.2.2.2.1, M.2.2.2.2.2.2.2.2.2), P, S, V)) ∨ (¬ M.1 < 12 ∧ r = (-2) ∧ u = (M, P, S, V))) (xB G) (xA G)) 0 0 (xA G) := by
  refine xst "DoFinder$Library" (by decide) rfl (Nat.le_of_ble_eq_true rfl) ?_
  intro p e s m args below meth c ls F hr hlk hW hl
  have hl : lv_has ls 3 [(0, .ref (xga G 1)), (1, .ref (xgo G 12)), (2, .int (nI t))] := hl
  have hW : xW G s s.heap s.heap [] M P S V := hW
  refine lv_aload_n F.1 F.2.1 dX1_take_0 rfl (lv_at hl 0 rfl) ?_
  refine xg_Library_count F hW tm_72 dX1_take_1 ?_
  refine lv_bipush (v := nI 12) F.1 F.2.1 dX1_take_4 (by decide) ?_
  refine lv_icmp_lt (tgt := 12) F.1 F.2.1 dX1_take_6 (by decide) (fun c6 => ?_) (fun c6 => ?_)
  · have c6 := ci_lt (a := ((M.1 : Nat) : Int)) (b := 12) (nI_toInt (by omega)) (by decide) c6
    refine lv_aload_n F.1 F.2.1 dX1_take_12 rfl (lv_at hl 0 rfl) ?_
    refine xg_Library_routines F hW tm_68 dX1_take_13 ?_
    refine lv_aload_n F.1 F.2.1 dX1_take_16 rfl (lv_at hl 0 rfl) ?_
    refine xg_Library_count F hW tm_72 dX1_take_17 ?_
    refine xl_ro (j := M.1) F hW rfl (by omega) dX1_take_20 ?_
    refine lv_aload_n F.1 F.2.1 dX1_take_21 rfl (lv_at hl 1 rfl) ?_
    refine lv_iload_n F.1 F.2.1 dX1_take_22 rfl (lv_at hl 2 rfl) ?_
    refine xca_v (b := (xgo G M.1)) (As := [.ref (xgo G 12), .int (nI t)]) (rest := []) F (c_X4_copy l G M P S V M.1 12 (by omega) (by omega) (by omega) hc t (by omega)) (xcw F.2.2.2.2 ca_X4_copy tm_233 rfl rfl ⟨by decide, by decide⟩) (xr_X4 hW (j := M.1) (by omega)) hW rfl hl.1 rfl (Nat.le_of_ble_eq_true rfl) dX1_take_23 (fun u23 H locs hp23 hW => ?_)
    obtain rfl := hp23
    have hW : xW G s s.heap H locs (M.1, M.2.1, upN M.2.2.1 M.1 (M.2.2.1 12), upN M.2.2.2.1 M.1 t, upF M.2.2.2.2.1 M.1 (va_cpy (M.2.2.2.2.1 12) (M.2.2.2.2.1 M.1) 0 0 12), M.2.2.2.2.2.1, M.2.2.2.2.2.2.1, M.2.2.2.2.2.2.2.1, M.2.2.2.2.2.2.2.2.1, M.2.2.2.2.2.2.2.2.2) P S V := hW
    refine lv_aload_n F.1 F.2.1 dX1_take_26 rfl (lv_at hl 0 rfl) ?_
    refine lv_dup F.1 F.2.1 dX1_take_27 rfl ?_
    refine xg_Library_count F hW tm_72 dX1_take_28 ?_
    refine lv_iconst (v := nI 1) F.1 F.2.1 dX1_take_31 (by decide) ?_
    refine ax_add (z := nI (M.1 + 1)) F (nI_add _ _) dX1_take_32 ?_
    refine xp_Library_count (k := (M.1 + 1)) F hW tm_72 rfl dX1_take_33 (fun H locs hW => ?_)
    have hW : xW G s s.heap H locs (M.1 + 1, M.2.1, upN M.2.2.1 M.1 (M.2.2.1 12), upN M.2.2.2.1 M.1 t, upF M.2.2.2.2.1 M.1 (va_cpy (M.2.2.2.2.1 12) (M.2.2.2.2.1 M.1) 0 0 12), M.2.2.2.2.2.1, M.2.2.2.2.2.2.1, M.2.2.2.2.2.2.2.1, M.2.2.2.2.2.2.2.2.1, M.2.2.2.2.2.2.2.2.2) P S V := hW
    refine lv_aload_n F.1 F.2.1 dX1_take_36 rfl (lv_at hl 0 rfl) ?_
    refine xg_Library_count F hW tm_72 dX1_take_37 ?_
    refine lv_iconst (v := nI 1) F.1 F.2.1 dX1_take_40 (by decide) ?_
    refine ax_sub (z := nI ((M.1 + 1) - 1)) F (pk_sub (a := M.1 + 1) (b := 1) (by omega)) dX1_take_41 ?_
    refine xre_i F hr hlk hW dX1_take_42 ?_
    exact Or.inl ⟨by omega, congrArg nI (by omega), rfl⟩
  · have c6 := ci_nlt (a := ((M.1 : Nat) : Int)) (b := 12) (nI_toInt (by omega)) (by decide) c6
    refine lv_bipush (v := (-2)) F.1 F.2.1 dX1_take_9 (by decide) ?_
    refine xre_i F hr hlk hW dX1_take_11 ?_
    exact Or.inr ⟨by omega, rfl, rfl⟩
theorem dX0_begin_0 : decode cX0_begin 0 = .ok (.aload_n 0, 1) := by decide +kernel
theorem dX0_begin_1 : decode cX0_begin 1 = .ok (.iload_n 1, 1) := by decide +kernel
theorem dX0_begin_2 : decode cX0_begin 2 = .ok (.putfield 26, 3) := by decide +kernel
theorem dX0_begin_5 : decode cX0_begin 5 = .ok (.aload_n 0, 1) := by decide +kernel
theorem dX0_begin_6 : decode cX0_begin 6 = .ok (.iconst 0, 1) := by decide +kernel
theorem dX0_begin_7 : decode cX0_begin 7 = .ok (.putfield 22, 3) := by decide +kernel
theorem dX0_begin_10 : decode cX0_begin 10 = .ok (.return_, 1) := by decide +kernel
set_option maxHeartbeats 4000000 in
set_option maxRecDepth 100000 in
theorem c_X0_begin (l : Launch) (G : XG) (mn mf : Nat) (mrc mra : Nat → Nat) (mrs : Nat → Nat → Int32) (ac aa : Nat) (af ag : Nat → Int32) (ad : Nat → Int64) (P : XP) (S : XS) (V : XV) (t : Nat) : Met l yX0_begin (wC yX0_begin cX0_begin 2 none) (rmD 0) (xPc G [.ref (xga G 2), .int (nI t)] (mn, mf, mrc, mra, mrs, ac, aa, af, ag, ad) P S V) (va_Qv (fun u => u = ((mn, mf, mrc, mra, mrs, 0, t, af, ag, ad), P, S, V)) (xB G) (xA G)) 0 0 (xA G) := by
  refine xst "DoFinder$Ask" (by decide) rfl (Nat.le_of_ble_eq_true rfl) ?_
  intro p e s m args below meth c ls F hr hlk hW hl
  have hl : lv_has ls 2 [(0, .ref (xga G 2)), (1, .int (nI t))] := hl
  have hW : xW G s s.heap s.heap [] (mn, mf, mrc, mra, mrs, ac, aa, af, ag, ad) P S V := hW
  refine lv_aload_n F.1 F.2.1 dX0_begin_0 rfl (lv_at hl 0 rfl) ?_
  refine lv_iload_n F.1 F.2.1 dX0_begin_1 rfl (lv_at hl 1 rfl) ?_
  refine xp_Ask_arguments (k := t) F hW tm_105 rfl dX0_begin_2 (fun H locs hW => ?_)
  have hW : xW G s s.heap H locs (mn, mf, mrc, mra, mrs, ac, t, af, ag, ad) P S V := hW
  refine lv_aload_n F.1 F.2.1 dX0_begin_5 rfl (lv_at hl 0 rfl) ?_
  refine lv_iconst (v := nI 0) F.1 F.2.1 dX0_begin_6 (by decide) ?_
  refine xp_Ask_count (k := 0) F hW tm_102 rfl dX0_begin_7 (fun H locs hW => ?_)
  have hW : xW G s s.heap H locs (mn, mf, mrc, mra, mrs, 0, t, af, ag, ad) P S V := hW
  refine xre_v F hr hlk hW dX0_begin_10 ?_
  rfl
theorem dX0_append_0 : decode cX0_append 0 = .ok (.aload_n 0, 1) := by decide +kernel
theorem dX0_append_1 : decode cX0_append 1 = .ok (.getfield 22, 3) := by decide +kernel
theorem dX0_append_4 : decode cX0_append 4 = .ok (.bipush 8, 2) := by decide +kernel
theorem dX0_append_6 : decode cX0_append 6 = .ok (.if_icmp .lt 6, 3) := by decide +kernel
theorem dX0_append_9 : decode cX0_append 9 = .ok (.bipush (-2), 2) := by decide +kernel
theorem dX0_append_11 : decode cX0_append 11 = .ok (.ireturn, 1) := by decide +kernel
theorem dX0_append_12 : decode cX0_append 12 = .ok (.aload_n 0, 1) := by decide +kernel
theorem dX0_append_13 : decode cX0_append 13 = .ok (.getfield 9, 3) := by decide +kernel
theorem dX0_append_16 : decode cX0_append 16 = .ok (.aload_n 0, 1) := by decide +kernel
theorem dX0_append_17 : decode cX0_append 17 = .ok (.getfield 22, 3) := by decide +kernel
theorem dX0_append_20 : decode cX0_append 20 = .ok (.iload_n 1, 1) := by decide +kernel
theorem dX0_append_21 : decode cX0_append 21 = .ok (.iastore, 1) := by decide +kernel
theorem dX0_append_22 : decode cX0_append 22 = .ok (.aload_n 0, 1) := by decide +kernel
theorem dX0_append_23 : decode cX0_append 23 = .ok (.getfield 15, 3) := by decide +kernel
theorem dX0_append_26 : decode cX0_append 26 = .ok (.aload_n 0, 1) := by decide +kernel
theorem dX0_append_27 : decode cX0_append 27 = .ok (.getfield 22, 3) := by decide +kernel
theorem dX0_append_30 : decode cX0_append 30 = .ok (.aload_n 0, 1) := by decide +kernel
theorem dX0_append_31 : decode cX0_append 31 = .ok (.getfield 26, 3) := by decide +kernel
theorem dX0_append_34 : decode cX0_append 34 = .ok (.iconst 1, 1) := by decide +kernel
theorem dX0_append_35 : decode cX0_append 35 = .ok (.if_icmp .ne 7, 3) := by decide +kernel
theorem dX0_append_38 : decode cX0_append 38 = .ok (.iconst 0, 1) := by decide +kernel
theorem dX0_append_39 : decode cX0_append 39 = .ok (.goto 4, 3) := by decide +kernel
theorem dX0_append_42 : decode cX0_append 42 = .ok (.iload_n 2, 1) := by decide +kernel
theorem dX0_append_43 : decode cX0_append 43 = .ok (.iastore, 1) := by decide +kernel
theorem dX0_append_44 : decode cX0_append 44 = .ok (.aload_n 0, 1) := by decide +kernel
theorem dX0_append_45 : decode cX0_append 45 = .ok (.getfield 18, 3) := by decide +kernel
theorem dX0_append_48 : decode cX0_append 48 = .ok (.aload_n 0, 1) := by decide +kernel
theorem dX0_append_49 : decode cX0_append 49 = .ok (.getfield 22, 3) := by decide +kernel
theorem dX0_append_52 : decode cX0_append 52 = .ok (.lload_n 3, 1) := by decide +kernel
theorem dX0_append_53 : decode cX0_append 53 = .ok (.lastore, 1) := by decide +kernel
theorem dX0_append_54 : decode cX0_append 54 = .ok (.aload_n 0, 1) := by decide +kernel
theorem dX0_append_55 : decode cX0_append 55 = .ok (.dup, 1) := by decide +kernel
theorem dX0_append_56 : decode cX0_append 56 = .ok (.getfield 22, 3) := by decide +kernel
theorem dX0_append_59 : decode cX0_append 59 = .ok (.iconst 1, 1) := by decide +kernel
theorem dX0_append_60 : decode cX0_append 60 = .ok (.iadd, 1) := by decide +kernel
theorem dX0_append_61 : decode cX0_append 61 = .ok (.putfield 22, 3) := by decide +kernel
theorem dX0_append_64 : decode cX0_append 64 = .ok (.aload_n 0, 1) := by decide +kernel
theorem dX0_append_65 : decode cX0_append 65 = .ok (.getfield 22, 3) := by decide +kernel
theorem dX0_append_68 : decode cX0_append 68 = .ok (.iconst 1, 1) := by decide +kernel
theorem dX0_append_69 : decode cX0_append 69 = .ok (.isub, 1) := by decide +kernel
theorem dX0_append_70 : decode cX0_append 70 = .ok (.ireturn, 1) := by decide +kernel
set_option maxHeartbeats 4000000 in
set_option maxRecDepth 100000 in
theorem c_X0_append (l : Launch) (G : XG) (mn mf : Nat) (mrc mra : Nat → Nat) (mrs : Nat → Nat → Int32) (ac aa : Nat) (af ag : Nat → Int32) (ad : Nat → Int64) (P : XP) (S : XS) (V : XV) (hac : ac ≤ 8) (haa : aa < 1000) (a b : Int32) (v : Int64) : Met l yX0_append (wC yX0_append cX0_append 5 (some .int)) (rmD 0) (xPc G [.ref (xga G 2), .int a, .int b, .long v] (mn, mf, mrc, mra, mrs, ac, aa, af, ag, ad) P S V) (va_Qi (fun r u => (ac < 8 ∧ r = nI ac ∧ u = ((mn, mf, mrc, mra, mrs, ac + 1, aa, upd af ac a, upd ag ac (if aa = 1 then nI 0 else b), vp_updL ad ac v), P, S, V)) ∨ (¬ ac < 8 ∧ r = (-2) ∧ u = ((mn, mf, mrc, mra, mrs, ac, aa, af, ag, ad), P, S, V))) (xB G) (xA G)) 0 0 (xA G) := by
  refine xst "DoFinder$Ask" (by decide) rfl (Nat.le_of_ble_eq_true rfl) ?_
  intro p e s m args below meth c ls F hr hlk hW hl
  have hl : lv_has ls 5 [(0, .ref (xga G 2)), (1, .int a), (2, .int b), (3, .long v)] := hl
  have hW : xW G s s.heap s.heap [] (mn, mf, mrc, mra, mrs, ac, aa, af, ag, ad) P S V := hW
  have b_a := i32b a
  have b_b := i32b b
  refine lv_aload_n F.1 F.2.1 dX0_append_0 rfl (lv_at hl 0 rfl) ?_
  refine xg_Ask_count F hW tm_102 dX0_append_1 ?_
  refine lv_bipush (v := nI 8) F.1 F.2.1 dX0_append_4 (by decide) ?_
  refine lv_icmp_lt (tgt := 12) F.1 F.2.1 dX0_append_6 (by decide) (fun c6 => ?_) (fun c6 => ?_)
  · have c6 := ci_lt (a := ((ac : Nat) : Int)) (b := 8) (nI_toInt (by omega)) (by decide) c6
    refine lv_aload_n F.1 F.2.1 dX0_append_12 rfl (lv_at hl 0 rfl) ?_
    refine xg_Ask_firsts F hW tm_96 dX0_append_13 ?_
    refine lv_aload_n F.1 F.2.1 dX0_append_16 rfl (lv_at hl 0 rfl) ?_
    refine xg_Ask_count F hW tm_102 dX0_append_17 ?_
    refine lv_iload_n F.1 F.2.1 dX0_append_20 rfl (lv_at hl 1 rfl) ?_
    refine xs_af (i := ac) F hW rfl (by omega) dX0_append_21 (fun H locs hW => ?_)
    have hW : xW G s s.heap H locs (mn, mf, mrc, mra, mrs, ac, aa, upd af ac a, ag, ad) P S V := hW
    refine lv_aload_n F.1 F.2.1 dX0_append_22 rfl (lv_at hl 0 rfl) ?_
    refine xg_Ask_seconds F hW tm_98 dX0_append_23 ?_
    refine lv_aload_n F.1 F.2.1 dX0_append_26 rfl (lv_at hl 0 rfl) ?_
    refine xg_Ask_count F hW tm_102 dX0_append_27 ?_
    refine lv_aload_n F.1 F.2.1 dX0_append_30 rfl (lv_at hl 0 rfl) ?_
    refine xg_Ask_arguments F hW tm_105 dX0_append_31 ?_
    refine lv_iconst (v := nI 1) F.1 F.2.1 dX0_append_34 (by decide) ?_
    refine lv_icmp_ne (tgt := 42) F.1 F.2.1 dX0_append_35 (by decide) (fun c35 => ?_) (fun c35 => ?_)
    · have c35 := ci_ne (a := ((aa : Nat) : Int)) (b := 1) (nI_toInt (by omega)) (by decide) c35
      refine lv_iload_n F.1 F.2.1 dX0_append_42 rfl (lv_at hl 2 rfl) ?_
      refine xs_as (i := ac) F hW rfl (by omega) dX0_append_43 (fun H locs hW => ?_)
      have hW : xW G s s.heap H locs (mn, mf, mrc, mra, mrs, ac, aa, upd af ac a, upd ag ac b, ad) P S V := hW
      refine lv_aload_n F.1 F.2.1 dX0_append_44 rfl (lv_at hl 0 rfl) ?_
      refine xg_Ask_dues F hW tm_100 dX0_append_45 ?_
      refine lv_aload_n F.1 F.2.1 dX0_append_48 rfl (lv_at hl 0 rfl) ?_
      refine xg_Ask_count F hW tm_102 dX0_append_49 ?_
      refine lv_lload_n F.1 F.2.1 dX0_append_52 rfl (lv_at hl 3 rfl) ?_
      refine xs_ad (i := ac) F hW rfl (by omega) dX0_append_53 (fun H locs hW => ?_)
      have hW : xW G s s.heap H locs (mn, mf, mrc, mra, mrs, ac, aa, upd af ac a, upd ag ac b, vp_updL ad ac v) P S V := hW
      refine lv_aload_n F.1 F.2.1 dX0_append_54 rfl (lv_at hl 0 rfl) ?_
      refine lv_dup F.1 F.2.1 dX0_append_55 rfl ?_
      refine xg_Ask_count F hW tm_102 dX0_append_56 ?_
      refine lv_iconst (v := nI 1) F.1 F.2.1 dX0_append_59 (by decide) ?_
      refine ax_add (z := nI (ac + 1)) F (nI_add _ _) dX0_append_60 ?_
      refine xp_Ask_count (k := (ac + 1)) F hW tm_102 rfl dX0_append_61 (fun H locs hW => ?_)
      have hW : xW G s s.heap H locs (mn, mf, mrc, mra, mrs, ac + 1, aa, upd af ac a, upd ag ac b, vp_updL ad ac v) P S V := hW
      refine lv_aload_n F.1 F.2.1 dX0_append_64 rfl (lv_at hl 0 rfl) ?_
      refine xg_Ask_count F hW tm_102 dX0_append_65 ?_
      refine lv_iconst (v := nI 1) F.1 F.2.1 dX0_append_68 (by decide) ?_
      refine ax_sub (z := nI ((ac + 1) - 1)) F (pk_sub (a := ac + 1) (b := 1) (by omega)) dX0_append_69 ?_
      refine xre_i F hr hlk hW dX0_append_70 ?_
      exact Or.inl ⟨by omega, congrArg nI (by omega), by first | rw [if_pos (by omega)] | rw [if_neg (by omega)]⟩
    · have c35 := ci_eq (a := ((aa : Nat) : Int)) (b := 1) (nI_toInt (by omega)) (by decide) c35
      refine lv_iconst (v := nI 0) F.1 F.2.1 dX0_append_38 (by decide) ?_
      refine lv_goto (tgt := 43) F.1 F.2.1 dX0_append_39 (by decide) ?_
      refine xs_as (i := ac) F hW rfl (by omega) dX0_append_43 (fun H locs hW => ?_)
      have hW : xW G s s.heap H locs (mn, mf, mrc, mra, mrs, ac, aa, upd af ac a, upd ag ac (nI 0), ad) P S V := hW
      refine lv_aload_n F.1 F.2.1 dX0_append_44 rfl (lv_at hl 0 rfl) ?_
      refine xg_Ask_dues F hW tm_100 dX0_append_45 ?_
      refine lv_aload_n F.1 F.2.1 dX0_append_48 rfl (lv_at hl 0 rfl) ?_
      refine xg_Ask_count F hW tm_102 dX0_append_49 ?_
      refine lv_lload_n F.1 F.2.1 dX0_append_52 rfl (lv_at hl 3 rfl) ?_
      refine xs_ad (i := ac) F hW rfl (by omega) dX0_append_53 (fun H locs hW => ?_)
      have hW : xW G s s.heap H locs (mn, mf, mrc, mra, mrs, ac, aa, upd af ac a, upd ag ac (nI 0), vp_updL ad ac v) P S V := hW
      refine lv_aload_n F.1 F.2.1 dX0_append_54 rfl (lv_at hl 0 rfl) ?_
      refine lv_dup F.1 F.2.1 dX0_append_55 rfl ?_
      refine xg_Ask_count F hW tm_102 dX0_append_56 ?_
      refine lv_iconst (v := nI 1) F.1 F.2.1 dX0_append_59 (by decide) ?_
      refine ax_add (z := nI (ac + 1)) F (nI_add _ _) dX0_append_60 ?_
      refine xp_Ask_count (k := (ac + 1)) F hW tm_102 rfl dX0_append_61 (fun H locs hW => ?_)
      have hW : xW G s s.heap H locs (mn, mf, mrc, mra, mrs, ac + 1, aa, upd af ac a, upd ag ac (nI 0), vp_updL ad ac v) P S V := hW
      refine lv_aload_n F.1 F.2.1 dX0_append_64 rfl (lv_at hl 0 rfl) ?_
      refine xg_Ask_count F hW tm_102 dX0_append_65 ?_
      refine lv_iconst (v := nI 1) F.1 F.2.1 dX0_append_68 (by decide) ?_
      refine ax_sub (z := nI ((ac + 1) - 1)) F (pk_sub (a := ac + 1) (b := 1) (by omega)) dX0_append_69 ?_
      refine xre_i F hr hlk hW dX0_append_70 ?_
      exact Or.inl ⟨by omega, congrArg nI (by omega), by first | rw [if_pos (by omega)] | rw [if_neg (by omega)]⟩
  · have c6 := ci_nlt (a := ((ac : Nat) : Int)) (b := 8) (nI_toInt (by omega)) (by decide) c6
    refine lv_bipush (v := (-2)) F.1 F.2.1 dX0_append_9 (by decide) ?_
    refine xre_i F hr hlk hW dX0_append_11 ?_
    exact Or.inr ⟨by omega, rfl, rfl⟩
