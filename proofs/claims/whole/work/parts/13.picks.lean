theorem zwl_nx1 {n aa : Nat} {ra : Nat → Nat} {r h t : Nat} (hr : r < n) (e : h = 30) (h5 : t = (zwl n aa ra (100 * r + h)).length) : t = (zwl n aa ra (100 * (r + 1))).length := by
  subst e; rw [zwl_next hr]; exact h5
theorem zwl_nx2 {n aa : Nat} {ra : Nat → Nat} {r h : Nat} {f : Nat → Nat} (hr : r < n) (e : h = 30) (h5 : zpre f (zwl n aa ra (100 * r + h))) : zpre f (zwl n aa ra (100 * (r + 1))) := by
  subst e; rw [zwl_next hr]; exact h5
theorem zfl_le (l : List Nat) (i : Nat) (p : Nat → Bool) : ((l.take i).filter p).length ≤ i := by
  have h1 := List.length_filter_le p (l.take i)
  rw [List.length_take] at h1
  omega
theorem zl_take {l : List Nat} {i : Nat} (h : i < l.length) : l.take (i + 1) = l.take i ++ [l.getD i 0] := by
  rw [List.take_succ, List.getD, List.getElem?_eq_getElem h]; rfl
theorem zl_take_t {l : List Nat} {i : Nat} {p : Nat → Bool} (h : i < l.length) (hp : p (l.getD i 0) = true) : (l.take (i + 1)).filter p = (l.take i).filter p ++ [l.getD i 0] := by
  rw [zl_take h, List.filter_append]; simp only [List.filter_cons, hp, if_true, List.filter_nil]
theorem zl_take_f {l : List Nat} {i : Nat} {p : Nat → Bool} (h : i < l.length) (hp : ¬ p (l.getD i 0) = true) : (l.take (i + 1)).filter p = (l.take i).filter p := by
  rw [zl_take h, List.filter_append]; simp only [List.filter_cons, hp, List.filter_nil]; simp
theorem zwl_get {n aa : Nat} {ra : Nat → Nat} {i : Nat} (h : i < (zwl n aa ra 1200).length) : zway n aa ra ((zwl n aa ra 1200).getD i 0) = true ∧ (zwl n aa ra 1200).getD i 0 < 1200 := by
  have hm : (zwl n aa ra 1200).getD i 0 ∈ zwl n aa ra 1200 := by
    rw [List.getD, List.getElem?_eq_getElem h]; exact List.getElem_mem h
  exact ⟨(zwl_mem.mp hm).2, (zwl_mem.mp hm).1⟩
theorem zok_way {n aa : Nat} {ra : Nat → Nat} {w : Nat} (h : zway n aa ra w = true) (hw : w < 10000) : zok n aa ra w = true := zok_iff.mpr ⟨fun _ => h, fun q => by omega⟩
theorem dX5_pick_0 : decode cX5_pick 0 = .ok (.aload_n 0, 1) := by decide +kernel
theorem dX5_pick_1 : decode cX5_pick 1 = .ok (.getfield 21, 3) := by decide +kernel
theorem dX5_pick_4 : decode cX5_pick 4 = .ok (.sipush 756, 3) := by decide +kernel
theorem dX5_pick_7 : decode cX5_pick 7 = .ok (.if_icmp .ge 23, 3) := by decide +kernel
theorem dX5_pick_10 : decode cX5_pick 10 = .ok (.aload_n 0, 1) := by decide +kernel
theorem dX5_pick_11 : decode cX5_pick 11 = .ok (.getfield 18, 3) := by decide +kernel
theorem dX5_pick_14 : decode cX5_pick 14 = .ok (.aload_n 0, 1) := by decide +kernel
theorem dX5_pick_15 : decode cX5_pick 15 = .ok (.getfield 21, 3) := by decide +kernel
theorem dX5_pick_18 : decode cX5_pick 18 = .ok (.iload_n 1, 1) := by decide +kernel
theorem dX5_pick_19 : decode cX5_pick 19 = .ok (.iastore, 1) := by decide +kernel
theorem dX5_pick_20 : decode cX5_pick 20 = .ok (.aload_n 0, 1) := by decide +kernel
theorem dX5_pick_21 : decode cX5_pick 21 = .ok (.dup, 1) := by decide +kernel
theorem dX5_pick_22 : decode cX5_pick 22 = .ok (.getfield 21, 3) := by decide +kernel
theorem dX5_pick_25 : decode cX5_pick 25 = .ok (.iconst 1, 1) := by decide +kernel
theorem dX5_pick_26 : decode cX5_pick 26 = .ok (.iadd, 1) := by decide +kernel
theorem dX5_pick_27 : decode cX5_pick 27 = .ok (.putfield 21, 3) := by decide +kernel
theorem dX5_pick_30 : decode cX5_pick 30 = .ok (.return_, 1) := by decide +kernel
set_option maxHeartbeats 4000000 in
set_option maxRecDepth 100000 in
theorem c_X5_pick (l : Launch) (G : XG) (M : XM) (P : XP) (sc : Nat) (wy wm pk : Nat → Nat) (V : XV) (hs : sc < 756) (v : Nat) : Met l yX5_pick (wC yX5_pick cX5_pick 2 none) (rmD 0) (xPc G [.ref (xga G 3), .int (nI v)] M P (sc, wy, wm, pk) V) (va_Qv (fun u => u = (M, P, (sc + 1, wy, wm, upN pk sc v), V)) (xB G) (xA G)) 0 0 (xA G) := by
  refine xst "DoFinder$Search" (by decide) rfl (Nat.le_of_ble_eq_true rfl) ?_
  intro p e s m args below meth c ls F hr hlk hW hl
  have hl : lv_has ls 2 [(0, .ref (xga G 3)), (1, .int (nI v))] := hl
  have hW : xW G s s.heap s.heap [] M P (sc, wy, wm, pk) V := hW
  refine lv_aload_n F.1 F.2.1 dX5_pick_0 rfl (lv_at hl 0 rfl) ?_
  refine xg_Search_pickedCount F hW tm_131 dX5_pick_1 ?_
  refine lv_sipush (v := nI 756) F.1 F.2.1 dX5_pick_4 (by decide) ?_
  refine lv_icmp_ge (tgt := 30) F.1 F.2.1 dX5_pick_7 (by decide) (fun c7 => ?_) (fun c7 => ?_)
  · exfalso
    have c7 := ci_le (a := 756) (b := ((sc : Nat) : Int)) (by decide) (nI_toInt (by omega)) c7
    omega
  have c7 := ci_nle (a := 756) (b := ((sc : Nat) : Int)) (by decide) (nI_toInt (by omega)) c7
  refine lv_aload_n F.1 F.2.1 dX5_pick_10 rfl (lv_at hl 0 rfl) ?_
  refine xg_Search_picked F hW tm_130 dX5_pick_11 ?_
  refine lv_aload_n F.1 F.2.1 dX5_pick_14 rfl (lv_at hl 0 rfl) ?_
  refine xg_Search_pickedCount F hW tm_131 dX5_pick_15 ?_
  refine lv_iload_n F.1 F.2.1 dX5_pick_18 rfl (lv_at hl 1 rfl) ?_
  refine xs_pk (i := sc) (k := v) F hW rfl (by omega) rfl dX5_pick_19 (fun H locs hW => ?_)
  have hW : xW G s s.heap H locs M P (sc, wy, wm, upN pk sc v) V := hW
  refine lv_aload_n F.1 F.2.1 dX5_pick_20 rfl (lv_at hl 0 rfl) ?_
  refine lv_dup F.1 F.2.1 dX5_pick_21 rfl ?_
  refine xg_Search_pickedCount F hW tm_131 dX5_pick_22 ?_
  refine lv_iconst (v := nI 1) F.1 F.2.1 dX5_pick_25 (by decide) ?_
  refine ax_add (z := nI (sc + 1)) F (nI_add _ _) dX5_pick_26 ?_
  refine xp_Search_pickedCount (k := (sc + 1)) F hW tm_131 rfl dX5_pick_27 (fun H locs hW => ?_)
  have hW : xW G s s.heap H locs M P (sc + 1, wy, wm, upN pk sc v) V := hW
  refine xre_v F hr hlk hW dX5_pick_30 ?_
  rfl
theorem dX5_pickedAt_0 : decode cX5_pickedAt 0 = .ok (.iload_n 1, 1) := by decide +kernel
theorem dX5_pickedAt_1 : decode cX5_pickedAt 1 = .ok (.ifCond .lt 24, 3) := by decide +kernel
theorem dX5_pickedAt_4 : decode cX5_pickedAt 4 = .ok (.iload_n 1, 1) := by decide +kernel
theorem dX5_pickedAt_5 : decode cX5_pickedAt 5 = .ok (.iload_n 2, 1) := by decide +kernel
theorem dX5_pickedAt_6 : decode cX5_pickedAt 6 = .ok (.if_icmp .ge 19, 3) := by decide +kernel
theorem dX5_pickedAt_9 : decode cX5_pickedAt 9 = .ok (.iload_n 1, 1) := by decide +kernel
theorem dX5_pickedAt_10 : decode cX5_pickedAt 10 = .ok (.sipush 756, 3) := by decide +kernel
theorem dX5_pickedAt_13 : decode cX5_pickedAt 13 = .ok (.if_icmp .ge 12, 3) := by decide +kernel
theorem dX5_pickedAt_16 : decode cX5_pickedAt 16 = .ok (.aload_n 0, 1) := by decide +kernel
theorem dX5_pickedAt_17 : decode cX5_pickedAt 17 = .ok (.getfield 18, 3) := by decide +kernel
theorem dX5_pickedAt_20 : decode cX5_pickedAt 20 = .ok (.iload_n 1, 1) := by decide +kernel
theorem dX5_pickedAt_21 : decode cX5_pickedAt 21 = .ok (.iaload, 1) := by decide +kernel
theorem dX5_pickedAt_22 : decode cX5_pickedAt 22 = .ok (.goto 5, 3) := by decide +kernel
theorem dX5_pickedAt_25 : decode cX5_pickedAt 25 = .ok (.bipush (-3), 2) := by decide +kernel
theorem dX5_pickedAt_27 : decode cX5_pickedAt 27 = .ok (.ireturn, 1) := by decide +kernel
set_option maxHeartbeats 4000000 in
set_option maxRecDepth 100000 in
theorem c_X5_pickedAt (l : Launch) (G : XG) (M : XM) (P : XP) (sc : Nat) (wy wm pk : Nat → Nat) (V : XV) (k : Int32) (ct : Nat) (hct : ct ≤ 756) : Met l yX5_pickedAt (wC yX5_pickedAt cX5_pickedAt 3 (some .int)) (rmD 0) (xPc G [.ref (xga G 3), .int k, .int (nI ct)] M P (sc, wy, wm, pk) V) (va_Qi (fun r u => ((0 ≤ k.toInt ∧ k.toInt < (ct : Int) ∧ r = nI (pk k.toInt.toNat)) ∨ (¬ (0 ≤ k.toInt ∧ k.toInt < (ct : Int)) ∧ r = (-3))) ∧ u = (M, P, (sc, wy, wm, pk), V)) (xB G) (xA G)) 0 0 (xA G) := by
  refine xst "DoFinder$Search" (by decide) rfl (Nat.le_of_ble_eq_true rfl) ?_
  intro p e s m args below meth c ls F hr hlk hW hl
  have hl : lv_has ls 3 [(0, .ref (xga G 3)), (1, .int k), (2, .int (nI ct))] := hl
  have hW : xW G s s.heap s.heap [] M P (sc, wy, wm, pk) V := hW
  have b_k := i32b k
  refine lv_iload_n F.1 F.2.1 dX5_pickedAt_0 rfl (lv_at hl 1 rfl) ?_
  refine lv_if_lt (tgt := 25) F.1 F.2.1 dX5_pickedAt_1 (by decide) (fun c1 => ?_) (fun c1 => ?_)
  · have c1 := ci_lt (a := k.toInt) (b := 0) rfl ci_0 c1
    refine lv_bipush (v := (-3)) F.1 F.2.1 dX5_pickedAt_25 (by decide) ?_
    refine xre_i F hr hlk hW dX5_pickedAt_27 ?_
    exact ⟨by first | exact Or.inl ⟨by omega, by omega, rfl⟩ | exact Or.inr ⟨by omega, rfl⟩, rfl⟩
  · have c1 := ci_nlt (a := k.toInt) (b := 0) rfl ci_0 c1
    refine lv_iload_n F.1 F.2.1 dX5_pickedAt_4 rfl (lv_at hl 1 rfl) ?_
    refine lv_iload_n F.1 F.2.1 dX5_pickedAt_5 rfl (lv_at hl 2 rfl) ?_
    refine lv_icmp_ge (tgt := 25) F.1 F.2.1 dX5_pickedAt_6 (by decide) (fun c6 => ?_) (fun c6 => ?_)
    · have c6 := ci_le (a := ((ct : Nat) : Int)) (b := k.toInt) (nI_toInt (by omega)) rfl c6
      refine lv_bipush (v := (-3)) F.1 F.2.1 dX5_pickedAt_25 (by decide) ?_
      refine xre_i F hr hlk hW dX5_pickedAt_27 ?_
      exact ⟨by first | exact Or.inl ⟨by omega, by omega, rfl⟩ | exact Or.inr ⟨by omega, rfl⟩, rfl⟩
    · have c6 := ci_nle (a := ((ct : Nat) : Int)) (b := k.toInt) (nI_toInt (by omega)) rfl c6
      refine lv_iload_n F.1 F.2.1 dX5_pickedAt_9 rfl (lv_at hl 1 rfl) ?_
      refine lv_sipush (v := nI 756) F.1 F.2.1 dX5_pickedAt_10 (by decide) ?_
      refine lv_icmp_ge (tgt := 25) F.1 F.2.1 dX5_pickedAt_13 (by decide) (fun c13 => ?_) (fun c13 => ?_)
      · have c13 := ci_le (a := 756) (b := k.toInt) (by decide) rfl c13
        refine lv_bipush (v := (-3)) F.1 F.2.1 dX5_pickedAt_25 (by decide) ?_
        refine xre_i F hr hlk hW dX5_pickedAt_27 ?_
        exact ⟨by first | exact Or.inl ⟨by omega, by omega, rfl⟩ | exact Or.inr ⟨by omega, rfl⟩, rfl⟩
      · have c13 := ci_nle (a := 756) (b := k.toInt) (by decide) rfl c13
        refine lv_aload_n F.1 F.2.1 dX5_pickedAt_16 rfl (lv_at hl 0 rfl) ?_
        refine xg_Search_picked F hW tm_130 dX5_pickedAt_17 ?_
        refine lv_iload_n F.1 F.2.1 dX5_pickedAt_20 rfl (lv_at hl 1 rfl) ?_
        refine xl_pk (i := k.toInt.toNat) F hW (ix_of (by omega)) (by omega) dX5_pickedAt_21 ?_
        refine lv_goto (tgt := 27) F.1 F.2.1 dX5_pickedAt_22 (by decide) ?_
        refine xre_i F hr hlk hW dX5_pickedAt_27 ?_
        exact ⟨by first | exact Or.inl ⟨by omega, by omega, rfl⟩ | exact Or.inr ⟨by omega, rfl⟩, rfl⟩
set_option maxHeartbeats 4000000 in
set_option maxRecDepth 100000 in
theorem c_X5_pickedAt_n (l : Launch) (G : XG) (M : XM) (P : XP) (sc : Nat) (wy wm pk : Nat → Nat) (V : XV) (i ct : Nat) (hi : i < ct) (hct : ct ≤ 756) : Met l yX5_pickedAt (wC yX5_pickedAt cX5_pickedAt 3 (some .int)) (rmD 0) (xPc G [.ref (xga G 3), .int (nI i), .int (nI ct)] M P (sc, wy, wm, pk) V) (va_Qi (fun r u => r = nI (pk i) ∧ u = (M, P, (sc, wy, wm, pk), V)) (xB G) (xA G)) 0 0 (xA G) := by
  refine xst "DoFinder$Search" (by decide) rfl (Nat.le_of_ble_eq_true rfl) ?_
  intro p e s m args below meth c ls F hr hlk hW hl
  have hl : lv_has ls 3 [(0, .ref (xga G 3)), (1, .int (nI i)), (2, .int (nI ct))] := hl
  have hW : xW G s s.heap s.heap [] M P (sc, wy, wm, pk) V := hW
  refine lv_iload_n F.1 F.2.1 dX5_pickedAt_0 rfl (lv_at hl 1 rfl) ?_
  refine lv_if_lt (tgt := 25) F.1 F.2.1 dX5_pickedAt_1 (by decide) (fun c1 => ?_) (fun c1 => ?_)
  · exfalso
    have c1 := ci_lt (a := ((i : Nat) : Int)) (b := 0) (nI_toInt (by omega)) ci_0 c1
    omega
  have c1 := ci_nlt (a := ((i : Nat) : Int)) (b := 0) (nI_toInt (by omega)) ci_0 c1
  refine lv_iload_n F.1 F.2.1 dX5_pickedAt_4 rfl (lv_at hl 1 rfl) ?_
  refine lv_iload_n F.1 F.2.1 dX5_pickedAt_5 rfl (lv_at hl 2 rfl) ?_
  refine lv_icmp_ge (tgt := 25) F.1 F.2.1 dX5_pickedAt_6 (by decide) (fun c6 => ?_) (fun c6 => ?_)
  · exfalso
    have c6 := ci_le (a := ((ct : Nat) : Int)) (b := ((i : Nat) : Int)) (nI_toInt (by omega)) (nI_toInt (by omega)) c6
    omega
  have c6 := ci_nle (a := ((ct : Nat) : Int)) (b := ((i : Nat) : Int)) (nI_toInt (by omega)) (nI_toInt (by omega)) c6
  refine lv_iload_n F.1 F.2.1 dX5_pickedAt_9 rfl (lv_at hl 1 rfl) ?_
  refine lv_sipush (v := nI 756) F.1 F.2.1 dX5_pickedAt_10 (by decide) ?_
  refine lv_icmp_ge (tgt := 25) F.1 F.2.1 dX5_pickedAt_13 (by decide) (fun c13 => ?_) (fun c13 => ?_)
  · exfalso
    have c13 := ci_le (a := 756) (b := ((i : Nat) : Int)) (by decide) (nI_toInt (by omega)) c13
    omega
  have c13 := ci_nle (a := 756) (b := ((i : Nat) : Int)) (by decide) (nI_toInt (by omega)) c13
  refine lv_aload_n F.1 F.2.1 dX5_pickedAt_16 rfl (lv_at hl 0 rfl) ?_
  refine xg_Search_picked F hW tm_130 dX5_pickedAt_17 ?_
  refine lv_iload_n F.1 F.2.1 dX5_pickedAt_20 rfl (lv_at hl 1 rfl) ?_
  refine xl_pk (i := i) F hW rfl (by omega) dX5_pickedAt_21 ?_
  refine lv_goto (tgt := 27) F.1 F.2.1 dX5_pickedAt_22 (by decide) ?_
  refine xre_i F hr hlk hW dX5_pickedAt_27 ?_
  exact ⟨rfl, rfl⟩
theorem dX5_listWays_0 : decode cX5_listWays 0 = .ok (.iconst 0, 1) := by decide +kernel
theorem dX5_listWays_1 : decode cX5_listWays 1 = .ok (.istore_n 1, 1) := by decide +kernel
theorem dX5_listWays_2 : decode cX5_listWays 2 = .ok (.iconst 0, 1) := by decide +kernel
theorem dX5_listWays_3 : decode cX5_listWays 3 = .ok (.istore_n 2, 1) := by decide +kernel
theorem dX5_listWays_4 : decode cX5_listWays 4 = .ok (.iload_n 2, 1) := by decide +kernel
theorem dX5_listWays_5 : decode cX5_listWays 5 = .ok (.aload_n 0, 1) := by decide +kernel
theorem dX5_listWays_6 : decode cX5_listWays 6 = .ok (.getfield 25, 3) := by decide +kernel
theorem dX5_listWays_9 : decode cX5_listWays 9 = .ok (.getfield 89, 3) := by decide +kernel
theorem dX5_listWays_12 : decode cX5_listWays 12 = .ok (.if_icmp .ge 71, 3) := by decide +kernel
theorem dX5_listWays_15 : decode cX5_listWays 15 = .ok (.aload_n 0, 1) := by decide +kernel
theorem dX5_listWays_16 : decode cX5_listWays 16 = .ok (.getfield 25, 3) := by decide +kernel
theorem dX5_listWays_19 : decode cX5_listWays 19 = .ok (.getfield 45, 3) := by decide +kernel
theorem dX5_listWays_22 : decode cX5_listWays 22 = .ok (.iload_n 2, 1) := by decide +kernel
theorem dX5_listWays_23 : decode cX5_listWays 23 = .ok (.aaload, 1) := by decide +kernel
theorem dX5_listWays_24 : decode cX5_listWays 24 = .ok (.getfield 49, 3) := by decide +kernel
theorem dX5_listWays_27 : decode cX5_listWays 27 = .ok (.istore_n 3, 1) := by decide +kernel
theorem dX5_listWays_28 : decode cX5_listWays 28 = .ok (.iconst 0, 1) := by decide +kernel
theorem dX5_listWays_29 : decode cX5_listWays 29 = .ok (.istore 4, 2) := by decide +kernel
theorem dX5_listWays_31 : decode cX5_listWays 31 = .ok (.iload 4, 2) := by decide +kernel
theorem dX5_listWays_33 : decode cX5_listWays 33 = .ok (.bipush 30, 2) := by decide +kernel
theorem dX5_listWays_35 : decode cX5_listWays 35 = .ok (.if_icmp .ge 42, 3) := by decide +kernel
theorem dX5_listWays_38 : decode cX5_listWays 38 = .ok (.aload_n 0, 1) := by decide +kernel
theorem dX5_listWays_39 : decode cX5_listWays 39 = .ok (.iload 4, 2) := by decide +kernel
theorem dX5_listWays_41 : decode cX5_listWays 41 = .ok (.iload_n 3, 1) := by decide +kernel
theorem dX5_listWays_42 : decode cX5_listWays 42 = .ok (.invokevirtual 54, 3) := by decide +kernel
theorem dX5_listWays_45 : decode cX5_listWays 45 = .ok (.ifCond .eq 26, 3) := by decide +kernel
theorem dX5_listWays_48 : decode cX5_listWays 48 = .ok (.iload_n 1, 1) := by decide +kernel
theorem dX5_listWays_49 : decode cX5_listWays 49 = .ok (.sipush 240, 3) := by decide +kernel
theorem dX5_listWays_52 : decode cX5_listWays 52 = .ok (.if_icmp .ge 19, 3) := by decide +kernel
theorem dX5_listWays_55 : decode cX5_listWays 55 = .ok (.aload_n 0, 1) := by decide +kernel
theorem dX5_listWays_56 : decode cX5_listWays 56 = .ok (.getfield 9, 3) := by decide +kernel
theorem dX5_listWays_59 : decode cX5_listWays 59 = .ok (.iload_n 1, 1) := by decide +kernel
theorem dX5_listWays_60 : decode cX5_listWays 60 = .ok (.bipush 100, 2) := by decide +kernel
theorem dX5_listWays_62 : decode cX5_listWays 62 = .ok (.iload_n 2, 1) := by decide +kernel
theorem dX5_listWays_63 : decode cX5_listWays 63 = .ok (.imul, 1) := by decide +kernel
theorem dX5_listWays_64 : decode cX5_listWays 64 = .ok (.iload 4, 2) := by decide +kernel
theorem dX5_listWays_66 : decode cX5_listWays 66 = .ok (.iadd, 1) := by decide +kernel
theorem dX5_listWays_67 : decode cX5_listWays 67 = .ok (.iastore, 1) := by decide +kernel
theorem dX5_listWays_68 : decode cX5_listWays 68 = .ok (.iinc 1 1, 3) := by decide +kernel
theorem dX5_listWays_71 : decode cX5_listWays 71 = .ok (.iinc 4 1, 3) := by decide +kernel
theorem dX5_listWays_74 : decode cX5_listWays 74 = .ok (.goto (-43), 3) := by decide +kernel
theorem dX5_listWays_77 : decode cX5_listWays 77 = .ok (.iinc 2 1, 3) := by decide +kernel
theorem dX5_listWays_80 : decode cX5_listWays 80 = .ok (.goto (-76), 3) := by decide +kernel
theorem dX5_listWays_83 : decode cX5_listWays 83 = .ok (.iload_n 1, 1) := by decide +kernel
theorem dX5_listWays_84 : decode cX5_listWays 84 = .ok (.ireturn, 1) := by decide +kernel
set_option maxHeartbeats 4000000 in
set_option maxRecDepth 100000 in
theorem c_X5_listWays (l : Launch) (G : XG) (M : XM) (P : XP) (sc : Nat) (wy wm pk : Nat → Nat) (V : XV) (n aa ac : Nat) (ra : Nat → Nat) (o : Nat → Int32 → Int32 → Int64) (zf zs : Nat → Int32) (zd : Nat → Int64) (hV : xV M n aa ac ra o zf zs zd) : Met l yX5_listWays (wC yX5_listWays cX5_listWays 5 (some .int)) (rmD 1) (xPc G [.ref (xga G 3)] M P (sc, wy, wm, pk) V) (va_Qi (fun r u => r = nI (zwl n aa ra 1200).length ∧ ∃ wy2 : Nat → Nat, u = (M, P, (sc, wy2, wm, pk), V) ∧ zpre wy2 (zwl n aa ra 1200)) (xB G) (xA G)) 0 0 (xA G) := by
  refine xst "DoFinder$Search" (by decide) rfl (Nat.le_of_ble_eq_true rfl) ?_
  intro p e s m args below meth c ls F hr hlk hW hl
  have hl : lv_has ls 5 [(0, .ref (xga G 3))] := hl
  have hW : xW G s s.heap s.heap [] M P (sc, wy, wm, pk) V := hW
  obtain ⟨en, ea, ec, era, eo, ef, es, ed, bn, ba, bc, bf, brc, bra, bd⟩ := id hV
  refine lv_iconst (v := nI 0) F.1 F.2.1 dX5_listWays_0 (by decide) ?_
  refine lv_istore_n (lv' := [(1, .int (nI 0)), (0, .ref (xga G 3))]) F.1 F.2.1 dX5_listWays_1 rfl hl (by decide) rfl (fun ls hl => ?_)
  refine lv_iconst (v := nI 0) F.1 F.2.1 dX5_listWays_2 (by decide) ?_
  refine lv_istore_n (lv' := [(2, .int (nI 0)), (1, .int (nI 0)), (0, .ref (xga G 3))]) F.1 F.2.1 dX5_listWays_3 rfl hl (by decide) rfl (fun ls hl => ?_)
  have lp4 : ∀ (k4 : Nat) (t : Nat) (r : Nat) (wz : Nat → Nat), n - r = k4 → (r ≤ n) → (t = (zwl n aa ra (100 * r)).length) → (zpre wz (zwl n aa ra (100 * r))) → ∀ (H : Heap) (locs : List Loc) (ls : Array Slot), xW G s s.heap H locs M P (sc, wz, wm, pk) V →  lv_has ls 5 [(0, .ref (xga G 3)), (1, .int (nI t)), (2, .int (nI r))] → W p l e (rmD 1) s m args below meth c H locs 0 0 (MQ below (va_Qi (fun r u => r = nI (zwl n aa ra 1200).length ∧ ∃ wy2 : Nat → Nat, u = (M, P, (sc, wy2, wm, pk), V) ∧ zpre wy2 (zwl n aa ra 1200)) (xB G) (xA G)) args s 0 0 (xA G)) (F0 m 4 ls []) := by
    intro k4
    induction k4 using Nat.strongRecOn with
    | ind k4 ih4 =>
      intro t r wz hk4 h1 h2 h3 H locs ls hW hl
      have b2 := zwl_len100 (n := n) (aa := aa) (ra := ra) r h1
      refine lv_iload_n F.1 F.2.1 dX5_listWays_4 rfl (lv_at hl 2 rfl) ?_
      refine lv_aload_n F.1 F.2.1 dX5_listWays_5 rfl (lv_at hl 0 rfl) ?_
      refine xg_Search_library F hW tm_126 dX5_listWays_6 ?_
      refine xg_Library_count F hW tm_73 dX5_listWays_9 ?_
      refine lv_icmp_ge (tgt := 83) F.1 F.2.1 dX5_listWays_12 (by decide) (fun c12 => ?_) (fun c12 => ?_)
      · have c12 := ci_le (a := ((M.1 : Nat) : Int)) (b := ((r : Nat) : Int)) (nI_toInt (by omega)) (nI_toInt (by omega)) c12
        refine lv_iload_n F.1 F.2.1 dX5_listWays_83 rfl (lv_at hl 1 rfl) ?_
        refine xre_i F hr hlk hW dX5_listWays_84 ?_
        have e : r = n := by omega
        subst e
        rw [zwl_all bn]
        exact ⟨by rw [h2], wz, rfl, h3⟩
      · have c12 := ci_nle (a := ((M.1 : Nat) : Int)) (b := ((r : Nat) : Int)) (nI_toInt (by omega)) (nI_toInt (by omega)) c12
        have q1 := bra r (by omega)
        have q2 := era r (by omega)
        refine lv_aload_n F.1 F.2.1 dX5_listWays_15 rfl (lv_at hl 0 rfl) ?_
        refine xg_Search_library F hW tm_126 dX5_listWays_16 ?_
        refine xg_Library_routines F hW tm_69 dX5_listWays_19 ?_
        refine lv_iload_n F.1 F.2.1 dX5_listWays_22 rfl (lv_at hl 2 rfl) ?_
        refine xl_ro (j := r) F hW rfl (by omega) dX5_listWays_23 ?_
        refine xg_Routine_arguments F hW (j := r) (by omega) tm_31 dX5_listWays_24 ?_
        refine lv_istore_n (lv' := [(3, .int (nI (M.2.2.2.1 r))), (0, .ref (xga G 3)), (1, .int (nI t)), (2, .int (nI r))]) F.1 F.2.1 dX5_listWays_27 rfl hl (by decide) rfl (fun ls hl => ?_)
        refine lv_iconst (v := nI 0) F.1 F.2.1 dX5_listWays_28 (by decide) ?_
        refine lv_istore (lv' := [(4, .int (nI 0)), (3, .int (nI (M.2.2.2.1 r))), (0, .ref (xga G 3)), (1, .int (nI t)), (2, .int (nI r))]) F.1 F.2.1 dX5_listWays_29 hl (by decide) rfl (fun ls hl => ?_)
        have lp31 : ∀ (k31 : Nat) (h : Nat) (t1 : Nat) (wz1 : Nat → Nat), 30 - h = k31 → (h ≤ 30) → (t1 = (zwl n aa ra (100 * r + h)).length) → (zpre wz1 (zwl n aa ra (100 * r + h))) → ∀ (H : Heap) (locs : List Loc) (ls : Array Slot), xW G s s.heap H locs M P (sc, wz1, wm, pk) V →  lv_has ls 5 [(0, .ref (xga G 3)), (2, .int (nI r)), (3, .int (nI (M.2.2.2.1 r))), (1, .int (nI t1)), (4, .int (nI h))] → W p l e (rmD 1) s m args below meth c H locs 0 0 (MQ below (va_Qi (fun r u => r = nI (zwl n aa ra 1200).length ∧ ∃ wy2 : Nat → Nat, u = (M, P, (sc, wy2, wm, pk), V) ∧ zpre wy2 (zwl n aa ra 1200)) (xB G) (xA G)) args s 0 0 (xA G)) (F0 m 31 ls []) := by
          intro k31
          induction k31 using Nat.strongRecOn with
          | ind k31 ih31 =>
            intro h t1 wz1 hk31 h4 h5 h6 H locs ls hW hl
            have b3 := zwl_len (n := n) (aa := aa) (ra := ra) (r := r) (by omega) h (by omega)
            have b4 : zcw aa (ra r) h ≤ 20 := by unfold zcw; repeat' split
                                                 all_goals omega
            refine lv_iload F.1 F.2.1 dX5_listWays_31 (lv_at hl 4 rfl) ?_
            refine lv_bipush (v := nI 30) F.1 F.2.1 dX5_listWays_33 (by decide) ?_
            refine lv_icmp_ge (tgt := 77) F.1 F.2.1 dX5_listWays_35 (by decide) (fun c35 => ?_) (fun c35 => ?_)
            · have c35 := ci_le (a := 30) (b := ((h : Nat) : Int)) (by decide) (nI_toInt (by omega)) c35
              refine lv_iinc (v := nI (r + 1)) (lv' := [(2, .int (nI (r + 1))), (0, .ref (xga G 3)), (3, .int (nI (M.2.2.2.1 r))), (1, .int (nI t1)), (4, .int (nI h))]) F.1 F.2.1 dX5_listWays_77 hl (k := 1) rfl (nI_add _ 1) (by decide) rfl (fun ls hl => ?_)
              refine lv_goto (tgt := 4) F.1 F.2.1 dX5_listWays_80 (by decide) ?_
              exact ih4 (n - (r + 1)) (by omega) t1 (r + 1) wz1 rfl (by omega) (zwl_nx1 (by omega) (by omega) h5) (zwl_nx2 (by omega) (by omega) h6) _ _ _ hW (lv_sub hl [1, 3, 0] rfl)
            · have c35 := ci_nle (a := 30) (b := ((h : Nat) : Int)) (by decide) (nI_toInt (by omega)) c35
              refine lv_aload_n F.1 F.2.1 dX5_listWays_38 rfl (lv_at hl 0 rfl) ?_
              refine lv_iload F.1 F.2.1 dX5_listWays_39 (lv_at hl 4 rfl) ?_
              refine lv_iload_n F.1 F.2.1 dX5_listWays_41 rfl (lv_at hl 2 rfl) ?_
              refine xca_i (b := (xga G 3)) (As := [.int (nI h), .int (nI (M.2.2.2.1 r))]) (rest := []) F (c_X5_fits l G M P (sc, wz1, wm, pk) V n aa ac ra o zf zs zd hV h (M.2.2.2.1 r) (by omega) (by omega)) (xcw F.2.2.2.2 ca_X5_fits tm_352 rfl rfl ⟨by decide, by decide⟩) (xr_X5 hW) hW rfl hl.1 rfl (Nat.le_of_ble_eq_true rfl) dX5_listWays_42 (fun r42 u42 H locs hp42 hW => ?_)
              obtain ⟨hp42, rfl⟩ := hp42
              have hW : xW G s s.heap H locs M P (sc, wz1, wm, pk) V := hW
              rcases hp42 with ⟨rfl, y42⟩ | ⟨rfl, y42⟩
              · skip
                rw [q2] at y42
                have q3 := zwl_lt bn (show r < n by omega) (show h < 100 by omega) y42
                have q4 := (zway_fit (n := n) (aa := aa) (ra := ra) (r := r) (w := h) (by omega) (by omega)).mpr y42
                refine lv_if_eq (tgt := 71) F.1 F.2.1 dX5_listWays_45 (by decide) (fun q => absurd q (by decide)) (fun _ => ?_)
                refine lv_iload_n F.1 F.2.1 dX5_listWays_48 rfl (lv_at hl 3 rfl) ?_
                refine lv_sipush (v := nI 240) F.1 F.2.1 dX5_listWays_49 (by decide) ?_
                refine lv_icmp_ge (tgt := 71) F.1 F.2.1 dX5_listWays_52 (by decide) (fun c52 => ?_) (fun c52 => ?_)
                · exfalso
                  have c52 := ci_le (a := 240) (b := ((t1 : Nat) : Int)) (by decide) (nI_toInt (by omega)) c52
                  omega
                have c52 := ci_nle (a := 240) (b := ((t1 : Nat) : Int)) (by decide) (nI_toInt (by omega)) c52
                refine lv_aload_n F.1 F.2.1 dX5_listWays_55 rfl (lv_at hl 0 rfl) ?_
                refine xg_Search_ways F hW tm_128 dX5_listWays_56 ?_
                refine lv_iload_n F.1 F.2.1 dX5_listWays_59 rfl (lv_at hl 3 rfl) ?_
                refine lv_bipush (v := nI 100) F.1 F.2.1 dX5_listWays_60 (by decide) ?_
                refine lv_iload_n F.1 F.2.1 dX5_listWays_62 rfl (lv_at hl 1 rfl) ?_
                refine ax_mul (z := nI (100 * r)) F (pk_mul _ _) dX5_listWays_63 ?_
                refine lv_iload F.1 F.2.1 dX5_listWays_64 (lv_at hl 4 rfl) ?_
                refine ax_add (z := nI ((100 * r) + h)) F (nI_add _ _) dX5_listWays_66 ?_
                refine xs_wy (i := t1) (k := ((100 * r) + h)) F hW rfl (by omega) rfl dX5_listWays_67 (fun H locs hW => ?_)
                have hW : xW G s s.heap H locs M P (sc, upN wz1 t1 ((100 * r) + h), wm, pk) V := hW
                refine lv_iinc (v := nI (t1 + 1)) (lv' := [(1, .int (nI (t1 + 1))), (0, .ref (xga G 3)), (2, .int (nI r)), (3, .int (nI (M.2.2.2.1 r))), (4, .int (nI h))]) F.1 F.2.1 dX5_listWays_68 hl (k := 3) rfl (nI_add _ 1) (by decide) rfl (fun ls hl => ?_)
                refine lv_iinc (v := nI (h + 1)) (lv' := [(4, .int (nI (h + 1))), (1, .int (nI (t1 + 1))), (0, .ref (xga G 3)), (2, .int (nI r)), (3, .int (nI (M.2.2.2.1 r)))]) F.1 F.2.1 dX5_listWays_71 hl (k := 4) rfl (nI_add _ 1) (by decide) rfl (fun ls hl => ?_)
                refine lv_goto (tgt := 31) F.1 F.2.1 dX5_listWays_74 (by decide) ?_
                exact ih31 (30 - (h + 1)) (by omega) (h + 1) (t1 + 1) (upN wz1 t1 ((100 * r) + h)) rfl (by omega) (by rw [show 100 * r + (h + 1) = 100 * r + h + 1 by omega, zwl_t q4, List.length_append, ← h5]; rfl) (by rw [show 100 * r + (h + 1) = 100 * r + h + 1 by omega, zwl_t q4, h5]; exact zpre_push _ h6) _ _ _ hW (lv_sub hl [2, 3, 4, 1, 0] rfl)
              · skip
                rw [q2] at y42
                have q4 := fun z => y42 ((zway_fit (n := n) (aa := aa) (ra := ra) (r := r) (w := h) (by omega) (by omega)).mp z)
                refine lv_if_eq (tgt := 71) F.1 F.2.1 dX5_listWays_45 (by decide) (fun _ => ?_) (fun q => absurd q (by decide))
                refine lv_iinc (v := nI (h + 1)) (lv' := [(4, .int (nI (h + 1))), (0, .ref (xga G 3)), (2, .int (nI r)), (3, .int (nI (M.2.2.2.1 r))), (1, .int (nI t1))]) F.1 F.2.1 dX5_listWays_71 hl (k := 4) rfl (nI_add _ 1) (by decide) rfl (fun ls hl => ?_)
                refine lv_goto (tgt := 31) F.1 F.2.1 dX5_listWays_74 (by decide) ?_
                exact ih31 (30 - (h + 1)) (by omega) (h + 1) t1 wz1 rfl (by omega) (by rw [show 100 * r + (h + 1) = 100 * r + h + 1 by omega, zwl_f q4]; exact h5) (by rw [show 100 * r + (h + 1) = 100 * r + h + 1 by omega, zwl_f q4]; exact h6) _ _ _ hW (lv_sub hl [1, 2, 3, 4, 0] rfl)
        exact lp31 (30 - 0) 0 t wz rfl (Nat.zero_le _) (h2) (h3) _ _ _ hW (lv_sub hl [2, 4, 1, 3, 0] rfl)
  exact lp4 (n - 0) 0 0 wy rfl (Nat.zero_le _) (rfl) (zpre_nil) _ _ _ hW (lv_sub hl [2, 1, 0] rfl)
theorem dX5_pickWays_0 : decode cX5_pickWays 0 = .ok (.aload_n 0, 1) := by decide +kernel
theorem dX5_pickWays_1 : decode cX5_pickWays 1 = .ok (.invokevirtual 90, 3) := by decide +kernel
theorem dX5_pickWays_4 : decode cX5_pickWays 4 = .ok (.istore_n 2, 1) := by decide +kernel
theorem dX5_pickWays_5 : decode cX5_pickWays 5 = .ok (.aload_n 0, 1) := by decide +kernel
theorem dX5_pickWays_6 : decode cX5_pickWays 6 = .ok (.iconst 0, 1) := by decide +kernel
theorem dX5_pickWays_7 : decode cX5_pickWays 7 = .ok (.putfield 21, 3) := by decide +kernel
theorem dX5_pickWays_10 : decode cX5_pickWays 10 = .ok (.iconst 0, 1) := by decide +kernel
theorem dX5_pickWays_11 : decode cX5_pickWays 11 = .ok (.istore_n 3, 1) := by decide +kernel
theorem dX5_pickWays_12 : decode cX5_pickWays 12 = .ok (.iload_n 3, 1) := by decide +kernel
theorem dX5_pickWays_13 : decode cX5_pickWays 13 = .ok (.iload_n 2, 1) := by decide +kernel
theorem dX5_pickWays_14 : decode cX5_pickWays 14 = .ok (.if_icmp .ge 52, 3) := by decide +kernel
theorem dX5_pickWays_17 : decode cX5_pickWays 17 = .ok (.iload_n 1, 1) := by decide +kernel
theorem dX5_pickWays_18 : decode cX5_pickWays 18 = .ok (.ifCond .eq 19, 3) := by decide +kernel
theorem dX5_pickWays_21 : decode cX5_pickWays 21 = .ok (.aload_n 0, 1) := by decide +kernel
theorem dX5_pickWays_22 : decode cX5_pickWays 22 = .ok (.aload_n 0, 1) := by decide +kernel
theorem dX5_pickWays_23 : decode cX5_pickWays 23 = .ok (.getfield 9, 3) := by decide +kernel
theorem dX5_pickWays_26 : decode cX5_pickWays 26 = .ok (.iload_n 3, 1) := by decide +kernel
theorem dX5_pickWays_27 : decode cX5_pickWays 27 = .ok (.iaload, 1) := by decide +kernel
theorem dX5_pickWays_28 : decode cX5_pickWays 28 = .ok (.invokevirtual 94, 3) := by decide +kernel
theorem dX5_pickWays_31 : decode cX5_pickWays 31 = .ok (.ifCond .eq 29, 3) := by decide +kernel
theorem dX5_pickWays_34 : decode cX5_pickWays 34 = .ok (.goto 16, 3) := by decide +kernel
theorem dX5_pickWays_37 : decode cX5_pickWays 37 = .ok (.aload_n 0, 1) := by decide +kernel
theorem dX5_pickWays_38 : decode cX5_pickWays 38 = .ok (.aload_n 0, 1) := by decide +kernel
theorem dX5_pickWays_39 : decode cX5_pickWays 39 = .ok (.getfield 9, 3) := by decide +kernel
theorem dX5_pickWays_42 : decode cX5_pickWays 42 = .ok (.iload_n 3, 1) := by decide +kernel
theorem dX5_pickWays_43 : decode cX5_pickWays 43 = .ok (.iaload, 1) := by decide +kernel
theorem dX5_pickWays_44 : decode cX5_pickWays 44 = .ok (.invokevirtual 97, 3) := by decide +kernel
theorem dX5_pickWays_47 : decode cX5_pickWays 47 = .ok (.ifCond .eq 13, 3) := by decide +kernel
theorem dX5_pickWays_50 : decode cX5_pickWays 50 = .ok (.aload_n 0, 1) := by decide +kernel
theorem dX5_pickWays_51 : decode cX5_pickWays 51 = .ok (.aload_n 0, 1) := by decide +kernel
theorem dX5_pickWays_52 : decode cX5_pickWays 52 = .ok (.getfield 9, 3) := by decide +kernel
theorem dX5_pickWays_55 : decode cX5_pickWays 55 = .ok (.iload_n 3, 1) := by decide +kernel
theorem dX5_pickWays_56 : decode cX5_pickWays 56 = .ok (.iaload, 1) := by decide +kernel
theorem dX5_pickWays_57 : decode cX5_pickWays 57 = .ok (.invokevirtual 100, 3) := by decide +kernel
theorem dX5_pickWays_60 : decode cX5_pickWays 60 = .ok (.iinc 3 1, 3) := by decide +kernel
theorem dX5_pickWays_63 : decode cX5_pickWays 63 = .ok (.goto (-51), 3) := by decide +kernel
theorem dX5_pickWays_66 : decode cX5_pickWays 66 = .ok (.aload_n 0, 1) := by decide +kernel
theorem dX5_pickWays_67 : decode cX5_pickWays 67 = .ok (.getfield 21, 3) := by decide +kernel
theorem dX5_pickWays_70 : decode cX5_pickWays 70 = .ok (.ireturn, 1) := by decide +kernel
set_option maxHeartbeats 4000000 in
set_option maxRecDepth 100000 in
theorem c_X5_pickWays (l : Launch) (G : XG) (M : XM) (P : XP) (sc : Nat) (wy wm pk : Nat → Nat) (V : XV) (n aa ac : Nat) (ra : Nat → Nat) (o : Nat → Int32 → Int32 → Int64) (zf zs : Nat → Int32) (zd : Nat → Int64) (hV : xV M n aa ac ra o zf zs zd) (b : Nat) (hb : b = 0 ∨ b = 1) : Met l yX5_pickWays (wC yX5_pickWays cX5_pickWays 4 (some .int)) (rmD 5) (xPc G [.ref (xga G 3), .int (nI b)] M P (sc, wy, wm, pk) V) (va_Qi (fun r u => r = nI ((zwl n aa ra 1200).filter (fun w => decide (zst o zf zs zd ac w = b))).length ∧ ∃ (P2 : XP) (wy2 pk2 : Nat → Nat), u = (M, P2, (((zwl n aa ra 1200).filter (fun w => decide (zst o zf zs zd ac w = b))).length, wy2, wm, pk2), V) ∧ zpre pk2 ((zwl n aa ra 1200).filter (fun w => decide (zst o zf zs zd ac w = b)))) (xB G) (xA G)) 0 0 (xA G) := by
  refine xst "DoFinder$Search" (by decide) rfl (Nat.le_of_ble_eq_true rfl) ?_
  intro p e s m args below meth c ls F hr hlk hW hl
  have hl : lv_has ls 4 [(0, .ref (xga G 3)), (1, .int (nI b))] := hl
  have hW : xW G s s.heap s.heap [] M P (sc, wy, wm, pk) V := hW
  obtain ⟨en, ea, ec, era, eo, ef, es, ed, bn, ba, bc, bf, brc, bra, bd⟩ := id hV
  refine lv_aload_n F.1 F.2.1 dX5_pickWays_0 rfl (lv_at hl 0 rfl) ?_
  refine xca_i (b := (xga G 3)) (As := []) (rest := []) F (c_X5_listWays l G M P sc wy wm pk V n aa ac ra o zf zs zd hV) (xcw F.2.2.2.2 ca_X5_listWays tm_376 rfl rfl ⟨by decide, by decide⟩) (xr_X5 hW) hW rfl hl.1 rfl (Nat.le_of_ble_eq_true rfl) dX5_pickWays_1 (fun r1 u1 H locs hp1 hW => ?_)
  obtain ⟨rfl, wy1, rfl, hl1⟩ := hp1
  have hW : xW G s s.heap H locs M P (sc, wy1, wm, pk) V := hW
  have lb := zwl_all_len (n := n) (aa := aa) (ra := ra) bn
  refine lv_istore_n (lv' := [(2, .int (nI ((zwl n aa ra 1200).length))), (0, .ref (xga G 3)), (1, .int (nI b))]) F.1 F.2.1 dX5_pickWays_4 rfl hl (by decide) rfl (fun ls hl => ?_)
  refine lv_aload_n F.1 F.2.1 dX5_pickWays_5 rfl (lv_at hl 1 rfl) ?_
  refine lv_iconst (v := nI 0) F.1 F.2.1 dX5_pickWays_6 (by decide) ?_
  refine xp_Search_pickedCount (k := 0) F hW tm_131 rfl dX5_pickWays_7 (fun H locs hW => ?_)
  have hW : xW G s s.heap H locs M P (0, wy1, wm, pk) V := hW
  refine lv_iconst (v := nI 0) F.1 F.2.1 dX5_pickWays_10 (by decide) ?_
  refine lv_istore_n (lv' := [(3, .int (nI 0)), (2, .int (nI ((zwl n aa ra 1200).length))), (0, .ref (xga G 3)), (1, .int (nI b))]) F.1 F.2.1 dX5_pickWays_11 rfl hl (by decide) rfl (fun ls hl => ?_)
  have lp12 : ∀ (k12 : Nat) (Pk : XP) (i : Nat) (sd : Nat) (pl : Nat → Nat), (zwl n aa ra 1200).length - i = k12 → (i ≤ (zwl n aa ra 1200).length) → (sd = (((zwl n aa ra 1200).take i).filter (fun w => decide (zst o zf zs zd ac w = b))).length) → (zpre pl (((zwl n aa ra 1200).take i).filter (fun w => decide (zst o zf zs zd ac w = b)))) → ∀ (H : Heap) (locs : List Loc) (ls : Array Slot), xW G s s.heap H locs M Pk (sd, wy1, wm, pl) V →  lv_has ls 4 [(0, .ref (xga G 3)), (1, .int (nI b)), (2, .int (nI ((zwl n aa ra 1200).length))), (3, .int (nI i))] → W p l e (rmD 5) s m args below meth c H locs 0 0 (MQ below (va_Qi (fun r u => r = nI ((zwl n aa ra 1200).filter (fun w => decide (zst o zf zs zd ac w = b))).length ∧ ∃ (P2 : XP) (wy2 pk2 : Nat → Nat), u = (M, P2, (((zwl n aa ra 1200).filter (fun w => decide (zst o zf zs zd ac w = b))).length, wy2, wm, pk2), V) ∧ zpre pk2 ((zwl n aa ra 1200).filter (fun w => decide (zst o zf zs zd ac w = b)))) (xB G) (xA G)) args s 0 0 (xA G)) (F0 m 12 ls []) := by
    intro k12
    induction k12 using Nat.strongRecOn with
    | ind k12 ih12 =>
      intro Pk i sd pl hk12 hi h2 h3 H locs ls hW hl
      have b5 : sd ≤ i := by rw [h2]; exact zfl_le _ _ _
      refine lv_iload_n F.1 F.2.1 dX5_pickWays_12 rfl (lv_at hl 3 rfl) ?_
      refine lv_iload_n F.1 F.2.1 dX5_pickWays_13 rfl (lv_at hl 2 rfl) ?_
      refine lv_icmp_ge (tgt := 66) F.1 F.2.1 dX5_pickWays_14 (by decide) (fun c14 => ?_) (fun c14 => ?_)
      · have c14 := ci_le (a := (((zwl n aa ra 1200).length : Nat) : Int)) (b := ((i : Nat) : Int)) (nI_toInt (by omega)) (nI_toInt (by omega)) c14
        refine lv_aload_n F.1 F.2.1 dX5_pickWays_66 rfl (lv_at hl 0 rfl) ?_
        refine xg_Search_pickedCount F hW tm_131 dX5_pickWays_67 ?_
        refine xre_i F hr hlk hW dX5_pickWays_70 ?_
        rw [show i = (zwl n aa ra 1200).length by omega, List.take_length] at h2 h3
        exact ⟨congrArg nI h2, _, _, _, by rw [← h2], h3⟩
      · have c14 := ci_nle (a := (((zwl n aa ra 1200).length : Nat) : Int)) (b := ((i : Nat) : Int)) (nI_toInt (by omega)) (nI_toInt (by omega)) c14
        have e1 : wy1 i = (zwl n aa ra 1200).getD i 0 := hl1 i (by omega)
        have e2 := zwl_get (n := n) (aa := aa) (ra := ra) (show i < (zwl n aa ra 1200).length by omega)
        rw [← e1] at e2
        have hkk : zok n aa ra (wy1 i) = true := zok_way e2.1 (by omega)
        refine lv_iload_n F.1 F.2.1 dX5_pickWays_17 rfl (lv_at hl 1 rfl) ?_
        refine lv_if_eq (tgt := 37) F.1 F.2.1 dX5_pickWays_18 (by decide) (fun c18 => ?_) (fun c18 => ?_)
        · have c18 := ci_eq (a := ((b : Nat) : Int)) (b := 0) (nI_toInt (by omega)) ci_0 c18
          refine lv_aload_n F.1 F.2.1 dX5_pickWays_37 rfl (lv_at hl 0 rfl) ?_
          refine lv_aload_n F.1 F.2.1 dX5_pickWays_38 rfl (lv_at hl 0 rfl) ?_
          refine xg_Search_ways F hW tm_128 dX5_pickWays_39 ?_
          refine lv_iload_n F.1 F.2.1 dX5_pickWays_42 rfl (lv_at hl 3 rfl) ?_
          refine xl_wy (i := i) F hW rfl (by omega) dX5_pickWays_43 ?_
          refine xca_i (b := (xga G 3)) (As := [.int (nI (wy1 i))]) (rest := []) F (c_X5_isFound l G M Pk (sd, wy1, wm, pl) V n aa ac ra o zf zs zd hV (wy1 i) (by omega) hkk) (xcw F.2.2.2.2 ca_X5_isFound tm_390 rfl rfl ⟨by decide, by decide⟩) (xr_X5 hW) hW rfl hl.1 rfl (Nat.le_of_ble_eq_true rfl) dX5_pickWays_44 (fun r44 u44 H locs hp44 hW => ?_)
          obtain ⟨hp44, P44, rfl⟩ := hp44
          have hW : xW G s s.heap H locs M P44 (sd, wy1, wm, pl) V := hW
          rcases hp44 with ⟨rfl, y44⟩ | ⟨rfl, y44⟩
          · skip
            skip
            refine lv_if_eq (tgt := 60) F.1 F.2.1 dX5_pickWays_47 (by decide) (fun q => absurd q (by decide)) (fun _ => ?_)
            refine lv_aload_n F.1 F.2.1 dX5_pickWays_50 rfl (lv_at hl 0 rfl) ?_
            refine lv_aload_n F.1 F.2.1 dX5_pickWays_51 rfl (lv_at hl 0 rfl) ?_
            refine xg_Search_ways F hW tm_128 dX5_pickWays_52 ?_
            refine lv_iload_n F.1 F.2.1 dX5_pickWays_55 rfl (lv_at hl 3 rfl) ?_
            refine xl_wy (i := i) F hW rfl (by omega) dX5_pickWays_56 ?_
            refine xca_v (b := (xga G 3)) (As := [.int (nI (wy1 i))]) (rest := []) F (c_X5_pick l G M P44 sd wy1 wm pl V (by omega) (wy1 i)) (xcw F.2.2.2.2 ca_X5_pick tm_394 rfl rfl ⟨by decide, by decide⟩) (xr_X5 hW) hW rfl hl.1 rfl (Nat.le_of_ble_eq_true rfl) dX5_pickWays_57 (fun u57 H locs hp57 hW => ?_)
            obtain rfl := hp57
            have hW : xW G s s.heap H locs M P44 (sd + 1, wy1, wm, upN pl sd (wy1 i)) V := hW
            refine lv_iinc (v := nI (i + 1)) (lv' := [(3, .int (nI (i + 1))), (0, .ref (xga G 3)), (1, .int (nI b)), (2, .int (nI ((zwl n aa ra 1200).length)))]) F.1 F.2.1 dX5_pickWays_60 hl (k := 3) rfl (nI_add _ 1) (by decide) rfl (fun ls hl => ?_)
            refine lv_goto (tgt := 12) F.1 F.2.1 dX5_pickWays_63 (by decide) ?_
            exact ih12 ((zwl n aa ra 1200).length - (i + 1)) (by omega) P44 (i + 1) (sd + 1) (upN pl sd (wy1 i)) rfl (by omega) (by rw [zl_take_t (by omega) (by rw [← e1]; exact decide_eq_true (by omega)), List.length_append, ← h2]; rfl) (by rw [zl_take_t (by omega) (by rw [← e1]; exact decide_eq_true (by omega)), h2, ← e1]; exact zpre_push _ h3) _ _ _ hW (lv_sub hl [1, 2, 3, 0] rfl)
          · skip
            skip
            refine lv_if_eq (tgt := 60) F.1 F.2.1 dX5_pickWays_47 (by decide) (fun _ => ?_) (fun q => absurd q (by decide))
            refine lv_iinc (v := nI (i + 1)) (lv' := [(3, .int (nI (i + 1))), (0, .ref (xga G 3)), (1, .int (nI b)), (2, .int (nI ((zwl n aa ra 1200).length)))]) F.1 F.2.1 dX5_pickWays_60 hl (k := 3) rfl (nI_add _ 1) (by decide) rfl (fun ls hl => ?_)
            refine lv_goto (tgt := 12) F.1 F.2.1 dX5_pickWays_63 (by decide) ?_
            exact ih12 ((zwl n aa ra 1200).length - (i + 1)) (by omega) P44 (i + 1) sd pl rfl (by omega) (by rw [zl_take_f (by omega) (by rw [← e1]; simp only [decide_eq_true_eq]; omega)]; exact h2) (by rw [zl_take_f (by omega) (by rw [← e1]; simp only [decide_eq_true_eq]; omega)]; exact h3) _ _ _ hW (lv_sub hl [1, 2, 3, 0] rfl)
        · have c18 := ci_ne (a := ((b : Nat) : Int)) (b := 0) (nI_toInt (by omega)) ci_0 c18
          refine lv_aload_n F.1 F.2.1 dX5_pickWays_21 rfl (lv_at hl 0 rfl) ?_
          refine lv_aload_n F.1 F.2.1 dX5_pickWays_22 rfl (lv_at hl 0 rfl) ?_
          refine xg_Search_ways F hW tm_128 dX5_pickWays_23 ?_
          refine lv_iload_n F.1 F.2.1 dX5_pickWays_26 rfl (lv_at hl 3 rfl) ?_
          refine xl_wy (i := i) F hW rfl (by omega) dX5_pickWays_27 ?_
          refine xca_i (b := (xga G 3)) (As := [.int (nI (wy1 i))]) (rest := []) F (c_X5_isOpen l G M Pk (sd, wy1, wm, pl) V n aa ac ra o zf zs zd hV (wy1 i) (by omega) hkk) (xcw F.2.2.2.2 ca_X5_isOpen tm_380 rfl rfl ⟨by decide, by decide⟩) (xr_X5 hW) hW rfl hl.1 rfl (Nat.le_of_ble_eq_true rfl) dX5_pickWays_28 (fun r28 u28 H locs hp28 hW => ?_)
          obtain ⟨hp28, P28, rfl⟩ := hp28
          have hW : xW G s s.heap H locs M P28 (sd, wy1, wm, pl) V := hW
          rcases hp28 with ⟨rfl, y28⟩ | ⟨rfl, y28⟩
          · skip
            skip
            refine lv_if_eq (tgt := 60) F.1 F.2.1 dX5_pickWays_31 (by decide) (fun q => absurd q (by decide)) (fun _ => ?_)
            refine lv_goto (tgt := 50) F.1 F.2.1 dX5_pickWays_34 (by decide) ?_
            refine lv_aload_n F.1 F.2.1 dX5_pickWays_50 rfl (lv_at hl 0 rfl) ?_
            refine lv_aload_n F.1 F.2.1 dX5_pickWays_51 rfl (lv_at hl 0 rfl) ?_
            refine xg_Search_ways F hW tm_128 dX5_pickWays_52 ?_
            refine lv_iload_n F.1 F.2.1 dX5_pickWays_55 rfl (lv_at hl 3 rfl) ?_
            refine xl_wy (i := i) F hW rfl (by omega) dX5_pickWays_56 ?_
            refine xca_v (b := (xga G 3)) (As := [.int (nI (wy1 i))]) (rest := []) F (c_X5_pick l G M P28 sd wy1 wm pl V (by omega) (wy1 i)) (xcw F.2.2.2.2 ca_X5_pick tm_394 rfl rfl ⟨by decide, by decide⟩) (xr_X5 hW) hW rfl hl.1 rfl (Nat.le_of_ble_eq_true rfl) dX5_pickWays_57 (fun u57 H locs hp57 hW => ?_)
            obtain rfl := hp57
            have hW : xW G s s.heap H locs M P28 (sd + 1, wy1, wm, upN pl sd (wy1 i)) V := hW
            refine lv_iinc (v := nI (i + 1)) (lv' := [(3, .int (nI (i + 1))), (0, .ref (xga G 3)), (1, .int (nI b)), (2, .int (nI ((zwl n aa ra 1200).length)))]) F.1 F.2.1 dX5_pickWays_60 hl (k := 3) rfl (nI_add _ 1) (by decide) rfl (fun ls hl => ?_)
            refine lv_goto (tgt := 12) F.1 F.2.1 dX5_pickWays_63 (by decide) ?_
            exact ih12 ((zwl n aa ra 1200).length - (i + 1)) (by omega) P28 (i + 1) (sd + 1) (upN pl sd (wy1 i)) rfl (by omega) (by rw [zl_take_t (by omega) (by rw [← e1]; exact decide_eq_true (by omega)), List.length_append, ← h2]; rfl) (by rw [zl_take_t (by omega) (by rw [← e1]; exact decide_eq_true (by omega)), h2, ← e1]; exact zpre_push _ h3) _ _ _ hW (lv_sub hl [1, 2, 3, 0] rfl)
          · skip
            skip
            refine lv_if_eq (tgt := 60) F.1 F.2.1 dX5_pickWays_31 (by decide) (fun _ => ?_) (fun q => absurd q (by decide))
            refine lv_iinc (v := nI (i + 1)) (lv' := [(3, .int (nI (i + 1))), (0, .ref (xga G 3)), (1, .int (nI b)), (2, .int (nI ((zwl n aa ra 1200).length)))]) F.1 F.2.1 dX5_pickWays_60 hl (k := 3) rfl (nI_add _ 1) (by decide) rfl (fun ls hl => ?_)
            refine lv_goto (tgt := 12) F.1 F.2.1 dX5_pickWays_63 (by decide) ?_
            exact ih12 ((zwl n aa ra 1200).length - (i + 1)) (by omega) P28 (i + 1) sd pl rfl (by omega) (by rw [zl_take_f (by omega) (by rw [← e1]; simp only [decide_eq_true_eq]; omega)]; exact h2) (by rw [zl_take_f (by omega) (by rw [← e1]; simp only [decide_eq_true_eq]; omega)]; exact h3) _ _ _ hW (lv_sub hl [1, 2, 3, 0] rfl)
  exact lp12 ((zwl n aa ra 1200).length - 0) P 0 0 pk rfl (Nat.zero_le _) (rfl) (zpre_nil) _ _ _ hW (lv_sub hl [2, 3, 1, 0] rfl)
