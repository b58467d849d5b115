/-! ===== the reference's lists ===== -/
def zfl (n aa : Nat) (ra : Nat → Nat) (p : Nat → Bool) (k : Nat) : List Nat := (zwl n aa ra k).filter p
theorem zfl_t {n aa : Nat} {ra : Nat → Nat} {p : Nat → Bool} {k : Nat} (h : zway n aa ra k = true) (hp : p k = true) : zfl n aa ra p (k + 1) = zfl n aa ra p k ++ [k] := by
  unfold zfl; rw [zwl_t h, List.filter_append]; simp [hp]
theorem zfl_f {n aa : Nat} {ra : Nat → Nat} {p : Nat → Bool} {k : Nat} (h : ¬ (zway n aa ra k = true ∧ p k = true)) : zfl n aa ra p (k + 1) = zfl n aa ra p k := by
  unfold zfl
  by_cases hw : zway n aa ra k = true
  · have hp : ¬ p k = true := fun q => h ⟨hw, q⟩
    rw [zwl_t hw, List.filter_append]; simp [hp]
  · rw [zwl_f hw]
theorem zwl_pre {n aa : Nat} {ra : Nat → Nat} {k : Nat} : ∀ m, k ≤ m → ∃ t, zwl n aa ra m = zwl n aa ra k ++ t := by
  intro m
  induction m with
  | zero => intro h; rw [show k = 0 by omega]; exact ⟨[], rfl⟩
  | succ m ih =>
    intro h
    by_cases hk : k = m + 1
    · subst hk; exact ⟨[], (List.append_nil _).symm⟩
    · obtain ⟨t, ht⟩ := ih (by omega)
      by_cases hw : zway n aa ra m = true
      · exact ⟨t ++ [m], by rw [zwl_t hw, ht, List.append_assoc]⟩
      · exact ⟨t, by rw [zwl_f hw, ht]⟩
theorem zwl_cut {n aa : Nat} {ra : Nat → Nat} {w : Nat} (hw : w < 1200) (h : zway n aa ra w = true) : ∃ t, zwl n aa ra 1200 = zwl n aa ra w ++ (w :: t) := by
  obtain ⟨t, ht⟩ := zwl_pre (n := n) (aa := aa) (ra := ra) (k := w + 1) 1200 (by omega)
  exact ⟨t, by rw [ht, zwl_t h, List.append_assoc]; rfl⟩
theorem zget_cut {a t : List Nat} {x : Nat} : (a ++ (x :: t)).getD a.length 0 = x := by simp
theorem zkth_cut {L a t : List Nat} {x k : Nat} (h : L = a ++ (x :: t)) (hk : a.length = k) (hk2 : k < 2147483648) : nI x = zkth L (nI k) := by
  subst hk
  have e := nI_toInt hk2
  unfold zkth
  rw [if_pos (by rw [e, h]; simp; omega), e, h, show ((a.length : Int)).toNat = a.length by omega, zget_cut]
theorem zkth_hit {n aa : Nat} {ra : Nat → Nat} {p : Nat → Bool} {w k : Nat} (h1 : zway n aa ra w = true) (h2 : p w = true) (hw : w < 1200) (hk : (zfl n aa ra p w).length = k) (hk2 : k < 2147483648) : nI w = zkth (zfl n aa ra p 1200) (nI k) := by
  obtain ⟨t, ht⟩ := zwl_cut hw h1
  refine zkth_cut (a := zfl n aa ra p w) (t := t.filter p) ?_ hk hk2
  unfold zfl; rw [ht, List.filter_append, List.filter_cons, if_pos h2]
theorem zkth_none {L : List Nat} {k : Nat} (h : L.length ≤ k) (hk2 : k < 2147483648) : (-3 : Int32) = zkth L (nI k) := by
  unfold zkth; rw [if_neg (by rw [nI_toInt hk2]; omega)]
theorem zfl_lt {n aa : Nat} {ra : Nat → Nat} {p : Nat → Bool} {w : Nat} (hn : n ≤ 12) (h1 : zway n aa ra w = true) (h2 : p w = true) (hw : w < 1200) : (zfl n aa ra p w).length < 240 := by
  obtain ⟨t, ht⟩ := zwl_cut hw h1
  have h3 := zwl_all_len (n := n) (aa := aa) (ra := ra) hn
  have h4 := List.length_filter_le p (zwl n aa ra w)
  rw [ht, List.length_append, List.length_cons] at h3
  unfold zfl; omega
/-- joints below a way -/
def zjq (n aa : Nat) (ra : Nat → Nat) (p : Nat → Bool) (k w : Nat) : List Nat := zjl (zwl n aa ra 1200) ra p k ++ ((zwl n aa ra w).map (fun w => 10000 * (k + 1) + w)).filter p
theorem zjq_0 {n aa : Nat} {ra : Nat → Nat} {p : Nat → Bool} {k : Nat} : zjq n aa ra p k 0 = zjl (zwl n aa ra 1200) ra p k := List.append_nil _
theorem zjq_t {n aa : Nat} {ra : Nat → Nat} {p : Nat → Bool} {k w : Nat} (h : zway n aa ra w = true) (hp : p (10000 * (k + 1) + w) = true) : zjq n aa ra p k (w + 1) = zjq n aa ra p k w ++ [10000 * (k + 1) + w] := by
  unfold zjq; rw [zwl_t h, List.map_append, List.filter_append]
  simp only [List.map_cons, List.map_nil, List.filter_cons, hp, if_true, List.filter_nil, List.append_assoc]
theorem zjq_f {n aa : Nat} {ra : Nat → Nat} {p : Nat → Bool} {k w : Nat} (h : ¬ (zway n aa ra w = true ∧ p (10000 * (k + 1) + w) = true)) : zjq n aa ra p k (w + 1) = zjq n aa ra p k w := by
  unfold zjq
  by_cases hw : zway n aa ra w = true
  · have hp : ¬ p (10000 * (k + 1) + w) = true := fun q => h ⟨hw, q⟩
    rw [zwl_t hw, List.map_append, List.filter_append]
    simp only [List.map_cons, List.map_nil, List.filter_cons, hp, List.filter_nil]; simp
  · rw [zwl_f hw]
theorem zjq_end {n aa : Nat} {ra : Nat → Nat} {p : Nat → Bool} {k w : Nat} (h : (ra k = 1 ∧ w = 1200) ∨ (ra k ≠ 1 ∧ w = 0)) : zjl (zwl n aa ra 1200) ra p (k + 1) = zjq n aa ra p k w := by
  rcases h with ⟨h, rfl⟩ | ⟨h, rfl⟩
  · rw [zjl_t h rfl]; unfold zjp zjq; rw [List.take_length]
  · rw [zjl_f h rfl, zjp_0, zjq_0]
theorem zjl_pre (WL : List Nat) (ra : Nat → Nat) (p : Nat → Bool) {k : Nat} : ∀ m, k ≤ m → ∃ t, zjl WL ra p m = zjl WL ra p k ++ t := by
  intro m
  induction m with
  | zero => intro h; rw [show k = 0 by omega]; exact ⟨[], rfl⟩
  | succ m ih =>
    intro h
    by_cases hk : k = m + 1
    · subst hk; exact ⟨[], (List.append_nil _).symm⟩
    · obtain ⟨t, ht⟩ := ih (by omega)
      exact ⟨_, by conv => lhs; unfold zjl
                   rw [ht, List.append_assoc]⟩
theorem zkth_hitJ {n aa : Nat} {ra : Nat → Nat} {p : Nat → Bool} {q w k : Nat} (hq : q < n) (hr : ra q = 1) (h1 : zway n aa ra w = true) (h2 : p (10000 * (q + 1) + w) = true) (hw : w < 1200) (hk : (zjq n aa ra p q w).length = k) (hk2 : k < 2147483648) : nI (10000 * (q + 1) + w) = zkth (zjl (zwl n aa ra 1200) ra p n) (nI k) := by
  obtain ⟨t, ht⟩ := zwl_cut hw h1
  obtain ⟨t2, ht2⟩ := zjl_pre (zwl n aa ra 1200) ra p (k := q + 1) n (by omega)
  refine zkth_cut (a := zjq n aa ra p q w) (t := (t.map (fun w => 10000 * (q + 1) + w)).filter p ++ t2) ?_ hk hk2
  rw [ht2, zjq_end (Or.inl ⟨hr, rfl⟩)]
  unfold zjq
  have e9 : List.filter p (List.map (fun w => 10000 * (q + 1) + w) (zwl n aa ra 1200)) = List.filter p (List.map (fun w => 10000 * (q + 1) + w) (zwl n aa ra w)) ++ ((10000 * (q + 1) + w) :: List.filter p (List.map (fun w => 10000 * (q + 1) + w) t)) := by
    rw [ht, List.map_append, List.filter_append, List.map_cons, List.filter_cons, if_pos h2]
  rw [e9]
  simp only [List.append_assoc, List.cons_append]
theorem zst_le (o : Nat → Int32 → Int32 → Int64) (zf zs : Nat → Int32) (zd : Nat → Int64) (ac w : Nat) : zst o zf zs zd ac w ≤ 2 := by
  unfold zst; repeat' split
  all_goals omega
theorem zag_new2 {T : ZT} {mh uh mh2 k : Nat} {oc : Nat → Int64} {ct ct2 : Nat → Nat} {v : Int64} (ek : k = uh) (h : zag T mh uh oc ct) (hk : ∀ j, j < k → decide (oc j ≠ v) = true) (hm : mh2 = max mh 1) (hc : ct2 k = 1) (hc2 : ∀ j, j < uh → ct2 j = ct j) : zag (zts T v) mh2 (uh + 1) (vp_updL oc k v) ct2 := by
  subst ek
  exact zag_new h (zleast_all k hk) hm hc hc2
theorem zag_old2 {T : ZT} {mh uh k mh2 : Nat} {oc : Nat → Int64} {ct : Nat → Nat} {v : Int64} (h : zag T mh uh oc ct) (h1 : ∀ j, j < k → decide (oc j ≠ v) = true) (h2 : oc k = v) (hlt : k < uh) (hm : mh2 = max mh (ct k + 1)) : zag (zts T v) mh2 uh oc (upN ct k (ct k + 1)) :=
  zag_old h (zleast_at (p := fun j => decide (oc j ≠ v)) h1 (by simp only [decide_eq_true_eq]; exact fun z => z h2) uh hlt) hlt hm
theorem dX8_stateOf_0 : decode cX8_stateOf 0 = .ok (.aload_n 0, 1) := by decide +kernel
theorem dX8_stateOf_1 : decode cX8_stateOf 1 = .ok (.iload_n 1, 1) := by decide +kernel
theorem dX8_stateOf_2 : decode cX8_stateOf 2 = .ok (.invokevirtual 143, 3) := by decide +kernel
theorem dX8_stateOf_5 : decode cX8_stateOf 5 = .ok (.aload_n 0, 1) := by decide +kernel
theorem dX8_stateOf_6 : decode cX8_stateOf 6 = .ok (.getfield 137, 3) := by decide +kernel
theorem dX8_stateOf_9 : decode cX8_stateOf 9 = .ok (.ifCond .le 7, 3) := by decide +kernel
theorem dX8_stateOf_12 : decode cX8_stateOf 12 = .ok (.iconst 2, 1) := by decide +kernel
theorem dX8_stateOf_13 : decode cX8_stateOf 13 = .ok (.goto 15, 3) := by decide +kernel
theorem dX8_stateOf_16 : decode cX8_stateOf 16 = .ok (.aload_n 0, 1) := by decide +kernel
theorem dX8_stateOf_17 : decode cX8_stateOf 17 = .ok (.getfield 140, 3) := by decide +kernel
theorem dX8_stateOf_20 : decode cX8_stateOf 20 = .ok (.ifCond .le 7, 3) := by decide +kernel
theorem dX8_stateOf_23 : decode cX8_stateOf 23 = .ok (.iconst 1, 1) := by decide +kernel
theorem dX8_stateOf_24 : decode cX8_stateOf 24 = .ok (.goto 4, 3) := by decide +kernel
theorem dX8_stateOf_27 : decode cX8_stateOf 27 = .ok (.iconst 0, 1) := by decide +kernel
theorem dX8_stateOf_28 : decode cX8_stateOf 28 = .ok (.ireturn, 1) := by decide +kernel
set_option maxHeartbeats 4000000 in
set_option maxRecDepth 100000 in
theorem c_X8_stateOf (l : Launch) (G : MG) (M : MM) (P : MP) (L : ML) (N : MN) (V : MV) (n aa ac : Nat) (ra : Nat → Nat) (o : Nat → Int32 → Int32 → Int64) (zf zs : Nat → Int32) (zd : Nat → Int64) (hV : mV M n aa ac ra o zf zs zd) (w : Nat) (hw : w < 2147483648) (hk : zok n aa ra w = true) : Met l yX8_stateOf (wC yX8_stateOf cX8_stateOf 2 (some .int)) (rmD 6) (mPc G [.ref (mga G 0), .int (nI w)] M P L N V) (va_Qi (fun r u => r = nI (zst o zf zs zd ac w) ∧ ∃ P2 : MP, u = (M, P2, (zmi o zf zs zd ac w, zdo o zf zs zd ac w), N, V)) (mB G) (mA G)) 0 0 (mA G) := by
  refine mst "DoFinderModel" (by decide) rfl (Nat.le_of_ble_eq_true rfl) ?_
  intro p e s m args below meth c ls F hr hlk hW hl
  have hl : lv_has ls 2 [(0, .ref (mga G 0)), (1, .int (nI w))] := hl
  have hW : mW G s s.heap s.heap [] M P L N V := hW
  obtain ⟨en, ea, ec, era, eo, ef, es, ed, bn, ba, bc, bf, brc, bra, bd⟩ := id hV
  refine lv_aload_n F.1 F.2.1 dX8_stateOf_0 rfl (lv_at hl 0 rfl) ?_
  refine lv_iload_n F.1 F.2.1 dX8_stateOf_1 rfl (lv_at hl 1 rfl) ?_
  refine mca_v (b := (mga G 0)) (As := [.int (nI w)]) (rest := []) F (c_X8_look l G M P L.1 L.2 N V n aa ac ra o zf zs zd hV w (by omega) hk) (xcw F.2.2.2.2 ca_X8_look tm_703 rfl rfl ⟨by decide, by decide⟩) (mr_X8 hW) hW rfl hl.1 rfl (Nat.le_of_ble_eq_true rfl) dX8_stateOf_2 (fun u2 H locs hp2 hW => ?_)
  obtain ⟨P2, rfl⟩ := hp2
  have hW : mW G s s.heap H locs M P2 (zmi o zf zs zd ac w, zdo o zf zs zd ac w) N V := hW
  have zb2 : zmi o zf zs zd ac w ≤ ac := zcnt_le _ _
  have zb1 : zdo o zf zs zd ac w ≤ ac := zcnt_le _ _
  refine lv_aload_n F.1 F.2.1 dX8_stateOf_5 rfl (lv_at hl 0 rfl) ?_
  refine mg_missesOf F hW tm_515 dX8_stateOf_6 ?_
  refine lv_if_le (tgt := 16) F.1 F.2.1 dX8_stateOf_9 (by decide) (fun c9 => ?_) (fun c9 => ?_)
  · have c9 := ci_le (a := ((zmi o zf zs zd ac w : Nat) : Int)) (b := 0) (nI_toInt (by omega)) ci_0 c9
    refine lv_aload_n F.1 F.2.1 dX8_stateOf_16 rfl (lv_at hl 0 rfl) ?_
    refine mg_doubtsOf F hW tm_516 dX8_stateOf_17 ?_
    refine lv_if_le (tgt := 27) F.1 F.2.1 dX8_stateOf_20 (by decide) (fun c20 => ?_) (fun c20 => ?_)
    · have c20 := ci_le (a := ((zdo o zf zs zd ac w : Nat) : Int)) (b := 0) (nI_toInt (by omega)) ci_0 c20
      refine lv_iconst (v := nI 0) F.1 F.2.1 dX8_stateOf_27 (by decide) ?_
      refine mre_i F hr hlk hW dX8_stateOf_28 ?_
      exact ⟨congrArg nI (by unfold zst; repeat first | rw [if_pos (by omega)] | rw [if_neg (by omega)]), _, rfl⟩
    · have c20 := ci_nle (a := ((zdo o zf zs zd ac w : Nat) : Int)) (b := 0) (nI_toInt (by omega)) ci_0 c20
      refine lv_iconst (v := nI 1) F.1 F.2.1 dX8_stateOf_23 (by decide) ?_
      refine lv_goto (tgt := 28) F.1 F.2.1 dX8_stateOf_24 (by decide) ?_
      refine mre_i F hr hlk hW dX8_stateOf_28 ?_
      exact ⟨congrArg nI (by unfold zst; repeat first | rw [if_pos (by omega)] | rw [if_neg (by omega)]), _, rfl⟩
  · have c9 := ci_nle (a := ((zmi o zf zs zd ac w : Nat) : Int)) (b := 0) (nI_toInt (by omega)) ci_0 c9
    refine lv_iconst (v := nI 2) F.1 F.2.1 dX8_stateOf_12 (by decide) ?_
    refine lv_goto (tgt := 28) F.1 F.2.1 dX8_stateOf_13 (by decide) ?_
    refine mre_i F hr hlk hW dX8_stateOf_28 ?_
    exact ⟨congrArg nI (by unfold zst; repeat first | rw [if_pos (by omega)] | rw [if_neg (by omega)]), _, rfl⟩
theorem dX8_wayOf_0 : decode cX8_wayOf 0 = .ok (.iload_n 2, 1) := by decide +kernel
theorem dX8_wayOf_1 : decode cX8_wayOf 1 = .ok (.istore_n 3, 1) := by decide +kernel
theorem dX8_wayOf_2 : decode cX8_wayOf 2 = .ok (.iconst 0, 1) := by decide +kernel
theorem dX8_wayOf_3 : decode cX8_wayOf 3 = .ok (.istore 4, 2) := by decide +kernel
theorem dX8_wayOf_5 : decode cX8_wayOf 5 = .ok (.iload 4, 2) := by decide +kernel
theorem dX8_wayOf_7 : decode cX8_wayOf 7 = .ok (.sipush 1200, 3) := by decide +kernel
theorem dX8_wayOf_10 : decode cX8_wayOf 10 = .ok (.if_icmp .ge 42, 3) := by decide +kernel
theorem dX8_wayOf_13 : decode cX8_wayOf 13 = .ok (.iload_n 2, 1) := by decide +kernel
theorem dX8_wayOf_14 : decode cX8_wayOf 14 = .ok (.ifCond .lt 38, 3) := by decide +kernel
theorem dX8_wayOf_17 : decode cX8_wayOf 17 = .ok (.aload_n 0, 1) := by decide +kernel
theorem dX8_wayOf_18 : decode cX8_wayOf 18 = .ok (.iload 4, 2) := by decide +kernel
theorem dX8_wayOf_20 : decode cX8_wayOf 20 = .ok (.invokevirtual 125, 3) := by decide +kernel
theorem dX8_wayOf_23 : decode cX8_wayOf 23 = .ok (.ifCond .eq 23, 3) := by decide +kernel
theorem dX8_wayOf_26 : decode cX8_wayOf 26 = .ok (.aload_n 0, 1) := by decide +kernel
theorem dX8_wayOf_27 : decode cX8_wayOf 27 = .ok (.iload 4, 2) := by decide +kernel
theorem dX8_wayOf_29 : decode cX8_wayOf 29 = .ok (.invokevirtual 146, 3) := by decide +kernel
theorem dX8_wayOf_32 : decode cX8_wayOf 32 = .ok (.iload_n 1, 1) := by decide +kernel
theorem dX8_wayOf_33 : decode cX8_wayOf 33 = .ok (.if_icmp .ne 13, 3) := by decide +kernel
theorem dX8_wayOf_36 : decode cX8_wayOf 36 = .ok (.iload_n 3, 1) := by decide +kernel
theorem dX8_wayOf_37 : decode cX8_wayOf 37 = .ok (.ifCond .ne 6, 3) := by decide +kernel
theorem dX8_wayOf_40 : decode cX8_wayOf 40 = .ok (.iload 4, 2) := by decide +kernel
theorem dX8_wayOf_42 : decode cX8_wayOf 42 = .ok (.ireturn, 1) := by decide +kernel
theorem dX8_wayOf_43 : decode cX8_wayOf 43 = .ok (.iinc 3 (-1), 3) := by decide +kernel
theorem dX8_wayOf_46 : decode cX8_wayOf 46 = .ok (.iinc 4 1, 3) := by decide +kernel
theorem dX8_wayOf_49 : decode cX8_wayOf 49 = .ok (.goto (-44), 3) := by decide +kernel
theorem dX8_wayOf_52 : decode cX8_wayOf 52 = .ok (.bipush (-3), 2) := by decide +kernel
theorem dX8_wayOf_54 : decode cX8_wayOf 54 = .ok (.ireturn, 1) := by decide +kernel
set_option maxHeartbeats 4000000 in
set_option maxRecDepth 100000 in
theorem c_X8_wayOf (l : Launch) (G : MG) (M : MM) (P : MP) (L : ML) (N : MN) (V : MV) (n aa ac : Nat) (ra : Nat → Nat) (o : Nat → Int32 → Int32 → Int64) (zf zs : Nat → Int32) (zd : Nat → Int64) (hV : mV M n aa ac ra o zf zs zd) (b k : Nat) (hb : b < 1000) (hk0 : k < 2147483648) : Met l yX8_wayOf (wC yX8_wayOf cX8_wayOf 5 (some .int)) (rmD 7) (mPc G [.ref (mga G 0), .int (nI b), .int (nI k)] M P L N V) (va_Qi (fun v u => v = zkth (zfl n aa ra (fun w => decide (zst o zf zs zd ac w = b)) 1200) (nI k) ∧ ∃ (P2 : MP) (L2 : ML), u = (M, P2, L2, N, V)) (mB G) (mA G)) 0 0 (mA G) := by
  refine mst "DoFinderModel" (by decide) rfl (Nat.le_of_ble_eq_true rfl) ?_
  intro p e s m args below meth c ls F hr hlk hW hl
  have hl : lv_has ls 5 [(0, .ref (mga G 0)), (1, .int (nI b)), (2, .int (nI k))] := hl
  have hW : mW G s s.heap s.heap [] M P L N V := hW
  obtain ⟨en, ea, ec, era, eo, ef, es, ed, bn, ba, bc, bf, brc, bra, bd⟩ := id hV
  refine lv_iload_n F.1 F.2.1 dX8_wayOf_0 rfl (lv_at hl 2 rfl) ?_
  refine lv_istore_n (lv' := [(3, .int (nI k)), (0, .ref (mga G 0)), (1, .int (nI b)), (2, .int (nI k))]) F.1 F.2.1 dX8_wayOf_1 rfl hl (by decide) rfl (fun ls hl => ?_)
  refine lv_iconst (v := nI 0) F.1 F.2.1 dX8_wayOf_2 (by decide) ?_
  refine lv_istore (lv' := [(4, .int (nI 0)), (3, .int (nI k)), (0, .ref (mga G 0)), (1, .int (nI b)), (2, .int (nI k))]) F.1 F.2.1 dX8_wayOf_3 hl (by decide) rfl (fun ls hl => ?_)
  have lp5 : ∀ (k5 : Nat) (Pk : MP) (Lk : ML) (w : Nat) (lf : Nat), 1200 - w = k5 → (w ≤ 1200) → (lf + (zfl n aa ra (fun w => decide (zst o zf zs zd ac w = b)) w).length = k) → ∀ (H : Heap) (locs : List Loc) (ls : Array Slot), mW G s s.heap H locs M Pk Lk N V →  lv_has ls 5 [(0, .ref (mga G 0)), (1, .int (nI b)), (2, .int (nI k)), (3, .int (nI lf)), (4, .int (nI w))] → W p l e (rmD 7) s m args below meth c H locs 0 0 (MQ below (va_Qi (fun v u => v = zkth (zfl n aa ra (fun w => decide (zst o zf zs zd ac w = b)) 1200) (nI k) ∧ ∃ (P2 : MP) (L2 : ML), u = (M, P2, L2, N, V)) (mB G) (mA G)) args s 0 0 (mA G)) (F0 m 5 ls []) := by
    intro k5
    induction k5 using Nat.strongRecOn with
    | ind k5 ih5 =>
      intro Pk Lk w lf hk5 h1 h2 H locs ls hW hl
      refine lv_iload F.1 F.2.1 dX8_wayOf_5 (lv_at hl 4 rfl) ?_
      refine lv_sipush (v := nI 1200) F.1 F.2.1 dX8_wayOf_7 (by decide) ?_
      refine lv_icmp_ge (tgt := 52) F.1 F.2.1 dX8_wayOf_10 (by decide) (fun c10 => ?_) (fun c10 => ?_)
      · have c10 := ci_le (a := 1200) (b := ((w : Nat) : Int)) (by decide) (nI_toInt (by omega)) c10
        refine lv_bipush (v := (-3)) F.1 F.2.1 dX8_wayOf_52 (by decide) ?_
        refine mre_i F hr hlk hW dX8_wayOf_54 ?_
        rw [show w = 1200 by omega] at h2
        exact ⟨zkth_none (by omega) (by omega), _, _, rfl⟩
      · have c10 := ci_nle (a := 1200) (b := ((w : Nat) : Int)) (by decide) (nI_toInt (by omega)) c10
        refine lv_iload_n F.1 F.2.1 dX8_wayOf_13 rfl (lv_at hl 2 rfl) ?_
        refine lv_if_lt (tgt := 52) F.1 F.2.1 dX8_wayOf_14 (by decide) (fun c14 => ?_) (fun c14 => ?_)
        · exfalso
          have c14 := ci_lt (a := ((k : Nat) : Int)) (b := 0) (nI_toInt (by omega)) ci_0 c14
          omega
        have c14 := ci_nlt (a := ((k : Nat) : Int)) (b := 0) (nI_toInt (by omega)) ci_0 c14
        refine lv_aload_n F.1 F.2.1 dX8_wayOf_17 rfl (lv_at hl 0 rfl) ?_
        refine lv_iload F.1 F.2.1 dX8_wayOf_18 (lv_at hl 4 rfl) ?_
        refine mca_i (b := (mga G 0)) (As := [.int (nI w)]) (rest := []) F (c_X8_isWay l G M Pk Lk N V n aa ac ra o zf zs zd hV w (by omega)) (xcw F.2.2.2.2 ca_X8_isWay tm_675 rfl rfl ⟨by decide, by decide⟩) (mr_X8 hW) hW rfl hl.1 rfl (Nat.le_of_ble_eq_true rfl) dX8_wayOf_20 (fun r20 u20 H locs hp20 hW => ?_)
        obtain ⟨hp20, rfl⟩ := hp20
        have hW : mW G s s.heap H locs M Pk Lk N V := hW
        rcases hp20 with ⟨rfl, y20⟩ | ⟨rfl, y20⟩
        · skip
          have hkk : zok n aa ra w = true := zok_of_way bn y20
          refine lv_if_eq (tgt := 46) F.1 F.2.1 dX8_wayOf_23 (by decide) (fun q => absurd q (by decide)) (fun _ => ?_)
          refine lv_aload_n F.1 F.2.1 dX8_wayOf_26 rfl (lv_at hl 0 rfl) ?_
          refine lv_iload F.1 F.2.1 dX8_wayOf_27 (lv_at hl 4 rfl) ?_
          refine mca_i (b := (mga G 0)) (As := [.int (nI w)]) (rest := []) F (c_X8_stateOf l G M Pk Lk N V n aa ac ra o zf zs zd hV w (by omega) hkk) (xcw F.2.2.2.2 ca_X8_stateOf tm_699 rfl rfl ⟨by decide, by decide⟩) (mr_X8 hW) hW rfl hl.1 rfl (Nat.le_of_ble_eq_true rfl) dX8_wayOf_29 (fun r29 u29 H locs hp29 hW => ?_)
          obtain ⟨rfl, P29, rfl⟩ := hp29
          have hW : mW G s s.heap H locs M P29 (zmi o zf zs zd ac w, zdo o zf zs zd ac w) N V := hW
          have zs29 : (zst o zf zs zd ac w) ≤ 2 := zst_le _ _ _ _ _ _
          refine lv_iload_n F.1 F.2.1 dX8_wayOf_32 rfl (lv_at hl 1 rfl) ?_
          refine lv_icmp_ne (tgt := 46) F.1 F.2.1 dX8_wayOf_33 (by decide) (fun c33 => ?_) (fun c33 => ?_)
          · have c33 := ci_ne (a := (((zst o zf zs zd ac w) : Nat) : Int)) (b := ((b : Nat) : Int)) (nI_toInt (by omega)) (nI_toInt (by omega)) c33
            skip
            refine lv_iinc (v := nI (w + 1)) (lv' := [(4, .int (nI (w + 1))), (0, .ref (mga G 0)), (1, .int (nI b)), (2, .int (nI k)), (3, .int (nI lf))]) F.1 F.2.1 dX8_wayOf_46 hl (k := 4) rfl (nI_add _ 1) (by decide) rfl (fun ls hl => ?_)
            refine lv_goto (tgt := 5) F.1 F.2.1 dX8_wayOf_49 (by decide) ?_
            exact ih5 (1200 - (w + 1)) (by omega) P29 (zmi o zf zs zd ac w, zdo o zf zs zd ac w) (w + 1) lf rfl (by omega) (by rw [zfl_f (fun z => by have := of_decide_eq_true z.2; omega)]; exact h2) _ _ _ hW (lv_sub hl [1, 2, 3, 4, 0] rfl)
          · have c33 := ci_eq (a := (((zst o zf zs zd ac w) : Nat) : Int)) (b := ((b : Nat) : Int)) (nI_toInt (by omega)) (nI_toInt (by omega)) c33
            skip
            refine lv_iload_n F.1 F.2.1 dX8_wayOf_36 rfl (lv_at hl 3 rfl) ?_
            refine lv_if_ne (tgt := 43) F.1 F.2.1 dX8_wayOf_37 (by decide) (fun c37 => ?_) (fun c37 => ?_)
            · have c37 := ci_ne (a := ((lf : Nat) : Int)) (b := 0) (nI_toInt (by omega)) ci_0 c37
              refine lv_iinc (v := nI (lf - 1)) (lv' := [(3, .int (nI (lf - 1))), (0, .ref (mga G 0)), (1, .int (nI b)), (2, .int (nI k)), (4, .int (nI w))]) F.1 F.2.1 dX8_wayOf_43 hl (k := 3) rfl (nI_dec (by omega)) (by decide) rfl (fun ls hl => ?_)
              refine lv_iinc (v := nI (w + 1)) (lv' := [(4, .int (nI (w + 1))), (3, .int (nI (lf - 1))), (0, .ref (mga G 0)), (1, .int (nI b)), (2, .int (nI k))]) F.1 F.2.1 dX8_wayOf_46 hl (k := 4) rfl (nI_add _ 1) (by decide) rfl (fun ls hl => ?_)
              refine lv_goto (tgt := 5) F.1 F.2.1 dX8_wayOf_49 (by decide) ?_
              exact ih5 (1200 - (w + 1)) (by omega) P29 (zmi o zf zs zd ac w, zdo o zf zs zd ac w) (w + 1) (lf - 1) rfl (by omega) (by rw [zfl_t y20 (decide_eq_true (by omega)), List.length_append, List.length_singleton]; omega) _ _ _ hW (lv_sub hl [2, 3, 4, 1, 0] rfl)
            · have c37 := ci_eq (a := ((lf : Nat) : Int)) (b := 0) (nI_toInt (by omega)) ci_0 c37
              refine lv_iload F.1 F.2.1 dX8_wayOf_40 (lv_at hl 4 rfl) ?_
              refine mre_i F hr hlk hW dX8_wayOf_42 ?_
              exact ⟨zkth_hit y20 (decide_eq_true (by omega)) (by omega) (by omega) (by omega), _, _, rfl⟩
        · skip
          skip
          refine lv_if_eq (tgt := 46) F.1 F.2.1 dX8_wayOf_23 (by decide) (fun _ => ?_) (fun q => absurd q (by decide))
          refine lv_iinc (v := nI (w + 1)) (lv' := [(4, .int (nI (w + 1))), (0, .ref (mga G 0)), (1, .int (nI b)), (2, .int (nI k)), (3, .int (nI lf))]) F.1 F.2.1 dX8_wayOf_46 hl (k := 4) rfl (nI_add _ 1) (by decide) rfl (fun ls hl => ?_)
          refine lv_goto (tgt := 5) F.1 F.2.1 dX8_wayOf_49 (by decide) ?_
          exact ih5 (1200 - (w + 1)) (by omega) Pk Lk (w + 1) lf rfl (by omega) (by rw [zfl_f (fun z => y20 z.1)]; exact h2) _ _ _ hW (lv_sub hl [1, 2, 3, 4, 0] rfl)
  exact lp5 (1200 - 0) P L 0 k rfl (Nat.zero_le _) (by rw [show (zfl n aa ra (fun w => decide (zst o zf zs zd ac w = b)) 0) = [] from rfl]; rfl) _ _ _ hW (lv_sub hl [2, 3, 4, 1, 0] rfl)
set_option maxHeartbeats 4000000 in
set_option maxRecDepth 100000 in
theorem c_X8_wayOf_neg (l : Launch) (G : MG) (M : MM) (P : MP) (L : ML) (N : MN) (V : MV) (n aa ac : Nat) (ra : Nat → Nat) (o : Nat → Int32 → Int32 → Int64) (zf zs : Nat → Int32) (zd : Nat → Int64) (hV : mV M n aa ac ra o zf zs zd) (b : Nat) (k : Int32) (hx : k.toInt < 0) : Met l yX8_wayOf (wC yX8_wayOf cX8_wayOf 5 (some .int)) (rmD 7) (mPc G [.ref (mga G 0), .int (nI b), .int k] M P L N V) (va_Qi (fun v u => v = (-3) ∧ ∃ (P2 : MP) (L2 : ML), u = (M, P2, L2, N, V)) (mB G) (mA G)) 0 0 (mA G) := by
  refine mst "DoFinderModel" (by decide) rfl (Nat.le_of_ble_eq_true rfl) ?_
  intro p e s m args below meth c ls F hr hlk hW hl
  have hl : lv_has ls 5 [(0, .ref (mga G 0)), (1, .int (nI b)), (2, .int k)] := hl
  have hW : mW G s s.heap s.heap [] M P L N V := hW
  have b_k := i32b k
  refine lv_iload_n F.1 F.2.1 dX8_wayOf_0 rfl (lv_at hl 2 rfl) ?_
  refine lv_istore_n (lv' := [(3, .int k), (0, .ref (mga G 0)), (1, .int (nI b)), (2, .int k)]) F.1 F.2.1 dX8_wayOf_1 rfl hl (by decide) rfl (fun ls hl => ?_)
  refine lv_iconst (v := nI 0) F.1 F.2.1 dX8_wayOf_2 (by decide) ?_
  refine lv_istore (lv' := [(4, .int (nI 0)), (3, .int k), (0, .ref (mga G 0)), (1, .int (nI b)), (2, .int k)]) F.1 F.2.1 dX8_wayOf_3 hl (by decide) rfl (fun ls hl => ?_)
  refine lv_iload F.1 F.2.1 dX8_wayOf_5 (lv_at hl 0 rfl) ?_
  refine lv_sipush (v := nI 1200) F.1 F.2.1 dX8_wayOf_7 (by decide) ?_
  refine lv_icmp_ge (tgt := 52) F.1 F.2.1 dX8_wayOf_10 (by decide) (fun q => absurd q (by decide)) (fun _ => ?_)
  refine lv_iload_n F.1 F.2.1 dX8_wayOf_13 rfl (lv_at hl 4 rfl) ?_
  refine lv_if_lt (tgt := 52) F.1 F.2.1 dX8_wayOf_14 (by decide) (fun c14 => ?_) (fun c14 => ?_)
  rotate_left
  · exfalso
    have c14 := ci_nlt (a := k.toInt) (b := 0) rfl ci_0 c14
    omega
  have c14 := ci_lt (a := k.toInt) (b := 0) rfl ci_0 c14
  refine lv_bipush (v := (-3)) F.1 F.2.1 dX8_wayOf_52 (by decide) ?_
  refine mre_i F hr hlk hW dX8_wayOf_54 ?_
  exact ⟨rfl, _, _, rfl⟩
theorem dX8_found_0 : decode cX8_found 0 = .ok (.aload_n 0, 1) := by decide +kernel
theorem dX8_found_1 : decode cX8_found 1 = .ok (.iconst 0, 1) := by decide +kernel
theorem dX8_found_2 : decode cX8_found 2 = .ok (.iload_n 1, 1) := by decide +kernel
theorem dX8_found_3 : decode cX8_found 3 = .ok (.invokevirtual 149, 3) := by decide +kernel
theorem dX8_found_6 : decode cX8_found 6 = .ok (.ireturn, 1) := by decide +kernel
set_option maxHeartbeats 4000000 in
set_option maxRecDepth 100000 in
theorem c_X8_found (l : Launch) (G : MG) (M : MM) (P : MP) (L : ML) (N : MN) (V : MV) (n aa ac : Nat) (ra : Nat → Nat) (o : Nat → Int32 → Int32 → Int64) (zf zs : Nat → Int32) (zd : Nat → Int64) (hV : mV M n aa ac ra o zf zs zd) (k : Nat) (hk0 : k < 2147483648) : Met l yX8_found (wC yX8_found cX8_found 2 (some .int)) (rmD 8) (mPc G [.ref (mga G 0), .int (nI k)] M P L N V) (va_Qi (fun v u => v = zkth ((zwl n aa ra 1200).filter (fun w => decide (zst o zf zs zd ac w = 0))) (nI k) ∧ ∃ (P2 : MP) (L2 : ML) (N2 : MN) (V2 : MV), u = (M, P2, L2, N2, V2)) (mB G) (mA G)) 0 0 (mA G) := by
  refine mst "DoFinderModel" (by decide) rfl (Nat.le_of_ble_eq_true rfl) ?_
  intro p e s m args below meth c ls F hr hlk hW hl
  have hl : lv_has ls 2 [(0, .ref (mga G 0)), (1, .int (nI k))] := hl
  have hW : mW G s s.heap s.heap [] M P L N V := hW
  refine lv_aload_n F.1 F.2.1 dX8_found_0 rfl (lv_at hl 0 rfl) ?_
  refine lv_iconst (v := nI 0) F.1 F.2.1 dX8_found_1 (by decide) ?_
  refine lv_iload_n F.1 F.2.1 dX8_found_2 rfl (lv_at hl 1 rfl) ?_
  refine mca_i (b := (mga G 0)) (As := [.int (nI 0), .int (nI k)]) (rest := []) F (c_X8_wayOf l G M P L N V n aa ac ra o zf zs zd hV 0 k (by omega) (by omega)) (xcw F.2.2.2.2 ca_X8_wayOf tm_695 rfl rfl ⟨by decide, by decide⟩) (mr_X8 hW) hW rfl hl.1 rfl (Nat.le_of_ble_eq_true rfl) dX8_found_3 (fun r3 u3 H locs hp3 hW => ?_)
  obtain ⟨rfl, P3, L3, rfl⟩ := hp3
  have hW : mW G s s.heap H locs M P3 L3 N V := hW
  refine mre_i F hr hlk hW dX8_found_6 ?_
  exact ⟨rfl, _, _, _, _, rfl⟩
set_option maxHeartbeats 4000000 in
set_option maxRecDepth 100000 in
theorem c_X8_found_neg (l : Launch) (G : MG) (M : MM) (P : MP) (L : ML) (N : MN) (V : MV) (n aa ac : Nat) (ra : Nat → Nat) (o : Nat → Int32 → Int32 → Int64) (zf zs : Nat → Int32) (zd : Nat → Int64) (hV : mV M n aa ac ra o zf zs zd) (k : Int32) (hx : k.toInt < 0) : Met l yX8_found (wC yX8_found cX8_found 2 (some .int)) (rmD 8) (mPc G [.ref (mga G 0), .int k] M P L N V) (va_Qi (fun v u => v = (-3) ∧ ∃ (P2 : MP) (L2 : ML) (N2 : MN) (V2 : MV), u = (M, P2, L2, N2, V2)) (mB G) (mA G)) 0 0 (mA G) := by
  refine mst "DoFinderModel" (by decide) rfl (Nat.le_of_ble_eq_true rfl) ?_
  intro p e s m args below meth c ls F hr hlk hW hl
  have hl : lv_has ls 2 [(0, .ref (mga G 0)), (1, .int k)] := hl
  have hW : mW G s s.heap s.heap [] M P L N V := hW
  have b_k := i32b k
  refine lv_aload_n F.1 F.2.1 dX8_found_0 rfl (lv_at hl 0 rfl) ?_
  refine lv_iconst (v := nI 0) F.1 F.2.1 dX8_found_1 (by decide) ?_
  refine lv_iload_n F.1 F.2.1 dX8_found_2 rfl (lv_at hl 1 rfl) ?_
  refine mca_i (b := (mga G 0)) (As := [.int (nI 0), .int k]) (rest := []) F (c_X8_wayOf_neg l G M P L N V n aa ac ra o zf zs zd hV 0 k hx) (xcw F.2.2.2.2 ca_X8_wayOf tm_695 rfl rfl ⟨by decide, by decide⟩) (mr_X8 hW) hW rfl hl.1 rfl (Nat.le_of_ble_eq_true rfl) dX8_found_3 (fun r3 u3 H locs hp3 hW => ?_)
  obtain ⟨rfl, P3, L3, rfl⟩ := hp3
  have hW : mW G s s.heap H locs M P3 L3 N V := hW
  refine mre_i F hr hlk hW dX8_found_6 ?_
  exact ⟨rfl, _, _, _, _, rfl⟩
theorem dX8_open_0 : decode cX8_open 0 = .ok (.aload_n 0, 1) := by decide +kernel
theorem dX8_open_1 : decode cX8_open 1 = .ok (.iconst 1, 1) := by decide +kernel
theorem dX8_open_2 : decode cX8_open 2 = .ok (.iload_n 1, 1) := by decide +kernel
theorem dX8_open_3 : decode cX8_open 3 = .ok (.invokevirtual 149, 3) := by decide +kernel
theorem dX8_open_6 : decode cX8_open 6 = .ok (.ireturn, 1) := by decide +kernel
set_option maxHeartbeats 4000000 in
set_option maxRecDepth 100000 in
theorem c_X8_open (l : Launch) (G : MG) (M : MM) (P : MP) (L : ML) (N : MN) (V : MV) (n aa ac : Nat) (ra : Nat → Nat) (o : Nat → Int32 → Int32 → Int64) (zf zs : Nat → Int32) (zd : Nat → Int64) (hV : mV M n aa ac ra o zf zs zd) (k : Nat) (hk0 : k < 2147483648) : Met l yX8_open (wC yX8_open cX8_open 2 (some .int)) (rmD 8) (mPc G [.ref (mga G 0), .int (nI k)] M P L N V) (va_Qi (fun v u => v = zkth ((zwl n aa ra 1200).filter (fun w => decide (zst o zf zs zd ac w = 1))) (nI k) ∧ ∃ (P2 : MP) (L2 : ML) (N2 : MN) (V2 : MV), u = (M, P2, L2, N2, V2)) (mB G) (mA G)) 0 0 (mA G) := by
  refine mst "DoFinderModel" (by decide) rfl (Nat.le_of_ble_eq_true rfl) ?_
  intro p e s m args below meth c ls F hr hlk hW hl
  have hl : lv_has ls 2 [(0, .ref (mga G 0)), (1, .int (nI k))] := hl
  have hW : mW G s s.heap s.heap [] M P L N V := hW
  refine lv_aload_n F.1 F.2.1 dX8_open_0 rfl (lv_at hl 0 rfl) ?_
  refine lv_iconst (v := nI 1) F.1 F.2.1 dX8_open_1 (by decide) ?_
  refine lv_iload_n F.1 F.2.1 dX8_open_2 rfl (lv_at hl 1 rfl) ?_
  refine mca_i (b := (mga G 0)) (As := [.int (nI 1), .int (nI k)]) (rest := []) F (c_X8_wayOf l G M P L N V n aa ac ra o zf zs zd hV 1 k (by omega) (by omega)) (xcw F.2.2.2.2 ca_X8_wayOf tm_695 rfl rfl ⟨by decide, by decide⟩) (mr_X8 hW) hW rfl hl.1 rfl (Nat.le_of_ble_eq_true rfl) dX8_open_3 (fun r3 u3 H locs hp3 hW => ?_)
  obtain ⟨rfl, P3, L3, rfl⟩ := hp3
  have hW : mW G s s.heap H locs M P3 L3 N V := hW
  refine mre_i F hr hlk hW dX8_open_6 ?_
  exact ⟨rfl, _, _, _, _, rfl⟩
set_option maxHeartbeats 4000000 in
set_option maxRecDepth 100000 in
theorem c_X8_open_neg (l : Launch) (G : MG) (M : MM) (P : MP) (L : ML) (N : MN) (V : MV) (n aa ac : Nat) (ra : Nat → Nat) (o : Nat → Int32 → Int32 → Int64) (zf zs : Nat → Int32) (zd : Nat → Int64) (hV : mV M n aa ac ra o zf zs zd) (k : Int32) (hx : k.toInt < 0) : Met l yX8_open (wC yX8_open cX8_open 2 (some .int)) (rmD 8) (mPc G [.ref (mga G 0), .int k] M P L N V) (va_Qi (fun v u => v = (-3) ∧ ∃ (P2 : MP) (L2 : ML) (N2 : MN) (V2 : MV), u = (M, P2, L2, N2, V2)) (mB G) (mA G)) 0 0 (mA G) := by
  refine mst "DoFinderModel" (by decide) rfl (Nat.le_of_ble_eq_true rfl) ?_
  intro p e s m args below meth c ls F hr hlk hW hl
  have hl : lv_has ls 2 [(0, .ref (mga G 0)), (1, .int k)] := hl
  have hW : mW G s s.heap s.heap [] M P L N V := hW
  have b_k := i32b k
  refine lv_aload_n F.1 F.2.1 dX8_open_0 rfl (lv_at hl 0 rfl) ?_
  refine lv_iconst (v := nI 1) F.1 F.2.1 dX8_open_1 (by decide) ?_
  refine lv_iload_n F.1 F.2.1 dX8_open_2 rfl (lv_at hl 1 rfl) ?_
  refine mca_i (b := (mga G 0)) (As := [.int (nI 1), .int k]) (rest := []) F (c_X8_wayOf_neg l G M P L N V n aa ac ra o zf zs zd hV 1 k hx) (xcw F.2.2.2.2 ca_X8_wayOf tm_695 rfl rfl ⟨by decide, by decide⟩) (mr_X8 hW) hW rfl hl.1 rfl (Nat.le_of_ble_eq_true rfl) dX8_open_3 (fun r3 u3 H locs hp3 hW => ?_)
  obtain ⟨rfl, P3, L3, rfl⟩ := hp3
  have hW : mW G s s.heap H locs M P3 L3 N V := hW
  refine mre_i F hr hlk hW dX8_open_6 ?_
  exact ⟨rfl, _, _, _, _, rfl⟩
theorem dX8_joint_0 : decode cX8_joint 0 = .ok (.iload_n 1, 1) := by decide +kernel
theorem dX8_joint_1 : decode cX8_joint 1 = .ok (.istore_n 2, 1) := by decide +kernel
theorem dX8_joint_2 : decode cX8_joint 2 = .ok (.iconst 0, 1) := by decide +kernel
theorem dX8_joint_3 : decode cX8_joint 3 = .ok (.istore_n 3, 1) := by decide +kernel
theorem dX8_joint_4 : decode cX8_joint 4 = .ok (.iload_n 3, 1) := by decide +kernel
theorem dX8_joint_5 : decode cX8_joint 5 = .ok (.aload_n 0, 1) := by decide +kernel
theorem dX8_joint_6 : decode cX8_joint 6 = .ok (.getfield 57, 3) := by decide +kernel
theorem dX8_joint_9 : decode cX8_joint 9 = .ok (.if_icmp .ge 84, 3) := by decide +kernel
theorem dX8_joint_12 : decode cX8_joint 12 = .ok (.iload_n 1, 1) := by decide +kernel
theorem dX8_joint_13 : decode cX8_joint 13 = .ok (.ifCond .lt 80, 3) := by decide +kernel
theorem dX8_joint_16 : decode cX8_joint 16 = .ok (.iconst 0, 1) := by decide +kernel
theorem dX8_joint_17 : decode cX8_joint 17 = .ok (.istore 4, 2) := by decide +kernel
theorem dX8_joint_19 : decode cX8_joint 19 = .ok (.iload 4, 2) := by decide +kernel
theorem dX8_joint_21 : decode cX8_joint 21 = .ok (.sipush 1200, 3) := by decide +kernel
theorem dX8_joint_24 : decode cX8_joint 24 = .ok (.if_icmp .ge 63, 3) := by decide +kernel
theorem dX8_joint_27 : decode cX8_joint 27 = .ok (.aload_n 0, 1) := by decide +kernel
theorem dX8_joint_28 : decode cX8_joint 28 = .ok (.getfield 7, 3) := by decide +kernel
theorem dX8_joint_31 : decode cX8_joint 31 = .ok (.iload_n 3, 1) := by decide +kernel
theorem dX8_joint_32 : decode cX8_joint 32 = .ok (.iaload, 1) := by decide +kernel
theorem dX8_joint_33 : decode cX8_joint 33 = .ok (.iconst 1, 1) := by decide +kernel
theorem dX8_joint_34 : decode cX8_joint 34 = .ok (.if_icmp .ne 53, 3) := by decide +kernel
theorem dX8_joint_37 : decode cX8_joint 37 = .ok (.aload_n 0, 1) := by decide +kernel
theorem dX8_joint_38 : decode cX8_joint 38 = .ok (.iload 4, 2) := by decide +kernel
theorem dX8_joint_40 : decode cX8_joint 40 = .ok (.invokevirtual 125, 3) := by decide +kernel
theorem dX8_joint_43 : decode cX8_joint 43 = .ok (.ifCond .eq 38, 3) := by decide +kernel
theorem dX8_joint_46 : decode cX8_joint 46 = .ok (.aload_n 0, 1) := by decide +kernel
theorem dX8_joint_47 : decode cX8_joint 47 = .ok (.sipush 10000, 3) := by decide +kernel
theorem dX8_joint_50 : decode cX8_joint 50 = .ok (.iload_n 3, 1) := by decide +kernel
theorem dX8_joint_51 : decode cX8_joint 51 = .ok (.iconst 1, 1) := by decide +kernel
theorem dX8_joint_52 : decode cX8_joint 52 = .ok (.iadd, 1) := by decide +kernel
theorem dX8_joint_53 : decode cX8_joint 53 = .ok (.imul, 1) := by decide +kernel
theorem dX8_joint_54 : decode cX8_joint 54 = .ok (.iload 4, 2) := by decide +kernel
theorem dX8_joint_56 : decode cX8_joint 56 = .ok (.iadd, 1) := by decide +kernel
theorem dX8_joint_57 : decode cX8_joint 57 = .ok (.invokevirtual 146, 3) := by decide +kernel
theorem dX8_joint_60 : decode cX8_joint 60 = .ok (.ifCond .ne 21, 3) := by decide +kernel
theorem dX8_joint_63 : decode cX8_joint 63 = .ok (.iload_n 2, 1) := by decide +kernel
theorem dX8_joint_64 : decode cX8_joint 64 = .ok (.ifCond .ne 14, 3) := by decide +kernel
theorem dX8_joint_67 : decode cX8_joint 67 = .ok (.sipush 10000, 3) := by decide +kernel
theorem dX8_joint_70 : decode cX8_joint 70 = .ok (.iload_n 3, 1) := by decide +kernel
theorem dX8_joint_71 : decode cX8_joint 71 = .ok (.iconst 1, 1) := by decide +kernel
theorem dX8_joint_72 : decode cX8_joint 72 = .ok (.iadd, 1) := by decide +kernel
theorem dX8_joint_73 : decode cX8_joint 73 = .ok (.imul, 1) := by decide +kernel
theorem dX8_joint_74 : decode cX8_joint 74 = .ok (.iload 4, 2) := by decide +kernel
theorem dX8_joint_76 : decode cX8_joint 76 = .ok (.iadd, 1) := by decide +kernel
theorem dX8_joint_77 : decode cX8_joint 77 = .ok (.ireturn, 1) := by decide +kernel
theorem dX8_joint_78 : decode cX8_joint 78 = .ok (.iinc 2 (-1), 3) := by decide +kernel
theorem dX8_joint_81 : decode cX8_joint 81 = .ok (.iinc 4 1, 3) := by decide +kernel
theorem dX8_joint_84 : decode cX8_joint 84 = .ok (.goto (-65), 3) := by decide +kernel
theorem dX8_joint_87 : decode cX8_joint 87 = .ok (.iinc 3 1, 3) := by decide +kernel
theorem dX8_joint_90 : decode cX8_joint 90 = .ok (.goto (-86), 3) := by decide +kernel
theorem dX8_joint_93 : decode cX8_joint 93 = .ok (.bipush (-3), 2) := by decide +kernel
theorem dX8_joint_95 : decode cX8_joint 95 = .ok (.ireturn, 1) := by decide +kernel
set_option maxHeartbeats 4000000 in
set_option maxRecDepth 100000 in
theorem c_X8_joint (l : Launch) (G : MG) (M : MM) (P : MP) (L : ML) (N : MN) (V : MV) (n aa ac : Nat) (ra : Nat → Nat) (o : Nat → Int32 → Int32 → Int64) (zf zs : Nat → Int32) (zd : Nat → Int64) (hV : mV M n aa ac ra o zf zs zd) (k : Nat) (hk0 : k < 2147483648) : Met l yX8_joint (wC yX8_joint cX8_joint 5 (some .int)) (rmD 7) (mPc G [.ref (mga G 0), .int (nI k)] M P L N V) (va_Qi (fun v u => v = zkth (zjl (zwl n aa ra 1200) ra (fun w => decide (zst o zf zs zd ac w = 0)) n) (nI k) ∧ ∃ (P2 : MP) (L2 : ML) (N2 : MN) (V2 : MV), u = (M, P2, L2, N2, V2)) (mB G) (mA G)) 0 0 (mA G) := by
  refine mst "DoFinderModel" (by decide) rfl (Nat.le_of_ble_eq_true rfl) ?_
  intro p e s m args below meth c ls F hr hlk hW hl
  have hl : lv_has ls 5 [(0, .ref (mga G 0)), (1, .int (nI k))] := hl
  have hW : mW G s s.heap s.heap [] M P L N V := hW
  obtain ⟨en, ea, ec, era, eo, ef, es, ed, bn, ba, bc, bf, brc, bra, bd⟩ := id hV
  refine lv_iload_n F.1 F.2.1 dX8_joint_0 rfl (lv_at hl 1 rfl) ?_
  refine lv_istore_n (lv' := [(2, .int (nI k)), (0, .ref (mga G 0)), (1, .int (nI k))]) F.1 F.2.1 dX8_joint_1 rfl hl (by decide) rfl (fun ls hl => ?_)
  refine lv_iconst (v := nI 0) F.1 F.2.1 dX8_joint_2 (by decide) ?_
  refine lv_istore_n (lv' := [(3, .int (nI 0)), (2, .int (nI k)), (0, .ref (mga G 0)), (1, .int (nI k))]) F.1 F.2.1 dX8_joint_3 rfl hl (by decide) rfl (fun ls hl => ?_)
  have lp4 : ∀ (k4 : Nat) (Pk : MP) (Lk : ML) (js : Nat) (lf : Nat), n - js = k4 → (js ≤ n) → (lf + (zjl (zwl n aa ra 1200) ra (fun w => decide (zst o zf zs zd ac w = 0)) js).length = k) → ∀ (H : Heap) (locs : List Loc) (ls : Array Slot), mW G s s.heap H locs M Pk Lk N V →  lv_has ls 5 [(0, .ref (mga G 0)), (1, .int (nI k)), (2, .int (nI lf)), (3, .int (nI js))] → W p l e (rmD 7) s m args below meth c H locs 0 0 (MQ below (va_Qi (fun v u => v = zkth (zjl (zwl n aa ra 1200) ra (fun w => decide (zst o zf zs zd ac w = 0)) n) (nI k) ∧ ∃ (P2 : MP) (L2 : ML) (N2 : MN) (V2 : MV), u = (M, P2, L2, N2, V2)) (mB G) (mA G)) args s 0 0 (mA G)) (F0 m 4 ls []) := by
    intro k4
    induction k4 using Nat.strongRecOn with
    | ind k4 ih4 =>
      intro Pk Lk js lf hk4 h1 h2 H locs ls hW hl
      refine lv_iload_n F.1 F.2.1 dX8_joint_4 rfl (lv_at hl 3 rfl) ?_
      refine lv_aload_n F.1 F.2.1 dX8_joint_5 rfl (lv_at hl 0 rfl) ?_
      refine mg_routines F hW tm_500 dX8_joint_6 ?_
      refine lv_icmp_ge (tgt := 93) F.1 F.2.1 dX8_joint_9 (by decide) (fun c9 => ?_) (fun c9 => ?_)
      · have c9 := ci_le (a := ((M.1 : Nat) : Int)) (b := ((js : Nat) : Int)) (nI_toInt (by omega)) (nI_toInt (by omega)) c9
        refine lv_bipush (v := (-3)) F.1 F.2.1 dX8_joint_93 (by decide) ?_
        refine mre_i F hr hlk hW dX8_joint_95 ?_
        rw [show js = n by omega] at h2
        exact ⟨zkth_none (by omega) (by omega), _, _, _, _, rfl⟩
      · have c9 := ci_nle (a := ((M.1 : Nat) : Int)) (b := ((js : Nat) : Int)) (nI_toInt (by omega)) (nI_toInt (by omega)) c9
        have q1 := bra js (by omega)
        have q2 := era js (by omega)
        refine lv_iload_n F.1 F.2.1 dX8_joint_12 rfl (lv_at hl 1 rfl) ?_
        refine lv_if_lt (tgt := 93) F.1 F.2.1 dX8_joint_13 (by decide) (fun c13 => ?_) (fun c13 => ?_)
        · exfalso
          have c13 := ci_lt (a := ((k : Nat) : Int)) (b := 0) (nI_toInt (by omega)) ci_0 c13
          omega
        have c13 := ci_nlt (a := ((k : Nat) : Int)) (b := 0) (nI_toInt (by omega)) ci_0 c13
        refine lv_iconst (v := nI 0) F.1 F.2.1 dX8_joint_16 (by decide) ?_
        refine lv_istore (lv' := [(4, .int (nI 0)), (0, .ref (mga G 0)), (1, .int (nI k)), (2, .int (nI lf)), (3, .int (nI js))]) F.1 F.2.1 dX8_joint_17 hl (by decide) rfl (fun ls hl => ?_)
        have lp19 : ∀ (k19 : Nat) (Pj : MP) (Lj : ML) (w : Nat) (lg : Nat), 1200 - w = k19 → (w ≤ 1200) → (ra js = 1 ∨ w = 0) → (lg + (zjq n aa ra (fun w => decide (zst o zf zs zd ac w = 0)) js w).length = k) → ∀ (H : Heap) (locs : List Loc) (ls : Array Slot), mW G s s.heap H locs M Pj Lj N V →  lv_has ls 5 [(0, .ref (mga G 0)), (1, .int (nI k)), (3, .int (nI js)), (2, .int (nI lg)), (4, .int (nI w))] → W p l e (rmD 7) s m args below meth c H locs 0 0 (MQ below (va_Qi (fun v u => v = zkth (zjl (zwl n aa ra 1200) ra (fun w => decide (zst o zf zs zd ac w = 0)) n) (nI k) ∧ ∃ (P2 : MP) (L2 : ML) (N2 : MN) (V2 : MV), u = (M, P2, L2, N2, V2)) (mB G) (mA G)) args s 0 0 (mA G)) (F0 m 19 ls []) := by
          intro k19
          induction k19 using Nat.strongRecOn with
          | ind k19 ih19 =>
            intro Pj Lj w lg hk19 h3 h5 h4 H locs ls hW hl
            refine lv_iload F.1 F.2.1 dX8_joint_19 (lv_at hl 4 rfl) ?_
            refine lv_sipush (v := nI 1200) F.1 F.2.1 dX8_joint_21 (by decide) ?_
            refine lv_icmp_ge (tgt := 87) F.1 F.2.1 dX8_joint_24 (by decide) (fun c24 => ?_) (fun c24 => ?_)
            · have c24 := ci_le (a := 1200) (b := ((w : Nat) : Int)) (by decide) (nI_toInt (by omega)) c24
              refine lv_iinc (v := nI (js + 1)) (lv' := [(3, .int (nI (js + 1))), (0, .ref (mga G 0)), (1, .int (nI k)), (2, .int (nI lg)), (4, .int (nI w))]) F.1 F.2.1 dX8_joint_87 hl (k := 2) rfl (nI_add _ 1) (by decide) rfl (fun ls hl => ?_)
              refine lv_goto (tgt := 4) F.1 F.2.1 dX8_joint_90 (by decide) ?_
              exact ih4 (n - (js + 1)) (by omega) Pj Lj (js + 1) lg rfl (by omega) (by rw [zjq_end (w := w) (by omega)]; exact h4) _ _ _ hW (lv_sub hl [1, 2, 3, 0] rfl)
            · have c24 := ci_nle (a := 1200) (b := ((w : Nat) : Int)) (by decide) (nI_toInt (by omega)) c24
              refine lv_aload_n F.1 F.2.1 dX8_joint_27 rfl (lv_at hl 0 rfl) ?_
              refine mg_argumentsOf F hW tm_501 dX8_joint_28 ?_
              refine lv_iload_n F.1 F.2.1 dX8_joint_31 rfl (lv_at hl 2 rfl) ?_
              refine ml_ra (i := js) F hW rfl (by omega) dX8_joint_32 ?_
              refine ax_re (show nI (M.2.1 js) = nI (ra js) from congrArg nI q2) ?_
              refine lv_iconst (v := nI 1) F.1 F.2.1 dX8_joint_33 (by decide) ?_
              refine lv_icmp_ne (tgt := 87) F.1 F.2.1 dX8_joint_34 (by decide) (fun c34 => ?_) (fun c34 => ?_)
              · have c34 := ci_ne (a := ((ra js : Nat) : Int)) (b := 1) (nI_toInt (by omega)) (by decide) c34
                refine lv_iinc (v := nI (js + 1)) (lv' := [(3, .int (nI (js + 1))), (0, .ref (mga G 0)), (1, .int (nI k)), (2, .int (nI lg)), (4, .int (nI w))]) F.1 F.2.1 dX8_joint_87 hl (k := 2) rfl (nI_add _ 1) (by decide) rfl (fun ls hl => ?_)
                refine lv_goto (tgt := 4) F.1 F.2.1 dX8_joint_90 (by decide) ?_
                exact ih4 (n - (js + 1)) (by omega) Pj Lj (js + 1) lg rfl (by omega) (by rw [zjq_end (w := w) (by omega)]; exact h4) _ _ _ hW (lv_sub hl [1, 2, 3, 0] rfl)
              · have c34 := ci_eq (a := ((ra js : Nat) : Int)) (b := 1) (nI_toInt (by omega)) (by decide) c34
                refine lv_aload_n F.1 F.2.1 dX8_joint_37 rfl (lv_at hl 0 rfl) ?_
                refine lv_iload F.1 F.2.1 dX8_joint_38 (lv_at hl 4 rfl) ?_
                refine mca_i (b := (mga G 0)) (As := [.int (nI w)]) (rest := []) F (c_X8_isWay l G M Pj Lj N V n aa ac ra o zf zs zd hV w (by omega)) (xcw F.2.2.2.2 ca_X8_isWay tm_675 rfl rfl ⟨by decide, by decide⟩) (mr_X8 hW) hW rfl hl.1 rfl (Nat.le_of_ble_eq_true rfl) dX8_joint_40 (fun r40 u40 H locs hp40 hW => ?_)
                obtain ⟨hp40, rfl⟩ := hp40
                have hW : mW G s s.heap H locs M Pj Lj N V := hW
                rcases hp40 with ⟨rfl, y40⟩ | ⟨rfl, y40⟩
                · skip
                  have hkk : zok n aa ra (10000 * (js + 1) + w) = true := zok_joint (by omega) (by omega) (by omega) y40
                  refine lv_if_eq (tgt := 81) F.1 F.2.1 dX8_joint_43 (by decide) (fun q => absurd q (by decide)) (fun _ => ?_)
                  refine lv_aload_n F.1 F.2.1 dX8_joint_46 rfl (lv_at hl 0 rfl) ?_
                  refine lv_sipush (v := nI 10000) F.1 F.2.1 dX8_joint_47 (by decide) ?_
                  refine lv_iload_n F.1 F.2.1 dX8_joint_50 rfl (lv_at hl 2 rfl) ?_
                  refine lv_iconst (v := nI 1) F.1 F.2.1 dX8_joint_51 (by decide) ?_
                  refine ax_add (z := nI (js + 1)) F (nI_add _ _) dX8_joint_52 ?_
                  refine ax_mul (z := nI (10000 * (js + 1))) F (pk_mul _ _) dX8_joint_53 ?_
                  refine lv_iload F.1 F.2.1 dX8_joint_54 (lv_at hl 4 rfl) ?_
                  refine ax_add (z := nI ((10000 * (js + 1)) + w)) F (nI_add _ _) dX8_joint_56 ?_
                  refine mca_i (b := (mga G 0)) (As := [.int (nI ((10000 * (js + 1)) + w))]) (rest := []) F (c_X8_stateOf l G M Pj Lj N V n aa ac ra o zf zs zd hV ((10000 * (js + 1)) + w) (by omega) hkk) (xcw F.2.2.2.2 ca_X8_stateOf tm_699 rfl rfl ⟨by decide, by decide⟩) (mr_X8 hW) hW rfl hl.1 rfl (Nat.le_of_ble_eq_true rfl) dX8_joint_57 (fun r57 u57 H locs hp57 hW => ?_)
                  obtain ⟨rfl, P57, rfl⟩ := hp57
                  have hW : mW G s s.heap H locs M P57 (zmi o zf zs zd ac ((10000 * (js + 1)) + w), zdo o zf zs zd ac ((10000 * (js + 1)) + w)) N V := hW
                  have zs57 : (zst o zf zs zd ac ((10000 * (js + 1)) + w)) ≤ 2 := zst_le _ _ _ _ _ _
                  refine lv_if_ne (tgt := 81) F.1 F.2.1 dX8_joint_60 (by decide) (fun c60 => ?_) (fun c60 => ?_)
                  · have c60 := ci_ne (a := (((zst o zf zs zd ac ((10000 * (js + 1)) + w)) : Nat) : Int)) (b := 0) (nI_toInt (by omega)) ci_0 c60
                    skip
                    refine lv_iinc (v := nI (w + 1)) (lv' := [(4, .int (nI (w + 1))), (0, .ref (mga G 0)), (1, .int (nI k)), (3, .int (nI js)), (2, .int (nI lg))]) F.1 F.2.1 dX8_joint_81 hl (k := 4) rfl (nI_add _ 1) (by decide) rfl (fun ls hl => ?_)
                    refine lv_goto (tgt := 19) F.1 F.2.1 dX8_joint_84 (by decide) ?_
                    exact ih19 (1200 - (w + 1)) (by omega) P57 (zmi o zf zs zd ac ((10000 * (js + 1)) + w), zdo o zf zs zd ac ((10000 * (js + 1)) + w)) (w + 1) lg rfl (by omega) (Or.inl (by omega)) (by rw [zjq_f (fun z => by have := of_decide_eq_true z.2; omega)]; exact h4) _ _ _ hW (lv_sub hl [1, 2, 3, 4, 0] rfl)
                  · have c60 := ci_eq (a := (((zst o zf zs zd ac ((10000 * (js + 1)) + w)) : Nat) : Int)) (b := 0) (nI_toInt (by omega)) ci_0 c60
                    skip
                    refine lv_iload_n F.1 F.2.1 dX8_joint_63 rfl (lv_at hl 3 rfl) ?_
                    refine lv_if_ne (tgt := 78) F.1 F.2.1 dX8_joint_64 (by decide) (fun c64 => ?_) (fun c64 => ?_)
                    · have c64 := ci_ne (a := ((lg : Nat) : Int)) (b := 0) (nI_toInt (by omega)) ci_0 c64
                      refine lv_iinc (v := nI (lg - 1)) (lv' := [(2, .int (nI (lg - 1))), (0, .ref (mga G 0)), (1, .int (nI k)), (3, .int (nI js)), (4, .int (nI w))]) F.1 F.2.1 dX8_joint_78 hl (k := 3) rfl (nI_dec (by omega)) (by decide) rfl (fun ls hl => ?_)
                      refine lv_iinc (v := nI (w + 1)) (lv' := [(4, .int (nI (w + 1))), (2, .int (nI (lg - 1))), (0, .ref (mga G 0)), (1, .int (nI k)), (3, .int (nI js))]) F.1 F.2.1 dX8_joint_81 hl (k := 4) rfl (nI_add _ 1) (by decide) rfl (fun ls hl => ?_)
                      refine lv_goto (tgt := 19) F.1 F.2.1 dX8_joint_84 (by decide) ?_
                      exact ih19 (1200 - (w + 1)) (by omega) P57 (zmi o zf zs zd ac ((10000 * (js + 1)) + w), zdo o zf zs zd ac ((10000 * (js + 1)) + w)) (w + 1) (lg - 1) rfl (by omega) (Or.inl (by omega)) (by rw [zjq_t y40 (decide_eq_true (by omega)), List.length_append, List.length_singleton]; omega) _ _ _ hW (lv_sub hl [2, 3, 4, 1, 0] rfl)
                    · have c64 := ci_eq (a := ((lg : Nat) : Int)) (b := 0) (nI_toInt (by omega)) ci_0 c64
                      refine lv_sipush (v := nI 10000) F.1 F.2.1 dX8_joint_67 (by decide) ?_
                      refine lv_iload_n F.1 F.2.1 dX8_joint_70 rfl (lv_at hl 2 rfl) ?_
                      refine lv_iconst (v := nI 1) F.1 F.2.1 dX8_joint_71 (by decide) ?_
                      refine ax_add (z := nI (js + 1)) F (nI_add _ _) dX8_joint_72 ?_
                      refine ax_mul (z := nI (10000 * (js + 1))) F (pk_mul _ _) dX8_joint_73 ?_
                      refine lv_iload F.1 F.2.1 dX8_joint_74 (lv_at hl 4 rfl) ?_
                      refine ax_add (z := nI ((10000 * (js + 1)) + w)) F (nI_add _ _) dX8_joint_76 ?_
                      refine mre_i F hr hlk hW dX8_joint_77 ?_
                      exact ⟨zkth_hitJ (by omega) (by omega) y40 (decide_eq_true (by omega)) (by omega) (by omega) (by omega), _, _, _, _, rfl⟩
                · skip
                  skip
                  refine lv_if_eq (tgt := 81) F.1 F.2.1 dX8_joint_43 (by decide) (fun _ => ?_) (fun q => absurd q (by decide))
                  refine lv_iinc (v := nI (w + 1)) (lv' := [(4, .int (nI (w + 1))), (0, .ref (mga G 0)), (1, .int (nI k)), (3, .int (nI js)), (2, .int (nI lg))]) F.1 F.2.1 dX8_joint_81 hl (k := 4) rfl (nI_add _ 1) (by decide) rfl (fun ls hl => ?_)
                  refine lv_goto (tgt := 19) F.1 F.2.1 dX8_joint_84 (by decide) ?_
                  exact ih19 (1200 - (w + 1)) (by omega) Pj Lj (w + 1) lg rfl (by omega) (Or.inl (by omega)) (by rw [zjq_f (fun z => y40 z.1)]; exact h4) _ _ _ hW (lv_sub hl [1, 2, 3, 4, 0] rfl)
        exact lp19 (1200 - 0) Pk Lk 0 lf rfl (Nat.zero_le _) (Or.inr rfl) (by rw [zjq_0]; exact h2) _ _ _ hW (lv_sub hl [1, 2, 4, 3, 0] rfl)
  exact lp4 (n - 0) P L 0 k rfl (Nat.zero_le _) (rfl) _ _ _ hW (lv_sub hl [2, 3, 1, 0] rfl)
set_option maxHeartbeats 4000000 in
set_option maxRecDepth 100000 in
theorem c_X8_joint_neg (l : Launch) (G : MG) (M : MM) (P : MP) (L : ML) (N : MN) (V : MV) (n aa ac : Nat) (ra : Nat → Nat) (o : Nat → Int32 → Int32 → Int64) (zf zs : Nat → Int32) (zd : Nat → Int64) (hV : mV M n aa ac ra o zf zs zd) (k : Int32) (hx : k.toInt < 0) : Met l yX8_joint (wC yX8_joint cX8_joint 5 (some .int)) (rmD 7) (mPc G [.ref (mga G 0), .int k] M P L N V) (va_Qi (fun v u => v = (-3) ∧ ∃ (P2 : MP) (L2 : ML) (N2 : MN) (V2 : MV), u = (M, P2, L2, N2, V2)) (mB G) (mA G)) 0 0 (mA G) := by
  refine mst "DoFinderModel" (by decide) rfl (Nat.le_of_ble_eq_true rfl) ?_
  intro p e s m args below meth c ls F hr hlk hW hl
  have hl : lv_has ls 5 [(0, .ref (mga G 0)), (1, .int k)] := hl
  have hW : mW G s s.heap s.heap [] M P L N V := hW
  have b_k := i32b k
  obtain ⟨en, ea, ec, era, eo, ef, es, ed, bn, ba, bc, bf, brc, bra, bd⟩ := id hV
  refine lv_iload_n F.1 F.2.1 dX8_joint_0 rfl (lv_at hl 1 rfl) ?_
  refine lv_istore_n (lv' := [(2, .int k), (0, .ref (mga G 0)), (1, .int k)]) F.1 F.2.1 dX8_joint_1 rfl hl (by decide) rfl (fun ls hl => ?_)
  refine lv_iconst (v := nI 0) F.1 F.2.1 dX8_joint_2 (by decide) ?_
  refine lv_istore_n (lv' := [(3, .int (nI 0)), (2, .int k), (0, .ref (mga G 0)), (1, .int k)]) F.1 F.2.1 dX8_joint_3 rfl hl (by decide) rfl (fun ls hl => ?_)
  refine lv_iload_n F.1 F.2.1 dX8_joint_4 rfl (lv_at hl 0 rfl) ?_
  refine lv_aload_n F.1 F.2.1 dX8_joint_5 rfl (lv_at hl 2 rfl) ?_
  refine mg_routines F hW tm_500 dX8_joint_6 ?_
  refine lv_icmp_ge (tgt := 93) F.1 F.2.1 dX8_joint_9 (by decide) (fun c9 => ?_) (fun c9 => ?_)
  · have c9 := ci_le (a := ((M.1 : Nat) : Int)) (b := 0) (nI_toInt (by omega)) (by decide) c9
    refine lv_bipush (v := (-3)) F.1 F.2.1 dX8_joint_93 (by decide) ?_
    refine mre_i F hr hlk hW dX8_joint_95 ?_
    exact ⟨rfl, _, _, _, _, rfl⟩
  · have c9 := ci_nle (a := ((M.1 : Nat) : Int)) (b := 0) (nI_toInt (by omega)) (by decide) c9
    refine lv_iload_n F.1 F.2.1 dX8_joint_12 rfl (lv_at hl 3 rfl) ?_
    refine lv_if_lt (tgt := 93) F.1 F.2.1 dX8_joint_13 (by decide) (fun c13 => ?_) (fun c13 => ?_)
    rotate_left
    · exfalso
      have c13 := ci_nlt (a := k.toInt) (b := 0) rfl ci_0 c13
      omega
    have c13 := ci_lt (a := k.toInt) (b := 0) rfl ci_0 c13
    refine lv_bipush (v := (-3)) F.1 F.2.1 dX8_joint_93 (by decide) ?_
    refine mre_i F hr hlk hW dX8_joint_95 ?_
    exact ⟨rfl, _, _, _, _, rfl⟩
theorem dX8_misses_0 : decode cX8_misses 0 = .ok (.aload_n 0, 1) := by decide +kernel
theorem dX8_misses_1 : decode cX8_misses 1 = .ok (.iload_n 1, 1) := by decide +kernel
theorem dX8_misses_2 : decode cX8_misses 2 = .ok (.invokevirtual 125, 3) := by decide +kernel
theorem dX8_misses_5 : decode cX8_misses 5 = .ok (.ifCond .ne 13, 3) := by decide +kernel
theorem dX8_misses_8 : decode cX8_misses 8 = .ok (.aload_n 0, 1) := by decide +kernel
theorem dX8_misses_9 : decode cX8_misses 9 = .ok (.iload_n 1, 1) := by decide +kernel
theorem dX8_misses_10 : decode cX8_misses 10 = .ok (.invokevirtual 131, 3) := by decide +kernel
theorem dX8_misses_13 : decode cX8_misses 13 = .ok (.ifCond .ne 5, 3) := by decide +kernel
theorem dX8_misses_16 : decode cX8_misses 16 = .ok (.iconst (-1), 1) := by decide +kernel
theorem dX8_misses_17 : decode cX8_misses 17 = .ok (.ireturn, 1) := by decide +kernel
theorem dX8_misses_18 : decode cX8_misses 18 = .ok (.aload_n 0, 1) := by decide +kernel
theorem dX8_misses_19 : decode cX8_misses 19 = .ok (.iload_n 1, 1) := by decide +kernel
theorem dX8_misses_20 : decode cX8_misses 20 = .ok (.invokevirtual 146, 3) := by decide +kernel
theorem dX8_misses_23 : decode cX8_misses 23 = .ok (.istore_n 2, 1) := by decide +kernel
theorem dX8_misses_24 : decode cX8_misses 24 = .ok (.aload_n 0, 1) := by decide +kernel
theorem dX8_misses_25 : decode cX8_misses 25 = .ok (.getfield 137, 3) := by decide +kernel
theorem dX8_misses_28 : decode cX8_misses 28 = .ok (.ireturn, 1) := by decide +kernel
set_option maxHeartbeats 4000000 in
set_option maxRecDepth 100000 in
theorem c_X8_misses (l : Launch) (G : MG) (M : MM) (P : MP) (L : ML) (N : MN) (V : MV) (n aa ac : Nat) (ra : Nat → Nat) (o : Nat → Int32 → Int32 → Int64) (zf zs : Nat → Int32) (zd : Nat → Int64) (hV : mV M n aa ac ra o zf zs zd) (w : Nat) (hw : w < 2147483648) : Met l yX8_misses (wC yX8_misses cX8_misses 3 (some .int)) (rmD 7) (mPc G [.ref (mga G 0), .int (nI w)] M P L N V) (va_Qi (fun v u => ((zok n aa ra w = true ∧ v = nI (zmi o zf zs zd ac w)) ∨ (¬ zok n aa ra w = true ∧ v = (-1))) ∧ ∃ (P2 : MP) (L2 : ML) (N2 : MN) (V2 : MV), u = (M, P2, L2, N2, V2)) (mB G) (mA G)) 0 0 (mA G) := by
  refine mst "DoFinderModel" (by decide) rfl (Nat.le_of_ble_eq_true rfl) ?_
  intro p e s m args below meth c ls F hr hlk hW hl
  have hl : lv_has ls 3 [(0, .ref (mga G 0)), (1, .int (nI w))] := hl
  have hW : mW G s s.heap s.heap [] M P L N V := hW
  obtain ⟨en, ea, ec, era, eo, ef, es, ed, bn, ba, bc, bf, brc, bra, bd⟩ := id hV
  refine lv_aload_n F.1 F.2.1 dX8_misses_0 rfl (lv_at hl 0 rfl) ?_
  refine lv_iload_n F.1 F.2.1 dX8_misses_1 rfl (lv_at hl 1 rfl) ?_
  refine mca_i (b := (mga G 0)) (As := [.int (nI w)]) (rest := []) F (c_X8_isWay l G M P L N V n aa ac ra o zf zs zd hV w (by omega)) (xcw F.2.2.2.2 ca_X8_isWay tm_675 rfl rfl ⟨by decide, by decide⟩) (mr_X8 hW) hW rfl hl.1 rfl (Nat.le_of_ble_eq_true rfl) dX8_misses_2 (fun r2 u2 H locs hp2 hW => ?_)
  obtain ⟨hp2, rfl⟩ := hp2
  have hW : mW G s s.heap H locs M P L N V := hW
  rcases hp2 with ⟨rfl, y2⟩ | ⟨rfl, y2⟩
  · skip
    have hkk : zok n aa ra w = true := zok_of_way bn y2
    refine lv_if_ne (tgt := 18) F.1 F.2.1 dX8_misses_5 (by decide) (fun _ => ?_) (fun q => absurd q (by decide))
    refine lv_aload_n F.1 F.2.1 dX8_misses_18 rfl (lv_at hl 0 rfl) ?_
    refine lv_iload_n F.1 F.2.1 dX8_misses_19 rfl (lv_at hl 1 rfl) ?_
    refine mca_i (b := (mga G 0)) (As := [.int (nI w)]) (rest := []) F (c_X8_stateOf l G M P L N V n aa ac ra o zf zs zd hV w (by omega) hkk) (xcw F.2.2.2.2 ca_X8_stateOf tm_699 rfl rfl ⟨by decide, by decide⟩) (mr_X8 hW) hW rfl hl.1 rfl (Nat.le_of_ble_eq_true rfl) dX8_misses_20 (fun r20 u20 H locs hp20 hW => ?_)
    obtain ⟨rfl, P20, rfl⟩ := hp20
    have hW : mW G s s.heap H locs M P20 (zmi o zf zs zd ac w, zdo o zf zs zd ac w) N V := hW
    have zs20 : (zst o zf zs zd ac w) ≤ 2 := zst_le _ _ _ _ _ _
    refine lv_istore_n (lv' := [(2, .int (nI (zst o zf zs zd ac w))), (0, .ref (mga G 0)), (1, .int (nI w))]) F.1 F.2.1 dX8_misses_23 rfl hl (by decide) rfl (fun ls hl => ?_)
    refine lv_aload_n F.1 F.2.1 dX8_misses_24 rfl (lv_at hl 1 rfl) ?_
    refine mg_missesOf F hW tm_515 dX8_misses_25 ?_
    refine mre_i F hr hlk hW dX8_misses_28 ?_
    exact ⟨Or.inl ⟨hkk, rfl⟩, _, _, _, _, rfl⟩
  · skip
    refine lv_if_ne (tgt := 18) F.1 F.2.1 dX8_misses_5 (by decide) (fun q => absurd q (by decide)) (fun _ => ?_)
    refine lv_aload_n F.1 F.2.1 dX8_misses_8 rfl (lv_at hl 0 rfl) ?_
    refine lv_iload_n F.1 F.2.1 dX8_misses_9 rfl (lv_at hl 1 rfl) ?_
    refine mca_i (b := (mga G 0)) (As := [.int (nI w)]) (rest := []) F (c_X8_isJoint l G M P L N V n aa ac ra o zf zs zd hV w (by omega)) (xcw F.2.2.2.2 ca_X8_isJoint tm_679 rfl rfl ⟨by decide, by decide⟩) (mr_X8 hW) hW rfl hl.1 rfl (Nat.le_of_ble_eq_true rfl) dX8_misses_10 (fun r10 u10 H locs hp10 hW => ?_)
    obtain ⟨hp10, rfl⟩ := hp10
    have hW : mW G s s.heap H locs M P L N V := hW
    rcases hp10 with ⟨rfl, y10⟩ | ⟨rfl, y10⟩
    · skip
      have hkk := y10.2
      refine lv_if_ne (tgt := 18) F.1 F.2.1 dX8_misses_13 (by decide) (fun _ => ?_) (fun q => absurd q (by decide))
      refine lv_aload_n F.1 F.2.1 dX8_misses_18 rfl (lv_at hl 0 rfl) ?_
      refine lv_iload_n F.1 F.2.1 dX8_misses_19 rfl (lv_at hl 1 rfl) ?_
      refine mca_i (b := (mga G 0)) (As := [.int (nI w)]) (rest := []) F (c_X8_stateOf l G M P L N V n aa ac ra o zf zs zd hV w (by omega) hkk) (xcw F.2.2.2.2 ca_X8_stateOf tm_699 rfl rfl ⟨by decide, by decide⟩) (mr_X8 hW) hW rfl hl.1 rfl (Nat.le_of_ble_eq_true rfl) dX8_misses_20 (fun r20 u20 H locs hp20 hW => ?_)
      obtain ⟨rfl, P20, rfl⟩ := hp20
      have hW : mW G s s.heap H locs M P20 (zmi o zf zs zd ac w, zdo o zf zs zd ac w) N V := hW
      have zs20 : (zst o zf zs zd ac w) ≤ 2 := zst_le _ _ _ _ _ _
      refine lv_istore_n (lv' := [(2, .int (nI (zst o zf zs zd ac w))), (0, .ref (mga G 0)), (1, .int (nI w))]) F.1 F.2.1 dX8_misses_23 rfl hl (by decide) rfl (fun ls hl => ?_)
      refine lv_aload_n F.1 F.2.1 dX8_misses_24 rfl (lv_at hl 1 rfl) ?_
      refine mg_missesOf F hW tm_515 dX8_misses_25 ?_
      refine mre_i F hr hlk hW dX8_misses_28 ?_
      exact ⟨Or.inl ⟨hkk, rfl⟩, _, _, _, _, rfl⟩
    · skip
      have hkn : ¬ zok n aa ra w = true := fun z => by
        by_cases q : 10000 ≤ w
        · exact y10 ⟨q, z⟩
        · exact y2 ((zok_iff.mp z).1 (by omega))
      refine lv_if_ne (tgt := 18) F.1 F.2.1 dX8_misses_13 (by decide) (fun q => absurd q (by decide)) (fun _ => ?_)
      refine lv_iconst (v := (-1)) F.1 F.2.1 dX8_misses_16 (by decide) ?_
      refine mre_i F hr hlk hW dX8_misses_17 ?_
      exact ⟨Or.inr ⟨hkn, rfl⟩, _, _, _, _, rfl⟩
set_option maxHeartbeats 4000000 in
set_option maxRecDepth 100000 in
theorem c_X8_misses_neg (l : Launch) (G : MG) (M : MM) (P : MP) (L : ML) (N : MN) (V : MV) (n aa ac : Nat) (ra : Nat → Nat) (o : Nat → Int32 → Int32 → Int64) (zf zs : Nat → Int32) (zd : Nat → Int64) (hV : mV M n aa ac ra o zf zs zd) (x : Int32) (hx : x.toInt < 0) : Met l yX8_misses (wC yX8_misses cX8_misses 3 (some .int)) (rmD 7) (mPc G [.ref (mga G 0), .int x] M P L N V) (va_Qi (fun v u => v = (-1) ∧ ∃ (P2 : MP) (L2 : ML) (N2 : MN) (V2 : MV), u = (M, P2, L2, N2, V2)) (mB G) (mA G)) 0 0 (mA G) := by
  refine mst "DoFinderModel" (by decide) rfl (Nat.le_of_ble_eq_true rfl) ?_
  intro p e s m args below meth c ls F hr hlk hW hl
  have hl : lv_has ls 3 [(0, .ref (mga G 0)), (1, .int x)] := hl
  have hW : mW G s s.heap s.heap [] M P L N V := hW
  have b_x := i32b x
  refine lv_aload_n F.1 F.2.1 dX8_misses_0 rfl (lv_at hl 0 rfl) ?_
  refine lv_iload_n F.1 F.2.1 dX8_misses_1 rfl (lv_at hl 1 rfl) ?_
  refine mca_i (b := (mga G 0)) (As := [.int x]) (rest := []) F (c_X8_isWay_neg l G M P L N V n aa ac ra o zf zs zd hV x hx) (xcw F.2.2.2.2 ca_X8_isWay tm_675 rfl rfl ⟨by decide, by decide⟩) (mr_X8 hW) hW rfl hl.1 rfl (Nat.le_of_ble_eq_true rfl) dX8_misses_2 (fun r2 u2 H locs hp2 hW => ?_)
  obtain ⟨rfl, rfl⟩ := hp2
  have hW : mW G s s.heap H locs M P L N V := hW
  refine lv_if_ne (tgt := 18) F.1 F.2.1 dX8_misses_5 (by decide) (fun q => absurd q (by decide)) (fun _ => ?_)
  refine lv_aload_n F.1 F.2.1 dX8_misses_8 rfl (lv_at hl 0 rfl) ?_
  refine lv_iload_n F.1 F.2.1 dX8_misses_9 rfl (lv_at hl 1 rfl) ?_
  refine mca_i (b := (mga G 0)) (As := [.int x]) (rest := []) F (c_X8_isJoint_neg l G M P L N V n aa ac ra o zf zs zd hV x hx) (xcw F.2.2.2.2 ca_X8_isJoint tm_679 rfl rfl ⟨by decide, by decide⟩) (mr_X8 hW) hW rfl hl.1 rfl (Nat.le_of_ble_eq_true rfl) dX8_misses_10 (fun r10 u10 H locs hp10 hW => ?_)
  obtain ⟨rfl, rfl⟩ := hp10
  have hW : mW G s s.heap H locs M P L N V := hW
  refine lv_if_ne (tgt := 18) F.1 F.2.1 dX8_misses_13 (by decide) (fun q => absurd q (by decide)) (fun _ => ?_)
  refine lv_iconst (v := (-1)) F.1 F.2.1 dX8_misses_16 (by decide) ?_
  refine mre_i F hr hlk hW dX8_misses_17 ?_
  exact ⟨rfl, _, _, _, _, rfl⟩
