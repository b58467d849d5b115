/-! joints in order; near ways in order -/
def zjl (WL : List Nat) (ra : Nat → Nat) (p : Nat → Bool) : Nat → List Nat
  | 0 => []
  | k + 1 => zjl WL ra p k ++ (if ra k = 1 then (WL.map (fun w => 10000 * (k + 1) + w)).filter p else [])
def zjp (WL : List Nat) (ra : Nat → Nat) (p : Nat → Bool) (k i : Nat) : List Nat := zjl WL ra p k ++ ((WL.take i).map (fun w => 10000 * (k + 1) + w)).filter p
theorem zjl_t {WL : List Nat} {ra : Nat → Nat} {p : Nat → Bool} {k i : Nat} (h : ra k = 1) (e : i = WL.length) : zjl WL ra p (k + 1) = zjp WL ra p k i := by
  subst e; unfold zjp; rw [List.take_length]; conv => lhs; unfold zjl
  rw [if_pos h]
theorem zjl_f {WL : List Nat} {ra : Nat → Nat} {p : Nat → Bool} {k i : Nat} (h : ra k ≠ 1) (e : i = 0) : zjl WL ra p (k + 1) = zjp WL ra p k i := by
  subst e; unfold zjp; conv => lhs; unfold zjl
  rw [if_neg h]; rfl
theorem zjp_0 {WL : List Nat} {ra : Nat → Nat} {p : Nat → Bool} {k : Nat} : zjp WL ra p k 0 = zjl WL ra p k := List.append_nil _
theorem zjp_t {WL : List Nat} {ra : Nat → Nat} {p : Nat → Bool} {k i : Nat} (h : i < WL.length) (hp : p (10000 * (k + 1) + WL.getD i 0) = true) : zjp WL ra p k (i + 1) = zjp WL ra p k i ++ [10000 * (k + 1) + WL.getD i 0] := by
  unfold zjp; rw [zl_take h, List.map_append, List.filter_append]
  simp only [List.map_cons, List.map_nil, List.filter_cons, hp, if_true, List.filter_nil, List.append_assoc]
theorem zjp_f {WL : List Nat} {ra : Nat → Nat} {p : Nat → Bool} {k i : Nat} (h : i < WL.length) (hp : ¬ p (10000 * (k + 1) + WL.getD i 0) = true) : zjp WL ra p k (i + 1) = zjp WL ra p k i := by
  unfold zjp; rw [zl_take h, List.map_append, List.filter_append]
  simp only [List.map_cons, List.map_nil, List.filter_cons, hp, List.filter_nil]; simp
theorem zjl_len (WL : List Nat) (ra : Nat → Nat) (p : Nat → Bool) (k : Nat) : (zjl WL ra p k).length ≤ zcnt (fun r => decide (ra r = 1)) k * WL.length := by
  induction k with
  | zero => exact Nat.zero_le _
  | succ k ih =>
    unfold zjl
    by_cases h : ra k = 1
    · rw [if_pos h, zcnt_t (decide_eq_true h), List.length_append, Nat.add_mul]
      have h1 := List.length_filter_le p (WL.map (fun w => 10000 * (k + 1) + w))
      rw [List.length_map] at h1
      omega
    · rw [if_neg h, zcnt_f (by simpa using h), List.append_nil]; exact ih
theorem zjp_len (WL : List Nat) (ra : Nat → Nat) (p : Nat → Bool) (k i : Nat) : (zjp WL ra p k i).length ≤ zcnt (fun r => decide (ra r = 1)) k * WL.length + i := by
  unfold zjp
  rw [List.length_append]
  have h1 := List.length_filter_le p ((WL.take i).map (fun w => 10000 * (k + 1) + w))
  rw [List.length_map, List.length_take] at h1
  have h2 := zjl_len WL ra p k
  omega
theorem zwl_lenx {n aa : Nat} {ra : Nat → Nat} : ∀ r, r ≤ n → (zwl n aa ra (100 * r)).length = if aa = 2 then 2 * r else zcnt (fun r => decide (ra r = 1)) r + 20 * (r - zcnt (fun r => decide (ra r = 1)) r) := by
  intro r
  induction r with
  | zero => intro _; rw [Nat.mul_zero, zwl_0]; split <;> rfl
  | succ r ih =>
    intro hr
    have h := ih (by omega)
    have hz := zcnt_le (fun r => decide (ra r = 1)) r
    rw [show 100 * (r + 1) = 100 * r + 100 by omega, zwl_len (by omega) 100 (Nat.le_refl _), h]
    unfold zcw
    by_cases ha : aa = 2
    · rw [if_pos ha, if_pos ha, if_pos ha]; omega
    · rw [if_neg ha, if_neg ha, if_neg ha]
      by_cases hq : ra r = 1
      · rw [if_pos hq, zcnt_t (decide_eq_true hq)]; omega
      · rw [if_neg hq, zcnt_f (by simpa using hq)]; omega
theorem z756 : ∀ n, n < 13 → ∀ k, k < 13 → k ≤ n → k * (k + 20 * (n - k)) ≤ 756 ∧ k * (2 * n) ≤ 756 := by decide
theorem zjp_lt {n aa : Nat} {ra : Nat → Nat} {p : Nat → Bool} {k i : Nat} (hn : n ≤ 12) (hk : k < n) (hr : ra k = 1) (hi : i < (zwl n aa ra 1200).length) : (zjp (zwl n aa ra 1200) ra p k i).length < 756 := by
  have h1 := zjp_len (zwl n aa ra 1200) ra p k i
  have h2 := zcnt_t (p := fun r => decide (ra r = 1)) (k := k) (decide_eq_true hr)
  have h3 := zcnt_mono (fun r => decide (ra r = 1)) (show k + 1 ≤ n by omega)
  have h4 := zcnt_le (fun r => decide (ra r = 1)) n
  have h5 := zwl_lenx (n := n) (aa := aa) (ra := ra) n (Nat.le_refl _)
  rw [← zwl_all hn] at h5
  generalize zcnt (fun r => decide (ra r = 1)) n = N1 at *
  generalize zcnt (fun r => decide (ra r = 1)) k = K1 at *
  have h6 := z756 n (by omega) N1 (by omega) (by omega)
  have h7 : (K1 + 1) * (zwl n aa ra 1200).length ≤ N1 * (zwl n aa ra 1200).length := Nat.mul_le_mul_right _ (by omega)
  rw [Nat.add_mul] at h7
  have h8 : N1 * (zwl n aa ra 1200).length ≤ 756 := by
    rw [h5]; split
    · exact h6.2
    · exact h6.1
  omega
theorem zok_joint {n aa : Nat} {ra : Nat → Nat} {k w : Nat} (hk : k < n) (hr : ra k = 1) (hw : w < 10000) (h : zway n aa ra w = true) : zok n aa ra (10000 * (k + 1) + w) = true := by
  refine zok_iff.mpr ⟨fun q => by omega, fun _ => ?_⟩
  rw [show (10000 * (k + 1) + w) / 10000 - 1 = k by omega, show (10000 * (k + 1) + w) % 10000 = w by omega]
  exact ⟨hk, hr, h⟩
def znl (WL : List Nat) (g : Nat → Nat) : Nat → List Nat
  | 0 => []
  | k + 1 => znl WL g k ++ WL.filter (fun w => decide (g w = k + 1))
def znp (WL : List Nat) (g : Nat → Nat) (k i : Nat) : List Nat := znl WL g (k - 1) ++ (WL.take i).filter (fun w => decide (g w = k))
theorem znp_0 {WL : List Nat} {g : Nat → Nat} {k : Nat} : znp WL g k 0 = znl WL g (k - 1) := List.append_nil _
theorem znp_end {WL : List Nat} {g : Nat → Nat} {k i : Nat} (hk : 1 ≤ k) (hi : i = WL.length) : znl WL g (k + 1 - 1) = znp WL g k i := by
  subst hi
  obtain ⟨j, rfl⟩ : ∃ j, k = j + 1 := ⟨k - 1, by omega⟩
  unfold znp; rw [List.take_length]; rfl
theorem znp_t {WL : List Nat} {g : Nat → Nat} {k i : Nat} (h : i < WL.length) (hp : g (WL.getD i 0) = k) : znp WL g k (i + 1) = znp WL g k i ++ [WL.getD i 0] := by
  unfold znp; rw [zl_take_t h (decide_eq_true hp), List.append_assoc]
theorem znp_f {WL : List Nat} {g : Nat → Nat} {k i : Nat} (h : i < WL.length) (hp : ¬ g (WL.getD i 0) = k) : znp WL g k (i + 1) = znp WL g k i := by
  unfold znp; rw [zl_take_f h (by simpa using hp)]
theorem zpart (l : List Nat) (g : Nat → Nat) (k : Nat) : (l.filter (fun w => decide (1 ≤ g w ∧ g w ≤ k))).length + (l.filter (fun w => decide (g w = k + 1))).length = (l.filter (fun w => decide (1 ≤ g w ∧ g w ≤ k + 1))).length := by
  induction l with
  | nil => rfl
  | cons a l ih =>
    simp only [List.filter_cons]
    by_cases h1 : 1 ≤ g a ∧ g a ≤ k
    · rw [if_pos (decide_eq_true h1), if_neg (by simp only [decide_eq_true_eq]; omega), if_pos (decide_eq_true (by omega))]
      simp only [List.length_cons]; omega
    · rw [if_neg (by simpa using h1)]
      by_cases h2 : g a = k + 1
      · rw [if_pos (decide_eq_true h2), if_pos (decide_eq_true (by omega))]
        simp only [List.length_cons]; omega
      · rw [if_neg (by simpa using h2), if_neg (by simp only [decide_eq_true_eq]; omega)]
        exact ih
theorem znl_len (WL : List Nat) (g : Nat → Nat) (k : Nat) : (znl WL g k).length = (WL.filter (fun w => decide (1 ≤ g w ∧ g w ≤ k))).length := by
  induction k with
  | zero =>
    have : WL.filter (fun w => decide (1 ≤ g w ∧ g w ≤ 0)) = [] := by
      rw [List.filter_eq_nil_iff]; intro a _; simp only [decide_eq_true_eq]; omega
    rw [this]; rfl
  | succ k ih => unfold znl; rw [List.length_append, ih, zpart]
theorem znp_len (WL : List Nat) (g : Nat → Nat) (k i : Nat) (hk : 1 ≤ k) : (znp WL g k i).length ≤ WL.length := by
  obtain ⟨j, rfl⟩ : ∃ j, k = j + 1 := ⟨k - 1, by omega⟩
  unfold znp
  rw [List.length_append, show j + 1 - 1 = j from rfl, znl_len]
  have h1 := zpart WL g j
  have h2 := List.length_filter_le (fun w => decide (1 ≤ g w ∧ g w ≤ j + 1)) WL
  have h3 : ((WL.take i).filter (fun w => decide (g w = j + 1))).length ≤ (WL.filter (fun w => decide (g w = j + 1))).length := ((List.take_sublist i WL).filter _).length_le
  omega
theorem dX5_pickJoints_0 : decode cX5_pickJoints 0 = .ok (.aload_n 0, 1) := by decide +kernel
theorem dX5_pickJoints_1 : decode cX5_pickJoints 1 = .ok (.invokevirtual 90, 3) := by decide +kernel
theorem dX5_pickJoints_4 : decode cX5_pickJoints 4 = .ok (.istore_n 1, 1) := by decide +kernel
theorem dX5_pickJoints_5 : decode cX5_pickJoints 5 = .ok (.aload_n 0, 1) := by decide +kernel
theorem dX5_pickJoints_6 : decode cX5_pickJoints 6 = .ok (.iconst 0, 1) := by decide +kernel
theorem dX5_pickJoints_7 : decode cX5_pickJoints 7 = .ok (.putfield 21, 3) := by decide +kernel
theorem dX5_pickJoints_10 : decode cX5_pickJoints 10 = .ok (.iconst 0, 1) := by decide +kernel
theorem dX5_pickJoints_11 : decode cX5_pickJoints 11 = .ok (.istore_n 2, 1) := by decide +kernel
theorem dX5_pickJoints_12 : decode cX5_pickJoints 12 = .ok (.iload_n 2, 1) := by decide +kernel
theorem dX5_pickJoints_13 : decode cX5_pickJoints 13 = .ok (.aload_n 0, 1) := by decide +kernel
theorem dX5_pickJoints_14 : decode cX5_pickJoints 14 = .ok (.getfield 25, 3) := by decide +kernel
theorem dX5_pickJoints_17 : decode cX5_pickJoints 17 = .ok (.getfield 89, 3) := by decide +kernel
theorem dX5_pickJoints_20 : decode cX5_pickJoints 20 = .ok (.if_icmp .ge 70, 3) := by decide +kernel
theorem dX5_pickJoints_23 : decode cX5_pickJoints 23 = .ok (.aload_n 0, 1) := by decide +kernel
theorem dX5_pickJoints_24 : decode cX5_pickJoints 24 = .ok (.iload_n 2, 1) := by decide +kernel
theorem dX5_pickJoints_25 : decode cX5_pickJoints 25 = .ok (.invokevirtual 37, 3) := by decide +kernel
theorem dX5_pickJoints_28 : decode cX5_pickJoints 28 = .ok (.ifCond .eq 7, 3) := by decide +kernel
theorem dX5_pickJoints_31 : decode cX5_pickJoints 31 = .ok (.iload_n 1, 1) := by decide +kernel
theorem dX5_pickJoints_32 : decode cX5_pickJoints 32 = .ok (.goto 4, 3) := by decide +kernel
theorem dX5_pickJoints_35 : decode cX5_pickJoints 35 = .ok (.iconst 0, 1) := by decide +kernel
theorem dX5_pickJoints_36 : decode cX5_pickJoints 36 = .ok (.istore_n 3, 1) := by decide +kernel
theorem dX5_pickJoints_37 : decode cX5_pickJoints 37 = .ok (.iconst 0, 1) := by decide +kernel
theorem dX5_pickJoints_38 : decode cX5_pickJoints 38 = .ok (.istore 4, 2) := by decide +kernel
theorem dX5_pickJoints_40 : decode cX5_pickJoints 40 = .ok (.iload 4, 2) := by decide +kernel
theorem dX5_pickJoints_42 : decode cX5_pickJoints 42 = .ok (.iload_n 3, 1) := by decide +kernel
theorem dX5_pickJoints_43 : decode cX5_pickJoints 43 = .ok (.if_icmp .ge 41, 3) := by decide +kernel
theorem dX5_pickJoints_46 : decode cX5_pickJoints 46 = .ok (.sipush 10000, 3) := by decide +kernel
theorem dX5_pickJoints_49 : decode cX5_pickJoints 49 = .ok (.iload_n 2, 1) := by decide +kernel
theorem dX5_pickJoints_50 : decode cX5_pickJoints 50 = .ok (.iconst 1, 1) := by decide +kernel
theorem dX5_pickJoints_51 : decode cX5_pickJoints 51 = .ok (.iadd, 1) := by decide +kernel
theorem dX5_pickJoints_52 : decode cX5_pickJoints 52 = .ok (.imul, 1) := by decide +kernel
theorem dX5_pickJoints_53 : decode cX5_pickJoints 53 = .ok (.aload_n 0, 1) := by decide +kernel
theorem dX5_pickJoints_54 : decode cX5_pickJoints 54 = .ok (.getfield 9, 3) := by decide +kernel
theorem dX5_pickJoints_57 : decode cX5_pickJoints 57 = .ok (.iload 4, 2) := by decide +kernel
theorem dX5_pickJoints_59 : decode cX5_pickJoints 59 = .ok (.iaload, 1) := by decide +kernel
theorem dX5_pickJoints_60 : decode cX5_pickJoints 60 = .ok (.iadd, 1) := by decide +kernel
theorem dX5_pickJoints_61 : decode cX5_pickJoints 61 = .ok (.istore 5, 2) := by decide +kernel
theorem dX5_pickJoints_63 : decode cX5_pickJoints 63 = .ok (.aload_n 0, 1) := by decide +kernel
theorem dX5_pickJoints_64 : decode cX5_pickJoints 64 = .ok (.iload 5, 2) := by decide +kernel
theorem dX5_pickJoints_66 : decode cX5_pickJoints 66 = .ok (.invokevirtual 97, 3) := by decide +kernel
theorem dX5_pickJoints_69 : decode cX5_pickJoints 69 = .ok (.ifCond .eq 9, 3) := by decide +kernel
theorem dX5_pickJoints_72 : decode cX5_pickJoints 72 = .ok (.aload_n 0, 1) := by decide +kernel
theorem dX5_pickJoints_73 : decode cX5_pickJoints 73 = .ok (.iload 5, 2) := by decide +kernel
theorem dX5_pickJoints_75 : decode cX5_pickJoints 75 = .ok (.invokevirtual 100, 3) := by decide +kernel
theorem dX5_pickJoints_78 : decode cX5_pickJoints 78 = .ok (.iinc 4 1, 3) := by decide +kernel
theorem dX5_pickJoints_81 : decode cX5_pickJoints 81 = .ok (.goto (-41), 3) := by decide +kernel
theorem dX5_pickJoints_84 : decode cX5_pickJoints 84 = .ok (.iinc 2 1, 3) := by decide +kernel
theorem dX5_pickJoints_87 : decode cX5_pickJoints 87 = .ok (.goto (-75), 3) := by decide +kernel
theorem dX5_pickJoints_90 : decode cX5_pickJoints 90 = .ok (.aload_n 0, 1) := by decide +kernel
theorem dX5_pickJoints_91 : decode cX5_pickJoints 91 = .ok (.getfield 21, 3) := by decide +kernel
theorem dX5_pickJoints_94 : decode cX5_pickJoints 94 = .ok (.ireturn, 1) := by decide +kernel
set_option maxHeartbeats 4000000 in
set_option maxRecDepth 100000 in
theorem c_X5_pickJoints (l : Launch) (G : XG) (M : XM) (P : XP) (sc : Nat) (wy wm pk : Nat → Nat) (V : XV) (n aa ac : Nat) (ra : Nat → Nat) (o : Nat → Int32 → Int32 → Int64) (zf zs : Nat → Int32) (zd : Nat → Int64) (hV : xV M n aa ac ra o zf zs zd) : Met l yX5_pickJoints (wC yX5_pickJoints cX5_pickJoints 6 (some .int)) (rmD 5) (xPc G [.ref (xga G 3)] M P (sc, wy, wm, pk) V) (va_Qi (fun r u => r = nI (zjl (zwl n aa ra 1200) ra (fun w => decide (zst o zf zs zd ac w = 0)) n).length ∧ ∃ (P2 : XP) (wy2 pk2 : Nat → Nat), u = (M, P2, ((zjl (zwl n aa ra 1200) ra (fun w => decide (zst o zf zs zd ac w = 0)) n).length, wy2, wm, pk2), V) ∧ zpre pk2 (zjl (zwl n aa ra 1200) ra (fun w => decide (zst o zf zs zd ac w = 0)) n)) (xB G) (xA G)) 0 0 (xA G) := by
  refine xst "DoFinder$Search" (by decide) rfl (Nat.le_of_ble_eq_true rfl) ?_
  intro p e s m args below meth c ls F hr hlk hW hl
  have hl : lv_has ls 6 [(0, .ref (xga G 3))] := hl
  have hW : xW G s s.heap s.heap [] M P (sc, wy, wm, pk) V := hW
  obtain ⟨en, ea, ec, era, eo, ef, es, ed, bn, ba, bc, bf, brc, bra, bd⟩ := id hV
  refine lv_aload_n F.1 F.2.1 dX5_pickJoints_0 rfl (lv_at hl 0 rfl) ?_
  refine xca_i (b := (xga G 3)) (As := []) (rest := []) F (c_X5_listWays l G M P sc wy wm pk V n aa ac ra o zf zs zd hV) (xcw F.2.2.2.2 ca_X5_listWays tm_376 rfl rfl ⟨by decide, by decide⟩) (xr_X5 hW) hW rfl hl.1 rfl (Nat.le_of_ble_eq_true rfl) dX5_pickJoints_1 (fun r1 u1 H locs hp1 hW => ?_)
  obtain ⟨rfl, wy1, rfl, hl1⟩ := hp1
  have hW : xW G s s.heap H locs M P (sc, wy1, wm, pk) V := hW
  have lb := zwl_all_len (n := n) (aa := aa) (ra := ra) bn
  refine lv_istore_n (lv' := [(1, .int (nI ((zwl n aa ra 1200).length))), (0, .ref (xga G 3))]) F.1 F.2.1 dX5_pickJoints_4 rfl hl (by decide) rfl (fun ls hl => ?_)
  refine lv_aload_n F.1 F.2.1 dX5_pickJoints_5 rfl (lv_at hl 1 rfl) ?_
  refine lv_iconst (v := nI 0) F.1 F.2.1 dX5_pickJoints_6 (by decide) ?_
  refine xp_Search_pickedCount (k := 0) F hW tm_131 rfl dX5_pickJoints_7 (fun H locs hW => ?_)
  have hW : xW G s s.heap H locs M P (0, wy1, wm, pk) V := hW
  refine lv_iconst (v := nI 0) F.1 F.2.1 dX5_pickJoints_10 (by decide) ?_
  refine lv_istore_n (lv' := [(2, .int (nI 0)), (1, .int (nI ((zwl n aa ra 1200).length))), (0, .ref (xga G 3))]) F.1 F.2.1 dX5_pickJoints_11 rfl hl (by decide) rfl (fun ls hl => ?_)
  have lp12 : ∀ (k12 : Nat) (Pk : XP) (js : Nat) (sd : Nat) (pl : Nat → Nat), n - js = k12 → (js ≤ n) → (sd = (zjl (zwl n aa ra 1200) ra (fun w => decide (zst o zf zs zd ac w = 0)) js).length) → (zpre pl (zjl (zwl n aa ra 1200) ra (fun w => decide (zst o zf zs zd ac w = 0)) js)) → ∀ (H : Heap) (locs : List Loc) (ls : Array Slot), xW G s s.heap H locs M Pk (sd, wy1, wm, pl) V →  lv_has ls 6 [(0, .ref (xga G 3)), (1, .int (nI ((zwl n aa ra 1200).length))), (2, .int (nI js))] → W p l e (rmD 5) s m args below meth c H locs 0 0 (MQ below (va_Qi (fun r u => r = nI (zjl (zwl n aa ra 1200) ra (fun w => decide (zst o zf zs zd ac w = 0)) n).length ∧ ∃ (P2 : XP) (wy2 pk2 : Nat → Nat), u = (M, P2, ((zjl (zwl n aa ra 1200) ra (fun w => decide (zst o zf zs zd ac w = 0)) n).length, wy2, wm, pk2), V) ∧ zpre pk2 (zjl (zwl n aa ra 1200) ra (fun w => decide (zst o zf zs zd ac w = 0)) n)) (xB G) (xA G)) args s 0 0 (xA G)) (F0 m 12 ls []) := by
    intro k12
    induction k12 using Nat.strongRecOn with
    | ind k12 ih12 =>
      intro Pk js sd pl hk12 h1 h2 h3 H locs ls hW hl
      refine lv_iload_n F.1 F.2.1 dX5_pickJoints_12 rfl (lv_at hl 2 rfl) ?_
      refine lv_aload_n F.1 F.2.1 dX5_pickJoints_13 rfl (lv_at hl 0 rfl) ?_
      refine xg_Search_library F hW tm_126 dX5_pickJoints_14 ?_
      refine xg_Library_count F hW tm_73 dX5_pickJoints_17 ?_
      refine lv_icmp_ge (tgt := 90) F.1 F.2.1 dX5_pickJoints_20 (by decide) (fun c20 => ?_) (fun c20 => ?_)
      · have c20 := ci_le (a := ((M.1 : Nat) : Int)) (b := ((js : Nat) : Int)) (nI_toInt (by omega)) (nI_toInt (by omega)) c20
        refine lv_aload_n F.1 F.2.1 dX5_pickJoints_90 rfl (lv_at hl 0 rfl) ?_
        refine xg_Search_pickedCount F hW tm_131 dX5_pickJoints_91 ?_
        refine xre_i F hr hlk hW dX5_pickJoints_94 ?_
        have e : js = n := by omega
        subst e
        exact ⟨congrArg nI h2, _, _, _, by rw [← h2], h3⟩
      · have c20 := ci_nle (a := ((M.1 : Nat) : Int)) (b := ((js : Nat) : Int)) (nI_toInt (by omega)) (nI_toInt (by omega)) c20
        refine lv_aload_n F.1 F.2.1 dX5_pickJoints_23 rfl (lv_at hl 0 rfl) ?_
        refine lv_iload_n F.1 F.2.1 dX5_pickJoints_24 rfl (lv_at hl 2 rfl) ?_
        refine xca_i (b := (xga G 3)) (As := [.int (nI js)]) (rest := []) F (c_X5_isBehind l G M Pk (sd, wy1, wm, pl) V n aa ac ra o zf zs zd hV js (by omega)) (xcw F.2.2.2.2 ca_X5_isBehind tm_356 rfl rfl ⟨by decide, by decide⟩) (xr_X5 hW) hW rfl hl.1 rfl (Nat.le_of_ble_eq_true rfl) dX5_pickJoints_25 (fun r25 u25 H locs hp25 hW => ?_)
        obtain ⟨hp25, rfl⟩ := hp25
        have hW : xW G s s.heap H locs M Pk (sd, wy1, wm, pl) V := hW
        rcases hp25 with ⟨rfl, y25⟩ | ⟨rfl, y25⟩
        · skip
          skip
          refine lv_if_eq (tgt := 35) F.1 F.2.1 dX5_pickJoints_28 (by decide) (fun q => absurd q (by decide)) (fun _ => ?_)
          refine lv_iload_n F.1 F.2.1 dX5_pickJoints_31 rfl (lv_at hl 1 rfl) ?_
          refine lv_goto (tgt := 36) F.1 F.2.1 dX5_pickJoints_32 (by decide) ?_
          refine lv_istore_n (lv' := [(3, .int (nI ((zwl n aa ra 1200).length))), (0, .ref (xga G 3)), (1, .int (nI ((zwl n aa ra 1200).length))), (2, .int (nI js))]) F.1 F.2.1 dX5_pickJoints_36 rfl hl (by decide) rfl (fun ls hl => ?_)
          refine lv_iconst (v := nI 0) F.1 F.2.1 dX5_pickJoints_37 (by decide) ?_
          refine lv_istore (lv' := [(4, .int (nI 0)), (3, .int (nI ((zwl n aa ra 1200).length))), (0, .ref (xga G 3)), (1, .int (nI ((zwl n aa ra 1200).length))), (2, .int (nI js))]) F.1 F.2.1 dX5_pickJoints_38 hl (by decide) rfl (fun ls hl => ?_)
          have lp40 : ∀ (k40 : Nat) (Pj : XP) (i : Nat) (sd2 : Nat) (pl2 : Nat → Nat), (zwl n aa ra 1200).length - i = k40 → (i ≤ (zwl n aa ra 1200).length) → (ra js = 1 ∨ i = 0) → (sd2 = (zjp (zwl n aa ra 1200) ra (fun w => decide (zst o zf zs zd ac w = 0)) js i).length) → (zpre pl2 (zjp (zwl n aa ra 1200) ra (fun w => decide (zst o zf zs zd ac w = 0)) js i)) → ∀ (H : Heap) (locs : List Loc) (ls : Array Slot), xW G s s.heap H locs M Pj (sd2, wy1, wm, pl2) V →  lv_has ls 6 [(0, .ref (xga G 3)), (1, .int (nI ((zwl n aa ra 1200).length))), (2, .int (nI js)), (3, .int (nI ((zwl n aa ra 1200).length))), (4, .int (nI i))] → W p l e (rmD 5) s m args below meth c H locs 0 0 (MQ below (va_Qi (fun r u => r = nI (zjl (zwl n aa ra 1200) ra (fun w => decide (zst o zf zs zd ac w = 0)) n).length ∧ ∃ (P2 : XP) (wy2 pk2 : Nat → Nat), u = (M, P2, ((zjl (zwl n aa ra 1200) ra (fun w => decide (zst o zf zs zd ac w = 0)) n).length, wy2, wm, pk2), V) ∧ zpre pk2 (zjl (zwl n aa ra 1200) ra (fun w => decide (zst o zf zs zd ac w = 0)) n)) (xB G) (xA G)) args s 0 0 (xA G)) (F0 m 40 ls []) := by
            intro k40
            induction k40 using Nat.strongRecOn with
            | ind k40 ih40 =>
              intro Pj i sd2 pl2 hk40 h4 h8 h5 h6 H locs ls hW hl
              refine lv_iload F.1 F.2.1 dX5_pickJoints_40 (lv_at hl 4 rfl) ?_
              refine lv_iload_n F.1 F.2.1 dX5_pickJoints_42 rfl (lv_at hl 3 rfl) ?_
              refine lv_icmp_ge (tgt := 84) F.1 F.2.1 dX5_pickJoints_43 (by decide) (fun c43 => ?_) (fun c43 => ?_)
              · have c43 := ci_le (a := (((zwl n aa ra 1200).length : Nat) : Int)) (b := ((i : Nat) : Int)) (nI_toInt (by omega)) (nI_toInt (by omega)) c43
                refine lv_iinc (v := nI (js + 1)) (lv' := [(2, .int (nI (js + 1))), (0, .ref (xga G 3)), (1, .int (nI ((zwl n aa ra 1200).length))), (3, .int (nI ((zwl n aa ra 1200).length))), (4, .int (nI i))]) F.1 F.2.1 dX5_pickJoints_84 hl (k := 2) rfl (nI_add _ 1) (by decide) rfl (fun ls hl => ?_)
                refine lv_goto (tgt := 12) F.1 F.2.1 dX5_pickJoints_87 (by decide) ?_
                exact ih12 (n - (js + 1)) (by omega) Pj (js + 1) sd2 pl2 rfl (by omega) (by rw [zjl_t y25.2 (show i = (zwl n aa ra 1200).length by omega)]; exact h5) (by rw [zjl_t y25.2 (show i = (zwl n aa ra 1200).length by omega)]; exact h6) _ _ _ hW (lv_sub hl [1, 2, 0] rfl)
              · have c43 := ci_nle (a := (((zwl n aa ra 1200).length : Nat) : Int)) (b := ((i : Nat) : Int)) (nI_toInt (by omega)) (nI_toInt (by omega)) c43
                have e1 : wy1 i = (zwl n aa ra 1200).getD i 0 := hl1 i (by omega)
                have e2 := zwl_get (n := n) (aa := aa) (ra := ra) (show i < (zwl n aa ra 1200).length by omega)
                rw [← e1] at e2
                have hkk : zok n aa ra (10000 * (js + 1) + wy1 i) = true := zok_joint y25.1 y25.2 (by omega) e2.1
                have b7 := zjp_lt (p := (fun w => decide (zst o zf zs zd ac w = 0))) bn y25.1 y25.2 (show i < (zwl n aa ra 1200).length by omega)
                refine lv_sipush (v := nI 10000) F.1 F.2.1 dX5_pickJoints_46 (by decide) ?_
                refine lv_iload_n F.1 F.2.1 dX5_pickJoints_49 rfl (lv_at hl 2 rfl) ?_
                refine lv_iconst (v := nI 1) F.1 F.2.1 dX5_pickJoints_50 (by decide) ?_
                refine ax_add (z := nI (js + 1)) F (nI_add _ _) dX5_pickJoints_51 ?_
                refine ax_mul (z := nI (10000 * (js + 1))) F (pk_mul _ _) dX5_pickJoints_52 ?_
                refine lv_aload_n F.1 F.2.1 dX5_pickJoints_53 rfl (lv_at hl 0 rfl) ?_
                refine xg_Search_ways F hW tm_128 dX5_pickJoints_54 ?_
                refine lv_iload F.1 F.2.1 dX5_pickJoints_57 (lv_at hl 4 rfl) ?_
                refine xl_wy (i := i) F hW rfl (by omega) dX5_pickJoints_59 ?_
                refine ax_add (z := nI ((10000 * (js + 1)) + (wy1 i))) F (nI_add _ _) dX5_pickJoints_60 ?_
                refine lv_istore (lv' := [(5, .int (nI ((10000 * (js + 1)) + (wy1 i)))), (0, .ref (xga G 3)), (1, .int (nI ((zwl n aa ra 1200).length))), (2, .int (nI js)), (3, .int (nI ((zwl n aa ra 1200).length))), (4, .int (nI i))]) F.1 F.2.1 dX5_pickJoints_61 hl (by decide) rfl (fun ls hl => ?_)
                refine lv_aload_n F.1 F.2.1 dX5_pickJoints_63 rfl (lv_at hl 1 rfl) ?_
                refine lv_iload F.1 F.2.1 dX5_pickJoints_64 (lv_at hl 0 rfl) ?_
                refine xca_i (b := (xga G 3)) (As := [.int (nI ((10000 * (js + 1)) + (wy1 i)))]) (rest := []) F (c_X5_isFound l G M Pj (sd2, wy1, wm, pl2) V n aa ac ra o zf zs zd hV ((10000 * (js + 1)) + (wy1 i)) (by omega) hkk) (xcw F.2.2.2.2 ca_X5_isFound tm_390 rfl rfl ⟨by decide, by decide⟩) (xr_X5 hW) hW rfl hl.1 rfl (Nat.le_of_ble_eq_true rfl) dX5_pickJoints_66 (fun r66 u66 H locs hp66 hW => ?_)
                obtain ⟨hp66, P66, rfl⟩ := hp66
                have hW : xW G s s.heap H locs M P66 (sd2, wy1, wm, pl2) V := hW
                rcases hp66 with ⟨rfl, y66⟩ | ⟨rfl, y66⟩
                · skip
                  skip
                  refine lv_if_eq (tgt := 78) F.1 F.2.1 dX5_pickJoints_69 (by decide) (fun q => absurd q (by decide)) (fun _ => ?_)
                  refine lv_aload_n F.1 F.2.1 dX5_pickJoints_72 rfl (lv_at hl 1 rfl) ?_
                  refine lv_iload F.1 F.2.1 dX5_pickJoints_73 (lv_at hl 0 rfl) ?_
                  refine xca_v (b := (xga G 3)) (As := [.int (nI ((10000 * (js + 1)) + (wy1 i)))]) (rest := []) F (c_X5_pick l G M P66 sd2 wy1 wm pl2 V (by omega) ((10000 * (js + 1)) + (wy1 i))) (xcw F.2.2.2.2 ca_X5_pick tm_394 rfl rfl ⟨by decide, by decide⟩) (xr_X5 hW) hW rfl hl.1 rfl (Nat.le_of_ble_eq_true rfl) dX5_pickJoints_75 (fun u75 H locs hp75 hW => ?_)
                  obtain rfl := hp75
                  have hW : xW G s s.heap H locs M P66 (sd2 + 1, wy1, wm, upN pl2 sd2 ((10000 * (js + 1)) + (wy1 i))) V := hW
                  refine lv_iinc (v := nI (i + 1)) (lv' := [(4, .int (nI (i + 1))), (5, .int (nI ((10000 * (js + 1)) + (wy1 i)))), (0, .ref (xga G 3)), (1, .int (nI ((zwl n aa ra 1200).length))), (2, .int (nI js)), (3, .int (nI ((zwl n aa ra 1200).length)))]) F.1 F.2.1 dX5_pickJoints_78 hl (k := 5) rfl (nI_add _ 1) (by decide) rfl (fun ls hl => ?_)
                  refine lv_goto (tgt := 40) F.1 F.2.1 dX5_pickJoints_81 (by decide) ?_
                  exact ih40 ((zwl n aa ra 1200).length - (i + 1)) (by omega) P66 (i + 1) (sd2 + 1) (upN pl2 sd2 ((10000 * (js + 1)) + (wy1 i))) rfl (by omega) (Or.inl y25.2) (by rw [zjp_t (by omega) (by rw [← e1]; exact decide_eq_true (by omega)), List.length_append, ← h5]; rfl) (by rw [zjp_t (by omega) (by rw [← e1]; exact decide_eq_true (by omega)), h5, ← e1]; exact zpre_push _ h6) _ _ _ hW (lv_sub hl [2, 3, 4, 5, 0] rfl)
                · skip
                  skip
                  refine lv_if_eq (tgt := 78) F.1 F.2.1 dX5_pickJoints_69 (by decide) (fun _ => ?_) (fun q => absurd q (by decide))
                  refine lv_iinc (v := nI (i + 1)) (lv' := [(4, .int (nI (i + 1))), (5, .int (nI ((10000 * (js + 1)) + (wy1 i)))), (0, .ref (xga G 3)), (1, .int (nI ((zwl n aa ra 1200).length))), (2, .int (nI js)), (3, .int (nI ((zwl n aa ra 1200).length)))]) F.1 F.2.1 dX5_pickJoints_78 hl (k := 5) rfl (nI_add _ 1) (by decide) rfl (fun ls hl => ?_)
                  refine lv_goto (tgt := 40) F.1 F.2.1 dX5_pickJoints_81 (by decide) ?_
                  exact ih40 ((zwl n aa ra 1200).length - (i + 1)) (by omega) P66 (i + 1) sd2 pl2 rfl (by omega) (Or.inl y25.2) (by rw [zjp_f (by omega) (by rw [← e1]; simp only [decide_eq_true_eq]; omega)]; exact h5) (by rw [zjp_f (by omega) (by rw [← e1]; simp only [decide_eq_true_eq]; omega)]; exact h6) _ _ _ hW (lv_sub hl [2, 3, 4, 5, 0] rfl)
          exact lp40 ((zwl n aa ra 1200).length - 0) Pk 0 sd pl rfl (Nat.zero_le _) (Or.inl y25.2) (by rw [zjp_0]; exact h2) (by rw [zjp_0]; exact h3) _ _ _ hW (lv_sub hl [2, 3, 4, 1, 0] rfl)
        · skip
          skip
          refine lv_if_eq (tgt := 35) F.1 F.2.1 dX5_pickJoints_28 (by decide) (fun _ => ?_) (fun q => absurd q (by decide))
          refine lv_iconst (v := nI 0) F.1 F.2.1 dX5_pickJoints_35 (by decide) ?_
          refine lv_istore_n (lv' := [(3, .int (nI 0)), (0, .ref (xga G 3)), (1, .int (nI ((zwl n aa ra 1200).length))), (2, .int (nI js))]) F.1 F.2.1 dX5_pickJoints_36 rfl hl (by decide) rfl (fun ls hl => ?_)
          refine lv_iconst (v := nI 0) F.1 F.2.1 dX5_pickJoints_37 (by decide) ?_
          refine lv_istore (lv' := [(4, .int (nI 0)), (3, .int (nI 0)), (0, .ref (xga G 3)), (1, .int (nI ((zwl n aa ra 1200).length))), (2, .int (nI js))]) F.1 F.2.1 dX5_pickJoints_38 hl (by decide) rfl (fun ls hl => ?_)
          have lp40 : ∀ (k40 : Nat) (Pj : XP) (i : Nat) (sd2 : Nat) (pl2 : Nat → Nat), (zwl n aa ra 1200).length - i = k40 → (i ≤ (zwl n aa ra 1200).length) → (ra js = 1 ∨ i = 0) → (sd2 = (zjp (zwl n aa ra 1200) ra (fun w => decide (zst o zf zs zd ac w = 0)) js i).length) → (zpre pl2 (zjp (zwl n aa ra 1200) ra (fun w => decide (zst o zf zs zd ac w = 0)) js i)) → ∀ (H : Heap) (locs : List Loc) (ls : Array Slot), xW G s s.heap H locs M Pj (sd2, wy1, wm, pl2) V →  lv_has ls 6 [(0, .ref (xga G 3)), (1, .int (nI ((zwl n aa ra 1200).length))), (2, .int (nI js)), (3, .int (nI 0)), (4, .int (nI i))] → W p l e (rmD 5) s m args below meth c H locs 0 0 (MQ below (va_Qi (fun r u => r = nI (zjl (zwl n aa ra 1200) ra (fun w => decide (zst o zf zs zd ac w = 0)) n).length ∧ ∃ (P2 : XP) (wy2 pk2 : Nat → Nat), u = (M, P2, ((zjl (zwl n aa ra 1200) ra (fun w => decide (zst o zf zs zd ac w = 0)) n).length, wy2, wm, pk2), V) ∧ zpre pk2 (zjl (zwl n aa ra 1200) ra (fun w => decide (zst o zf zs zd ac w = 0)) n)) (xB G) (xA G)) args s 0 0 (xA G)) (F0 m 40 ls []) := by
            intro k40
            induction k40 using Nat.strongRecOn with
            | ind k40 ih40 =>
              intro Pj i sd2 pl2 hk40 h4 h8 h5 h6 H locs ls hW hl
              refine lv_iload F.1 F.2.1 dX5_pickJoints_40 (lv_at hl 4 rfl) ?_
              refine lv_iload_n F.1 F.2.1 dX5_pickJoints_42 rfl (lv_at hl 3 rfl) ?_
              refine lv_icmp_ge (tgt := 84) F.1 F.2.1 dX5_pickJoints_43 (by decide) (fun c43 => ?_) (fun c43 => ?_)
              rotate_left
              · exfalso
                have c43 := ci_nle (a := 0) (b := ((i : Nat) : Int)) (by decide) (nI_toInt (by omega)) c43
                omega
              have c43 := ci_le (a := 0) (b := ((i : Nat) : Int)) (by decide) (nI_toInt (by omega)) c43
              refine lv_iinc (v := nI (js + 1)) (lv' := [(2, .int (nI (js + 1))), (0, .ref (xga G 3)), (1, .int (nI ((zwl n aa ra 1200).length))), (3, .int (nI 0)), (4, .int (nI i))]) F.1 F.2.1 dX5_pickJoints_84 hl (k := 2) rfl (nI_add _ 1) (by decide) rfl (fun ls hl => ?_)
              refine lv_goto (tgt := 12) F.1 F.2.1 dX5_pickJoints_87 (by decide) ?_
              exact ih12 (n - (js + 1)) (by omega) Pj (js + 1) sd2 pl2 rfl (by omega) (by rw [zjl_f (by omega) (by omega : i = 0)]; exact h5) (by rw [zjl_f (by omega) (by omega : i = 0)]; exact h6) _ _ _ hW (lv_sub hl [1, 2, 0] rfl)
          exact lp40 ((zwl n aa ra 1200).length - 0) Pk 0 sd pl rfl (Nat.zero_le _) (Or.inr rfl) (by rw [zjp_0]; exact h2) (by rw [zjp_0]; exact h3) _ _ _ hW (lv_sub hl [2, 3, 4, 1, 0] rfl)
  exact lp12 (n - 0) P 0 0 pk rfl (Nat.zero_le _) (rfl) (zpre_nil) _ _ _ hW (lv_sub hl [2, 1, 0] rfl)
theorem dX5_pickNear_0 : decode cX5_pickNear 0 = .ok (.aload_n 0, 1) := by decide +kernel
theorem dX5_pickNear_1 : decode cX5_pickNear 1 = .ok (.invokevirtual 90, 3) := by decide +kernel
theorem dX5_pickNear_4 : decode cX5_pickNear 4 = .ok (.istore_n 1, 1) := by decide +kernel
theorem dX5_pickNear_5 : decode cX5_pickNear 5 = .ok (.aload_n 0, 1) := by decide +kernel
theorem dX5_pickNear_6 : decode cX5_pickNear 6 = .ok (.iconst 0, 1) := by decide +kernel
theorem dX5_pickNear_7 : decode cX5_pickNear 7 = .ok (.putfield 21, 3) := by decide +kernel
theorem dX5_pickNear_10 : decode cX5_pickNear 10 = .ok (.iconst 0, 1) := by decide +kernel
theorem dX5_pickNear_11 : decode cX5_pickNear 11 = .ok (.istore_n 2, 1) := by decide +kernel
theorem dX5_pickNear_12 : decode cX5_pickNear 12 = .ok (.iload_n 2, 1) := by decide +kernel
theorem dX5_pickNear_13 : decode cX5_pickNear 13 = .ok (.iload_n 1, 1) := by decide +kernel
theorem dX5_pickNear_14 : decode cX5_pickNear 14 = .ok (.if_icmp .ge 25, 3) := by decide +kernel
theorem dX5_pickNear_17 : decode cX5_pickNear 17 = .ok (.aload_n 0, 1) := by decide +kernel
theorem dX5_pickNear_18 : decode cX5_pickNear 18 = .ok (.getfield 15, 3) := by decide +kernel
theorem dX5_pickNear_21 : decode cX5_pickNear 21 = .ok (.iload_n 2, 1) := by decide +kernel
theorem dX5_pickNear_22 : decode cX5_pickNear 22 = .ok (.aload_n 0, 1) := by decide +kernel
theorem dX5_pickNear_23 : decode cX5_pickNear 23 = .ok (.aload_n 0, 1) := by decide +kernel
theorem dX5_pickNear_24 : decode cX5_pickNear 24 = .ok (.getfield 9, 3) := by decide +kernel
theorem dX5_pickNear_27 : decode cX5_pickNear 27 = .ok (.iload_n 2, 1) := by decide +kernel
theorem dX5_pickNear_28 : decode cX5_pickNear 28 = .ok (.iaload, 1) := by decide +kernel
theorem dX5_pickNear_29 : decode cX5_pickNear 29 = .ok (.invokevirtual 104, 3) := by decide +kernel
theorem dX5_pickNear_32 : decode cX5_pickNear 32 = .ok (.iastore, 1) := by decide +kernel
theorem dX5_pickNear_33 : decode cX5_pickNear 33 = .ok (.iinc 2 1, 3) := by decide +kernel
theorem dX5_pickNear_36 : decode cX5_pickNear 36 = .ok (.goto (-24), 3) := by decide +kernel
theorem dX5_pickNear_39 : decode cX5_pickNear 39 = .ok (.iconst 1, 1) := by decide +kernel
theorem dX5_pickNear_40 : decode cX5_pickNear 40 = .ok (.istore_n 2, 1) := by decide +kernel
theorem dX5_pickNear_41 : decode cX5_pickNear 41 = .ok (.iload_n 2, 1) := by decide +kernel
theorem dX5_pickNear_42 : decode cX5_pickNear 42 = .ok (.aload_n 0, 1) := by decide +kernel
theorem dX5_pickNear_43 : decode cX5_pickNear 43 = .ok (.getfield 29, 3) := by decide +kernel
theorem dX5_pickNear_46 : decode cX5_pickNear 46 = .ok (.getfield 82, 3) := by decide +kernel
theorem dX5_pickNear_49 : decode cX5_pickNear 49 = .ok (.if_icmp .gt 42, 3) := by decide +kernel
theorem dX5_pickNear_52 : decode cX5_pickNear 52 = .ok (.iconst 0, 1) := by decide +kernel
theorem dX5_pickNear_53 : decode cX5_pickNear 53 = .ok (.istore_n 3, 1) := by decide +kernel
theorem dX5_pickNear_54 : decode cX5_pickNear 54 = .ok (.iload_n 3, 1) := by decide +kernel
theorem dX5_pickNear_55 : decode cX5_pickNear 55 = .ok (.iload_n 1, 1) := by decide +kernel
theorem dX5_pickNear_56 : decode cX5_pickNear 56 = .ok (.if_icmp .ge 29, 3) := by decide +kernel
theorem dX5_pickNear_59 : decode cX5_pickNear 59 = .ok (.aload_n 0, 1) := by decide +kernel
theorem dX5_pickNear_60 : decode cX5_pickNear 60 = .ok (.getfield 15, 3) := by decide +kernel
theorem dX5_pickNear_63 : decode cX5_pickNear 63 = .ok (.iload_n 3, 1) := by decide +kernel
theorem dX5_pickNear_64 : decode cX5_pickNear 64 = .ok (.iaload, 1) := by decide +kernel
theorem dX5_pickNear_65 : decode cX5_pickNear 65 = .ok (.iload_n 2, 1) := by decide +kernel
theorem dX5_pickNear_66 : decode cX5_pickNear 66 = .ok (.if_icmp .ne 13, 3) := by decide +kernel
theorem dX5_pickNear_69 : decode cX5_pickNear 69 = .ok (.aload_n 0, 1) := by decide +kernel
theorem dX5_pickNear_70 : decode cX5_pickNear 70 = .ok (.aload_n 0, 1) := by decide +kernel
theorem dX5_pickNear_71 : decode cX5_pickNear 71 = .ok (.getfield 9, 3) := by decide +kernel
theorem dX5_pickNear_74 : decode cX5_pickNear 74 = .ok (.iload_n 3, 1) := by decide +kernel
theorem dX5_pickNear_75 : decode cX5_pickNear 75 = .ok (.iaload, 1) := by decide +kernel
theorem dX5_pickNear_76 : decode cX5_pickNear 76 = .ok (.invokevirtual 100, 3) := by decide +kernel
theorem dX5_pickNear_79 : decode cX5_pickNear 79 = .ok (.iinc 3 1, 3) := by decide +kernel
theorem dX5_pickNear_82 : decode cX5_pickNear 82 = .ok (.goto (-28), 3) := by decide +kernel
theorem dX5_pickNear_85 : decode cX5_pickNear 85 = .ok (.iinc 2 1, 3) := by decide +kernel
theorem dX5_pickNear_88 : decode cX5_pickNear 88 = .ok (.goto (-47), 3) := by decide +kernel
theorem dX5_pickNear_91 : decode cX5_pickNear 91 = .ok (.aload_n 0, 1) := by decide +kernel
theorem dX5_pickNear_92 : decode cX5_pickNear 92 = .ok (.getfield 21, 3) := by decide +kernel
theorem dX5_pickNear_95 : decode cX5_pickNear 95 = .ok (.ireturn, 1) := by decide +kernel
set_option maxHeartbeats 4000000 in
set_option maxRecDepth 100000 in
theorem c_X5_pickNear (l : Launch) (G : XG) (M : XM) (P : XP) (sc : Nat) (wy wm pk : Nat → Nat) (V : XV) (n aa ac : Nat) (ra : Nat → Nat) (o : Nat → Int32 → Int32 → Int64) (zf zs : Nat → Int32) (zd : Nat → Int64) (hV : xV M n aa ac ra o zf zs zd) : Met l yX5_pickNear (wC yX5_pickNear cX5_pickNear 4 (some .int)) (rmD 5) (xPc G [.ref (xga G 3)] M P (sc, wy, wm, pk) V) (va_Qi (fun r u => r = nI (znl (zwl n aa ra 1200) (zmi o zf zs zd ac) ac).length ∧ ∃ (P2 : XP) (wy2 wm2 pk2 : Nat → Nat), u = (M, P2, ((znl (zwl n aa ra 1200) (zmi o zf zs zd ac) ac).length, wy2, wm2, pk2), V) ∧ zpre pk2 (znl (zwl n aa ra 1200) (zmi o zf zs zd ac) ac)) (xB G) (xA G)) 0 0 (xA G) := by
  refine xst "DoFinder$Search" (by decide) rfl (Nat.le_of_ble_eq_true rfl) ?_
  intro p e s m args below meth c ls F hr hlk hW hl
  have hl : lv_has ls 4 [(0, .ref (xga G 3))] := hl
  have hW : xW G s s.heap s.heap [] M P (sc, wy, wm, pk) V := hW
  obtain ⟨en, ea, ec, era, eo, ef, es, ed, bn, ba, bc, bf, brc, bra, bd⟩ := id hV
  refine lv_aload_n F.1 F.2.1 dX5_pickNear_0 rfl (lv_at hl 0 rfl) ?_
  refine xca_i (b := (xga G 3)) (As := []) (rest := []) F (c_X5_listWays l G M P sc wy wm pk V n aa ac ra o zf zs zd hV) (xcw F.2.2.2.2 ca_X5_listWays tm_376 rfl rfl ⟨by decide, by decide⟩) (xr_X5 hW) hW rfl hl.1 rfl (Nat.le_of_ble_eq_true rfl) dX5_pickNear_1 (fun r1 u1 H locs hp1 hW => ?_)
  obtain ⟨rfl, wy1, rfl, hl1⟩ := hp1
  have hW : xW G s s.heap H locs M P (sc, wy1, wm, pk) V := hW
  have lb := zwl_all_len (n := n) (aa := aa) (ra := ra) bn
  refine lv_istore_n (lv' := [(1, .int (nI ((zwl n aa ra 1200).length))), (0, .ref (xga G 3))]) F.1 F.2.1 dX5_pickNear_4 rfl hl (by decide) rfl (fun ls hl => ?_)
  refine lv_aload_n F.1 F.2.1 dX5_pickNear_5 rfl (lv_at hl 1 rfl) ?_
  refine lv_iconst (v := nI 0) F.1 F.2.1 dX5_pickNear_6 (by decide) ?_
  refine xp_Search_pickedCount (k := 0) F hW tm_131 rfl dX5_pickNear_7 (fun H locs hW => ?_)
  have hW : xW G s s.heap H locs M P (0, wy1, wm, pk) V := hW
  refine lv_iconst (v := nI 0) F.1 F.2.1 dX5_pickNear_10 (by decide) ?_
  refine lv_istore_n (lv' := [(2, .int (nI 0)), (1, .int (nI ((zwl n aa ra 1200).length))), (0, .ref (xga G 3))]) F.1 F.2.1 dX5_pickNear_11 rfl hl (by decide) rfl (fun ls hl => ?_)
  have lp12 : ∀ (k12 : Nat) (Pk : XP) (i0 : Nat) (wn : Nat → Nat), (zwl n aa ra 1200).length - i0 = k12 → (i0 ≤ (zwl n aa ra 1200).length) → (∀ j, j < i0 → wn j = zmi o zf zs zd ac (wy1 j)) → ∀ (H : Heap) (locs : List Loc) (ls : Array Slot), xW G s s.heap H locs M Pk (0, wy1, wn, pk) V →  lv_has ls 4 [(0, .ref (xga G 3)), (1, .int (nI ((zwl n aa ra 1200).length))), (2, .int (nI i0))] → W p l e (rmD 5) s m args below meth c H locs 0 0 (MQ below (va_Qi (fun r u => r = nI (znl (zwl n aa ra 1200) (zmi o zf zs zd ac) ac).length ∧ ∃ (P2 : XP) (wy2 wm2 pk2 : Nat → Nat), u = (M, P2, ((znl (zwl n aa ra 1200) (zmi o zf zs zd ac) ac).length, wy2, wm2, pk2), V) ∧ zpre pk2 (znl (zwl n aa ra 1200) (zmi o zf zs zd ac) ac)) (xB G) (xA G)) args s 0 0 (xA G)) (F0 m 12 ls []) := by
    intro k12
    induction k12 using Nat.strongRecOn with
    | ind k12 ih12 =>
      intro Pk i0 wn hk12 g1 g2 H locs ls hW hl
      refine lv_iload_n F.1 F.2.1 dX5_pickNear_12 rfl (lv_at hl 2 rfl) ?_
      refine lv_iload_n F.1 F.2.1 dX5_pickNear_13 rfl (lv_at hl 1 rfl) ?_
      refine lv_icmp_ge (tgt := 39) F.1 F.2.1 dX5_pickNear_14 (by decide) (fun c14 => ?_) (fun c14 => ?_)
      · have c14 := ci_le (a := (((zwl n aa ra 1200).length : Nat) : Int)) (b := ((i0 : Nat) : Int)) (nI_toInt (by omega)) (nI_toInt (by omega)) c14
        refine lv_iconst (v := nI 1) F.1 F.2.1 dX5_pickNear_39 (by decide) ?_
        refine lv_istore_n (lv' := [(2, .int (nI 1)), (0, .ref (xga G 3)), (1, .int (nI ((zwl n aa ra 1200).length)))]) F.1 F.2.1 dX5_pickNear_40 rfl hl (by decide) rfl (fun ls hl => ?_)
        have lp41 : ∀ (k41 : Nat) (t : Nat) (sd : Nat) (pl : Nat → Nat), ac + 1 - t = k41 → (1 ≤ t) → (t ≤ ac + 1) → (sd = (znl (zwl n aa ra 1200) (zmi o zf zs zd ac) (t - 1)).length) → (zpre pl (znl (zwl n aa ra 1200) (zmi o zf zs zd ac) (t - 1))) → ∀ (H : Heap) (locs : List Loc) (ls : Array Slot), xW G s s.heap H locs M Pk (sd, wy1, wn, pl) V →  lv_has ls 4 [(0, .ref (xga G 3)), (1, .int (nI ((zwl n aa ra 1200).length))), (2, .int (nI t))] → W p l e (rmD 5) s m args below meth c H locs 0 0 (MQ below (va_Qi (fun r u => r = nI (znl (zwl n aa ra 1200) (zmi o zf zs zd ac) ac).length ∧ ∃ (P2 : XP) (wy2 wm2 pk2 : Nat → Nat), u = (M, P2, ((znl (zwl n aa ra 1200) (zmi o zf zs zd ac) ac).length, wy2, wm2, pk2), V) ∧ zpre pk2 (znl (zwl n aa ra 1200) (zmi o zf zs zd ac) ac)) (xB G) (xA G)) args s 0 0 (xA G)) (F0 m 41 ls []) := by
          intro k41
          induction k41 using Nat.strongRecOn with
          | ind k41 ih41 =>
            intro t sd pl hk41 h1 h0 h2 h3 H locs ls hW hl
            refine lv_iload_n F.1 F.2.1 dX5_pickNear_41 rfl (lv_at hl 2 rfl) ?_
            refine lv_aload_n F.1 F.2.1 dX5_pickNear_42 rfl (lv_at hl 0 rfl) ?_
            refine xg_Search_asked F hW tm_127 dX5_pickNear_43 ?_
            refine xg_Ask_count F hW tm_103 dX5_pickNear_46 ?_
            refine lv_icmp_gt (tgt := 91) F.1 F.2.1 dX5_pickNear_49 (by decide) (fun c49 => ?_) (fun c49 => ?_)
            · have c49 := ci_lt (a := ((M.2.2.2.2.2.1 : Nat) : Int)) (b := ((t : Nat) : Int)) (nI_toInt (by omega)) (nI_toInt (by omega)) c49
              refine lv_aload_n F.1 F.2.1 dX5_pickNear_91 rfl (lv_at hl 0 rfl) ?_
              refine xg_Search_pickedCount F hW tm_131 dX5_pickNear_92 ?_
              refine xre_i F hr hlk hW dX5_pickNear_95 ?_
              rw [show t - 1 = ac by omega] at h2 h3
              exact ⟨congrArg nI h2, _, _, _, _, by rw [← h2], h3⟩
            · have c49 := ci_nlt (a := ((M.2.2.2.2.2.1 : Nat) : Int)) (b := ((t : Nat) : Int)) (nI_toInt (by omega)) (nI_toInt (by omega)) c49
              refine lv_iconst (v := nI 0) F.1 F.2.1 dX5_pickNear_52 (by decide) ?_
              refine lv_istore_n (lv' := [(3, .int (nI 0)), (0, .ref (xga G 3)), (1, .int (nI ((zwl n aa ra 1200).length))), (2, .int (nI t))]) F.1 F.2.1 dX5_pickNear_53 rfl hl (by decide) rfl (fun ls hl => ?_)
              have lp54 : ∀ (k54 : Nat) (i : Nat) (sd2 : Nat) (pl2 : Nat → Nat), (zwl n aa ra 1200).length - i = k54 → (i ≤ (zwl n aa ra 1200).length) → (sd2 = (znp (zwl n aa ra 1200) (zmi o zf zs zd ac) t i).length) → (zpre pl2 (znp (zwl n aa ra 1200) (zmi o zf zs zd ac) t i)) → ∀ (H : Heap) (locs : List Loc) (ls : Array Slot), xW G s s.heap H locs M Pk (sd2, wy1, wn, pl2) V →  lv_has ls 4 [(0, .ref (xga G 3)), (1, .int (nI ((zwl n aa ra 1200).length))), (2, .int (nI t)), (3, .int (nI i))] → W p l e (rmD 5) s m args below meth c H locs 0 0 (MQ below (va_Qi (fun r u => r = nI (znl (zwl n aa ra 1200) (zmi o zf zs zd ac) ac).length ∧ ∃ (P2 : XP) (wy2 wm2 pk2 : Nat → Nat), u = (M, P2, ((znl (zwl n aa ra 1200) (zmi o zf zs zd ac) ac).length, wy2, wm2, pk2), V) ∧ zpre pk2 (znl (zwl n aa ra 1200) (zmi o zf zs zd ac) ac)) (xB G) (xA G)) args s 0 0 (xA G)) (F0 m 54 ls []) := by
                intro k54
                induction k54 using Nat.strongRecOn with
                | ind k54 ih54 =>
                  intro i sd2 pl2 hk54 h4 h5 h6 H locs ls hW hl
                  refine lv_iload_n F.1 F.2.1 dX5_pickNear_54 rfl (lv_at hl 3 rfl) ?_
                  refine lv_iload_n F.1 F.2.1 dX5_pickNear_55 rfl (lv_at hl 1 rfl) ?_
                  refine lv_icmp_ge (tgt := 85) F.1 F.2.1 dX5_pickNear_56 (by decide) (fun c56 => ?_) (fun c56 => ?_)
                  · have c56 := ci_le (a := (((zwl n aa ra 1200).length : Nat) : Int)) (b := ((i : Nat) : Int)) (nI_toInt (by omega)) (nI_toInt (by omega)) c56
                    refine lv_iinc (v := nI (t + 1)) (lv' := [(2, .int (nI (t + 1))), (0, .ref (xga G 3)), (1, .int (nI ((zwl n aa ra 1200).length))), (3, .int (nI i))]) F.1 F.2.1 dX5_pickNear_85 hl (k := 2) rfl (nI_add _ 1) (by decide) rfl (fun ls hl => ?_)
                    refine lv_goto (tgt := 41) F.1 F.2.1 dX5_pickNear_88 (by decide) ?_
                    exact ih41 (ac + 1 - (t + 1)) (by omega) (t + 1) sd2 pl2 rfl (by omega) (by omega) (by rw [znp_end (by omega) (show i = (zwl n aa ra 1200).length by omega)]; exact h5) (by rw [znp_end (by omega) (show i = (zwl n aa ra 1200).length by omega)]; exact h6) _ _ _ hW (lv_sub hl [1, 2, 0] rfl)
                  · have c56 := ci_nle (a := (((zwl n aa ra 1200).length : Nat) : Int)) (b := ((i : Nat) : Int)) (nI_toInt (by omega)) (nI_toInt (by omega)) c56
                    have e1 : wy1 i = (zwl n aa ra 1200).getD i 0 := hl1 i (by omega)
                    have e3 := g2 i (by omega)
                    have b8 : zmi o zf zs zd ac (wy1 i) ≤ ac := zcnt_le _ _
                    have b9 := znp_len (zwl n aa ra 1200) (zmi o zf zs zd ac) t i h1
                    refine lv_aload_n F.1 F.2.1 dX5_pickNear_59 rfl (lv_at hl 0 rfl) ?_
                    refine xg_Search_wayMisses F hW tm_129 dX5_pickNear_60 ?_
                    refine lv_iload_n F.1 F.2.1 dX5_pickNear_63 rfl (lv_at hl 3 rfl) ?_
                    refine xl_wm (i := i) F hW rfl (by omega) dX5_pickNear_64 ?_
                    refine lv_iload_n F.1 F.2.1 dX5_pickNear_65 rfl (lv_at hl 2 rfl) ?_
                    refine lv_icmp_ne (tgt := 79) F.1 F.2.1 dX5_pickNear_66 (by decide) (fun c66 => ?_) (fun c66 => ?_)
                    · have c66 := ci_ne (a := ((wn i : Nat) : Int)) (b := ((t : Nat) : Int)) (nI_toInt (by omega)) (nI_toInt (by omega)) c66
                      skip
                      refine lv_iinc (v := nI (i + 1)) (lv' := [(3, .int (nI (i + 1))), (0, .ref (xga G 3)), (1, .int (nI ((zwl n aa ra 1200).length))), (2, .int (nI t))]) F.1 F.2.1 dX5_pickNear_79 hl (k := 3) rfl (nI_add _ 1) (by decide) rfl (fun ls hl => ?_)
                      refine lv_goto (tgt := 54) F.1 F.2.1 dX5_pickNear_82 (by decide) ?_
                      exact ih54 ((zwl n aa ra 1200).length - (i + 1)) (by omega) (i + 1) sd2 pl2 rfl (by omega) (by rw [znp_f (by omega) (by rw [← e1]; omega)]; exact h5) (by rw [znp_f (by omega) (by rw [← e1]; omega)]; exact h6) _ _ _ hW (lv_sub hl [1, 2, 3, 0] rfl)
                    · have c66 := ci_eq (a := ((wn i : Nat) : Int)) (b := ((t : Nat) : Int)) (nI_toInt (by omega)) (nI_toInt (by omega)) c66
                      skip
                      refine lv_aload_n F.1 F.2.1 dX5_pickNear_69 rfl (lv_at hl 0 rfl) ?_
                      refine lv_aload_n F.1 F.2.1 dX5_pickNear_70 rfl (lv_at hl 0 rfl) ?_
                      refine xg_Search_ways F hW tm_128 dX5_pickNear_71 ?_
                      refine lv_iload_n F.1 F.2.1 dX5_pickNear_74 rfl (lv_at hl 3 rfl) ?_
                      refine xl_wy (i := i) F hW rfl (by omega) dX5_pickNear_75 ?_
                      refine xca_v (b := (xga G 3)) (As := [.int (nI (wy1 i))]) (rest := []) F (c_X5_pick l G M Pk sd2 wy1 wn pl2 V (by omega) (wy1 i)) (xcw F.2.2.2.2 ca_X5_pick tm_394 rfl rfl ⟨by decide, by decide⟩) (xr_X5 hW) hW rfl hl.1 rfl (Nat.le_of_ble_eq_true rfl) dX5_pickNear_76 (fun u76 H locs hp76 hW => ?_)
                      obtain rfl := hp76
                      have hW : xW G s s.heap H locs M Pk (sd2 + 1, wy1, wn, upN pl2 sd2 (wy1 i)) V := hW
                      refine lv_iinc (v := nI (i + 1)) (lv' := [(3, .int (nI (i + 1))), (0, .ref (xga G 3)), (1, .int (nI ((zwl n aa ra 1200).length))), (2, .int (nI t))]) F.1 F.2.1 dX5_pickNear_79 hl (k := 3) rfl (nI_add _ 1) (by decide) rfl (fun ls hl => ?_)
                      refine lv_goto (tgt := 54) F.1 F.2.1 dX5_pickNear_82 (by decide) ?_
                      exact ih54 ((zwl n aa ra 1200).length - (i + 1)) (by omega) (i + 1) (sd2 + 1) (upN pl2 sd2 (wy1 i)) rfl (by omega) (by rw [znp_t (by omega) (by rw [← e1]; omega), List.length_append, ← h5]; rfl) (by rw [znp_t (by omega) (by rw [← e1]; omega), h5, ← e1]; exact zpre_push _ h6) _ _ _ hW (lv_sub hl [1, 2, 3, 0] rfl)
              exact lp54 ((zwl n aa ra 1200).length - 0) 0 sd pl rfl (Nat.zero_le _) (by rw [znp_0]; exact h2) (by rw [znp_0]; exact h3) _ _ _ hW (lv_sub hl [1, 2, 3, 0] rfl)
        exact lp41 (ac + 1 - 1) 1 0 pk rfl (Nat.le_refl _) (by omega) (rfl) (zpre_nil) _ _ _ hW (lv_sub hl [1, 2, 0] rfl)
      · have c14 := ci_nle (a := (((zwl n aa ra 1200).length : Nat) : Int)) (b := ((i0 : Nat) : Int)) (nI_toInt (by omega)) (nI_toInt (by omega)) c14
        have e1 : wy1 i0 = (zwl n aa ra 1200).getD i0 0 := hl1 i0 (by omega)
        have e2 := zwl_get (n := n) (aa := aa) (ra := ra) (show i0 < (zwl n aa ra 1200).length by omega)
        rw [← e1] at e2
        have hkk : zok n aa ra (wy1 i0) = true := zok_way e2.1 (by omega)
        refine lv_aload_n F.1 F.2.1 dX5_pickNear_17 rfl (lv_at hl 0 rfl) ?_
        refine xg_Search_wayMisses F hW tm_129 dX5_pickNear_18 ?_
        refine lv_iload_n F.1 F.2.1 dX5_pickNear_21 rfl (lv_at hl 2 rfl) ?_
        refine lv_aload_n F.1 F.2.1 dX5_pickNear_22 rfl (lv_at hl 0 rfl) ?_
        refine lv_aload_n F.1 F.2.1 dX5_pickNear_23 rfl (lv_at hl 0 rfl) ?_
        refine xg_Search_ways F hW tm_128 dX5_pickNear_24 ?_
        refine lv_iload_n F.1 F.2.1 dX5_pickNear_27 rfl (lv_at hl 2 rfl) ?_
        refine xl_wy (i := i0) F hW rfl (by omega) dX5_pickNear_28 ?_
        refine xca_i (b := (xga G 3)) (As := [.int (nI (wy1 i0))]) (rest := [.int (nI i0), .ref (xga G 12)]) F (c_X5_countMisses l G M Pk (0, wy1, wn, pk) V n aa ac ra o zf zs zd hV (wy1 i0) (by omega) hkk) (xcw F.2.2.2.2 ca_X5_countMisses tm_422 rfl rfl ⟨by decide, by decide⟩) (xr_X5 hW) hW rfl hl.1 rfl (Nat.le_of_ble_eq_true rfl) dX5_pickNear_29 (fun r29 u29 H locs hp29 hW => ?_)
        obtain ⟨rfl, P29, rfl⟩ := hp29
        have hW : xW G s s.heap H locs M P29 (0, wy1, wn, pk) V := hW
        have zb29 : (zmi o zf zs zd ac (wy1 i0)) ≤ ac := zcnt_le _ _
        refine xs_wm (i := i0) (k := (zmi o zf zs zd ac (wy1 i0))) F hW rfl (by omega) rfl dX5_pickNear_32 (fun H locs hW => ?_)
        have hW : xW G s s.heap H locs M P29 (0, wy1, upN wn i0 (zmi o zf zs zd ac (wy1 i0)), pk) V := hW
        refine lv_iinc (v := nI (i0 + 1)) (lv' := [(2, .int (nI (i0 + 1))), (0, .ref (xga G 3)), (1, .int (nI ((zwl n aa ra 1200).length)))]) F.1 F.2.1 dX5_pickNear_33 hl (k := 2) rfl (nI_add _ 1) (by decide) rfl (fun ls hl => ?_)
        refine lv_goto (tgt := 12) F.1 F.2.1 dX5_pickNear_36 (by decide) ?_
        exact ih12 ((zwl n aa ra 1200).length - (i0 + 1)) (by omega) P29 (i0 + 1) (upN wn i0 (zmi o zf zs zd ac (wy1 i0))) rfl (by omega) (lt_s (fun j hj => (upN_n (by omega)).trans (g2 j hj)) upN_s) _ _ _ hW (lv_sub hl [1, 2, 0] rfl)
  exact lp12 ((zwl n aa ra 1200).length - 0) P 0 wm rfl (Nat.zero_le _) (lt_0) _ _ _ hW (lv_sub hl [2, 1, 0] rfl)
