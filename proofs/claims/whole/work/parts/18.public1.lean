/-! ===== what the public methods answer ===== -/
theorem ci_subw {x y : Int32} {a b : Int} (ha : x.toInt = a) (hb : y.toInt = b) (h1 : 0 ≤ b) (h2 : b < 2147483648) : ∃ v : Int32, x - y = v ∧ (v.toInt = a - b ∨ (a - b < -2147483648 ∧ v.toInt = a - b + 4294967296)) := by
  refine ⟨x - y, rfl, ?_⟩
  have b1 := i32b x
  by_cases h : -2147483648 ≤ a - b
  · exact Or.inl (ci_sub ha hb h (by omega))
  · refine Or.inr ⟨by omega, ?_⟩
    rw [Int32.toInt_sub, ha, hb]
    have e1 : (a - b).bmod (2 ^ 32) = (a - b + 4294967296).bmod (2 ^ 32) := (Int.add_bmod_right (a - b) (2 ^ 32)).symm
    rw [e1]; exact Int.bmod_eq_of_le (by omega) (by omega)
def zin (n : Nat) (x : Int32) : Prop := 0 ≤ x.toInt ∧ x.toInt < (n : Int)
def qOf (n : Nat) (ra rc : Nat → Nat) (rs : Nat → Nat → Int32) (x y v : Int32) : Prop :=
  (¬ zin n x ∧ v = (-1)) ∨ (zin n x ∧ y.toInt = 0 ∧ v = nI (ra x.toInt.toNat)) ∨ (zin n x ∧ y.toInt = 1 ∧ v = nI (rc x.toInt.toNat)) ∨ (zin n x ∧ 10 ≤ y.toInt ∧ y.toInt - 10 < (rc x.toInt.toNat : Int) ∧ v = rs x.toInt.toNat (y.toInt - 10).toNat) ∨ (zin n x ∧ y.toInt ≠ 0 ∧ y.toInt ≠ 1 ∧ ¬ (10 ≤ y.toInt ∧ y.toInt - 10 < (rc x.toInt.toNat : Int)) ∧ v = (-1))
def qDiffer (n : Nat) (ra : Nat → Nat) (o : Nat → Int32 → Int32 → Int64) (x y v : Int32) : Prop :=
  (¬ (zin n x ∧ zin n y) ∧ v = (-1)) ∨ (zin n x ∧ zin n y ∧ ra x.toInt.toNat ≠ ra y.toInt.toNat ∧ v = (-4)) ∨ (zin n x ∧ zin n y ∧ ra x.toInt.toNat = ra y.toInt.toNat ∧ zdif o (ra x.toInt.toNat) x.toInt.toNat y.toInt.toNat = wN (ra x.toInt.toNat) ∧ v = (-3)) ∨ (zin n x ∧ zin n y ∧ ra x.toInt.toNat = ra y.toInt.toNat ∧ zdif o (ra x.toInt.toNat) x.toInt.toNat y.toInt.toNat < wN (ra x.toInt.toNat) ∧ v = nI (zdif o (ra x.toInt.toNat) x.toInt.toNat y.toInt.toNat))
def qSame (n : Nat) (ra : Nat → Nat) (o : Nat → Int32 → Int32 → Int64) (x y v : Int32) : Prop :=
  (¬ (zin n x ∧ zin n y) ∧ v = (-1)) ∨ (zin n x ∧ zin n y ∧ ra x.toInt.toNat ≠ ra y.toInt.toNat ∧ v = (-4)) ∨ (zin n x ∧ zin n y ∧ ra x.toInt.toNat = ra y.toInt.toNat ∧ zdif o (ra x.toInt.toNat) x.toInt.toNat y.toInt.toNat = wN (ra x.toInt.toNat) ∧ v = nI 1) ∨ (zin n x ∧ zin n y ∧ ra x.toInt.toNat = ra y.toInt.toNat ∧ zdif o (ra x.toInt.toNat) x.toInt.toNat y.toInt.toNat < wN (ra x.toInt.toNat) ∧ v = nI 0)
def qFirst (n : Nat) (ra : Nat → Nat) (o : Nat → Int32 → Int32 → Int64) (x v : Int32) : Prop :=
  (¬ zin n x ∧ v = (-1)) ∨ (zin n x ∧ v = nI (zleast (fun r => !(zdbl ra o r x.toInt.toNat)) x.toInt.toNat))
def zkth (L : List Nat) (k : Int32) : Int32 := if 0 ≤ k.toInt ∧ k.toInt < (L.length : Int) then nI (L.getD k.toInt.toNat 0) else (-3)
theorem zkth_1 {L : List Nat} {k : Int32} {f : Nat → Nat} (h : zpre f L) (h1 : 0 ≤ k.toInt) (h2 : k.toInt < (L.length : Int)) : nI (f k.toInt.toNat) = zkth L k := by
  unfold zkth; rw [if_pos ⟨h1, h2⟩, h _ (by omega)]
theorem zkth_0 {L : List Nat} {k : Int32} (h : ¬ (0 ≤ k.toInt ∧ k.toInt < (L.length : Int))) : (-3 : Int32) = zkth L k := by
  unfold zkth; rw [if_neg h]
def zp4 (L : List Nat) (o : Nat → Int32 → Int32 → Int64) (aa : Nat) (x : Int) : Int32 :=
  if x = 0 then wA aa (zbs (zgp o (fun i => L.getD i 0) L.length aa) (wN aa)).1 else if x = 1 then wB aa (zbs (zgp o (fun i => L.getD i 0) L.length aa) (wN aa)).1 else if x = 2 then nI (zbs (zgp o (fun i => L.getD i 0) L.length aa) (wN aa)).2.1 else nI (zbs (zgp o (fun i => L.getD i 0) L.length aa) (wN aa)).2.2
def zpart0 (L : List Nat) (o : Nat → Int32 → Int32 → Int64) (aa : Nat) (x : Int32) : Int32 := if 0 ≤ x.toInt ∧ x.toInt ≤ 3 ∧ L.length ≠ 0 then zp4 L o aa x.toInt else (-1000)
theorem zgp_congr {o : Nat → Int32 → Int32 → Int64} {f g : Nat → Nat} {ws t k : Nat} (h : ∀ i, i < ws → f i = g i) : zgp o f ws t k = zgp o g ws t k := by
  unfold zgp; rw [zta_congr (f := fun i => zjo o (f i) (wA t k) (wB t k)) (g := fun i => zjo o (g i) (wA t k) (wB t k)) ws (fun i hi => by rw [h i hi])]
theorem zbg_congr {o : Nat → Int32 → Int32 → Int64} {f : Nat → Nat} {L : List Nat} {t : Nat} (h : zpre f L) : zbs (zgp o f L.length t) (wN t) = zbs (zgp o (fun i => L.getD i 0) L.length t) (wN t) := zbs_congr _ (fun k _ => zgp_congr (fun i hi => h i hi))
def zmany (WL FL OL JL : List Nat) (n ac t1 pr wc aa : Nat) (x : Int) : Int32 :=
  if x = 0 then nI n else if x = 1 then nI ac else if x = 2 then nI WL.length else if x = 3 then nI FL.length else if x = 4 then nI OL.length else if x = 5 then nI (WL.length * t1) else if x = 6 then nI JL.length else if x = 7 then nI pr else if x = 8 then nI wc else if x = 9 then nI aa else (-1)
theorem zjl_756 {n aa : Nat} {ra : Nat → Nat} {p : Nat → Bool} (hn : n ≤ 12) : (zjl (zwl n aa ra 1200) ra p n).length ≤ 756 := by
  have h1 := zjl_len (zwl n aa ra 1200) ra p n
  have h4 := zcnt_le (fun r => decide (ra r = 1)) n
  have h5 := zwl_lenx (n := n) (aa := aa) (ra := ra) n (Nat.le_refl _)
  rw [← zwl_all hn] at h5
  generalize zcnt (fun r => decide (ra r = 1)) n = N1 at *
  have h6 := z756 n (by omega) N1 (by omega) (by omega)
  have h8 : N1 * (zwl n aa ra 1200).length ≤ 756 := by
    rw [h5]; split
    · exact h6.2
    · exact h6.1
  omega
theorem znl_le (WL : List Nat) (g : Nat → Nat) (k : Nat) : (znl WL g k).length ≤ WL.length := by rw [znl_len]; exact List.length_filter_le _ _
theorem zfl_get {n aa : Nat} {ra : Nat → Nat} {p : Nat → Bool} {f : Nat → Nat} (h : zpre f ((zwl n aa ra 1200).filter p)) : ∀ i, i < ((zwl n aa ra 1200).filter p).length → zok n aa ra (f i) = true ∧ f i < 1200 := by
  intro i hi
  rw [h i hi]
  have hm : ((zwl n aa ra 1200).filter p).getD i 0 ∈ (zwl n aa ra 1200).filter p := by
    rw [List.getD, List.getElem?_eq_getElem hi]; exact List.getElem_mem hi
  have h2 := zwl_mem.mp (List.mem_filter.mp hm).1
  exact ⟨zok_way h2.2 (by omega), h2.1⟩
theorem dX7_isStep_0 : decode cX7_isStep 0 = .ok (.iload_n 0, 1) := by decide +kernel
theorem dX7_isStep_1 : decode cX7_isStep 1 = .ok (.ifCond .lt 13, 3) := by decide +kernel
theorem dX7_isStep_4 : decode cX7_isStep 4 = .ok (.iload_n 0, 1) := by decide +kernel
theorem dX7_isStep_5 : decode cX7_isStep 5 = .ok (.bipush 32, 2) := by decide +kernel
theorem dX7_isStep_7 : decode cX7_isStep 7 = .ok (.if_icmp .gt 7, 3) := by decide +kernel
theorem dX7_isStep_10 : decode cX7_isStep 10 = .ok (.iconst 1, 1) := by decide +kernel
theorem dX7_isStep_11 : decode cX7_isStep 11 = .ok (.goto 4, 3) := by decide +kernel
theorem dX7_isStep_14 : decode cX7_isStep 14 = .ok (.iconst 0, 1) := by decide +kernel
theorem dX7_isStep_15 : decode cX7_isStep 15 = .ok (.ireturn, 1) := by decide +kernel
set_option maxHeartbeats 4000000 in
set_option maxRecDepth 100000 in
theorem c_X7_isStep (l : Launch) (x : Int32) : Met l yX7_isStep (wC yX7_isStep cX7_isStep 1 (some .boolean)) (rmD 0) (pPc [.int x]) (pQi (fun r => yn r (0 ≤ x.toInt ∧ x.toInt ≤ 32))) 0 0 (fun _ => False) := by
  refine pst "DoFinder" (by decide) rfl (Nat.le_of_ble_eq_true rfl) ?_
  intro p e s m args below meth c ls F hr hlk hl
  have hl : lv_has ls 1 [(0, .int x)] := hl
  have b_x := i32b x
  refine lv_iload_n F.1 F.2.1 dX7_isStep_0 rfl (lv_at hl 0 rfl) ?_
  refine lv_if_lt (tgt := 14) F.1 F.2.1 dX7_isStep_1 (by decide) (fun c1 => ?_) (fun c1 => ?_)
  · have c1 := ci_lt (a := x.toInt) (b := 0) rfl ci_0 c1
    refine lv_iconst (v := nI 0) F.1 F.2.1 dX7_isStep_14 (by decide) ?_
    refine pre_z F hr hlk (by decide) dX7_isStep_15 ?_
    first | exact yn_1 (by omega) | exact yn_0 (by omega)
  · have c1 := ci_nlt (a := x.toInt) (b := 0) rfl ci_0 c1
    refine lv_iload_n F.1 F.2.1 dX7_isStep_4 rfl (lv_at hl 0 rfl) ?_
    refine lv_bipush (v := nI 32) F.1 F.2.1 dX7_isStep_5 (by decide) ?_
    refine lv_icmp_gt (tgt := 14) F.1 F.2.1 dX7_isStep_7 (by decide) (fun c7 => ?_) (fun c7 => ?_)
    · have c7 := ci_lt (a := 32) (b := x.toInt) (by decide) rfl c7
      refine lv_iconst (v := nI 0) F.1 F.2.1 dX7_isStep_14 (by decide) ?_
      refine pre_z F hr hlk (by decide) dX7_isStep_15 ?_
      first | exact yn_1 (by omega) | exact yn_0 (by omega)
    · have c7 := ci_nlt (a := 32) (b := x.toInt) (by decide) rfl c7
      refine lv_iconst (v := nI 1) F.1 F.2.1 dX7_isStep_10 (by decide) ?_
      refine lv_goto (tgt := 15) F.1 F.2.1 dX7_isStep_11 (by decide) ?_
      refine pre_z F hr hlk (by decide) dX7_isStep_15 ?_
      first | exact yn_1 (by omega) | exact yn_0 (by omega)
theorem dX7_isArguments_0 : decode cX7_isArguments 0 = .ok (.iload_n 0, 1) := by decide +kernel
theorem dX7_isArguments_1 : decode cX7_isArguments 1 = .ok (.iconst 1, 1) := by decide +kernel
theorem dX7_isArguments_2 : decode cX7_isArguments 2 = .ok (.if_icmp .eq 8, 3) := by decide +kernel
theorem dX7_isArguments_5 : decode cX7_isArguments 5 = .ok (.iload_n 0, 1) := by decide +kernel
theorem dX7_isArguments_6 : decode cX7_isArguments 6 = .ok (.iconst 2, 1) := by decide +kernel
theorem dX7_isArguments_7 : decode cX7_isArguments 7 = .ok (.if_icmp .ne 7, 3) := by decide +kernel
theorem dX7_isArguments_10 : decode cX7_isArguments 10 = .ok (.iconst 1, 1) := by decide +kernel
theorem dX7_isArguments_11 : decode cX7_isArguments 11 = .ok (.goto 4, 3) := by decide +kernel
theorem dX7_isArguments_14 : decode cX7_isArguments 14 = .ok (.iconst 0, 1) := by decide +kernel
theorem dX7_isArguments_15 : decode cX7_isArguments 15 = .ok (.ireturn, 1) := by decide +kernel
set_option maxHeartbeats 4000000 in
set_option maxRecDepth 100000 in
theorem c_X7_isArguments (l : Launch) (x : Int32) : Met l yX7_isArguments (wC yX7_isArguments cX7_isArguments 1 (some .boolean)) (rmD 0) (pPc [.int x]) (pQi (fun r => yn r (x.toInt = 1 ∨ x.toInt = 2))) 0 0 (fun _ => False) := by
  refine pst "DoFinder" (by decide) rfl (Nat.le_of_ble_eq_true rfl) ?_
  intro p e s m args below meth c ls F hr hlk hl
  have hl : lv_has ls 1 [(0, .int x)] := hl
  have b_x := i32b x
  refine lv_iload_n F.1 F.2.1 dX7_isArguments_0 rfl (lv_at hl 0 rfl) ?_
  refine lv_iconst (v := nI 1) F.1 F.2.1 dX7_isArguments_1 (by decide) ?_
  refine lv_icmp_eq (tgt := 10) F.1 F.2.1 dX7_isArguments_2 (by decide) (fun c2 => ?_) (fun c2 => ?_)
  · have c2 := ci_eq (a := x.toInt) (b := 1) rfl (by decide) c2
    refine lv_iconst (v := nI 1) F.1 F.2.1 dX7_isArguments_10 (by decide) ?_
    refine lv_goto (tgt := 15) F.1 F.2.1 dX7_isArguments_11 (by decide) ?_
    refine pre_z F hr hlk (by decide) dX7_isArguments_15 ?_
    first | exact yn_1 (by omega) | exact yn_0 (by omega)
  · have c2 := ci_ne (a := x.toInt) (b := 1) rfl (by decide) c2
    refine lv_iload_n F.1 F.2.1 dX7_isArguments_5 rfl (lv_at hl 0 rfl) ?_
    refine lv_iconst (v := nI 2) F.1 F.2.1 dX7_isArguments_6 (by decide) ?_
    refine lv_icmp_ne (tgt := 14) F.1 F.2.1 dX7_isArguments_7 (by decide) (fun c7 => ?_) (fun c7 => ?_)
    · have c7 := ci_ne (a := x.toInt) (b := 2) rfl (by decide) c7
      refine lv_iconst (v := nI 0) F.1 F.2.1 dX7_isArguments_14 (by decide) ?_
      refine pre_z F hr hlk (by decide) dX7_isArguments_15 ?_
      first | exact yn_1 (by omega) | exact yn_0 (by omega)
    · have c7 := ci_eq (a := x.toInt) (b := 2) rfl (by decide) c7
      refine lv_iconst (v := nI 1) F.1 F.2.1 dX7_isArguments_10 (by decide) ?_
      refine lv_goto (tgt := 15) F.1 F.2.1 dX7_isArguments_11 (by decide) ?_
      refine pre_z F hr hlk (by decide) dX7_isArguments_15 ?_
      first | exact yn_1 (by omega) | exact yn_0 (by omega)
theorem dX7_step_0 : decode cX7_step 0 = .ok (.iload_n 1, 1) := by decide +kernel
theorem dX7_step_1 : decode cX7_step 1 = .ok (.invokestatic 48, 3) := by decide +kernel
theorem dX7_step_4 : decode cX7_step 4 = .ok (.ifCond .ne 5, 3) := by decide +kernel
theorem dX7_step_7 : decode cX7_step 7 = .ok (.iconst (-1), 1) := by decide +kernel
theorem dX7_step_8 : decode cX7_step 8 = .ok (.ireturn, 1) := by decide +kernel
theorem dX7_step_9 : decode cX7_step 9 = .ok (.aload_n 0, 1) := by decide +kernel
theorem dX7_step_10 : decode cX7_step 10 = .ok (.getfield 10, 3) := by decide +kernel
theorem dX7_step_13 : decode cX7_step 13 = .ok (.iload_n 1, 1) := by decide +kernel
theorem dX7_step_14 : decode cX7_step 14 = .ok (.invokevirtual 52, 3) := by decide +kernel
theorem dX7_step_17 : decode cX7_step 17 = .ok (.ifCond .eq 13, 3) := by decide +kernel
theorem dX7_step_20 : decode cX7_step 20 = .ok (.aload_n 0, 1) := by decide +kernel
theorem dX7_step_21 : decode cX7_step 21 = .ok (.getfield 10, 3) := by decide +kernel
theorem dX7_step_24 : decode cX7_step 24 = .ok (.getfield 55, 3) := by decide +kernel
theorem dX7_step_27 : decode cX7_step 27 = .ok (.goto 5, 3) := by decide +kernel
theorem dX7_step_30 : decode cX7_step 30 = .ok (.bipush (-2), 2) := by decide +kernel
theorem dX7_step_32 : decode cX7_step 32 = .ok (.ireturn, 1) := by decide +kernel
set_option maxHeartbeats 4000000 in
set_option maxRecDepth 100000 in
theorem c_X7_step (l : Launch) (G : XG) (M : XM) (P : XP) (S : XS) (V : XV) (h12 : M.2.2.1 12 ≤ 12) (x : Int32) : Met l yX7_step (wC yX7_step cX7_step 2 (some .int)) (rmD 1) (xPc G [.ref (xga G 0), .int x] M P S V) (va_Qi (fun r u => (¬ (0 ≤ x.toInt ∧ x.toInt ≤ 32) ∧ r = (-1) ∧ u = (M, P, S, V)) ∨ ((0 ≤ x.toInt ∧ x.toInt ≤ 32) ∧ ¬ M.2.2.1 12 < 12 ∧ r = (-2) ∧ u = (M, P, S, V)) ∨ ((0 ≤ x.toInt ∧ x.toInt ≤ 32) ∧ M.2.2.1 12 < 12 ∧ r = nI (M.2.2.1 12 + 1) ∧ u = ((M.1, M.2.1, upN M.2.2.1 12 (M.2.2.1 12 + 1), M.2.2.2.1, upF M.2.2.2.2.1 12 (upd (M.2.2.2.2.1 12) (M.2.2.1 12) x), M.2.2.2.2.2.1, M.2.2.2.2.2.2.1, M.2.2.2.2.2.2.2.1, M.2.2.2.2.2.2.2.2.1, M.2.2.2.2.2.2.2.2.2), P, S, V))) (xB G) (xA G)) 0 0 (xA G) := by
  refine xst "DoFinder" (by decide) rfl (Nat.le_of_ble_eq_true rfl) ?_
  intro p e s m args below meth c ls F hr hlk hW hl
  have hl : lv_has ls 2 [(0, .ref (xga G 0)), (1, .int x)] := hl
  have hW : xW G s s.heap s.heap [] M P S V := hW
  have b_x := i32b x
  refine lv_iload_n F.1 F.2.1 dX7_step_0 rfl (lv_at hl 1 rfl) ?_
  refine pca (As := [.int x]) (rest := []) F (c_X7_isStep l x) (xcwS F.2.2.2.2 ca_X7_isStep tm_199 rfl rfl ⟨by decide, by decide⟩) rfl hl.1 rfl (Nat.le_of_ble_eq_true rfl) dX7_step_1 (fun r1 hr1 => ?_)
  rcases hr1 with ⟨rfl, y1⟩ | ⟨rfl, y1⟩
  · skip
    refine lv_if_ne (tgt := 9) F.1 F.2.1 dX7_step_4 (by decide) (fun _ => ?_) (fun q => absurd q (by decide))
    refine lv_aload_n F.1 F.2.1 dX7_step_9 rfl (lv_at hl 0 rfl) ?_
    refine xg_DoFinder_written F hW tm_179 dX7_step_10 ?_
    refine lv_iload_n F.1 F.2.1 dX7_step_13 rfl (lv_at hl 1 rfl) ?_
    refine xca_i (b := (xgo G 12)) (As := [.int x]) (rest := []) F (c_X4_append l G M P S V 12 (by omega) (by omega) x) (xcw F.2.2.2.2 ca_X4_append tm_202 rfl rfl ⟨by decide, by decide⟩) (xr_X4 hW (j := 12) (by omega)) hW rfl hl.1 rfl (Nat.le_of_ble_eq_true rfl) dX7_step_14 (fun r14 u14 H locs hp14 hW => ?_)
    rcases hp14 with ⟨y14, rfl, rfl⟩ | ⟨y14, rfl, rfl⟩
    · skip
      have hW : xW G s s.heap H locs (M.1, M.2.1, upN M.2.2.1 12 (M.2.2.1 12 + 1), M.2.2.2.1, upF M.2.2.2.2.1 12 (upd (M.2.2.2.2.1 12) (M.2.2.1 12) x), M.2.2.2.2.2.1, M.2.2.2.2.2.2.1, M.2.2.2.2.2.2.2.1, M.2.2.2.2.2.2.2.2.1, M.2.2.2.2.2.2.2.2.2) P S V := hW
      refine lv_if_eq (tgt := 30) F.1 F.2.1 dX7_step_17 (by decide) (fun q => absurd q (by decide)) (fun _ => ?_)
      refine lv_aload_n F.1 F.2.1 dX7_step_20 rfl (lv_at hl 0 rfl) ?_
      refine xg_DoFinder_written F hW tm_179 dX7_step_21 ?_
      refine xg_Routine_count F hW (j := 12) (by omega) tm_29 dX7_step_24 ?_
      refine ax_re (show nI ((upN M.2.2.1 12 (M.2.2.1 12 + 1)) 12) = nI (M.2.2.1 12 + 1) from congrArg nI upN_s) ?_
      refine lv_goto (tgt := 32) F.1 F.2.1 dX7_step_27 (by decide) ?_
      refine xre_i F hr hlk hW dX7_step_32 ?_
      first | exact Or.inl (⟨by omega, rfl, rfl⟩) | exact Or.inr (Or.inl (⟨by omega, by omega, rfl, rfl⟩)) | exact Or.inr (Or.inr (⟨by omega, by omega, rfl, rfl⟩))
    · skip
      have hW : xW G s s.heap H locs M P S V := hW
      refine lv_if_eq (tgt := 30) F.1 F.2.1 dX7_step_17 (by decide) (fun _ => ?_) (fun q => absurd q (by decide))
      refine lv_bipush (v := (-2)) F.1 F.2.1 dX7_step_30 (by decide) ?_
      refine xre_i F hr hlk hW dX7_step_32 ?_
      first | exact Or.inl (⟨by omega, rfl, rfl⟩) | exact Or.inr (Or.inl (⟨by omega, by omega, rfl, rfl⟩)) | exact Or.inr (Or.inr (⟨by omega, by omega, rfl, rfl⟩))
  · skip
    refine lv_if_ne (tgt := 9) F.1 F.2.1 dX7_step_4 (by decide) (fun q => absurd q (by decide)) (fun _ => ?_)
    refine lv_iconst (v := (-1)) F.1 F.2.1 dX7_step_7 (by decide) ?_
    refine xre_i F hr hlk hW dX7_step_8 ?_
    first | exact Or.inl (⟨by omega, rfl, rfl⟩) | exact Or.inr (Or.inl (⟨by omega, by omega, rfl, rfl⟩)) | exact Or.inr (Or.inr (⟨by omega, by omega, rfl, rfl⟩))
theorem dX7_scrap_0 : decode cX7_scrap 0 = .ok (.aload_n 0, 1) := by decide +kernel
theorem dX7_scrap_1 : decode cX7_scrap 1 = .ok (.getfield 10, 3) := by decide +kernel
theorem dX7_scrap_4 : decode cX7_scrap 4 = .ok (.getfield 55, 3) := by decide +kernel
theorem dX7_scrap_7 : decode cX7_scrap 7 = .ok (.istore_n 1, 1) := by decide +kernel
theorem dX7_scrap_8 : decode cX7_scrap 8 = .ok (.aload_n 0, 1) := by decide +kernel
theorem dX7_scrap_9 : decode cX7_scrap 9 = .ok (.getfield 10, 3) := by decide +kernel
theorem dX7_scrap_12 : decode cX7_scrap 12 = .ok (.iconst 0, 1) := by decide +kernel
theorem dX7_scrap_13 : decode cX7_scrap 13 = .ok (.putfield 55, 3) := by decide +kernel
theorem dX7_scrap_16 : decode cX7_scrap 16 = .ok (.iload_n 1, 1) := by decide +kernel
theorem dX7_scrap_17 : decode cX7_scrap 17 = .ok (.ireturn, 1) := by decide +kernel
set_option maxHeartbeats 4000000 in
set_option maxRecDepth 100000 in
theorem c_X7_scrap (l : Launch) (G : XG) (M : XM) (P : XP) (S : XS) (V : XV) (h12 : M.2.2.1 12 ≤ 12) : Met l yX7_scrap (wC yX7_scrap cX7_scrap 2 (some .int)) (rmD 0) (xPc G [.ref (xga G 0)] M P S V) (va_Qi (fun r u => r = nI (M.2.2.1 12) ∧ u = ((M.1, M.2.1, upN M.2.2.1 12 0, M.2.2.2.1, M.2.2.2.2.1, M.2.2.2.2.2.1, M.2.2.2.2.2.2.1, M.2.2.2.2.2.2.2.1, M.2.2.2.2.2.2.2.2.1, M.2.2.2.2.2.2.2.2.2), P, S, V)) (xB G) (xA G)) 0 0 (xA G) := by
  refine xst "DoFinder" (by decide) rfl (Nat.le_of_ble_eq_true rfl) ?_
  intro p e s m args below meth c ls F hr hlk hW hl
  have hl : lv_has ls 2 [(0, .ref (xga G 0))] := hl
  have hW : xW G s s.heap s.heap [] M P S V := hW
  refine lv_aload_n F.1 F.2.1 dX7_scrap_0 rfl (lv_at hl 0 rfl) ?_
  refine xg_DoFinder_written F hW tm_179 dX7_scrap_1 ?_
  refine xg_Routine_count F hW (j := 12) (by omega) tm_29 dX7_scrap_4 ?_
  refine lv_istore_n (lv' := [(1, .int (nI (M.2.2.1 12))), (0, .ref (xga G 0))]) F.1 F.2.1 dX7_scrap_7 rfl hl (by decide) rfl (fun ls hl => ?_)
  refine lv_aload_n F.1 F.2.1 dX7_scrap_8 rfl (lv_at hl 1 rfl) ?_
  refine xg_DoFinder_written F hW tm_179 dX7_scrap_9 ?_
  refine lv_iconst (v := nI 0) F.1 F.2.1 dX7_scrap_12 (by decide) ?_
  refine xp_Routine_count (j := 12) (k := 0) F hW (by omega) tm_29 rfl dX7_scrap_13 (fun H locs hW => ?_)
  have hW : xW G s s.heap H locs (M.1, M.2.1, upN M.2.2.1 12 0, M.2.2.2.1, M.2.2.2.2.1, M.2.2.2.2.2.1, M.2.2.2.2.2.2.1, M.2.2.2.2.2.2.2.1, M.2.2.2.2.2.2.2.2.1, M.2.2.2.2.2.2.2.2.2) P S V := hW
  refine lv_iload_n F.1 F.2.1 dX7_scrap_16 rfl (lv_at hl 0 rfl) ?_
  refine xre_i F hr hlk hW dX7_scrap_17 ?_
  exact ⟨rfl, rfl⟩
theorem dX7_add_0 : decode cX7_add 0 = .ok (.iload_n 1, 1) := by decide +kernel
theorem dX7_add_1 : decode cX7_add 1 = .ok (.invokestatic 59, 3) := by decide +kernel
theorem dX7_add_4 : decode cX7_add 4 = .ok (.ifCond .ne 5, 3) := by decide +kernel
theorem dX7_add_7 : decode cX7_add 7 = .ok (.iconst (-1), 1) := by decide +kernel
theorem dX7_add_8 : decode cX7_add 8 = .ok (.ireturn, 1) := by decide +kernel
theorem dX7_add_9 : decode cX7_add 9 = .ok (.aload_n 0, 1) := by decide +kernel
theorem dX7_add_10 : decode cX7_add 10 = .ok (.getfield 10, 3) := by decide +kernel
theorem dX7_add_13 : decode cX7_add 13 = .ok (.getfield 55, 3) := by decide +kernel
theorem dX7_add_16 : decode cX7_add 16 = .ok (.ifCond .ne 6, 3) := by decide +kernel
theorem dX7_add_19 : decode cX7_add 19 = .ok (.bipush (-3), 2) := by decide +kernel
theorem dX7_add_21 : decode cX7_add 21 = .ok (.ireturn, 1) := by decide +kernel
theorem dX7_add_22 : decode cX7_add 22 = .ok (.aload_n 0, 1) := by decide +kernel
theorem dX7_add_23 : decode cX7_add 23 = .ok (.getfield 10, 3) := by decide +kernel
theorem dX7_add_26 : decode cX7_add 26 = .ok (.iload_n 1, 1) := by decide +kernel
theorem dX7_add_27 : decode cX7_add 27 = .ok (.invokevirtual 62, 3) := by decide +kernel
theorem dX7_add_30 : decode cX7_add 30 = .ok (.ifCond .ne 6, 3) := by decide +kernel
theorem dX7_add_33 : decode cX7_add 33 = .ok (.bipush (-4), 2) := by decide +kernel
theorem dX7_add_35 : decode cX7_add 35 = .ok (.ireturn, 1) := by decide +kernel
theorem dX7_add_36 : decode cX7_add 36 = .ok (.aload_n 0, 1) := by decide +kernel
theorem dX7_add_37 : decode cX7_add 37 = .ok (.getfield 19, 3) := by decide +kernel
theorem dX7_add_40 : decode cX7_add 40 = .ok (.aload_n 0, 1) := by decide +kernel
theorem dX7_add_41 : decode cX7_add 41 = .ok (.getfield 10, 3) := by decide +kernel
theorem dX7_add_44 : decode cX7_add 44 = .ok (.iload_n 1, 1) := by decide +kernel
theorem dX7_add_45 : decode cX7_add 45 = .ok (.invokevirtual 65, 3) := by decide +kernel
theorem dX7_add_48 : decode cX7_add 48 = .ok (.istore_n 2, 1) := by decide +kernel
theorem dX7_add_49 : decode cX7_add 49 = .ok (.iload_n 2, 1) := by decide +kernel
theorem dX7_add_50 : decode cX7_add 50 = .ok (.bipush (-2), 2) := by decide +kernel
theorem dX7_add_52 : decode cX7_add 52 = .ok (.if_icmp .eq 11, 3) := by decide +kernel
theorem dX7_add_55 : decode cX7_add 55 = .ok (.aload_n 0, 1) := by decide +kernel
theorem dX7_add_56 : decode cX7_add 56 = .ok (.getfield 10, 3) := by decide +kernel
theorem dX7_add_59 : decode cX7_add 59 = .ok (.iconst 0, 1) := by decide +kernel
theorem dX7_add_60 : decode cX7_add 60 = .ok (.putfield 55, 3) := by decide +kernel
theorem dX7_add_63 : decode cX7_add 63 = .ok (.iload_n 2, 1) := by decide +kernel
theorem dX7_add_64 : decode cX7_add 64 = .ok (.ireturn, 1) := by decide +kernel
set_option maxHeartbeats 4000000 in
set_option maxRecDepth 100000 in
theorem c_X7_add (l : Launch) (G : XG) (M : XM) (P : XP) (S : XS) (V : XV) (hn : M.1 ≤ 12) (h12 : M.2.2.1 12 ≤ 12) (x : Int32) : Met l yX7_add (wC yX7_add cX7_add 3 (some .int)) (rmD 3) (xPc G [.ref (xga G 0), .int x] M P S V) (va_Qi (fun r u => (¬ (x.toInt = 1 ∨ x.toInt = 2) ∧ r = (-1) ∧ u = (M, P, S, V)) ∨ ((x.toInt = 1 ∨ x.toInt = 2) ∧ M.2.2.1 12 = 0 ∧ r = (-3) ∧ u = (M, P, S, V)) ∨ ((x.toInt = 1 ∨ x.toInt = 2) ∧ M.2.2.1 12 ≠ 0 ∧ ¬ (∀ k, k < M.2.2.1 12 → sp_may (M.2.2.2.2.1 12 k).toInt x.toInt.toNat (M.2.2.1 12)) ∧ r = (-4) ∧ u = (M, P, S, V)) ∨ ((x.toInt = 1 ∨ x.toInt = 2) ∧ M.2.2.1 12 ≠ 0 ∧ (∀ k, k < M.2.2.1 12 → sp_may (M.2.2.2.2.1 12 k).toInt x.toInt.toNat (M.2.2.1 12)) ∧ ¬ M.1 < 12 ∧ r = (-2) ∧ u = (M, P, S, V)) ∨ ((x.toInt = 1 ∨ x.toInt = 2) ∧ M.2.2.1 12 ≠ 0 ∧ (∀ k, k < M.2.2.1 12 → sp_may (M.2.2.2.2.1 12 k).toInt x.toInt.toNat (M.2.2.1 12)) ∧ M.1 < 12 ∧ r = nI M.1 ∧ u = ((M.1 + 1, M.2.1, upN (upN M.2.2.1 M.1 (M.2.2.1 12)) 12 0, upN M.2.2.2.1 M.1 x.toInt.toNat, upF M.2.2.2.2.1 M.1 (va_cpy (M.2.2.2.2.1 12) (M.2.2.2.2.1 M.1) 0 0 12), M.2.2.2.2.2.1, M.2.2.2.2.2.2.1, M.2.2.2.2.2.2.2.1, M.2.2.2.2.2.2.2.2.1, M.2.2.2.2.2.2.2.2.2), P, S, V))) (xB G) (xA G)) 0 0 (xA G) := by
  refine xst "DoFinder" (by decide) rfl (Nat.le_of_ble_eq_true rfl) ?_
  intro p e s m args below meth c ls F hr hlk hW hl
  have hl : lv_has ls 3 [(0, .ref (xga G 0)), (1, .int x)] := hl
  have hW : xW G s s.heap s.heap [] M P S V := hW
  have b_x := i32b x
  refine lv_iload_n F.1 F.2.1 dX7_add_0 rfl (lv_at hl 1 rfl) ?_
  refine pca (As := [.int x]) (rest := []) F (c_X7_isArguments l x) (xcwS F.2.2.2.2 ca_X7_isArguments tm_214 rfl rfl ⟨by decide, by decide⟩) rfl hl.1 rfl (Nat.le_of_ble_eq_true rfl) dX7_add_1 (fun r1 hr1 => ?_)
  rcases hr1 with ⟨rfl, y1⟩ | ⟨rfl, y1⟩
  · skip
    obtain ⟨t, ht, rfl⟩ := arg12 y1
    have et : (nI t).toInt.toNat = t := by rw [nI_toInt (by omega)]; omega
    have et2 : (nI t).toInt = (t : Int) := nI_toInt (by omega)
    have hl : lv_has ls 3 [(0, .ref (xga G 0)), (1, .int (nI t))] := hl
    refine lv_if_ne (tgt := 9) F.1 F.2.1 dX7_add_4 (by decide) (fun _ => ?_) (fun q => absurd q (by decide))
    refine lv_aload_n F.1 F.2.1 dX7_add_9 rfl (lv_at hl 0 rfl) ?_
    refine xg_DoFinder_written F hW tm_179 dX7_add_10 ?_
    refine xg_Routine_count F hW (j := 12) (by omega) tm_29 dX7_add_13 ?_
    refine lv_if_ne (tgt := 22) F.1 F.2.1 dX7_add_16 (by decide) (fun c16 => ?_) (fun c16 => ?_)
    · have c16 := ci_ne (a := ((M.2.2.1 12 : Nat) : Int)) (b := 0) (nI_toInt (by omega)) ci_0 c16
      refine lv_aload_n F.1 F.2.1 dX7_add_22 rfl (lv_at hl 0 rfl) ?_
      refine xg_DoFinder_written F hW tm_179 dX7_add_23 ?_
      refine lv_iload_n F.1 F.2.1 dX7_add_26 rfl (lv_at hl 1 rfl) ?_
      refine xca_i (b := (xgo G 12)) (As := [.int (nI t)]) (rest := []) F (c_X4_isWhole l G M P S V 12 (by omega) (by omega) t (by omega)) (xcw F.2.2.2.2 ca_X4_isWhole tm_217 rfl rfl ⟨by decide, by decide⟩) (xr_X4 hW (j := 12) (by omega)) hW rfl hl.1 rfl (Nat.le_of_ble_eq_true rfl) dX7_add_27 (fun r27 u27 H locs hp27 hW => ?_)
      obtain ⟨hp27, rfl⟩ := hp27
      have hW : xW G s s.heap H locs M P S V := hW
      rcases hp27 with ⟨rfl, y27⟩ | ⟨rfl, y27⟩
      · skip
        refine lv_if_ne (tgt := 36) F.1 F.2.1 dX7_add_30 (by decide) (fun _ => ?_) (fun q => absurd q (by decide))
        refine lv_aload_n F.1 F.2.1 dX7_add_36 rfl (lv_at hl 0 rfl) ?_
        refine xg_DoFinder_library F hW tm_180 dX7_add_37 ?_
        refine lv_aload_n F.1 F.2.1 dX7_add_40 rfl (lv_at hl 0 rfl) ?_
        refine xg_DoFinder_written F hW tm_179 dX7_add_41 ?_
        refine lv_iload_n F.1 F.2.1 dX7_add_44 rfl (lv_at hl 1 rfl) ?_
        refine xca_i (b := (xga G 1)) (As := [.ref (xgo G 12), .int (nI t)]) (rest := []) F (c_X1_take l G M P S V hn h12 t (by omega)) (xcw F.2.2.2.2 ca_X1_take tm_229 rfl rfl ⟨by decide, by decide⟩) (xr_X1 hW) hW rfl hl.1 rfl (Nat.le_of_ble_eq_true rfl) dX7_add_45 (fun r45 u45 H locs hp45 hW => ?_)
        rcases hp45 with ⟨y45, rfl, rfl⟩ | ⟨y45, rfl, rfl⟩
        · skip
          have hW : xW G s s.heap H locs (M.1 + 1, M.2.1, upN M.2.2.1 M.1 (M.2.2.1 12), upN M.2.2.2.1 M.1 t, upF M.2.2.2.2.1 M.1 (va_cpy (M.2.2.2.2.1 12) (M.2.2.2.2.1 M.1) 0 0 12), M.2.2.2.2.2.1, M.2.2.2.2.2.2.1, M.2.2.2.2.2.2.2.1, M.2.2.2.2.2.2.2.2.1, M.2.2.2.2.2.2.2.2.2) P S V := hW
          refine lv_istore_n (lv' := [(2, .int (nI M.1)), (0, .ref (xga G 0)), (1, .int (nI t))]) F.1 F.2.1 dX7_add_48 rfl hl (by decide) rfl (fun ls hl => ?_)
          refine lv_iload_n F.1 F.2.1 dX7_add_49 rfl (lv_at hl 0 rfl) ?_
          refine lv_bipush (v := (-2)) F.1 F.2.1 dX7_add_50 (by decide) ?_
          refine lv_icmp_eq (tgt := 63) F.1 F.2.1 dX7_add_52 (by decide) (fun c52 => ?_) (fun c52 => ?_)
          · have c52 := ci_eq (a := ((M.1 : Nat) : Int)) (b := (-2)) (nI_toInt (by omega)) (by decide) c52
            refine lv_iload_n F.1 F.2.1 dX7_add_63 rfl (lv_at hl 0 rfl) ?_
            refine xre_i F hr hlk hW dX7_add_64 ?_
            rw [et]
            first | (exfalso; omega) | exact Or.inr (Or.inr (Or.inr (Or.inl (⟨y1, by omega, y27, by omega, rfl, rfl⟩)))) | exact Or.inr (Or.inr (Or.inr (Or.inr (⟨y1, by omega, y27, by omega, rfl, rfl⟩))))
          · have c52 := ci_ne (a := ((M.1 : Nat) : Int)) (b := (-2)) (nI_toInt (by omega)) (by decide) c52
            refine lv_aload_n F.1 F.2.1 dX7_add_55 rfl (lv_at hl 1 rfl) ?_
            refine xg_DoFinder_written F hW tm_179 dX7_add_56 ?_
            refine lv_iconst (v := nI 0) F.1 F.2.1 dX7_add_59 (by decide) ?_
            refine xp_Routine_count (j := 12) (k := 0) F hW (by omega) tm_29 rfl dX7_add_60 (fun H locs hW => ?_)
            have hW : xW G s s.heap H locs (M.1 + 1, M.2.1, upN (upN M.2.2.1 M.1 (M.2.2.1 12)) 12 0, upN M.2.2.2.1 M.1 t, upF M.2.2.2.2.1 M.1 (va_cpy (M.2.2.2.2.1 12) (M.2.2.2.2.1 M.1) 0 0 12), M.2.2.2.2.2.1, M.2.2.2.2.2.2.1, M.2.2.2.2.2.2.2.1, M.2.2.2.2.2.2.2.2.1, M.2.2.2.2.2.2.2.2.2) P S V := hW
            refine lv_iload_n F.1 F.2.1 dX7_add_63 rfl (lv_at hl 0 rfl) ?_
            refine xre_i F hr hlk hW dX7_add_64 ?_
            rw [et]
            first | (exfalso; omega) | exact Or.inr (Or.inr (Or.inr (Or.inl (⟨y1, by omega, y27, by omega, rfl, rfl⟩)))) | exact Or.inr (Or.inr (Or.inr (Or.inr (⟨y1, by omega, y27, by omega, rfl, rfl⟩))))
        · skip
          have hW : xW G s s.heap H locs M P S V := hW
          refine lv_istore_n (lv' := [(2, .int (-2)), (0, .ref (xga G 0)), (1, .int (nI t))]) F.1 F.2.1 dX7_add_48 rfl hl (by decide) rfl (fun ls hl => ?_)
          refine lv_iload_n F.1 F.2.1 dX7_add_49 rfl (lv_at hl 0 rfl) ?_
          refine lv_bipush (v := (-2)) F.1 F.2.1 dX7_add_50 (by decide) ?_
          refine lv_icmp_eq (tgt := 63) F.1 F.2.1 dX7_add_52 (by decide) (fun _ => ?_) (fun q => absurd q (by decide))
          refine lv_iload_n F.1 F.2.1 dX7_add_63 rfl (lv_at hl 0 rfl) ?_
          refine xre_i F hr hlk hW dX7_add_64 ?_
          rw [et]
          first | (exfalso; omega) | exact Or.inr (Or.inr (Or.inr (Or.inl (⟨y1, by omega, y27, by omega, rfl, rfl⟩)))) | exact Or.inr (Or.inr (Or.inr (Or.inr (⟨y1, by omega, y27, by omega, rfl, rfl⟩))))
      · skip
        refine lv_if_ne (tgt := 36) F.1 F.2.1 dX7_add_30 (by decide) (fun q => absurd q (by decide)) (fun _ => ?_)
        refine lv_bipush (v := (-4)) F.1 F.2.1 dX7_add_33 (by decide) ?_
        refine xre_i F hr hlk hW dX7_add_35 ?_
        exact Or.inr (Or.inr (Or.inl ⟨y1, by omega, by rw [et]; exact y27, rfl, rfl⟩))
    · have c16 := ci_eq (a := ((M.2.2.1 12 : Nat) : Int)) (b := 0) (nI_toInt (by omega)) ci_0 c16
      refine lv_bipush (v := (-3)) F.1 F.2.1 dX7_add_19 (by decide) ?_
      refine xre_i F hr hlk hW dX7_add_21 ?_
      exact Or.inr (Or.inl ⟨y1, by omega, rfl, rfl⟩)
  · skip
    refine lv_if_ne (tgt := 9) F.1 F.2.1 dX7_add_4 (by decide) (fun q => absurd q (by decide)) (fun _ => ?_)
    refine lv_iconst (v := (-1)) F.1 F.2.1 dX7_add_7 (by decide) ?_
    refine xre_i F hr hlk hW dX7_add_8 ?_
    exact Or.inl ⟨y1, rfl, rfl⟩
theorem dX7_mend_0 : decode cX7_mend 0 = .ok (.aload_n 0, 1) := by decide +kernel
theorem dX7_mend_1 : decode cX7_mend 1 = .ok (.getfield 19, 3) := by decide +kernel
theorem dX7_mend_4 : decode cX7_mend 4 = .ok (.iload_n 1, 1) := by decide +kernel
theorem dX7_mend_5 : decode cX7_mend 5 = .ok (.invokevirtual 69, 3) := by decide +kernel
theorem dX7_mend_8 : decode cX7_mend 8 = .ok (.ifCond .eq 10, 3) := by decide +kernel
theorem dX7_mend_11 : decode cX7_mend 11 = .ok (.iload_n 3, 1) := by decide +kernel
theorem dX7_mend_12 : decode cX7_mend 12 = .ok (.invokestatic 48, 3) := by decide +kernel
theorem dX7_mend_15 : decode cX7_mend 15 = .ok (.ifCond .ne 5, 3) := by decide +kernel
theorem dX7_mend_18 : decode cX7_mend 18 = .ok (.iconst (-1), 1) := by decide +kernel
theorem dX7_mend_19 : decode cX7_mend 19 = .ok (.ireturn, 1) := by decide +kernel
theorem dX7_mend_20 : decode cX7_mend 20 = .ok (.aload_n 0, 1) := by decide +kernel
theorem dX7_mend_21 : decode cX7_mend 21 = .ok (.getfield 19, 3) := by decide +kernel
theorem dX7_mend_24 : decode cX7_mend 24 = .ok (.getfield 72, 3) := by decide +kernel
theorem dX7_mend_27 : decode cX7_mend 27 = .ok (.iload_n 1, 1) := by decide +kernel
theorem dX7_mend_28 : decode cX7_mend 28 = .ok (.aaload, 1) := by decide +kernel
theorem dX7_mend_29 : decode cX7_mend 29 = .ok (.astore 4, 2) := by decide +kernel
theorem dX7_mend_31 : decode cX7_mend 31 = .ok (.aload 4, 2) := by decide +kernel
theorem dX7_mend_33 : decode cX7_mend 33 = .ok (.iload_n 2, 1) := by decide +kernel
theorem dX7_mend_34 : decode cX7_mend 34 = .ok (.invokevirtual 76, 3) := by decide +kernel
theorem dX7_mend_37 : decode cX7_mend 37 = .ok (.ifCond .ne 5, 3) := by decide +kernel
theorem dX7_mend_40 : decode cX7_mend 40 = .ok (.iconst (-1), 1) := by decide +kernel
theorem dX7_mend_41 : decode cX7_mend 41 = .ok (.ireturn, 1) := by decide +kernel
theorem dX7_mend_42 : decode cX7_mend 42 = .ok (.aload 4, 2) := by decide +kernel
theorem dX7_mend_44 : decode cX7_mend 44 = .ok (.iload_n 3, 1) := by decide +kernel
theorem dX7_mend_45 : decode cX7_mend 45 = .ok (.aload 4, 2) := by decide +kernel
theorem dX7_mend_47 : decode cX7_mend 47 = .ok (.getfield 79, 3) := by decide +kernel
theorem dX7_mend_50 : decode cX7_mend 50 = .ok (.invokevirtual 82, 3) := by decide +kernel
theorem dX7_mend_53 : decode cX7_mend 53 = .ok (.ifCond .ne 6, 3) := by decide +kernel
theorem dX7_mend_56 : decode cX7_mend 56 = .ok (.bipush (-4), 2) := by decide +kernel
theorem dX7_mend_58 : decode cX7_mend 58 = .ok (.ireturn, 1) := by decide +kernel
theorem dX7_mend_59 : decode cX7_mend 59 = .ok (.aload 4, 2) := by decide +kernel
theorem dX7_mend_61 : decode cX7_mend 61 = .ok (.getfield 86, 3) := by decide +kernel
theorem dX7_mend_64 : decode cX7_mend 64 = .ok (.iload_n 2, 1) := by decide +kernel
theorem dX7_mend_65 : decode cX7_mend 65 = .ok (.iaload, 1) := by decide +kernel
theorem dX7_mend_66 : decode cX7_mend 66 = .ok (.istore 5, 2) := by decide +kernel
theorem dX7_mend_68 : decode cX7_mend 68 = .ok (.aload 4, 2) := by decide +kernel
theorem dX7_mend_70 : decode cX7_mend 70 = .ok (.getfield 86, 3) := by decide +kernel
theorem dX7_mend_73 : decode cX7_mend 73 = .ok (.iload_n 2, 1) := by decide +kernel
theorem dX7_mend_74 : decode cX7_mend 74 = .ok (.iload_n 3, 1) := by decide +kernel
theorem dX7_mend_75 : decode cX7_mend 75 = .ok (.iastore, 1) := by decide +kernel
theorem dX7_mend_76 : decode cX7_mend 76 = .ok (.iload 5, 2) := by decide +kernel
theorem dX7_mend_78 : decode cX7_mend 78 = .ok (.ireturn, 1) := by decide +kernel
set_option maxHeartbeats 4000000 in
set_option maxRecDepth 100000 in
theorem c_X7_mend (l : Launch) (G : XG) (M : XM) (P : XP) (S : XS) (V : XV) (hn : M.1 ≤ 12) (hrc : ∀ r, r < M.1 → M.2.2.1 r ≤ 12) (hra : ∀ r, r < M.1 → M.2.2.2.1 r = 1 ∨ M.2.2.2.1 r = 2) (x y z : Int32) : Met l yX7_mend (wC yX7_mend cX7_mend 6 (some .int)) (rmD 2) (xPc G [.ref (xga G 0), .int x, .int y, .int z] M P S V) (va_Qi (fun r u => (¬ (zin M.1 x ∧ (0 ≤ z.toInt ∧ z.toInt ≤ 32) ∧ (0 ≤ y.toInt ∧ y.toInt < (M.2.2.1 x.toInt.toNat : Int))) ∧ r = (-1) ∧ u = (M, P, S, V)) ∨ ((zin M.1 x ∧ (0 ≤ z.toInt ∧ z.toInt ≤ 32) ∧ (0 ≤ y.toInt ∧ y.toInt < (M.2.2.1 x.toInt.toNat : Int))) ∧ ¬ sp_may z.toInt (M.2.2.2.1 x.toInt.toNat) (M.2.2.1 x.toInt.toNat) ∧ r = (-4) ∧ u = (M, P, S, V)) ∨ ((zin M.1 x ∧ (0 ≤ z.toInt ∧ z.toInt ≤ 32) ∧ (0 ≤ y.toInt ∧ y.toInt < (M.2.2.1 x.toInt.toNat : Int))) ∧ sp_may z.toInt (M.2.2.2.1 x.toInt.toNat) (M.2.2.1 x.toInt.toNat) ∧ r = M.2.2.2.2.1 x.toInt.toNat y.toInt.toNat ∧ u = ((M.1, M.2.1, M.2.2.1, M.2.2.2.1, upF M.2.2.2.2.1 x.toInt.toNat (upd (M.2.2.2.2.1 x.toInt.toNat) y.toInt.toNat z), M.2.2.2.2.2.1, M.2.2.2.2.2.2.1, M.2.2.2.2.2.2.2.1, M.2.2.2.2.2.2.2.2.1, M.2.2.2.2.2.2.2.2.2), P, S, V))) (xB G) (xA G)) 0 0 (xA G) := by
  refine xst "DoFinder" (by decide) rfl (Nat.le_of_ble_eq_true rfl) ?_
  intro p e s m args below meth c ls F hr hlk hW hl
  have hl : lv_has ls 6 [(0, .ref (xga G 0)), (1, .int x), (2, .int y), (3, .int z)] := hl
  have hW : xW G s s.heap s.heap [] M P S V := hW
  have b_x := i32b x
  have b_y := i32b y
  have b_z := i32b z
  refine lv_aload_n F.1 F.2.1 dX7_mend_0 rfl (lv_at hl 0 rfl) ?_
  refine xg_DoFinder_library F hW tm_180 dX7_mend_1 ?_
  refine lv_iload_n F.1 F.2.1 dX7_mend_4 rfl (lv_at hl 1 rfl) ?_
  refine xca_i (b := (xga G 1)) (As := [.int x]) (rest := []) F (c_X1_has l G M P S V hn x) (xcw F.2.2.2.2 ca_X1_has tm_244 rfl rfl ⟨by decide, by decide⟩) (xr_X1 hW) hW rfl hl.1 rfl (Nat.le_of_ble_eq_true rfl) dX7_mend_5 (fun r5 u5 H locs hp5 hW => ?_)
  obtain ⟨hp5, rfl⟩ := hp5
  have hW : xW G s s.heap H locs M P S V := hW
  rcases hp5 with ⟨rfl, y5⟩ | ⟨rfl, y5⟩
  · skip
    obtain ⟨r, hn_r, hm_r, rfl⟩ := argN (x := x) (by omega)
    have e_r : (nI r).toInt.toNat = r := by omega
    have i_r : r < M.1 := by omega
    have hl : lv_has ls 6 [(0, .ref (xga G 0)), (1, .int (nI r)), (2, .int y), (3, .int z)] := hl
    refine lv_if_eq (tgt := 18) F.1 F.2.1 dX7_mend_8 (by decide) (fun q => absurd q (by decide)) (fun _ => ?_)
    refine lv_iload_n F.1 F.2.1 dX7_mend_11 rfl (lv_at hl 3 rfl) ?_
    refine pca (As := [.int z]) (rest := []) F (c_X7_isStep l z) (xcwS F.2.2.2.2 ca_X7_isStep tm_199 rfl rfl ⟨by decide, by decide⟩) rfl hl.1 rfl (Nat.le_of_ble_eq_true rfl) dX7_mend_12 (fun r12 hr12 => ?_)
    rcases hr12 with ⟨rfl, y12⟩ | ⟨rfl, y12⟩
    · skip
      have q1 := hrc r (by omega)
      have q2 := hra r (by omega)
      refine lv_if_ne (tgt := 20) F.1 F.2.1 dX7_mend_15 (by decide) (fun _ => ?_) (fun q => absurd q (by decide))
      refine lv_aload_n F.1 F.2.1 dX7_mend_20 rfl (lv_at hl 0 rfl) ?_
      refine xg_DoFinder_library F hW tm_180 dX7_mend_21 ?_
      refine xg_Library_routines F hW tm_70 dX7_mend_24 ?_
      refine lv_iload_n F.1 F.2.1 dX7_mend_27 rfl (lv_at hl 1 rfl) ?_
      refine xl_ro (j := r) F hW rfl (by omega) dX7_mend_28 ?_
      refine lv_astore (lv' := [(4, .ref (xgo G r)), (0, .ref (xga G 0)), (1, .int (nI r)), (2, .int y), (3, .int z)]) F.1 F.2.1 dX7_mend_29 hl (by decide) rfl (fun ls hl => ?_)
      refine lv_aload F.1 F.2.1 dX7_mend_31 (lv_at hl 0 rfl) ?_
      refine lv_iload_n F.1 F.2.1 dX7_mend_33 rfl (lv_at hl 3 rfl) ?_
      refine xca_i (b := (xgo G r)) (As := [.int y]) (rest := []) F (c_X4_hasStep l G M P S V r (by omega) (hrc _ (by omega)) y) (xcw F.2.2.2.2 ca_X4_hasStep tm_248 rfl rfl ⟨by decide, by decide⟩) (xr_X4 hW (j := r) (by omega)) hW rfl hl.1 rfl (Nat.le_of_ble_eq_true rfl) dX7_mend_34 (fun r34 u34 H locs hp34 hW => ?_)
      obtain ⟨hp34, rfl⟩ := hp34
      have hW : xW G s s.heap H locs M P S V := hW
      rcases hp34 with ⟨rfl, y34⟩ | ⟨rfl, y34⟩
      · skip
        refine lv_if_ne (tgt := 42) F.1 F.2.1 dX7_mend_37 (by decide) (fun _ => ?_) (fun q => absurd q (by decide))
        refine lv_aload F.1 F.2.1 dX7_mend_42 (lv_at hl 0 rfl) ?_
        refine lv_iload_n F.1 F.2.1 dX7_mend_44 rfl (lv_at hl 4 rfl) ?_
        refine lv_aload F.1 F.2.1 dX7_mend_45 (lv_at hl 0 rfl) ?_
        refine xg_Routine_arguments F hW (j := r) (by omega) tm_32 dX7_mend_47 ?_
        refine xca_i (b := (xgo G r)) (As := [.int z, .int (nI (M.2.2.2.1 r))]) (rest := []) F (c_X4_mayHold l G M P S V r (by omega) (hrc _ (by omega)) z (M.2.2.2.1 r) (by omega)) (xcw F.2.2.2.2 ca_X4_mayHold tm_249 rfl rfl ⟨by decide, by decide⟩) (xr_X4 hW (j := r) (by omega)) hW rfl hl.1 rfl (Nat.le_of_ble_eq_true rfl) dX7_mend_50 (fun r50 u50 H locs hp50 hW => ?_)
        obtain ⟨hp50, rfl⟩ := hp50
        have hW : xW G s s.heap H locs M P S V := hW
        rcases hp50 with ⟨rfl, y50⟩ | ⟨rfl, y50⟩
        · skip
          refine lv_if_ne (tgt := 59) F.1 F.2.1 dX7_mend_53 (by decide) (fun _ => ?_) (fun q => absurd q (by decide))
          refine lv_aload F.1 F.2.1 dX7_mend_59 (lv_at hl 0 rfl) ?_
          refine xg_Routine_steps F hW (j := r) (by omega) tm_27 dX7_mend_61 ?_
          refine lv_iload_n F.1 F.2.1 dX7_mend_64 rfl (lv_at hl 3 rfl) ?_
          refine xl_rs (j := r) (i := y.toInt.toNat) F hW (by omega) (ix_of (by omega)) (by omega) dX7_mend_65 ?_
          have b65 := i32b (M.2.2.2.2.1 r y.toInt.toNat)
          refine lv_istore (lv' := [(5, .int (M.2.2.2.2.1 r y.toInt.toNat)), (4, .ref (xgo G r)), (0, .ref (xga G 0)), (1, .int (nI r)), (2, .int y), (3, .int z)]) F.1 F.2.1 dX7_mend_66 hl (by decide) rfl (fun ls hl => ?_)
          refine lv_aload F.1 F.2.1 dX7_mend_68 (lv_at hl 1 rfl) ?_
          refine xg_Routine_steps F hW (j := r) (by omega) tm_27 dX7_mend_70 ?_
          refine lv_iload_n F.1 F.2.1 dX7_mend_73 rfl (lv_at hl 4 rfl) ?_
          refine lv_iload_n F.1 F.2.1 dX7_mend_74 rfl (lv_at hl 5 rfl) ?_
          refine xs_rs (j := r) (i := y.toInt.toNat) F hW (by omega) (ix_of (by omega)) (by omega) dX7_mend_75 (fun H locs hW => ?_)
          have hW : xW G s s.heap H locs (M.1, M.2.1, M.2.2.1, M.2.2.2.1, upF M.2.2.2.2.1 r (upd (M.2.2.2.2.1 r) y.toInt.toNat z), M.2.2.2.2.2.1, M.2.2.2.2.2.2.1, M.2.2.2.2.2.2.2.1, M.2.2.2.2.2.2.2.2.1, M.2.2.2.2.2.2.2.2.2) P S V := hW
          refine lv_iload F.1 F.2.1 dX7_mend_76 (lv_at hl 0 rfl) ?_
          refine xre_i F hr hlk hW dX7_mend_78 ?_
          exact Or.inr (Or.inr ⟨by unfold zin; rw [e_r]; omega, by rw [e_r]; exact y50, by rw [e_r], by rw [e_r]⟩)
        · skip
          refine lv_if_ne (tgt := 59) F.1 F.2.1 dX7_mend_53 (by decide) (fun q => absurd q (by decide)) (fun _ => ?_)
          refine lv_bipush (v := (-4)) F.1 F.2.1 dX7_mend_56 (by decide) ?_
          refine xre_i F hr hlk hW dX7_mend_58 ?_
          exact Or.inr (Or.inl ⟨by unfold zin; rw [e_r]; omega, by rw [e_r]; exact y50, rfl, rfl⟩)
      · skip
        refine lv_if_ne (tgt := 42) F.1 F.2.1 dX7_mend_37 (by decide) (fun q => absurd q (by decide)) (fun _ => ?_)
        refine lv_iconst (v := (-1)) F.1 F.2.1 dX7_mend_40 (by decide) ?_
        refine xre_i F hr hlk hW dX7_mend_41 ?_
        exact Or.inl ⟨by unfold zin; rw [e_r]; omega, rfl, rfl⟩
    · skip
      refine lv_if_ne (tgt := 20) F.1 F.2.1 dX7_mend_15 (by decide) (fun q => absurd q (by decide)) (fun _ => ?_)
      refine lv_iconst (v := (-1)) F.1 F.2.1 dX7_mend_18 (by decide) ?_
      refine xre_i F hr hlk hW dX7_mend_19 ?_
      exact Or.inl ⟨by unfold zin; omega, rfl, rfl⟩
  · skip
    refine lv_if_eq (tgt := 18) F.1 F.2.1 dX7_mend_8 (by decide) (fun _ => ?_) (fun q => absurd q (by decide))
    refine lv_iconst (v := (-1)) F.1 F.2.1 dX7_mend_18 (by decide) ?_
    refine xre_i F hr hlk hW dX7_mend_19 ?_
    exact Or.inl ⟨by unfold zin; omega, rfl, rfl⟩
theorem dX7_of_0 : decode cX7_of 0 = .ok (.aload_n 0, 1) := by decide +kernel
theorem dX7_of_1 : decode cX7_of 1 = .ok (.getfield 19, 3) := by decide +kernel
theorem dX7_of_4 : decode cX7_of 4 = .ok (.iload_n 1, 1) := by decide +kernel
theorem dX7_of_5 : decode cX7_of 5 = .ok (.invokevirtual 69, 3) := by decide +kernel
theorem dX7_of_8 : decode cX7_of 8 = .ok (.ifCond .ne 5, 3) := by decide +kernel
theorem dX7_of_11 : decode cX7_of 11 = .ok (.iconst (-1), 1) := by decide +kernel
theorem dX7_of_12 : decode cX7_of 12 = .ok (.ireturn, 1) := by decide +kernel
theorem dX7_of_13 : decode cX7_of 13 = .ok (.aload_n 0, 1) := by decide +kernel
theorem dX7_of_14 : decode cX7_of 14 = .ok (.getfield 19, 3) := by decide +kernel
theorem dX7_of_17 : decode cX7_of 17 = .ok (.getfield 72, 3) := by decide +kernel
theorem dX7_of_20 : decode cX7_of 20 = .ok (.iload_n 1, 1) := by decide +kernel
theorem dX7_of_21 : decode cX7_of 21 = .ok (.aaload, 1) := by decide +kernel
theorem dX7_of_22 : decode cX7_of 22 = .ok (.astore_n 3, 1) := by decide +kernel
theorem dX7_of_23 : decode cX7_of 23 = .ok (.iload_n 2, 1) := by decide +kernel
theorem dX7_of_24 : decode cX7_of 24 = .ok (.ifCond .ne 8, 3) := by decide +kernel
theorem dX7_of_27 : decode cX7_of 27 = .ok (.aload_n 3, 1) := by decide +kernel
theorem dX7_of_28 : decode cX7_of 28 = .ok (.getfield 79, 3) := by decide +kernel
theorem dX7_of_31 : decode cX7_of 31 = .ok (.ireturn, 1) := by decide +kernel
theorem dX7_of_32 : decode cX7_of 32 = .ok (.iload_n 2, 1) := by decide +kernel
theorem dX7_of_33 : decode cX7_of 33 = .ok (.iconst 1, 1) := by decide +kernel
theorem dX7_of_34 : decode cX7_of 34 = .ok (.if_icmp .ne 8, 3) := by decide +kernel
theorem dX7_of_37 : decode cX7_of 37 = .ok (.aload_n 3, 1) := by decide +kernel
theorem dX7_of_38 : decode cX7_of 38 = .ok (.getfield 55, 3) := by decide +kernel
theorem dX7_of_41 : decode cX7_of 41 = .ok (.ireturn, 1) := by decide +kernel
theorem dX7_of_42 : decode cX7_of 42 = .ok (.iload_n 2, 1) := by decide +kernel
theorem dX7_of_43 : decode cX7_of 43 = .ok (.bipush 10, 2) := by decide +kernel
theorem dX7_of_45 : decode cX7_of 45 = .ok (.isub, 1) := by decide +kernel
theorem dX7_of_46 : decode cX7_of 46 = .ok (.istore 4, 2) := by decide +kernel
theorem dX7_of_48 : decode cX7_of 48 = .ok (.aload_n 3, 1) := by decide +kernel
theorem dX7_of_49 : decode cX7_of 49 = .ok (.iload 4, 2) := by decide +kernel
theorem dX7_of_51 : decode cX7_of 51 = .ok (.invokevirtual 76, 3) := by decide +kernel
theorem dX7_of_54 : decode cX7_of 54 = .ok (.ifCond .eq 13, 3) := by decide +kernel
theorem dX7_of_57 : decode cX7_of 57 = .ok (.aload_n 3, 1) := by decide +kernel
theorem dX7_of_58 : decode cX7_of 58 = .ok (.getfield 86, 3) := by decide +kernel
theorem dX7_of_61 : decode cX7_of 61 = .ok (.iload 4, 2) := by decide +kernel
theorem dX7_of_63 : decode cX7_of 63 = .ok (.iaload, 1) := by decide +kernel
theorem dX7_of_64 : decode cX7_of 64 = .ok (.goto 4, 3) := by decide +kernel
theorem dX7_of_67 : decode cX7_of 67 = .ok (.iconst (-1), 1) := by decide +kernel
theorem dX7_of_68 : decode cX7_of 68 = .ok (.ireturn, 1) := by decide +kernel
set_option maxHeartbeats 4000000 in
set_option maxRecDepth 100000 in
theorem c_X7_of (l : Launch) (G : XG) (M : XM) (P : XP) (S : XS) (V : XV) (hn : M.1 ≤ 12) (hrc : ∀ r, r < M.1 → M.2.2.1 r ≤ 12) (hra : ∀ r, r < M.1 → M.2.2.2.1 r = 1 ∨ M.2.2.2.1 r = 2) (x y : Int32) : Met l yX7_of (wC yX7_of cX7_of 5 (some .int)) (rmD 1) (xPc G [.ref (xga G 0), .int x, .int y] M P S V) (va_Qi (fun r u => qOf M.1 M.2.2.2.1 M.2.2.1 M.2.2.2.2.1 x y r ∧ u = (M, P, S, V)) (xB G) (xA G)) 0 0 (xA G) := by
  refine xst "DoFinder" (by decide) rfl (Nat.le_of_ble_eq_true rfl) ?_
  intro p e s m args below meth c ls F hr hlk hW hl
  have hl : lv_has ls 5 [(0, .ref (xga G 0)), (1, .int x), (2, .int y)] := hl
  have hW : xW G s s.heap s.heap [] M P S V := hW
  have b_x := i32b x
  have b_y := i32b y
  refine lv_aload_n F.1 F.2.1 dX7_of_0 rfl (lv_at hl 0 rfl) ?_
  refine xg_DoFinder_library F hW tm_180 dX7_of_1 ?_
  refine lv_iload_n F.1 F.2.1 dX7_of_4 rfl (lv_at hl 1 rfl) ?_
  refine xca_i (b := (xga G 1)) (As := [.int x]) (rest := []) F (c_X1_has l G M P S V hn x) (xcw F.2.2.2.2 ca_X1_has tm_244 rfl rfl ⟨by decide, by decide⟩) (xr_X1 hW) hW rfl hl.1 rfl (Nat.le_of_ble_eq_true rfl) dX7_of_5 (fun r5 u5 H locs hp5 hW => ?_)
  obtain ⟨hp5, rfl⟩ := hp5
  have hW : xW G s s.heap H locs M P S V := hW
  rcases hp5 with ⟨rfl, y5⟩ | ⟨rfl, y5⟩
  · skip
    obtain ⟨r, hn_r, hm_r, rfl⟩ := argN (x := x) (by omega)
    have e_r : (nI r).toInt.toNat = r := by omega
    have i_r : r < M.1 := by omega
    have hl : lv_has ls 5 [(0, .ref (xga G 0)), (1, .int (nI r)), (2, .int y)] := hl
    have q1 := hrc r (by omega)
    have q2 := hra r (by omega)
    refine lv_if_ne (tgt := 13) F.1 F.2.1 dX7_of_8 (by decide) (fun _ => ?_) (fun q => absurd q (by decide))
    refine lv_aload_n F.1 F.2.1 dX7_of_13 rfl (lv_at hl 0 rfl) ?_
    refine xg_DoFinder_library F hW tm_180 dX7_of_14 ?_
    refine xg_Library_routines F hW tm_70 dX7_of_17 ?_
    refine lv_iload_n F.1 F.2.1 dX7_of_20 rfl (lv_at hl 1 rfl) ?_
    refine xl_ro (j := r) F hW rfl (by omega) dX7_of_21 ?_
    refine lv_astore_n (lv' := [(3, .ref (xgo G r)), (0, .ref (xga G 0)), (1, .int (nI r)), (2, .int y)]) F.1 F.2.1 dX7_of_22 rfl hl (by decide) rfl (fun ls hl => ?_)
    refine lv_iload_n F.1 F.2.1 dX7_of_23 rfl (lv_at hl 3 rfl) ?_
    refine lv_if_ne (tgt := 32) F.1 F.2.1 dX7_of_24 (by decide) (fun c24 => ?_) (fun c24 => ?_)
    · have c24 := ci_ne (a := y.toInt) (b := 0) rfl ci_0 c24
      refine lv_iload_n F.1 F.2.1 dX7_of_32 rfl (lv_at hl 3 rfl) ?_
      refine lv_iconst (v := nI 1) F.1 F.2.1 dX7_of_33 (by decide) ?_
      refine lv_icmp_ne (tgt := 42) F.1 F.2.1 dX7_of_34 (by decide) (fun c34 => ?_) (fun c34 => ?_)
      · have c34 := ci_ne (a := y.toInt) (b := 1) rfl (by decide) c34
        refine lv_iload_n F.1 F.2.1 dX7_of_42 rfl (lv_at hl 3 rfl) ?_
        refine lv_bipush (v := nI 10) F.1 F.2.1 dX7_of_43 (by decide) ?_
        obtain ⟨v1, ev1, hv1⟩ := ci_subw (x := y) (y := nI 10) (a := y.toInt) (b := 10) rfl (by decide) (by omega) (by omega)
        have bv1 := i32b v1
        refine ax_sub (z := v1) F ev1 dX7_of_45 ?_
        refine lv_istore (lv' := [(4, .int v1), (3, .ref (xgo G r)), (0, .ref (xga G 0)), (1, .int (nI r)), (2, .int y)]) F.1 F.2.1 dX7_of_46 hl (by decide) rfl (fun ls hl => ?_)
        refine lv_aload_n F.1 F.2.1 dX7_of_48 rfl (lv_at hl 1 rfl) ?_
        refine lv_iload F.1 F.2.1 dX7_of_49 (lv_at hl 0 rfl) ?_
        refine xca_i (b := (xgo G r)) (As := [.int v1]) (rest := []) F (c_X4_hasStep l G M P S V r (by omega) (hrc _ (by omega)) v1) (xcw F.2.2.2.2 ca_X4_hasStep tm_248 rfl rfl ⟨by decide, by decide⟩) (xr_X4 hW (j := r) (by omega)) hW rfl hl.1 rfl (Nat.le_of_ble_eq_true rfl) dX7_of_51 (fun r51 u51 H locs hp51 hW => ?_)
        obtain ⟨hp51, rfl⟩ := hp51
        have hW : xW G s s.heap H locs M P S V := hW
        rcases hp51 with ⟨rfl, y51⟩ | ⟨rfl, y51⟩
        · skip
          refine lv_if_eq (tgt := 67) F.1 F.2.1 dX7_of_54 (by decide) (fun q => absurd q (by decide)) (fun _ => ?_)
          refine lv_aload_n F.1 F.2.1 dX7_of_57 rfl (lv_at hl 1 rfl) ?_
          refine xg_Routine_steps F hW (j := r) (by omega) tm_27 dX7_of_58 ?_
          refine lv_iload F.1 F.2.1 dX7_of_61 (lv_at hl 0 rfl) ?_
          refine xl_rs (j := r) (i := ((y.toInt - 10).toNat)) F hW (by omega) (ix_of (by omega)) (by omega) dX7_of_63 ?_
          have b63 := i32b (M.2.2.2.2.1 r ((y.toInt - 10).toNat))
          refine lv_goto (tgt := 68) F.1 F.2.1 dX7_of_64 (by decide) ?_
          refine xre_i F hr hlk hW dX7_of_68 ?_
          refine ⟨?_, rfl⟩
          unfold qOf zin
          first | exact Or.inl (⟨by omega, rfl⟩) | (rw [e_r]; first | exact Or.inr (Or.inl (⟨by omega, by omega, rfl⟩)) | exact Or.inr (Or.inr (Or.inl (⟨by omega, by omega, rfl⟩))) | exact Or.inr (Or.inr (Or.inr (Or.inl (⟨by omega, by omega, by omega, by congr 1⟩)))) | exact Or.inr (Or.inr (Or.inr (Or.inr (⟨by omega, by omega, by omega, by omega, rfl⟩)))))
        · skip
          refine lv_if_eq (tgt := 67) F.1 F.2.1 dX7_of_54 (by decide) (fun _ => ?_) (fun q => absurd q (by decide))
          refine lv_iconst (v := (-1)) F.1 F.2.1 dX7_of_67 (by decide) ?_
          refine xre_i F hr hlk hW dX7_of_68 ?_
          refine ⟨?_, rfl⟩
          unfold qOf zin
          first | exact Or.inl (⟨by omega, rfl⟩) | (rw [e_r]; first | exact Or.inr (Or.inl (⟨by omega, by omega, rfl⟩)) | exact Or.inr (Or.inr (Or.inl (⟨by omega, by omega, rfl⟩))) | exact Or.inr (Or.inr (Or.inr (Or.inl (⟨by omega, by omega, by omega, by congr 1⟩)))) | exact Or.inr (Or.inr (Or.inr (Or.inr (⟨by omega, by omega, by omega, by omega, rfl⟩)))))
      · have c34 := ci_eq (a := y.toInt) (b := 1) rfl (by decide) c34
        refine lv_aload_n F.1 F.2.1 dX7_of_37 rfl (lv_at hl 0 rfl) ?_
        refine xg_Routine_count F hW (j := r) (by omega) tm_29 dX7_of_38 ?_
        refine xre_i F hr hlk hW dX7_of_41 ?_
        refine ⟨?_, rfl⟩
        unfold qOf zin
        first | exact Or.inl (⟨by omega, rfl⟩) | (rw [e_r]; first | exact Or.inr (Or.inl (⟨by omega, by omega, rfl⟩)) | exact Or.inr (Or.inr (Or.inl (⟨by omega, by omega, rfl⟩))) | exact Or.inr (Or.inr (Or.inr (Or.inl (⟨by omega, by omega, by omega, by congr 1⟩)))) | exact Or.inr (Or.inr (Or.inr (Or.inr (⟨by omega, by omega, by omega, by omega, rfl⟩)))))
    · have c24 := ci_eq (a := y.toInt) (b := 0) rfl ci_0 c24
      refine lv_aload_n F.1 F.2.1 dX7_of_27 rfl (lv_at hl 0 rfl) ?_
      refine xg_Routine_arguments F hW (j := r) (by omega) tm_32 dX7_of_28 ?_
      refine xre_i F hr hlk hW dX7_of_31 ?_
      refine ⟨?_, rfl⟩
      unfold qOf zin
      first | exact Or.inl (⟨by omega, rfl⟩) | (rw [e_r]; first | exact Or.inr (Or.inl (⟨by omega, by omega, rfl⟩)) | exact Or.inr (Or.inr (Or.inl (⟨by omega, by omega, rfl⟩))) | exact Or.inr (Or.inr (Or.inr (Or.inl (⟨by omega, by omega, by omega, by congr 1⟩)))) | exact Or.inr (Or.inr (Or.inr (Or.inr (⟨by omega, by omega, by omega, by omega, rfl⟩)))))
  · skip
    refine lv_if_ne (tgt := 13) F.1 F.2.1 dX7_of_8 (by decide) (fun q => absurd q (by decide)) (fun _ => ?_)
    refine lv_iconst (v := (-1)) F.1 F.2.1 dX7_of_11 (by decide) ?_
    refine xre_i F hr hlk hW dX7_of_12 ?_
    refine ⟨?_, rfl⟩
    unfold qOf zin
    first | exact Or.inl (⟨by omega, rfl⟩) | (rw [e_r]; first | exact Or.inr (Or.inl (⟨by omega, by omega, rfl⟩)) | exact Or.inr (Or.inr (Or.inl (⟨by omega, by omega, rfl⟩))) | exact Or.inr (Or.inr (Or.inr (Or.inl (⟨by omega, by omega, by omega, by congr 1⟩)))) | exact Or.inr (Or.inr (Or.inr (Or.inr (⟨by omega, by omega, by omega, by omega, rfl⟩)))))
