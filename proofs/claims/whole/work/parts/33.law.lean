/-! THE CLAIM OUT OF ONE WALK OF THE LAW'S BODY. Your part is whole_start (and what it stands on); all else here is the same for every law, but numbers. -/
def R_law : String := "DoFinderLaw"
def lw_P (b : Addr) (xs : List Int32) (args : Array Value) (s : State) : Prop := args = #[.ref b] ∧ s.IntsAt b xs ∧ xs.length ≤ 2048 ∧ (Jvm.Cond.and given_1 narrow_1).before args s = true
def lw_Q (_ : Array Value) (s : State) (o : Outcome) (t : State) : Prop := o = .returned (some (.int 1)) ∧ Framed s o t [] 600000 7302250
def lw_Z (below : List Frame) (a : Array Value) (s : State) : State → Prop := fun t => ∃ o, t.status = .running ∧ Ended t below o ∧ lw_Q a s o t
/-- the law's own end, with 1 on the stack, nothing written that was there before, its room as the claim has it -/
theorem lw_ret {p : Program} {l : Launch} {e : Env} {s : State} {m : MethodId} {below : List Frame} {meth : Method} {c : Code} {b : Nat} (hx : p.tables.exec = Jvm.exec) (hb : c.code = code) (hr : meth.sig.returnType = ret) (hlocks : meth.locks = false) {pc : Nat} {H : Heap} {ls : Array Slot} (hdg : decode code pc = .ok (.ireturn, 1)) : W p l e room_1 s m #[Value.ref b] below meth c H [] 600000 7302250 (lw_Z below #[Value.ref b] s) (F0 m pc ls [.int 1]) := by
  intro T hT X
  obtain ⟨fs, hret, hrun, hended, hW, hframe⟩ := X.leave (v := some (.int 1)) (hlocks := hlocks) (fun h => by rw [hr] at h; cases h)
  have hmeth' : T.vm.method? m = some meth := X.method'
  refine ⟨T.setFrames fs, ?_, .returned (some (.int 1)), hrun, hended, rfl, ⟨_, rfl⟩, hW, hframe⟩
  jvm_step X.here [X.here.top, hx, hb, hdg, hmeth', hr, ret, narrow_b1]
  (try refine ⟨rfl, ?_⟩); (try refine ⟨rfl, ?_⟩)
  first | (intro acts; rw [hret _ acts rfl rfl rfl]) | rw [hret _ _ rfl rfl rfl]
  exact Steps.refl _
/-- what holds at the law's entry: the machine, the code, the tables' words (any of lw_tbl by 'hts w (by decide +kernel)'), the script of L ints xs at the cell b, what the Statement gives of the start (any of its parts by flat_of_before) -/
def lw_At (p : Program) (s : State) (m : MethodId) (meth : Method) (c : Code) (b L : Nat) (xs : Nat → Int32) : Prop :=
  p.tables.exec = Jvm.exec ∧ c.code = code ∧ meth.sig.returnType = ret ∧ c.maxLocals = 4 ∧ s.vm.findClass R_law = some m.cls ∧ (∀ w ∈ lw_tbl, w.before #[Value.ref b] s = true) ∧ va_X b L xs s s.heap ∧ b < s.heap.size ∧ meth.locks = false ∧ (Jvm.Cond.and given_1 narrow_1).before #[Value.ref b] s = true
theorem R_run {X : XM} {Y : MM} (hR : zR X Y) {x' a b : Int32} {v1 v2 : Int64} (h1 : (zin X.1 x' ∧ v1 = zout X.2.1 (X.2.2.1 x'.toInt.toNat) (X.2.2.2.2.1 x'.toInt.toNat) a b) ∨ (¬ zin X.1 x' ∧ v1 = zNOT)) (h2 : (zin Y.1 x' ∧ v2 = zout Y.2.2.2.2.2.2.1 (Y.2.2.1 x'.toInt.toNat) (fun k => Y.2.2.2.1 (12 * x'.toInt.toNat + k)) a b) ∨ (¬ zin Y.1 x' ∧ v2 = zNOT)) : v1 = v2 := by
  obtain ⟨r1, r2, r3, r4, r5, r6, r7, r8, r9, r10, r11, r12, r13⟩ := id hR
  rw [← r1] at h2
  rcases h1 with ⟨p1, rfl⟩ | ⟨p1, rfl⟩ <;> rcases h2 with ⟨q1, rfl⟩ | ⟨q1, rfl⟩ <;> first | rfl | exact absurd p1 q1 | exact absurd q1 p1 | skip
  have hz := p1
  unfold zin at hz
  have q := r11 x'.toInt.toNat (by omega)
  rw [← r2, ← q.2.1]
  exact zout_st (fun k hk => q.2.2.2.2 k hk)
theorem R_alt {α : Type} {p q : Prop} {v1 v2 e d : α} (h1 : (p ∧ q ∧ v1 = e) ∨ (¬ (p ∧ q) ∧ v1 = d)) (h2 : (p ∧ q ∧ v2 = e) ∨ (¬ (p ∧ q) ∧ v2 = d)) : v1 = v2 := by
  rcases h1 with ⟨p1, p2, rfl⟩ | ⟨p1, rfl⟩ <;> rcases h2 with ⟨q1, q2, rfl⟩ | ⟨q1, rfl⟩ <;> first | rfl | exact absurd ⟨p1, p2⟩ q1 | exact absurd ⟨q1, q2⟩ p1
theorem R_differ {n : Nat} {ra : Nat → Nat} {o : Nat → Int32 → Int32 → Int64} {x' y' v1 v2 : Int32} (h1 : qDiffer n ra o x' y' v1) (h2 : qDiffer n ra o x' y' v2) : v1 = v2 := by
  unfold qDiffer at h1 h2
  rcases h1 with ⟨p1, rfl⟩ | ⟨p1, p2, p3, rfl⟩ | ⟨p1, p2, p3, p4, rfl⟩ | ⟨p1, p2, p3, p4, rfl⟩ <;> rcases h2 with ⟨q1, rfl⟩ | ⟨q1, q2, q3, rfl⟩ | ⟨q1, q2, q3, q4, rfl⟩ | ⟨q1, q2, q3, q4, rfl⟩ <;> first | rfl | exact absurd ⟨p1, p2⟩ q1 | exact absurd ⟨q1, q2⟩ p1 | exact absurd q3 p3 | exact absurd p3 q3 | (exfalso; omega)
theorem R_same {n : Nat} {ra : Nat → Nat} {o : Nat → Int32 → Int32 → Int64} {x' y' v1 v2 : Int32} (h1 : qSame n ra o x' y' v1) (h2 : qSame n ra o x' y' v2) : v1 = v2 := by
  unfold qSame at h1 h2
  rcases h1 with ⟨p1, rfl⟩ | ⟨p1, p2, p3, rfl⟩ | ⟨p1, p2, p3, p4, rfl⟩ | ⟨p1, p2, p3, p4, rfl⟩ <;> rcases h2 with ⟨q1, rfl⟩ | ⟨q1, q2, q3, rfl⟩ | ⟨q1, q2, q3, q4, rfl⟩ | ⟨q1, q2, q3, q4, rfl⟩ <;> first | rfl | exact absurd ⟨p1, p2⟩ q1 | exact absurd ⟨q1, q2⟩ p1 | exact absurd q3 p3 | exact absurd p3 q3 | (exfalso; omega)
theorem R_first {n : Nat} {ra : Nat → Nat} {o : Nat → Int32 → Int32 → Int64} {x' v1 v2 : Int32} (h1 : qFirst n ra o x' v1) (h2 : qFirst n ra o x' v2) : v1 = v2 := by
  unfold qFirst at h1 h2
  rcases h1 with ⟨p1, rfl⟩ | ⟨p1, rfl⟩ <;> rcases h2 with ⟨q1, rfl⟩ | ⟨q1, rfl⟩ <;> first | rfl | exact absurd p1 q1 | exact absurd q1 p1
theorem l_sld {p : Program} {l : Launch} {e : Env} {R : Room} {s : State} {m : MethodId} {args : Array Value} {below : List Frame} {meth : Method} {c : Code} {H : Heap} {locs : List Loc} {cells slots : Nat} {Q : State → Prop} {cc : ByteArray} {pc nL : Nat} {ls : Array Slot} {rest : List Value} {own : String} {GX : XG} {GM : MG} {X : XX} {Y : YY} {b L : Nat} {xs : Nat → Int32} (F : CallFix p m c cc nL s args gtbl own) (hX : va_X b L xs s s.heap) (hbl : b < s.heap.size) (hW : lW GX GM s s.heap H locs X Y) {j : Nat} (hj : j < L) (hL2 : L ≤ 2048) (hdg : decode cc pc = .ok (.iaload, 1)) (kk : W p l e R s m args below meth c H locs cells slots Q (F0 m (pc + 1) ls (.int (xs j) :: rest))) : W p l e R s m args below meth c H locs cells slots Q (F0 m pc ls (.int (nI j) :: .ref b :: rest)) := by
  refine va_sld F.1 F.2.1 hX hbl (Nat.not_le.mpr hbl) hW.2.2.2.2.2 (vp_in_nI hj (by omega)) hdg ?_
  rw [nI_clamp (by omega)]
  exact kk
set_option maxHeartbeats 40000000 in
set_option maxRecDepth 100000 in
theorem law_loop {p : Program} {e : Env} {s : State} {m : MethodId} {below : List Frame} {meth : Method} {c : Code} (l : Launch) {b L : Nat} {xs : Nat → Int32} (hL : L ≤ 2048) (C0 : lw_At p s m meth c b L xs) (GX : XG) (GM : MG) : ∀ (k i : Nat) (X : XX) (Y : YY), L - i = k → i ≤ L → zR X.1 Y.1 → ∀ (H : Heap) (locs : List Loc) (ls : Array Slot), lW GX GM s s.heap H locs X Y → lv_has ls 4 [(3, .int (nI i)), (2, .ref (mga GM 0)), (1, .ref (xga GX 0)), (0, .ref b)] → W p l e room_1 s m #[Value.ref b] below meth c H locs 600000 7302250 (lw_Z below #[Value.ref b] s) (F0 m 18 ls []) := by
  obtain ⟨hx, hb, hrr, hml, hown, hts, hX, hbl, hlocks, hgv⟩ := id C0
  have F : CallFix p m c code 4 s #[Value.ref b] gtbl "DoFinderLaw" := ⟨hx, hb, hml, hown, fun w hw => hts w (gt_in w hw)⟩
  intro k
  induction k using Nat.strongRecOn with
  | ind k ih =>
    intro i X Y hk hi hR H locs ls hW hl
    obtain ⟨r1, r2, r3, r4, r5, r6, r7, r8, r9, r10, r11, r12, r13⟩ := id hR
    have yn : Y.1.1 ≤ 12 := by rw [← r1]; exact r6
    have yw : Y.1.2.2.2.2.1 ≤ 12 := by rw [← r5]; exact r10
    have yf : Y.1.2.2.2.2.2.2.1 ≤ 200 := by rw [← r2]; exact r7
    have yc : Y.1.2.2.2.2.2.2.2.2.1 ≤ 8 := by rw [← r4]; exact r9
    have ya : Y.1.2.2.2.2.2.2.2.1 = 1 ∨ Y.1.2.2.2.2.2.2.2.1 = 2 := by rw [← r3]; exact r8
    have yrc : ∀ r, r < Y.1.1 → Y.1.2.2.1 r ≤ 12 := fun r h => by rw [← (r11 r (by omega)).2.1]; exact (r11 r (by omega)).2.2.1
    have yra : ∀ r, r < Y.1.1 → Y.1.2.1 r = 1 ∨ Y.1.2.1 r = 2 := fun r h => by rw [← (r11 r (by omega)).1]; exact (r11 r (by omega)).2.2.2.1
    refine lv_iload_n F.1 F.2.1 dL_law_18 rfl (lv_at hl 0 rfl) ?_
    refine lv_aload_n F.1 F.2.1 dL_law_19 rfl (lv_at hl 3 rfl) ?_
    refine va_slen F.1 F.2.1 hX hbl (Nat.not_le.mpr hbl) hW.2.2.2.2.2 dL_law_20 ?_
    refine ax_re (show Int32.ofNat L = nI L from rfl) ?_
    refine lv_iconst (v := nI 4) F.1 F.2.1 dL_law_21 (by decide) ?_
    refine ax_sub F rfl dL_law_22 ?_
    refine ax_nm (a := (L : Int) - 4) (ci_sub (nI_toInt (by omega)) (by decide) (by omega) (by omega)) (fun v1 hv1 => ?_)
    refine lv_icmp_gt (tgt := 860) F.1 F.2.1 dL_law_23 (by decide) (fun c23 => ?_) (fun c23 => ?_)
    · refine lv_iconst (v := 1) F.1 F.2.1 dL_law_860 (by decide) ?_
      refine va_forget hW.2.2.2.2.2.2.2 ?_
      exact lw_ret hx hb hrr hlocks dL_law_861
    · have c23 := ci_nlt (a := (L : Int) - 4) (b := (i : Int)) hv1 (nI_toInt (by omega)) c23
      refine lv_aload_n F.1 F.2.1 dL_law_26 rfl (lv_at hl 3 rfl) ?_
      refine lv_iload_n F.1 F.2.1 dL_law_27 rfl (lv_at hl 0 rfl) ?_
      refine l_sld F hX hbl hW (show i < L by omega) hL dL_law_28 ?_
      refine lv_bipush (v := nI 31) F.1 F.2.1 dL_law_29 (by decide) ?_
      refine lv_iand F.1 F.2.1 dL_law_31 ?_
      obtain ⟨j, hj, ej⟩ := pk_andE (xs i) (m := nI 31) 5 (by decide)
      refine ax_re ej ?_
      have ej2 : (nI j).toInt = (j : Int) := nI_toInt (by omega)
      have back : ∀ (u1 : XX) (u2 : YY) (H : Heap) (locs : List Loc) (ls : Array Slot), lW GX GM s s.heap H locs u1 u2 → zR u1.1 u2.1 → lv_has ls 4 [(3, .int (nI i)), (2, .ref (mga GM 0)), (1, .ref (xga GX 0)), (0, .ref b)] → W p l e room_1 s m #[Value.ref b] below meth c H locs 600000 7302250 (lw_Z below #[Value.ref b] s) (F0 m 854 ls []) := by
        intro u1 u2 H locs ls hW hR hl
        refine lv_iinc (v := nI (i + 4)) (lv' := [(3, .int (nI (i + 4))), (2, .ref (mga GM 0)), (1, .ref (xga GX 0)), (0, .ref b)]) F.1 F.2.1 dL_law_854 hl (k := 0) rfl (nI_add _ 4) (by decide) rfl (fun ls hl => ?_)
        refine lv_goto (tgt := 18) F.1 F.2.1 dL_law_857 (by decide) ?_
        exact ih (L - (i + 4)) (by omega) (i + 4) u1 u2 rfl (by omega) hR H locs ls hW hl
      by_cases jo : 23 < j
      · refine lv_tableOut (tgt := 854) F.1 F.2.1 dL_law_32 (by rw [ej2]; omega) (by decide) ?_
        exact back _ _ _ _ ls hW hR hl
      by_cases j0 : j = 0
      · skip
        refine lv_tableIn (tgt := 144) (off := 112) F.1 F.2.1 dL_law_32 (by rw [ej2]; omega) (by rw [ej2]; omega) (by rw [ej2, show ((j : Int) - 0).toNat = 0 by omega]; rfl) (by decide) ?_
        refine lv_aload_n F.1 F.2.1 dL_law_144 rfl (lv_at hl 2 rfl) ?_
        refine lv_aload_n F.1 F.2.1 dL_law_145 rfl (lv_at hl 3 rfl) ?_
        refine lv_iload_n F.1 F.2.1 dL_law_146 rfl (lv_at hl 0 rfl) ?_
        refine lv_iconst (v := nI 1) F.1 F.2.1 dL_law_147 (by decide) ?_
        refine ax_add (z := nI (i + 1)) F (nI_add _ _) dL_law_148 ?_
        refine l_sld F hX hbl hW (show i + 1 < L by omega) hL dL_law_149 ?_
        refine lx_i (As := [.int (xs (i + 1))]) (rest := []) F (c_X7_step l GX X.1 X.2.1 X.2.2.1 X.2.2.2 r10 (xs (i + 1))) (xcw F.2.2.2.2 ca_X7_step tm_195 rfl rfl ⟨by decide, by decide⟩) hW rfl hl.1 rfl (Nat.le_of_ble_eq_true rfl) dL_law_150 ⟨by decide, by decide⟩ (fun rx ux H locs hpx hW => ?_)
        refine lv_aload_n F.1 F.2.1 dL_law_153 rfl (lv_at hl 1 rfl) ?_
        refine lv_aload_n F.1 F.2.1 dL_law_154 rfl (lv_at hl 3 rfl) ?_
        refine lv_iload_n F.1 F.2.1 dL_law_155 rfl (lv_at hl 0 rfl) ?_
        refine lv_iconst (v := nI 1) F.1 F.2.1 dL_law_156 (by decide) ?_
        refine ax_add (z := nI (i + 1)) F (nI_add _ _) dL_law_157 ?_
        refine l_sld F hX hbl hW (show i + 1 < L by omega) hL dL_law_158 ?_
        refine lm_i (As := [.int (xs (i + 1))]) (rest := [.int rx]) F (c_X8_step l GM Y.1 Y.2.1 Y.2.2.1 Y.2.2.2.1 Y.2.2.2.2 yw (xs (i + 1))) (xcw F.2.2.2.2 ca_X8_step tm_573 rfl rfl ⟨by decide, by decide⟩) hW rfl hl.1 rfl (Nat.le_of_ble_eq_true rfl) dL_law_159 ⟨by decide, by decide⟩ (fun rm um H locs hpm hW => ?_)
        obtain ⟨e, hR2⟩ := R_step (P := X.2.1) (P8 := Y.2.1) hR hpx hpm
        refine lv_icmp_eq (tgt := 854) F.1 F.2.1 dL_law_162 (by decide) (fun _ => ?_) (fun q => absurd e q)
        exact back _ _ _ _ ls hW hR2 hl
      by_cases j1 : j = 1
      · skip
        refine lv_tableIn (tgt := 167) (off := 135) F.1 F.2.1 dL_law_32 (by rw [ej2]; omega) (by rw [ej2]; omega) (by rw [ej2, show ((j : Int) - 0).toNat = 1 by omega]; rfl) (by decide) ?_
        refine lv_aload_n F.1 F.2.1 dL_law_167 rfl (lv_at hl 2 rfl) ?_
        refine lx_i (As := []) (rest := []) F (c_X7_scrap l GX X.1 X.2.1 X.2.2.1 X.2.2.2 r10) (xcw F.2.2.2.2 ca_X7_scrap tm_206 rfl rfl ⟨by decide, by decide⟩) hW rfl hl.1 rfl (Nat.le_of_ble_eq_true rfl) dL_law_168 ⟨by decide, by decide⟩ (fun rx ux H locs hpx hW => ?_)
        refine lv_aload_n F.1 F.2.1 dL_law_171 rfl (lv_at hl 1 rfl) ?_
        refine lm_i (As := []) (rest := [.int rx]) F (c_X8_scrap l GM Y.1 Y.2.1 Y.2.2.1 Y.2.2.2.1 Y.2.2.2.2 yw) (xcw F.2.2.2.2 ca_X8_scrap tm_580 rfl rfl ⟨by decide, by decide⟩) hW rfl hl.1 rfl (Nat.le_of_ble_eq_true rfl) dL_law_172 ⟨by decide, by decide⟩ (fun rm um H locs hpm hW => ?_)
        obtain ⟨e, hR2⟩ := R_scrap (P := X.2.1) (P8 := Y.2.1) hR hpx hpm
        refine lv_icmp_eq (tgt := 854) F.1 F.2.1 dL_law_175 (by decide) (fun _ => ?_) (fun q => absurd e q)
        exact back _ _ _ _ ls hW hR2 hl
      by_cases j2 : j = 2
      · skip
        refine lv_tableIn (tgt := 180) (off := 148) F.1 F.2.1 dL_law_32 (by rw [ej2]; omega) (by rw [ej2]; omega) (by rw [ej2, show ((j : Int) - 0).toNat = 2 by omega]; rfl) (by decide) ?_
        refine lv_aload_n F.1 F.2.1 dL_law_180 rfl (lv_at hl 2 rfl) ?_
        refine lv_aload_n F.1 F.2.1 dL_law_181 rfl (lv_at hl 3 rfl) ?_
        refine lv_iload_n F.1 F.2.1 dL_law_182 rfl (lv_at hl 0 rfl) ?_
        refine lv_iconst (v := nI 1) F.1 F.2.1 dL_law_183 (by decide) ?_
        refine ax_add (z := nI (i + 1)) F (nI_add _ _) dL_law_184 ?_
        refine l_sld F hX hbl hW (show i + 1 < L by omega) hL dL_law_185 ?_
        refine lx_i (As := [.int (xs (i + 1))]) (rest := []) F (c_X7_add l GX X.1 X.2.1 X.2.2.1 X.2.2.2 r6 r10 (xs (i + 1))) (xcw F.2.2.2.2 ca_X7_add tm_210 rfl rfl ⟨by decide, by decide⟩) hW rfl hl.1 rfl (Nat.le_of_ble_eq_true rfl) dL_law_186 ⟨by decide, by decide⟩ (fun rx ux H locs hpx hW => ?_)
        refine lv_aload_n F.1 F.2.1 dL_law_189 rfl (lv_at hl 1 rfl) ?_
        refine lv_aload_n F.1 F.2.1 dL_law_190 rfl (lv_at hl 3 rfl) ?_
        refine lv_iload_n F.1 F.2.1 dL_law_191 rfl (lv_at hl 0 rfl) ?_
        refine lv_iconst (v := nI 1) F.1 F.2.1 dL_law_192 (by decide) ?_
        refine ax_add (z := nI (i + 1)) F (nI_add _ _) dL_law_193 ?_
        refine l_sld F hX hbl hW (show i + 1 < L by omega) hL dL_law_194 ?_
        refine lm_i (As := [.int (xs (i + 1))]) (rest := [.int rx]) F (c_X8_add l GM Y.1 Y.2.1 Y.2.2.1 Y.2.2.2.1 Y.2.2.2.2 yn yw (xs (i + 1))) (xcw F.2.2.2.2 ca_X8_add tm_584 rfl rfl ⟨by decide, by decide⟩) hW rfl hl.1 rfl (Nat.le_of_ble_eq_true rfl) dL_law_195 ⟨by decide, by decide⟩ (fun rm um H locs hpm hW => ?_)
        obtain ⟨e, hR2⟩ := R_add (P := X.2.1) (P8 := Y.2.1) hR hpx hpm
        refine lv_icmp_eq (tgt := 854) F.1 F.2.1 dL_law_198 (by decide) (fun _ => ?_) (fun q => absurd e q)
        exact back _ _ _ _ ls hW hR2 hl
      by_cases j3 : j = 3
      · skip
        refine lv_tableIn (tgt := 203) (off := 171) F.1 F.2.1 dL_law_32 (by rw [ej2]; omega) (by rw [ej2]; omega) (by rw [ej2, show ((j : Int) - 0).toNat = 3 by omega]; rfl) (by decide) ?_
        refine lv_aload_n F.1 F.2.1 dL_law_203 rfl (lv_at hl 2 rfl) ?_
        refine lv_aload_n F.1 F.2.1 dL_law_204 rfl (lv_at hl 3 rfl) ?_
        refine lv_iload_n F.1 F.2.1 dL_law_205 rfl (lv_at hl 0 rfl) ?_
        refine lv_iconst (v := nI 1) F.1 F.2.1 dL_law_206 (by decide) ?_
        refine ax_add (z := nI (i + 1)) F (nI_add _ _) dL_law_207 ?_
        refine l_sld F hX hbl hW (show i + 1 < L by omega) hL dL_law_208 ?_
        refine lv_aload_n F.1 F.2.1 dL_law_209 rfl (lv_at hl 3 rfl) ?_
        refine lv_iload_n F.1 F.2.1 dL_law_210 rfl (lv_at hl 0 rfl) ?_
        refine lv_iconst (v := nI 2) F.1 F.2.1 dL_law_211 (by decide) ?_
        refine ax_add (z := nI (i + 2)) F (nI_add _ _) dL_law_212 ?_
        refine l_sld F hX hbl hW (show i + 2 < L by omega) hL dL_law_213 ?_
        refine lv_aload_n F.1 F.2.1 dL_law_214 rfl (lv_at hl 3 rfl) ?_
        refine lv_iload_n F.1 F.2.1 dL_law_215 rfl (lv_at hl 0 rfl) ?_
        refine lv_iconst (v := nI 3) F.1 F.2.1 dL_law_216 (by decide) ?_
        refine ax_add (z := nI (i + 3)) F (nI_add _ _) dL_law_217 ?_
        refine l_sld F hX hbl hW (show i + 3 < L by omega) hL dL_law_218 ?_
        refine lx_i (As := [.int (xs (i + 1)), .int (xs (i + 2)), .int (xs (i + 3))]) (rest := []) F (c_X7_mend l GX X.1 X.2.1 X.2.2.1 X.2.2.2 r6 (fun r h => (r11 r h).2.2.1) (fun r h => (r11 r h).2.2.2.1) (xs (i + 1)) (xs (i + 2)) (xs (i + 3))) (xcw F.2.2.2.2 ca_X7_mend tm_240 rfl rfl ⟨by decide, by decide⟩) hW rfl hl.1 rfl (Nat.le_of_ble_eq_true rfl) dL_law_219 ⟨by decide, by decide⟩ (fun rx ux H locs hpx hW => ?_)
        refine lv_aload_n F.1 F.2.1 dL_law_222 rfl (lv_at hl 1 rfl) ?_
        refine lv_aload_n F.1 F.2.1 dL_law_223 rfl (lv_at hl 3 rfl) ?_
        refine lv_iload_n F.1 F.2.1 dL_law_224 rfl (lv_at hl 0 rfl) ?_
        refine lv_iconst (v := nI 1) F.1 F.2.1 dL_law_225 (by decide) ?_
        refine ax_add (z := nI (i + 1)) F (nI_add _ _) dL_law_226 ?_
        refine l_sld F hX hbl hW (show i + 1 < L by omega) hL dL_law_227 ?_
        refine lv_aload_n F.1 F.2.1 dL_law_228 rfl (lv_at hl 3 rfl) ?_
        refine lv_iload_n F.1 F.2.1 dL_law_229 rfl (lv_at hl 0 rfl) ?_
        refine lv_iconst (v := nI 2) F.1 F.2.1 dL_law_230 (by decide) ?_
        refine ax_add (z := nI (i + 2)) F (nI_add _ _) dL_law_231 ?_
        refine l_sld F hX hbl hW (show i + 2 < L by omega) hL dL_law_232 ?_
        refine lv_aload_n F.1 F.2.1 dL_law_233 rfl (lv_at hl 3 rfl) ?_
        refine lv_iload_n F.1 F.2.1 dL_law_234 rfl (lv_at hl 0 rfl) ?_
        refine lv_iconst (v := nI 3) F.1 F.2.1 dL_law_235 (by decide) ?_
        refine ax_add (z := nI (i + 3)) F (nI_add _ _) dL_law_236 ?_
        refine l_sld F hX hbl hW (show i + 3 < L by omega) hL dL_law_237 ?_
        refine lm_i (As := [.int (xs (i + 1)), .int (xs (i + 2)), .int (xs (i + 3))]) (rest := [.int rx]) F (c_X8_mend l GM Y.1 Y.2.1 Y.2.2.1 Y.2.2.2.1 Y.2.2.2.2 yn yrc yra (xs (i + 1)) (xs (i + 2)) (xs (i + 3))) (xcw F.2.2.2.2 ca_X8_mend tm_591 rfl rfl ⟨by decide, by decide⟩) hW rfl hl.1 rfl (Nat.le_of_ble_eq_true rfl) dL_law_238 ⟨by decide, by decide⟩ (fun rm um H locs hpm hW => ?_)
        obtain ⟨e, hR2⟩ := R_mend (P := X.2.1) (P8 := Y.2.1) hR hpx hpm
        refine lv_icmp_eq (tgt := 854) F.1 F.2.1 dL_law_241 (by decide) (fun _ => ?_) (fun q => absurd e q)
        exact back _ _ _ _ ls hW hR2 hl
      by_cases j4 : j = 4
      · skip
        refine lv_tableIn (tgt := 246) (off := 214) F.1 F.2.1 dL_law_32 (by rw [ej2]; omega) (by rw [ej2]; omega) (by rw [ej2, show ((j : Int) - 0).toNat = 4 by omega]; rfl) (by decide) ?_
        refine lv_aload_n F.1 F.2.1 dL_law_246 rfl (lv_at hl 2 rfl) ?_
        refine lv_aload_n F.1 F.2.1 dL_law_247 rfl (lv_at hl 3 rfl) ?_
        refine lv_iload_n F.1 F.2.1 dL_law_248 rfl (lv_at hl 0 rfl) ?_
        refine lv_iconst (v := nI 1) F.1 F.2.1 dL_law_249 (by decide) ?_
        refine ax_add (z := nI (i + 1)) F (nI_add _ _) dL_law_250 ?_
        refine l_sld F hX hbl hW (show i + 1 < L by omega) hL dL_law_251 ?_
        refine lv_aload_n F.1 F.2.1 dL_law_252 rfl (lv_at hl 3 rfl) ?_
        refine lv_iload_n F.1 F.2.1 dL_law_253 rfl (lv_at hl 0 rfl) ?_
        refine lv_iconst (v := nI 2) F.1 F.2.1 dL_law_254 (by decide) ?_
        refine ax_add (z := nI (i + 2)) F (nI_add _ _) dL_law_255 ?_
        refine l_sld F hX hbl hW (show i + 2 < L by omega) hL dL_law_256 ?_
        refine lx_i (As := [.int (xs (i + 1)), .int (xs (i + 2))]) (rest := []) F (c_X7_of l GX X.1 X.2.1 X.2.2.1 X.2.2.2 r6 (fun r h => (r11 r h).2.2.1) (fun r h => (r11 r h).2.2.2.1) (xs (i + 1)) (xs (i + 2))) (xcw F.2.2.2.2 ca_X7_of tm_250 rfl rfl ⟨by decide, by decide⟩) hW rfl hl.1 rfl (Nat.le_of_ble_eq_true rfl) dL_law_257 ⟨by decide, by decide⟩ (fun rx ux H locs hpx hW => ?_)
        refine lv_aload_n F.1 F.2.1 dL_law_260 rfl (lv_at hl 1 rfl) ?_
        refine lv_aload_n F.1 F.2.1 dL_law_261 rfl (lv_at hl 3 rfl) ?_
        refine lv_iload_n F.1 F.2.1 dL_law_262 rfl (lv_at hl 0 rfl) ?_
        refine lv_iconst (v := nI 1) F.1 F.2.1 dL_law_263 (by decide) ?_
        refine ax_add (z := nI (i + 1)) F (nI_add _ _) dL_law_264 ?_
        refine l_sld F hX hbl hW (show i + 1 < L by omega) hL dL_law_265 ?_
        refine lv_aload_n F.1 F.2.1 dL_law_266 rfl (lv_at hl 3 rfl) ?_
        refine lv_iload_n F.1 F.2.1 dL_law_267 rfl (lv_at hl 0 rfl) ?_
        refine lv_iconst (v := nI 2) F.1 F.2.1 dL_law_268 (by decide) ?_
        refine ax_add (z := nI (i + 2)) F (nI_add _ _) dL_law_269 ?_
        refine l_sld F hX hbl hW (show i + 2 < L by omega) hL dL_law_270 ?_
        refine lm_i (As := [.int (xs (i + 1)), .int (xs (i + 2))]) (rest := [.int rx]) F (c_X8_of l GM Y.1 Y.2.1 Y.2.2.1 Y.2.2.2.1 Y.2.2.2.2 yn yrc yra (xs (i + 1)) (xs (i + 2))) (xcw F.2.2.2.2 ca_X8_of tm_599 rfl rfl ⟨by decide, by decide⟩) hW rfl hl.1 rfl (Nat.le_of_ble_eq_true rfl) dL_law_271 ⟨by decide, by decide⟩ (fun rm um H locs hpm hW => ?_)
        obtain ⟨e, hR2⟩ := R_of (P := X.2.1) (P8 := Y.2.1) hR hpx hpm
        refine lv_icmp_eq (tgt := 854) F.1 F.2.1 dL_law_274 (by decide) (fun _ => ?_) (fun q => absurd e q)
        exact back _ _ _ _ ls hW hR2 hl
      by_cases j5 : j = 5
      · skip
        refine lv_tableIn (tgt := 279) (off := 247) F.1 F.2.1 dL_law_32 (by rw [ej2]; omega) (by rw [ej2]; omega) (by rw [ej2, show ((j : Int) - 0).toNat = 5 by omega]; rfl) (by decide) ?_
        refine lv_aload_n F.1 F.2.1 dL_law_279 rfl (lv_at hl 2 rfl) ?_
        refine lv_aload_n F.1 F.2.1 dL_law_280 rfl (lv_at hl 3 rfl) ?_
        refine lv_iload_n F.1 F.2.1 dL_law_281 rfl (lv_at hl 0 rfl) ?_
        refine lv_iconst (v := nI 1) F.1 F.2.1 dL_law_282 (by decide) ?_
        refine ax_add (z := nI (i + 1)) F (nI_add _ _) dL_law_283 ?_
        refine l_sld F hX hbl hW (show i + 1 < L by omega) hL dL_law_284 ?_
        refine lv_aload_n F.1 F.2.1 dL_law_285 rfl (lv_at hl 3 rfl) ?_
        refine lv_iload_n F.1 F.2.1 dL_law_286 rfl (lv_at hl 0 rfl) ?_
        refine lv_iconst (v := nI 2) F.1 F.2.1 dL_law_287 (by decide) ?_
        refine ax_add (z := nI (i + 2)) F (nI_add _ _) dL_law_288 ?_
        refine l_sld F hX hbl hW (show i + 2 < L by omega) hL dL_law_289 ?_
        refine lv_aload_n F.1 F.2.1 dL_law_290 rfl (lv_at hl 3 rfl) ?_
        refine lv_iload_n F.1 F.2.1 dL_law_291 rfl (lv_at hl 0 rfl) ?_
        refine lv_iconst (v := nI 3) F.1 F.2.1 dL_law_292 (by decide) ?_
        refine ax_add (z := nI (i + 3)) F (nI_add _ _) dL_law_293 ?_
        refine l_sld F hX hbl hW (show i + 3 < L by omega) hL dL_law_294 ?_
        refine lx_l (As := [.int (xs (i + 1)), .int (xs (i + 2)), .int (xs (i + 3))]) (rest := []) F (k_X7_run l GX X.1 X.2.1 X.2.2.1 X.2.2.2 r6 (fun r h => (r11 r h).2.2.1) (fun r h => (r11 r h).2.2.2.1) r7 (xs (i + 1)) (xs (i + 2)) (xs (i + 3))) (xcw F.2.2.2.2 ca_X7_run tm_254 rfl rfl ⟨by decide, by decide⟩) hW rfl hl.1 rfl (Nat.le_of_ble_eq_true rfl) dL_law_295 ⟨by decide, by decide⟩ (fun rx ux H locs hpx hW => ?_)
        refine lv_aload_n F.1 F.2.1 dL_law_298 rfl (lv_at hl 1 rfl) ?_
        refine lv_aload_n F.1 F.2.1 dL_law_299 rfl (lv_at hl 3 rfl) ?_
        refine lv_iload_n F.1 F.2.1 dL_law_300 rfl (lv_at hl 0 rfl) ?_
        refine lv_iconst (v := nI 1) F.1 F.2.1 dL_law_301 (by decide) ?_
        refine ax_add (z := nI (i + 1)) F (nI_add _ _) dL_law_302 ?_
        refine l_sld F hX hbl hW (show i + 1 < L by omega) hL dL_law_303 ?_
        refine lv_aload_n F.1 F.2.1 dL_law_304 rfl (lv_at hl 3 rfl) ?_
        refine lv_iload_n F.1 F.2.1 dL_law_305 rfl (lv_at hl 0 rfl) ?_
        refine lv_iconst (v := nI 2) F.1 F.2.1 dL_law_306 (by decide) ?_
        refine ax_add (z := nI (i + 2)) F (nI_add _ _) dL_law_307 ?_
        refine l_sld F hX hbl hW (show i + 2 < L by omega) hL dL_law_308 ?_
        refine lv_aload_n F.1 F.2.1 dL_law_309 rfl (lv_at hl 3 rfl) ?_
        refine lv_iload_n F.1 F.2.1 dL_law_310 rfl (lv_at hl 0 rfl) ?_
        refine lv_iconst (v := nI 3) F.1 F.2.1 dL_law_311 (by decide) ?_
        refine ax_add (z := nI (i + 3)) F (nI_add _ _) dL_law_312 ?_
        refine l_sld F hX hbl hW (show i + 3 < L by omega) hL dL_law_313 ?_
        refine lm_l (As := [.int (xs (i + 1)), .int (xs (i + 2)), .int (xs (i + 3))]) (rest := [.long rx]) F (k_X8_run l GM Y.1 Y.2.1 Y.2.2.1 Y.2.2.2.1 Y.2.2.2.2 yn yrc yra yf (xs (i + 1)) (xs (i + 2)) (xs (i + 3))) (xcw F.2.2.2.2 ca_X8_run tm_603 rfl rfl ⟨by decide, by decide⟩) hW rfl hl.1 rfl (Nat.le_of_ble_eq_true rfl) dL_law_314 ⟨by decide, by decide⟩ (fun rm um H locs hpm hW => ?_)
        refine W.lcmp F.1 F.2.1 dL_law_317 ?_
        obtain ⟨e1, _, rfl⟩ := hpx
        obtain ⟨e2, _, rfl⟩ := hpm
        have e := R_run hR e1 e2
        have hR2 : zR X.1 Y.1 := hR
        refine lv_if_eq (tgt := 854) F.1 F.2.1 dL_law_318 (by decide) (fun _ => ?_) (fun q => absurd ((lg_cmp_eq _ _).mpr e) q)
        exact back _ _ _ _ ls hW hR2 hl
      by_cases j6 : j = 6
      · skip
        refine lv_tableIn (tgt := 323) (off := 291) F.1 F.2.1 dL_law_32 (by rw [ej2]; omega) (by rw [ej2]; omega) (by rw [ej2, show ((j : Int) - 0).toNat = 6 by omega]; rfl) (by decide) ?_
        refine lv_aload_n F.1 F.2.1 dL_law_323 rfl (lv_at hl 2 rfl) ?_
        refine lv_aload_n F.1 F.2.1 dL_law_324 rfl (lv_at hl 3 rfl) ?_
        refine lv_iload_n F.1 F.2.1 dL_law_325 rfl (lv_at hl 0 rfl) ?_
        refine lv_iconst (v := nI 1) F.1 F.2.1 dL_law_326 (by decide) ?_
        refine ax_add (z := nI (i + 1)) F (nI_add _ _) dL_law_327 ?_
        refine l_sld F hX hbl hW (show i + 1 < L by omega) hL dL_law_328 ?_
        refine lv_aload_n F.1 F.2.1 dL_law_329 rfl (lv_at hl 3 rfl) ?_
        refine lv_iload_n F.1 F.2.1 dL_law_330 rfl (lv_at hl 0 rfl) ?_
        refine lv_iconst (v := nI 2) F.1 F.2.1 dL_law_331 (by decide) ?_
        refine ax_add (z := nI (i + 2)) F (nI_add _ _) dL_law_332 ?_
        refine l_sld F hX hbl hW (show i + 2 < L by omega) hL dL_law_333 ?_
        refine lv_aload_n F.1 F.2.1 dL_law_334 rfl (lv_at hl 3 rfl) ?_
        refine lv_iload_n F.1 F.2.1 dL_law_335 rfl (lv_at hl 0 rfl) ?_
        refine lv_iconst (v := nI 3) F.1 F.2.1 dL_law_336 (by decide) ?_
        refine ax_add (z := nI (i + 3)) F (nI_add _ _) dL_law_337 ?_
        refine l_sld F hX hbl hW (show i + 3 < L by omega) hL dL_law_338 ?_
        refine lx_i (As := [.int (xs (i + 1)), .int (xs (i + 2)), .int (xs (i + 3))]) (rest := []) F (c_X7_fuel l GX X.1 X.2.1 X.2.2.1 X.2.2.2 r6 (fun r h => (r11 r h).2.2.1) (fun r h => (r11 r h).2.2.2.1) r7 (xs (i + 1)) (xs (i + 2)) (xs (i + 3))) (xcw F.2.2.2.2 ca_X7_fuel tm_294 rfl rfl ⟨by decide, by decide⟩) hW rfl hl.1 rfl (Nat.le_of_ble_eq_true rfl) dL_law_339 ⟨by decide, by decide⟩ (fun rx ux H locs hpx hW => ?_)
        refine lv_aload_n F.1 F.2.1 dL_law_342 rfl (lv_at hl 1 rfl) ?_
        refine lv_aload_n F.1 F.2.1 dL_law_343 rfl (lv_at hl 3 rfl) ?_
        refine lv_iload_n F.1 F.2.1 dL_law_344 rfl (lv_at hl 0 rfl) ?_
        refine lv_iconst (v := nI 1) F.1 F.2.1 dL_law_345 (by decide) ?_
        refine ax_add (z := nI (i + 1)) F (nI_add _ _) dL_law_346 ?_
        refine l_sld F hX hbl hW (show i + 1 < L by omega) hL dL_law_347 ?_
        refine lv_aload_n F.1 F.2.1 dL_law_348 rfl (lv_at hl 3 rfl) ?_
        refine lv_iload_n F.1 F.2.1 dL_law_349 rfl (lv_at hl 0 rfl) ?_
        refine lv_iconst (v := nI 2) F.1 F.2.1 dL_law_350 (by decide) ?_
        refine ax_add (z := nI (i + 2)) F (nI_add _ _) dL_law_351 ?_
        refine l_sld F hX hbl hW (show i + 2 < L by omega) hL dL_law_352 ?_
        refine lv_aload_n F.1 F.2.1 dL_law_353 rfl (lv_at hl 3 rfl) ?_
        refine lv_iload_n F.1 F.2.1 dL_law_354 rfl (lv_at hl 0 rfl) ?_
        refine lv_iconst (v := nI 3) F.1 F.2.1 dL_law_355 (by decide) ?_
        refine ax_add (z := nI (i + 3)) F (nI_add _ _) dL_law_356 ?_
        refine l_sld F hX hbl hW (show i + 3 < L by omega) hL dL_law_357 ?_
        refine lm_i (As := [.int (xs (i + 1)), .int (xs (i + 2)), .int (xs (i + 3))]) (rest := [.int rx]) F (c_X8_fuel l GM Y.1 Y.2.1 Y.2.2.1 Y.2.2.2.1 Y.2.2.2.2 yn yrc yra yf (xs (i + 1)) (xs (i + 2)) (xs (i + 3))) (xcw F.2.2.2.2 ca_X8_fuel tm_632 rfl rfl ⟨by decide, by decide⟩) hW rfl hl.1 rfl (Nat.le_of_ble_eq_true rfl) dL_law_358 ⟨by decide, by decide⟩ (fun rm um H locs hpm hW => ?_)
        obtain ⟨e, hR2⟩ := R_fuel (P := X.2.1) (P8 := Y.2.1) hR hpx hpm
        refine lv_icmp_eq (tgt := 854) F.1 F.2.1 dL_law_361 (by decide) (fun _ => ?_) (fun q => absurd e q)
        exact back _ _ _ _ ls hW hR2 hl
      by_cases j7 : j = 7
      · skip
        refine lv_tableIn (tgt := 366) (off := 334) F.1 F.2.1 dL_law_32 (by rw [ej2]; omega) (by rw [ej2]; omega) (by rw [ej2, show ((j : Int) - 0).toNat = 7 by omega]; rfl) (by decide) ?_
        refine lv_aload_n F.1 F.2.1 dL_law_366 rfl (lv_at hl 2 rfl) ?_
        refine lv_aload_n F.1 F.2.1 dL_law_367 rfl (lv_at hl 3 rfl) ?_
        refine lv_iload_n F.1 F.2.1 dL_law_368 rfl (lv_at hl 0 rfl) ?_
        refine lv_iconst (v := nI 1) F.1 F.2.1 dL_law_369 (by decide) ?_
        refine ax_add (z := nI (i + 1)) F (nI_add _ _) dL_law_370 ?_
        refine l_sld F hX hbl hW (show i + 1 < L by omega) hL dL_law_371 ?_
        refine lx_i (As := [.int (xs (i + 1))]) (rest := []) F (c_X7_limit l GX X.1 X.2.1 X.2.2.1 X.2.2.2 r7 (xs (i + 1))) (xcw F.2.2.2.2 ca_X7_limit tm_298 rfl rfl ⟨by decide, by decide⟩) hW rfl hl.1 rfl (Nat.le_of_ble_eq_true rfl) dL_law_372 ⟨by decide, by decide⟩ (fun rx ux H locs hpx hW => ?_)
        refine lv_aload_n F.1 F.2.1 dL_law_375 rfl (lv_at hl 1 rfl) ?_
        refine lv_aload_n F.1 F.2.1 dL_law_376 rfl (lv_at hl 3 rfl) ?_
        refine lv_iload_n F.1 F.2.1 dL_law_377 rfl (lv_at hl 0 rfl) ?_
        refine lv_iconst (v := nI 1) F.1 F.2.1 dL_law_378 (by decide) ?_
        refine ax_add (z := nI (i + 1)) F (nI_add _ _) dL_law_379 ?_
        refine l_sld F hX hbl hW (show i + 1 < L by omega) hL dL_law_380 ?_
        refine lm_i (As := [.int (xs (i + 1))]) (rest := [.int rx]) F (c_X8_limit l GM Y.1 Y.2.1 Y.2.2.1 Y.2.2.2.1 Y.2.2.2.2 yf (xs (i + 1))) (xcw F.2.2.2.2 ca_X8_limit tm_636 rfl rfl ⟨by decide, by decide⟩) hW rfl hl.1 rfl (Nat.le_of_ble_eq_true rfl) dL_law_381 ⟨by decide, by decide⟩ (fun rm um H locs hpm hW => ?_)
        obtain ⟨e, hR2⟩ := R_limit (P := X.2.1) (P8 := Y.2.1) hR hpx hpm
        refine lv_icmp_eq (tgt := 854) F.1 F.2.1 dL_law_384 (by decide) (fun _ => ?_) (fun q => absurd e q)
        exact back _ _ _ _ ls hW hR2 hl
      by_cases j8 : j = 8
      · skip
        refine lv_tableIn (tgt := 389) (off := 357) F.1 F.2.1 dL_law_32 (by rw [ej2]; omega) (by rw [ej2]; omega) (by rw [ej2, show ((j : Int) - 0).toNat = 8 by omega]; rfl) (by decide) ?_
        refine lv_aload_n F.1 F.2.1 dL_law_389 rfl (lv_at hl 2 rfl) ?_
        refine lv_aload_n F.1 F.2.1 dL_law_390 rfl (lv_at hl 3 rfl) ?_
        refine lv_iload_n F.1 F.2.1 dL_law_391 rfl (lv_at hl 0 rfl) ?_
        refine lv_iconst (v := nI 1) F.1 F.2.1 dL_law_392 (by decide) ?_
        refine ax_add (z := nI (i + 1)) F (nI_add _ _) dL_law_393 ?_
        refine l_sld F hX hbl hW (show i + 1 < L by omega) hL dL_law_394 ?_
        refine lx_i (As := [.int (xs (i + 1))]) (rest := []) F (c_X7_ask l GX X.1 X.2.1 X.2.2.1 X.2.2.2 r9 (xs (i + 1))) (xcw F.2.2.2.2 ca_X7_ask tm_302 rfl rfl ⟨by decide, by decide⟩) hW rfl hl.1 rfl (Nat.le_of_ble_eq_true rfl) dL_law_395 ⟨by decide, by decide⟩ (fun rx ux H locs hpx hW => ?_)
        refine lv_aload_n F.1 F.2.1 dL_law_398 rfl (lv_at hl 1 rfl) ?_
        refine lv_aload_n F.1 F.2.1 dL_law_399 rfl (lv_at hl 3 rfl) ?_
        refine lv_iload_n F.1 F.2.1 dL_law_400 rfl (lv_at hl 0 rfl) ?_
        refine lv_iconst (v := nI 1) F.1 F.2.1 dL_law_401 (by decide) ?_
        refine ax_add (z := nI (i + 1)) F (nI_add _ _) dL_law_402 ?_
        refine l_sld F hX hbl hW (show i + 1 < L by omega) hL dL_law_403 ?_
        refine lm_i (As := [.int (xs (i + 1))]) (rest := [.int rx]) F (c_X8_ask l GM Y.1 Y.2.1 Y.2.2.1 Y.2.2.2.1 Y.2.2.2.2 yc (xs (i + 1))) (xcw F.2.2.2.2 ca_X8_ask tm_640 rfl rfl ⟨by decide, by decide⟩) hW rfl hl.1 rfl (Nat.le_of_ble_eq_true rfl) dL_law_404 ⟨by decide, by decide⟩ (fun rm um H locs hpm hW => ?_)
        obtain ⟨e, hR2⟩ := R_ask (P := X.2.1) (P8 := Y.2.1) hR hpx hpm
        refine lv_icmp_eq (tgt := 854) F.1 F.2.1 dL_law_407 (by decide) (fun _ => ?_) (fun q => absurd e q)
        exact back _ _ _ _ ls hW hR2 hl
      by_cases j9 : j = 9
      · skip
        refine lv_tableIn (tgt := 412) (off := 380) F.1 F.2.1 dL_law_32 (by rw [ej2]; omega) (by rw [ej2]; omega) (by rw [ej2, show ((j : Int) - 0).toNat = 9 by omega]; rfl) (by decide) ?_
        refine lv_aload_n F.1 F.2.1 dL_law_412 rfl (lv_at hl 2 rfl) ?_
        refine lv_aload_n F.1 F.2.1 dL_law_413 rfl (lv_at hl 3 rfl) ?_
        refine lv_iload_n F.1 F.2.1 dL_law_414 rfl (lv_at hl 0 rfl) ?_
        refine lv_iconst (v := nI 1) F.1 F.2.1 dL_law_415 (by decide) ?_
        refine ax_add (z := nI (i + 1)) F (nI_add _ _) dL_law_416 ?_
        refine l_sld F hX hbl hW (show i + 1 < L by omega) hL dL_law_417 ?_
        refine lv_aload_n F.1 F.2.1 dL_law_418 rfl (lv_at hl 3 rfl) ?_
        refine lv_iload_n F.1 F.2.1 dL_law_419 rfl (lv_at hl 0 rfl) ?_
        refine lv_iconst (v := nI 2) F.1 F.2.1 dL_law_420 (by decide) ?_
        refine ax_add (z := nI (i + 2)) F (nI_add _ _) dL_law_421 ?_
        refine l_sld F hX hbl hW (show i + 2 < L by omega) hL dL_law_422 ?_
        refine lv_aload_n F.1 F.2.1 dL_law_423 rfl (lv_at hl 3 rfl) ?_
        refine lv_iload_n F.1 F.2.1 dL_law_424 rfl (lv_at hl 0 rfl) ?_
        refine lv_iconst (v := nI 3) F.1 F.2.1 dL_law_425 (by decide) ?_
        refine ax_add (z := nI (i + 3)) F (nI_add _ _) dL_law_426 ?_
        refine l_sld F hX hbl hW (show i + 3 < L by omega) hL dL_law_427 ?_
        refine lx_i (As := [.int (xs (i + 1)), .int (xs (i + 2)), .int (xs (i + 3))]) (rest := []) F (c_X7_show l GX X.1 X.2.1 X.2.2.1 X.2.2.2 r9 r8 (xs (i + 1)) (xs (i + 2)) (xs (i + 3))) (xcw F.2.2.2.2 ca_X7_show tm_310 rfl rfl ⟨by decide, by decide⟩) hW rfl hl.1 rfl (Nat.le_of_ble_eq_true rfl) dL_law_428 ⟨by decide, by decide⟩ (fun rx ux H locs hpx hW => ?_)
        refine lv_aload_n F.1 F.2.1 dL_law_431 rfl (lv_at hl 1 rfl) ?_
        refine lv_aload_n F.1 F.2.1 dL_law_432 rfl (lv_at hl 3 rfl) ?_
        refine lv_iload_n F.1 F.2.1 dL_law_433 rfl (lv_at hl 0 rfl) ?_
        refine lv_iconst (v := nI 1) F.1 F.2.1 dL_law_434 (by decide) ?_
        refine ax_add (z := nI (i + 1)) F (nI_add _ _) dL_law_435 ?_
        refine l_sld F hX hbl hW (show i + 1 < L by omega) hL dL_law_436 ?_
        refine lv_aload_n F.1 F.2.1 dL_law_437 rfl (lv_at hl 3 rfl) ?_
        refine lv_iload_n F.1 F.2.1 dL_law_438 rfl (lv_at hl 0 rfl) ?_
        refine lv_iconst (v := nI 2) F.1 F.2.1 dL_law_439 (by decide) ?_
        refine ax_add (z := nI (i + 2)) F (nI_add _ _) dL_law_440 ?_
        refine l_sld F hX hbl hW (show i + 2 < L by omega) hL dL_law_441 ?_
        refine lv_aload_n F.1 F.2.1 dL_law_442 rfl (lv_at hl 3 rfl) ?_
        refine lv_iload_n F.1 F.2.1 dL_law_443 rfl (lv_at hl 0 rfl) ?_
        refine lv_iconst (v := nI 3) F.1 F.2.1 dL_law_444 (by decide) ?_
        refine ax_add (z := nI (i + 3)) F (nI_add _ _) dL_law_445 ?_
        refine l_sld F hX hbl hW (show i + 3 < L by omega) hL dL_law_446 ?_
        refine lm_i (As := [.int (xs (i + 1)), .int (xs (i + 2)), .int (xs (i + 3))]) (rest := [.int rx]) F (c_X8_show l GM Y.1 Y.2.1 Y.2.2.1 Y.2.2.2.1 Y.2.2.2.2 yc ya (xs (i + 1)) (xs (i + 2)) (xs (i + 3))) (xcw F.2.2.2.2 ca_X8_show tm_644 rfl rfl ⟨by decide, by decide⟩) hW rfl hl.1 rfl (Nat.le_of_ble_eq_true rfl) dL_law_447 ⟨by decide, by decide⟩ (fun rm um H locs hpm hW => ?_)
        obtain ⟨e, hR2⟩ := R_show (P := X.2.1) (P8 := Y.2.1) hR hpx hpm
        refine lv_icmp_eq (tgt := 854) F.1 F.2.1 dL_law_450 (by decide) (fun _ => ?_) (fun q => absurd e q)
        exact back _ _ _ _ ls hW hR2 hl
      by_cases j10 : j = 10
      · skip
        refine lv_tableIn (tgt := 455) (off := 423) F.1 F.2.1 dL_law_32 (by rw [ej2]; omega) (by rw [ej2]; omega) (by rw [ej2, show ((j : Int) - 0).toNat = 10 by omega]; rfl) (by decide) ?_
        refine lv_aload_n F.1 F.2.1 dL_law_455 rfl (lv_at hl 2 rfl) ?_
        refine lv_aload_n F.1 F.2.1 dL_law_456 rfl (lv_at hl 3 rfl) ?_
        refine lv_iload_n F.1 F.2.1 dL_law_457 rfl (lv_at hl 0 rfl) ?_
        refine lv_iconst (v := nI 1) F.1 F.2.1 dL_law_458 (by decide) ?_
        refine ax_add (z := nI (i + 1)) F (nI_add _ _) dL_law_459 ?_
        refine l_sld F hX hbl hW (show i + 1 < L by omega) hL dL_law_460 ?_
        refine lv_aload_n F.1 F.2.1 dL_law_461 rfl (lv_at hl 3 rfl) ?_
        refine lv_iload_n F.1 F.2.1 dL_law_462 rfl (lv_at hl 0 rfl) ?_
        refine lv_iconst (v := nI 2) F.1 F.2.1 dL_law_463 (by decide) ?_
        refine ax_add (z := nI (i + 2)) F (nI_add _ _) dL_law_464 ?_
        refine l_sld F hX hbl hW (show i + 2 < L by omega) hL dL_law_465 ?_
        refine lv_aload_n F.1 F.2.1 dL_law_466 rfl (lv_at hl 3 rfl) ?_
        refine lv_iload_n F.1 F.2.1 dL_law_467 rfl (lv_at hl 0 rfl) ?_
        refine lv_iconst (v := nI 3) F.1 F.2.1 dL_law_468 (by decide) ?_
        refine ax_add (z := nI (i + 3)) F (nI_add _ _) dL_law_469 ?_
        refine l_sld F hX hbl hW (show i + 3 < L by omega) hL dL_law_470 ?_
        refine lv_if_eq (tgt := 478) F.1 F.2.1 dL_law_471 (by decide) (fun cf => ?_) (fun cf => ?_)
        · skip
          refine lv_iconst (v := nI 0) F.1 F.2.1 dL_law_478 (by decide) ?_
          refine lx_i (As := [.int (xs (i + 1)), .int (xs (i + 2)), .int (nI 0)]) (rest := []) F (c_X7_leave l GX X.1 X.2.1 X.2.2.1 X.2.2.2 r9 r8 (xs (i + 1)) (xs (i + 2)) 0 (by decide)) (xcw F.2.2.2.2 ca_X7_leave tm_318 rfl rfl ⟨by decide, by decide⟩) hW rfl hl.1 rfl (Nat.le_of_ble_eq_true rfl) dL_law_479 ⟨by decide, by decide⟩ (fun rx ux H locs hpx hW => ?_)
          refine lv_aload_n F.1 F.2.1 dL_law_482 rfl (lv_at hl 1 rfl) ?_
          refine lv_aload_n F.1 F.2.1 dL_law_483 rfl (lv_at hl 3 rfl) ?_
          refine lv_iload_n F.1 F.2.1 dL_law_484 rfl (lv_at hl 0 rfl) ?_
          refine lv_iconst (v := nI 1) F.1 F.2.1 dL_law_485 (by decide) ?_
          refine ax_add (z := nI (i + 1)) F (nI_add _ _) dL_law_486 ?_
          refine l_sld F hX hbl hW (show i + 1 < L by omega) hL dL_law_487 ?_
          refine lv_aload_n F.1 F.2.1 dL_law_488 rfl (lv_at hl 3 rfl) ?_
          refine lv_iload_n F.1 F.2.1 dL_law_489 rfl (lv_at hl 0 rfl) ?_
          refine lv_iconst (v := nI 2) F.1 F.2.1 dL_law_490 (by decide) ?_
          refine ax_add (z := nI (i + 2)) F (nI_add _ _) dL_law_491 ?_
          refine l_sld F hX hbl hW (show i + 2 < L by omega) hL dL_law_492 ?_
          refine lv_aload_n F.1 F.2.1 dL_law_493 rfl (lv_at hl 3 rfl) ?_
          refine lv_iload_n F.1 F.2.1 dL_law_494 rfl (lv_at hl 0 rfl) ?_
          refine lv_iconst (v := nI 3) F.1 F.2.1 dL_law_495 (by decide) ?_
          refine ax_add (z := nI (i + 3)) F (nI_add _ _) dL_law_496 ?_
          refine l_sld F hX hbl hW (show i + 3 < L by omega) hL dL_law_497 ?_
          refine lv_if_eq (tgt := 505) F.1 F.2.1 dL_law_498 (by decide) (fun _ => ?_) (fun q => absurd cf q)
          refine lv_iconst (v := nI 0) F.1 F.2.1 dL_law_505 (by decide) ?_
          refine lm_i (As := [.int (xs (i + 1)), .int (xs (i + 2)), .int (nI 0)]) (rest := [.int rx]) F (c_X8_leave l GM Y.1 Y.2.1 Y.2.2.1 Y.2.2.2.1 Y.2.2.2.2 yc ya (xs (i + 1)) (xs (i + 2)) 0 (by decide)) (xcw F.2.2.2.2 ca_X8_leave tm_652 rfl rfl ⟨by decide, by decide⟩) hW rfl hl.1 rfl (Nat.le_of_ble_eq_true rfl) dL_law_506 ⟨by decide, by decide⟩ (fun rm um H locs hpm hW => ?_)
          obtain ⟨e, hR2⟩ := R_leave (P := X.2.1) (P8 := Y.2.1) hR hpx hpm
          refine lv_icmp_eq (tgt := 854) F.1 F.2.1 dL_law_509 (by decide) (fun _ => ?_) (fun q => absurd e q)
          exact back _ _ _ _ ls hW hR2 hl
        · skip
          refine lv_iconst (v := nI 1) F.1 F.2.1 dL_law_474 (by decide) ?_
          refine lv_goto (tgt := 479) F.1 F.2.1 dL_law_475 (by decide) ?_
          refine lx_i (As := [.int (xs (i + 1)), .int (xs (i + 2)), .int (nI 1)]) (rest := []) F (c_X7_leave l GX X.1 X.2.1 X.2.2.1 X.2.2.2 r9 r8 (xs (i + 1)) (xs (i + 2)) 1 (by decide)) (xcw F.2.2.2.2 ca_X7_leave tm_318 rfl rfl ⟨by decide, by decide⟩) hW rfl hl.1 rfl (Nat.le_of_ble_eq_true rfl) dL_law_479 ⟨by decide, by decide⟩ (fun rx ux H locs hpx hW => ?_)
          refine lv_aload_n F.1 F.2.1 dL_law_482 rfl (lv_at hl 1 rfl) ?_
          refine lv_aload_n F.1 F.2.1 dL_law_483 rfl (lv_at hl 3 rfl) ?_
          refine lv_iload_n F.1 F.2.1 dL_law_484 rfl (lv_at hl 0 rfl) ?_
          refine lv_iconst (v := nI 1) F.1 F.2.1 dL_law_485 (by decide) ?_
          refine ax_add (z := nI (i + 1)) F (nI_add _ _) dL_law_486 ?_
          refine l_sld F hX hbl hW (show i + 1 < L by omega) hL dL_law_487 ?_
          refine lv_aload_n F.1 F.2.1 dL_law_488 rfl (lv_at hl 3 rfl) ?_
          refine lv_iload_n F.1 F.2.1 dL_law_489 rfl (lv_at hl 0 rfl) ?_
          refine lv_iconst (v := nI 2) F.1 F.2.1 dL_law_490 (by decide) ?_
          refine ax_add (z := nI (i + 2)) F (nI_add _ _) dL_law_491 ?_
          refine l_sld F hX hbl hW (show i + 2 < L by omega) hL dL_law_492 ?_
          refine lv_aload_n F.1 F.2.1 dL_law_493 rfl (lv_at hl 3 rfl) ?_
          refine lv_iload_n F.1 F.2.1 dL_law_494 rfl (lv_at hl 0 rfl) ?_
          refine lv_iconst (v := nI 3) F.1 F.2.1 dL_law_495 (by decide) ?_
          refine ax_add (z := nI (i + 3)) F (nI_add _ _) dL_law_496 ?_
          refine l_sld F hX hbl hW (show i + 3 < L by omega) hL dL_law_497 ?_
          refine lv_if_eq (tgt := 505) F.1 F.2.1 dL_law_498 (by decide) (fun q => absurd q cf) (fun _ => ?_)
          refine lv_iconst (v := nI 1) F.1 F.2.1 dL_law_501 (by decide) ?_
          refine lv_goto (tgt := 506) F.1 F.2.1 dL_law_502 (by decide) ?_
          refine lm_i (As := [.int (xs (i + 1)), .int (xs (i + 2)), .int (nI 1)]) (rest := [.int rx]) F (c_X8_leave l GM Y.1 Y.2.1 Y.2.2.1 Y.2.2.2.1 Y.2.2.2.2 yc ya (xs (i + 1)) (xs (i + 2)) 1 (by decide)) (xcw F.2.2.2.2 ca_X8_leave tm_652 rfl rfl ⟨by decide, by decide⟩) hW rfl hl.1 rfl (Nat.le_of_ble_eq_true rfl) dL_law_506 ⟨by decide, by decide⟩ (fun rm um H locs hpm hW => ?_)
          obtain ⟨e, hR2⟩ := R_leave (P := X.2.1) (P8 := Y.2.1) hR hpx hpm
          refine lv_icmp_eq (tgt := 854) F.1 F.2.1 dL_law_509 (by decide) (fun _ => ?_) (fun q => absurd e q)
          exact back _ _ _ _ ls hW hR2 hl
      by_cases j11 : j = 11
      · skip
        refine lv_tableIn (tgt := 514) (off := 482) F.1 F.2.1 dL_law_32 (by rw [ej2]; omega) (by rw [ej2]; omega) (by rw [ej2, show ((j : Int) - 0).toNat = 11 by omega]; rfl) (by decide) ?_
        refine lv_aload_n F.1 F.2.1 dL_law_514 rfl (lv_at hl 2 rfl) ?_
        refine lx_i (As := []) (rest := []) F (c_X7_drop l GX X.1 X.2.1 X.2.2.1 X.2.2.2 r9 r8) (xcw F.2.2.2.2 ca_X7_drop tm_324 rfl rfl ⟨by decide, by decide⟩) hW rfl hl.1 rfl (Nat.le_of_ble_eq_true rfl) dL_law_515 ⟨by decide, by decide⟩ (fun rx ux H locs hpx hW => ?_)
        refine lv_aload_n F.1 F.2.1 dL_law_518 rfl (lv_at hl 1 rfl) ?_
        refine lm_i (As := []) (rest := [.int rx]) F (c_X8_drop l GM Y.1 Y.2.1 Y.2.2.1 Y.2.2.2.1 Y.2.2.2.2 yc ya) (xcw F.2.2.2.2 ca_X8_drop tm_657 rfl rfl ⟨by decide, by decide⟩) hW rfl hl.1 rfl (Nat.le_of_ble_eq_true rfl) dL_law_519 ⟨by decide, by decide⟩ (fun rm um H locs hpm hW => ?_)
        obtain ⟨e, hR2⟩ := R_drop (P := X.2.1) (P8 := Y.2.1) hR hpx hpm
        refine lv_icmp_eq (tgt := 854) F.1 F.2.1 dL_law_522 (by decide) (fun _ => ?_) (fun q => absurd e q)
        exact back _ _ _ _ ls hW hR2 hl
      by_cases j12 : j = 12
      · skip
        refine lv_tableIn (tgt := 527) (off := 495) F.1 F.2.1 dL_law_32 (by rw [ej2]; omega) (by rw [ej2]; omega) (by rw [ej2, show ((j : Int) - 0).toNat = 12 by omega]; rfl) (by decide) ?_
        refine lv_aload_n F.1 F.2.1 dL_law_527 rfl (lv_at hl 2 rfl) ?_
        refine lv_aload_n F.1 F.2.1 dL_law_528 rfl (lv_at hl 3 rfl) ?_
        refine lv_iload_n F.1 F.2.1 dL_law_529 rfl (lv_at hl 0 rfl) ?_
        refine lv_iconst (v := nI 1) F.1 F.2.1 dL_law_530 (by decide) ?_
        refine ax_add (z := nI (i + 1)) F (nI_add _ _) dL_law_531 ?_
        refine l_sld F hX hbl hW (show i + 1 < L by omega) hL dL_law_532 ?_
        refine lv_aload_n F.1 F.2.1 dL_law_533 rfl (lv_at hl 3 rfl) ?_
        refine lv_iload_n F.1 F.2.1 dL_law_534 rfl (lv_at hl 0 rfl) ?_
        refine lv_iconst (v := nI 2) F.1 F.2.1 dL_law_535 (by decide) ?_
        refine ax_add (z := nI (i + 2)) F (nI_add _ _) dL_law_536 ?_
        refine l_sld F hX hbl hW (show i + 2 < L by omega) hL dL_law_537 ?_
        refine lx_i (As := [.int (xs (i + 1)), .int (xs (i + 2))]) (rest := []) F (c_X7_like l GX X.1 X.2.1 X.2.2.1 X.2.2.2 r6 (fun r h => (r11 r h).2.2.1) (fun r h => (r11 r h).2.2.2.1) r7 (xs (i + 1)) (xs (i + 2))) (xcw F.2.2.2.2 ca_X7_like tm_328 rfl rfl ⟨by decide, by decide⟩) hW rfl hl.1 rfl (Nat.le_of_ble_eq_true rfl) dL_law_538 ⟨by decide, by decide⟩ (fun rx ux H locs hpx hW => ?_)
        refine lv_aload_n F.1 F.2.1 dL_law_541 rfl (lv_at hl 1 rfl) ?_
        refine lv_aload_n F.1 F.2.1 dL_law_542 rfl (lv_at hl 3 rfl) ?_
        refine lv_iload_n F.1 F.2.1 dL_law_543 rfl (lv_at hl 0 rfl) ?_
        refine lv_iconst (v := nI 1) F.1 F.2.1 dL_law_544 (by decide) ?_
        refine ax_add (z := nI (i + 1)) F (nI_add _ _) dL_law_545 ?_
        refine l_sld F hX hbl hW (show i + 1 < L by omega) hL dL_law_546 ?_
        refine lv_aload_n F.1 F.2.1 dL_law_547 rfl (lv_at hl 3 rfl) ?_
        refine lv_iload_n F.1 F.2.1 dL_law_548 rfl (lv_at hl 0 rfl) ?_
        refine lv_iconst (v := nI 2) F.1 F.2.1 dL_law_549 (by decide) ?_
        refine ax_add (z := nI (i + 2)) F (nI_add _ _) dL_law_550 ?_
        refine l_sld F hX hbl hW (show i + 2 < L by omega) hL dL_law_551 ?_
        refine lm_i (As := [.int (xs (i + 1)), .int (xs (i + 2))]) (rest := [.int rx]) F (c_X8_like l GM Y.1 Y.2.1 Y.2.2.1 Y.2.2.2.1 Y.2.2.2.2 yn yrc yra yf (xs (i + 1)) (xs (i + 2))) (xcw F.2.2.2.2 ca_X8_like tm_661 rfl rfl ⟨by decide, by decide⟩) hW rfl hl.1 rfl (Nat.le_of_ble_eq_true rfl) dL_law_552 ⟨by decide, by decide⟩ (fun rm um H locs hpm hW => ?_)
        obtain ⟨e, hR2⟩ := R_like (P := X.2.1) (P8 := Y.2.1) hR hpx hpm
        refine lv_icmp_eq (tgt := 854) F.1 F.2.1 dL_law_555 (by decide) (fun _ => ?_) (fun q => absurd e q)
        exact back _ _ _ _ ls hW hR2 hl
      by_cases j13 : j = 13
      · skip
        refine lv_tableIn (tgt := 560) (off := 528) F.1 F.2.1 dL_law_32 (by rw [ej2]; omega) (by rw [ej2]; omega) (by rw [ej2, show ((j : Int) - 0).toNat = 13 by omega]; rfl) (by decide) ?_
        refine lv_aload_n F.1 F.2.1 dL_law_560 rfl (lv_at hl 2 rfl) ?_
        refine lv_aload_n F.1 F.2.1 dL_law_561 rfl (lv_at hl 3 rfl) ?_
        refine lv_iload_n F.1 F.2.1 dL_law_562 rfl (lv_at hl 0 rfl) ?_
        refine lv_iconst (v := nI 1) F.1 F.2.1 dL_law_563 (by decide) ?_
        refine ax_add (z := nI (i + 1)) F (nI_add _ _) dL_law_564 ?_
        refine l_sld F hX hbl hW (show i + 1 < L by omega) hL dL_law_565 ?_
        refine lv_aload_n F.1 F.2.1 dL_law_566 rfl (lv_at hl 3 rfl) ?_
        refine lv_iload_n F.1 F.2.1 dL_law_567 rfl (lv_at hl 0 rfl) ?_
        refine lv_iconst (v := nI 2) F.1 F.2.1 dL_law_568 (by decide) ?_
        refine ax_add (z := nI (i + 2)) F (nI_add _ _) dL_law_569 ?_
        refine l_sld F hX hbl hW (show i + 2 < L by omega) hL dL_law_570 ?_
        refine lv_aload_n F.1 F.2.1 dL_law_571 rfl (lv_at hl 3 rfl) ?_
        refine lv_iload_n F.1 F.2.1 dL_law_572 rfl (lv_at hl 0 rfl) ?_
        refine lv_iconst (v := nI 3) F.1 F.2.1 dL_law_573 (by decide) ?_
        refine ax_add (z := nI (i + 3)) F (nI_add _ _) dL_law_574 ?_
        refine l_sld F hX hbl hW (show i + 3 < L by omega) hL dL_law_575 ?_
        refine lx_l (As := [.int (xs (i + 1)), .int (xs (i + 2)), .int (xs (i + 3))]) (rest := []) F (k_X7_would l GX X.1 X.2.1 X.2.2.1 X.2.2.2 _ _ _ _ _ _ _ _ (zR_x hR) (xs (i + 1)) (xs (i + 2)) (xs (i + 3))) (xcw F.2.2.2.2 ca_X7_would tm_339 rfl rfl ⟨by decide, by decide⟩) hW rfl hl.1 rfl (Nat.le_of_ble_eq_true rfl) dL_law_576 ⟨by decide, by decide⟩ (fun rx ux H locs hpx hW => ?_)
        refine lv_aload_n F.1 F.2.1 dL_law_579 rfl (lv_at hl 1 rfl) ?_
        refine lv_aload_n F.1 F.2.1 dL_law_580 rfl (lv_at hl 3 rfl) ?_
        refine lv_iload_n F.1 F.2.1 dL_law_581 rfl (lv_at hl 0 rfl) ?_
        refine lv_iconst (v := nI 1) F.1 F.2.1 dL_law_582 (by decide) ?_
        refine ax_add (z := nI (i + 1)) F (nI_add _ _) dL_law_583 ?_
        refine l_sld F hX hbl hW (show i + 1 < L by omega) hL dL_law_584 ?_
        refine lv_aload_n F.1 F.2.1 dL_law_585 rfl (lv_at hl 3 rfl) ?_
        refine lv_iload_n F.1 F.2.1 dL_law_586 rfl (lv_at hl 0 rfl) ?_
        refine lv_iconst (v := nI 2) F.1 F.2.1 dL_law_587 (by decide) ?_
        refine ax_add (z := nI (i + 2)) F (nI_add _ _) dL_law_588 ?_
        refine l_sld F hX hbl hW (show i + 2 < L by omega) hL dL_law_589 ?_
        refine lv_aload_n F.1 F.2.1 dL_law_590 rfl (lv_at hl 3 rfl) ?_
        refine lv_iload_n F.1 F.2.1 dL_law_591 rfl (lv_at hl 0 rfl) ?_
        refine lv_iconst (v := nI 3) F.1 F.2.1 dL_law_592 (by decide) ?_
        refine ax_add (z := nI (i + 3)) F (nI_add _ _) dL_law_593 ?_
        refine l_sld F hX hbl hW (show i + 3 < L by omega) hL dL_law_594 ?_
        refine lm_l (As := [.int (xs (i + 1)), .int (xs (i + 2)), .int (xs (i + 3))]) (rest := [.long rx]) F (k_X8_would l GM Y.1 Y.2.1 Y.2.2.1 Y.2.2.2.1 Y.2.2.2.2 _ _ _ _ _ _ _ _ (zR_m hR) (xs (i + 1)) (xs (i + 2)) (xs (i + 3))) (xcw F.2.2.2.2 ca_X8_would tm_671 rfl rfl ⟨by decide, by decide⟩) hW rfl hl.1 rfl (Nat.le_of_ble_eq_true rfl) dL_law_595 ⟨by decide, by decide⟩ (fun rm um H locs hpm hW => ?_)
        refine W.lcmp F.1 F.2.1 dL_law_598 ?_
        obtain ⟨e1, _, _, _, rfl⟩ := hpx
        obtain ⟨e2, _, _, _, _, rfl⟩ := hpm
        have e := R_alt e1 e2
        have hR2 : zR X.1 Y.1 := hR
        refine lv_if_eq (tgt := 854) F.1 F.2.1 dL_law_599 (by decide) (fun _ => ?_) (fun q => absurd ((lg_cmp_eq _ _).mpr e) q)
        exact back _ _ _ _ ls hW hR2 hl
      by_cases j14 : j = 14
      · skip
        refine lv_tableIn (tgt := 604) (off := 572) F.1 F.2.1 dL_law_32 (by rw [ej2]; omega) (by rw [ej2]; omega) (by rw [ej2, show ((j : Int) - 0).toNat = 14 by omega]; rfl) (by decide) ?_
        refine lv_aload_n F.1 F.2.1 dL_law_604 rfl (lv_at hl 2 rfl) ?_
        refine lv_aload_n F.1 F.2.1 dL_law_605 rfl (lv_at hl 3 rfl) ?_
        refine lv_iload_n F.1 F.2.1 dL_law_606 rfl (lv_at hl 0 rfl) ?_
        refine lv_iconst (v := nI 1) F.1 F.2.1 dL_law_607 (by decide) ?_
        refine ax_add (z := nI (i + 1)) F (nI_add _ _) dL_law_608 ?_
        refine l_sld F hX hbl hW (show i + 1 < L by omega) hL dL_law_609 ?_
        refine lx_i (As := [.int (xs (i + 1))]) (rest := []) F (c_X7_found l GX X.1 X.2.1 X.2.2.1.1 X.2.2.1.2.1 X.2.2.1.2.2.1 X.2.2.1.2.2.2 X.2.2.2.1 X.2.2.2.2.1 X.2.2.2.2.2.1 X.2.2.2.2.2.2.1 X.2.2.2.2.2.2.2.1 X.2.2.2.2.2.2.2.2.1 X.2.2.2.2.2.2.2.2.2 _ _ _ _ _ _ _ _ (zR_x hR) (xs (i + 1))) (xcw F.2.2.2.2 ca_X7_found tm_368 rfl rfl ⟨by decide, by decide⟩) hW rfl hl.1 rfl (Nat.le_of_ble_eq_true rfl) dL_law_610 ⟨by decide, by decide⟩ (fun rx ux H locs hpx hW => ?_)
        refine lv_aload_n F.1 F.2.1 dL_law_613 rfl (lv_at hl 1 rfl) ?_
        refine lv_aload_n F.1 F.2.1 dL_law_614 rfl (lv_at hl 3 rfl) ?_
        refine lv_iload_n F.1 F.2.1 dL_law_615 rfl (lv_at hl 0 rfl) ?_
        refine lv_iconst (v := nI 1) F.1 F.2.1 dL_law_616 (by decide) ?_
        refine ax_add (z := nI (i + 1)) F (nI_add _ _) dL_law_617 ?_
        refine l_sld F hX hbl hW (show i + 1 < L by omega) hL dL_law_618 ?_
        refine lm_i (As := [.int (xs (i + 1))]) (rest := [.int rx]) F (k_X8_found l GM Y.1 Y.2.1 Y.2.2.1 Y.2.2.2.1 Y.2.2.2.2 _ _ _ _ _ _ _ _ (zR_m hR) (xs (i + 1))) (xcw F.2.2.2.2 ca_X8_found tm_691 rfl rfl ⟨by decide, by decide⟩) hW rfl hl.1 rfl (Nat.le_of_ble_eq_true rfl) dL_law_619 ⟨by decide, by decide⟩ (fun rm um H locs hpm hW => ?_)
        obtain ⟨e1, _, _, _, rfl⟩ := hpx
        obtain ⟨e2, _, _, _, _, rfl⟩ := hpm
        have e := e1.trans e2.symm
        have hR2 : zR X.1 Y.1 := hR
        refine lv_icmp_eq (tgt := 854) F.1 F.2.1 dL_law_622 (by decide) (fun _ => ?_) (fun q => absurd e q)
        exact back _ _ _ _ ls hW hR2 hl
      by_cases j15 : j = 15
      · skip
        refine lv_tableIn (tgt := 627) (off := 595) F.1 F.2.1 dL_law_32 (by rw [ej2]; omega) (by rw [ej2]; omega) (by rw [ej2, show ((j : Int) - 0).toNat = 15 by omega]; rfl) (by decide) ?_
        refine lv_aload_n F.1 F.2.1 dL_law_627 rfl (lv_at hl 2 rfl) ?_
        refine lv_aload_n F.1 F.2.1 dL_law_628 rfl (lv_at hl 3 rfl) ?_
        refine lv_iload_n F.1 F.2.1 dL_law_629 rfl (lv_at hl 0 rfl) ?_
        refine lv_iconst (v := nI 1) F.1 F.2.1 dL_law_630 (by decide) ?_
        refine ax_add (z := nI (i + 1)) F (nI_add _ _) dL_law_631 ?_
        refine l_sld F hX hbl hW (show i + 1 < L by omega) hL dL_law_632 ?_
        refine lx_i (As := [.int (xs (i + 1))]) (rest := []) F (c_X7_open l GX X.1 X.2.1 X.2.2.1.1 X.2.2.1.2.1 X.2.2.1.2.2.1 X.2.2.1.2.2.2 X.2.2.2.1 X.2.2.2.2.1 X.2.2.2.2.2.1 X.2.2.2.2.2.2.1 X.2.2.2.2.2.2.2.1 X.2.2.2.2.2.2.2.2.1 X.2.2.2.2.2.2.2.2.2 _ _ _ _ _ _ _ _ (zR_x hR) (xs (i + 1))) (xcw F.2.2.2.2 ca_X7_open tm_402 rfl rfl ⟨by decide, by decide⟩) hW rfl hl.1 rfl (Nat.le_of_ble_eq_true rfl) dL_law_633 ⟨by decide, by decide⟩ (fun rx ux H locs hpx hW => ?_)
        refine lv_aload_n F.1 F.2.1 dL_law_636 rfl (lv_at hl 1 rfl) ?_
        refine lv_aload_n F.1 F.2.1 dL_law_637 rfl (lv_at hl 3 rfl) ?_
        refine lv_iload_n F.1 F.2.1 dL_law_638 rfl (lv_at hl 0 rfl) ?_
        refine lv_iconst (v := nI 1) F.1 F.2.1 dL_law_639 (by decide) ?_
        refine ax_add (z := nI (i + 1)) F (nI_add _ _) dL_law_640 ?_
        refine l_sld F hX hbl hW (show i + 1 < L by omega) hL dL_law_641 ?_
        refine lm_i (As := [.int (xs (i + 1))]) (rest := [.int rx]) F (k_X8_open l GM Y.1 Y.2.1 Y.2.2.1 Y.2.2.2.1 Y.2.2.2.2 _ _ _ _ _ _ _ _ (zR_m hR) (xs (i + 1))) (xcw F.2.2.2.2 ca_X8_open tm_707 rfl rfl ⟨by decide, by decide⟩) hW rfl hl.1 rfl (Nat.le_of_ble_eq_true rfl) dL_law_642 ⟨by decide, by decide⟩ (fun rm um H locs hpm hW => ?_)
        obtain ⟨e1, _, _, _, rfl⟩ := hpx
        obtain ⟨e2, _, _, _, _, rfl⟩ := hpm
        have e := e1.trans e2.symm
        have hR2 : zR X.1 Y.1 := hR
        refine lv_icmp_eq (tgt := 854) F.1 F.2.1 dL_law_645 (by decide) (fun _ => ?_) (fun q => absurd e q)
        exact back _ _ _ _ ls hW hR2 hl
      by_cases j16 : j = 16
      · skip
        refine lv_tableIn (tgt := 650) (off := 618) F.1 F.2.1 dL_law_32 (by rw [ej2]; omega) (by rw [ej2]; omega) (by rw [ej2, show ((j : Int) - 0).toNat = 16 by omega]; rfl) (by decide) ?_
        refine lv_aload_n F.1 F.2.1 dL_law_650 rfl (lv_at hl 2 rfl) ?_
        refine lv_aload_n F.1 F.2.1 dL_law_651 rfl (lv_at hl 3 rfl) ?_
        refine lv_iload_n F.1 F.2.1 dL_law_652 rfl (lv_at hl 0 rfl) ?_
        refine lv_iconst (v := nI 1) F.1 F.2.1 dL_law_653 (by decide) ?_
        refine ax_add (z := nI (i + 1)) F (nI_add _ _) dL_law_654 ?_
        refine l_sld F hX hbl hW (show i + 1 < L by omega) hL dL_law_655 ?_
        refine lx_i (As := [.int (xs (i + 1))]) (rest := []) F (c_X7_joint l GX X.1 X.2.1 X.2.2.1.1 X.2.2.1.2.1 X.2.2.1.2.2.1 X.2.2.1.2.2.2 X.2.2.2.1 X.2.2.2.2.1 X.2.2.2.2.2.1 X.2.2.2.2.2.2.1 X.2.2.2.2.2.2.2.1 X.2.2.2.2.2.2.2.2.1 X.2.2.2.2.2.2.2.2.2 _ _ _ _ _ _ _ _ (zR_x hR) (xs (i + 1))) (xcw F.2.2.2.2 ca_X7_joint tm_406 rfl rfl ⟨by decide, by decide⟩) hW rfl hl.1 rfl (Nat.le_of_ble_eq_true rfl) dL_law_656 ⟨by decide, by decide⟩ (fun rx ux H locs hpx hW => ?_)
        refine lv_aload_n F.1 F.2.1 dL_law_659 rfl (lv_at hl 1 rfl) ?_
        refine lv_aload_n F.1 F.2.1 dL_law_660 rfl (lv_at hl 3 rfl) ?_
        refine lv_iload_n F.1 F.2.1 dL_law_661 rfl (lv_at hl 0 rfl) ?_
        refine lv_iconst (v := nI 1) F.1 F.2.1 dL_law_662 (by decide) ?_
        refine ax_add (z := nI (i + 1)) F (nI_add _ _) dL_law_663 ?_
        refine l_sld F hX hbl hW (show i + 1 < L by omega) hL dL_law_664 ?_
        refine lm_i (As := [.int (xs (i + 1))]) (rest := [.int rx]) F (k_X8_joint l GM Y.1 Y.2.1 Y.2.2.1 Y.2.2.2.1 Y.2.2.2.2 _ _ _ _ _ _ _ _ (zR_m hR) (xs (i + 1))) (xcw F.2.2.2.2 ca_X8_joint tm_711 rfl rfl ⟨by decide, by decide⟩) hW rfl hl.1 rfl (Nat.le_of_ble_eq_true rfl) dL_law_665 ⟨by decide, by decide⟩ (fun rm um H locs hpm hW => ?_)
        obtain ⟨e1, _, _, _, rfl⟩ := hpx
        obtain ⟨e2, _, _, _, _, rfl⟩ := hpm
        have e := e1.trans e2.symm
        have hR2 : zR X.1 Y.1 := hR
        refine lv_icmp_eq (tgt := 854) F.1 F.2.1 dL_law_668 (by decide) (fun _ => ?_) (fun q => absurd e q)
        exact back _ _ _ _ ls hW hR2 hl
      by_cases j17 : j = 17
      · skip
        refine lv_tableIn (tgt := 673) (off := 641) F.1 F.2.1 dL_law_32 (by rw [ej2]; omega) (by rw [ej2]; omega) (by rw [ej2, show ((j : Int) - 0).toNat = 17 by omega]; rfl) (by decide) ?_
        refine lv_aload_n F.1 F.2.1 dL_law_673 rfl (lv_at hl 2 rfl) ?_
        refine lv_aload_n F.1 F.2.1 dL_law_674 rfl (lv_at hl 3 rfl) ?_
        refine lv_iload_n F.1 F.2.1 dL_law_675 rfl (lv_at hl 0 rfl) ?_
        refine lv_iconst (v := nI 1) F.1 F.2.1 dL_law_676 (by decide) ?_
        refine ax_add (z := nI (i + 1)) F (nI_add _ _) dL_law_677 ?_
        refine l_sld F hX hbl hW (show i + 1 < L by omega) hL dL_law_678 ?_
        refine lx_i (As := [.int (xs (i + 1))]) (rest := []) F (c_X7_near l GX X.1 X.2.1 X.2.2.1.1 X.2.2.1.2.1 X.2.2.1.2.2.1 X.2.2.1.2.2.2 X.2.2.2.1 X.2.2.2.2.1 X.2.2.2.2.2.1 X.2.2.2.2.2.2.1 X.2.2.2.2.2.2.2.1 X.2.2.2.2.2.2.2.2.1 X.2.2.2.2.2.2.2.2.2 _ _ _ _ _ _ _ _ (zR_x hR) (xs (i + 1))) (xcw F.2.2.2.2 ca_X7_near tm_414 rfl rfl ⟨by decide, by decide⟩) hW rfl hl.1 rfl (Nat.le_of_ble_eq_true rfl) dL_law_679 ⟨by decide, by decide⟩ (fun rx ux H locs hpx hW => ?_)
        refine lv_aload_n F.1 F.2.1 dL_law_682 rfl (lv_at hl 1 rfl) ?_
        refine lv_aload_n F.1 F.2.1 dL_law_683 rfl (lv_at hl 3 rfl) ?_
        refine lv_iload_n F.1 F.2.1 dL_law_684 rfl (lv_at hl 0 rfl) ?_
        refine lv_iconst (v := nI 1) F.1 F.2.1 dL_law_685 (by decide) ?_
        refine ax_add (z := nI (i + 1)) F (nI_add _ _) dL_law_686 ?_
        refine l_sld F hX hbl hW (show i + 1 < L by omega) hL dL_law_687 ?_
        refine lm_i (As := [.int (xs (i + 1))]) (rest := [.int rx]) F (c_X8_near l GM Y.1 Y.2.1 Y.2.2.1 Y.2.2.2.1.1 Y.2.2.2.1.2 Y.2.2.2.2 _ _ _ _ _ _ _ _ (zR_m hR) (xs (i + 1))) (xcw F.2.2.2.2 ca_X8_near tm_715 rfl rfl ⟨by decide, by decide⟩) hW rfl hl.1 rfl (Nat.le_of_ble_eq_true rfl) dL_law_688 ⟨by decide, by decide⟩ (fun rm um H locs hpm hW => ?_)
        obtain ⟨e1, _, _, _, rfl⟩ := hpx
        obtain ⟨e2, _, _, _, _, rfl⟩ := hpm
        have e := e1.trans e2.symm
        have hR2 : zR X.1 Y.1 := hR
        refine lv_icmp_eq (tgt := 854) F.1 F.2.1 dL_law_691 (by decide) (fun _ => ?_) (fun q => absurd e q)
        exact back _ _ _ _ ls hW hR2 hl
      by_cases j18 : j = 18
      · skip
        refine lv_tableIn (tgt := 696) (off := 664) F.1 F.2.1 dL_law_32 (by rw [ej2]; omega) (by rw [ej2]; omega) (by rw [ej2, show ((j : Int) - 0).toNat = 18 by omega]; rfl) (by decide) ?_
        refine lv_aload_n F.1 F.2.1 dL_law_696 rfl (lv_at hl 2 rfl) ?_
        refine lv_aload_n F.1 F.2.1 dL_law_697 rfl (lv_at hl 3 rfl) ?_
        refine lv_iload_n F.1 F.2.1 dL_law_698 rfl (lv_at hl 0 rfl) ?_
        refine lv_iconst (v := nI 1) F.1 F.2.1 dL_law_699 (by decide) ?_
        refine ax_add (z := nI (i + 1)) F (nI_add _ _) dL_law_700 ?_
        refine l_sld F hX hbl hW (show i + 1 < L by omega) hL dL_law_701 ?_
        refine lx_i (As := [.int (xs (i + 1))]) (rest := []) F (k_X7_misses l GX X.1 X.2.1 X.2.2.1 X.2.2.2 _ _ _ _ _ _ _ _ (zR_x hR) (xs (i + 1))) (xcw F.2.2.2.2 ca_X7_misses tm_426 rfl rfl ⟨by decide, by decide⟩) hW rfl hl.1 rfl (Nat.le_of_ble_eq_true rfl) dL_law_702 ⟨by decide, by decide⟩ (fun rx ux H locs hpx hW => ?_)
        refine lv_aload_n F.1 F.2.1 dL_law_705 rfl (lv_at hl 1 rfl) ?_
        refine lv_aload_n F.1 F.2.1 dL_law_706 rfl (lv_at hl 3 rfl) ?_
        refine lv_iload_n F.1 F.2.1 dL_law_707 rfl (lv_at hl 0 rfl) ?_
        refine lv_iconst (v := nI 1) F.1 F.2.1 dL_law_708 (by decide) ?_
        refine ax_add (z := nI (i + 1)) F (nI_add _ _) dL_law_709 ?_
        refine l_sld F hX hbl hW (show i + 1 < L by omega) hL dL_law_710 ?_
        refine lm_i (As := [.int (xs (i + 1))]) (rest := [.int rx]) F (k_X8_misses l GM Y.1 Y.2.1 Y.2.2.1 Y.2.2.2.1 Y.2.2.2.2 _ _ _ _ _ _ _ _ (zR_m hR) (xs (i + 1))) (xcw F.2.2.2.2 ca_X8_misses tm_719 rfl rfl ⟨by decide, by decide⟩) hW rfl hl.1 rfl (Nat.le_of_ble_eq_true rfl) dL_law_711 ⟨by decide, by decide⟩ (fun rm um H locs hpm hW => ?_)
        obtain ⟨e1, _, _, _, rfl⟩ := hpx
        obtain ⟨e2, _, _, _, _, rfl⟩ := hpm
        have e := R_alt e1 e2
        have hR2 : zR X.1 Y.1 := hR
        refine lv_icmp_eq (tgt := 854) F.1 F.2.1 dL_law_714 (by decide) (fun _ => ?_) (fun q => absurd e q)
        exact back _ _ _ _ ls hW hR2 hl
      by_cases j19 : j = 19
      · skip
        refine lv_tableIn (tgt := 719) (off := 687) F.1 F.2.1 dL_law_32 (by rw [ej2]; omega) (by rw [ej2]; omega) (by rw [ej2, show ((j : Int) - 0).toNat = 19 by omega]; rfl) (by decide) ?_
        refine lv_aload_n F.1 F.2.1 dL_law_719 rfl (lv_at hl 2 rfl) ?_
        refine lv_aload_n F.1 F.2.1 dL_law_720 rfl (lv_at hl 3 rfl) ?_
        refine lv_iload_n F.1 F.2.1 dL_law_721 rfl (lv_at hl 0 rfl) ?_
        refine lv_iconst (v := nI 1) F.1 F.2.1 dL_law_722 (by decide) ?_
        refine ax_add (z := nI (i + 1)) F (nI_add _ _) dL_law_723 ?_
        refine l_sld F hX hbl hW (show i + 1 < L by omega) hL dL_law_724 ?_
        refine lx_i (As := [.int (xs (i + 1))]) (rest := []) F (c_X7_parting l GX X.1 X.2.1 X.2.2.1.1 X.2.2.1.2.1 X.2.2.1.2.2.1 X.2.2.1.2.2.2 X.2.2.2.1 X.2.2.2.2.1 X.2.2.2.2.2.1 X.2.2.2.2.2.2.1 X.2.2.2.2.2.2.2.1 X.2.2.2.2.2.2.2.2.1 X.2.2.2.2.2.2.2.2.2 _ _ _ _ _ _ _ _ (zR_x hR) (xs (i + 1))) (xcw F.2.2.2.2 ca_X7_parting tm_431 rfl rfl ⟨by decide, by decide⟩) hW rfl hl.1 rfl (Nat.le_of_ble_eq_true rfl) dL_law_725 ⟨by decide, by decide⟩ (fun rx ux H locs hpx hW => ?_)
        refine lv_aload_n F.1 F.2.1 dL_law_728 rfl (lv_at hl 1 rfl) ?_
        refine lv_aload_n F.1 F.2.1 dL_law_729 rfl (lv_at hl 3 rfl) ?_
        refine lv_iload_n F.1 F.2.1 dL_law_730 rfl (lv_at hl 0 rfl) ?_
        refine lv_iconst (v := nI 1) F.1 F.2.1 dL_law_731 (by decide) ?_
        refine ax_add (z := nI (i + 1)) F (nI_add _ _) dL_law_732 ?_
        refine l_sld F hX hbl hW (show i + 1 < L by omega) hL dL_law_733 ?_
        refine lm_i (As := [.int (xs (i + 1))]) (rest := [.int rx]) F (c_X8_parting l GM Y.1 Y.2.1 Y.2.2.1 Y.2.2.2.1 Y.2.2.2.2.1 Y.2.2.2.2.2.1 Y.2.2.2.2.2.2.1 Y.2.2.2.2.2.2.2.1 Y.2.2.2.2.2.2.2.2 _ _ _ _ _ _ _ _ (zR_m hR) (xs (i + 1))) (xcw F.2.2.2.2 ca_X8_parting tm_723 rfl rfl ⟨by decide, by decide⟩) hW rfl hl.1 rfl (Nat.le_of_ble_eq_true rfl) dL_law_734 ⟨by decide, by decide⟩ (fun rm um H locs hpm hW => ?_)
        obtain ⟨e1, _, _, _, rfl⟩ := hpx
        obtain ⟨e2, _, _, _, _, rfl⟩ := hpm
        have e := e1.trans e2.symm
        have hR2 : zR X.1 Y.1 := hR
        refine lv_icmp_eq (tgt := 854) F.1 F.2.1 dL_law_737 (by decide) (fun _ => ?_) (fun q => absurd e q)
        exact back _ _ _ _ ls hW hR2 hl
      by_cases j20 : j = 20
      · skip
        refine lv_tableIn (tgt := 742) (off := 710) F.1 F.2.1 dL_law_32 (by rw [ej2]; omega) (by rw [ej2]; omega) (by rw [ej2, show ((j : Int) - 0).toNat = 20 by omega]; rfl) (by decide) ?_
        refine lv_aload_n F.1 F.2.1 dL_law_742 rfl (lv_at hl 2 rfl) ?_
        refine lv_aload_n F.1 F.2.1 dL_law_743 rfl (lv_at hl 3 rfl) ?_
        refine lv_iload_n F.1 F.2.1 dL_law_744 rfl (lv_at hl 0 rfl) ?_
        refine lv_iconst (v := nI 1) F.1 F.2.1 dL_law_745 (by decide) ?_
        refine ax_add (z := nI (i + 1)) F (nI_add _ _) dL_law_746 ?_
        refine l_sld F hX hbl hW (show i + 1 < L by omega) hL dL_law_747 ?_
        refine lx_i (As := [.int (xs (i + 1))]) (rest := []) F (c_X7_many l GX X.1 X.2.1 X.2.2.1.1 X.2.2.1.2.1 X.2.2.1.2.2.1 X.2.2.1.2.2.2 X.2.2.2.1 X.2.2.2.2.1 X.2.2.2.2.2.1 X.2.2.2.2.2.2.1 X.2.2.2.2.2.2.2.1 X.2.2.2.2.2.2.2.2.1 X.2.2.2.2.2.2.2.2.2 _ _ _ _ _ _ _ _ (zR_x hR) r10 (xs (i + 1))) (xcw F.2.2.2.2 ca_X7_many tm_454 rfl rfl ⟨by decide, by decide⟩) hW rfl hl.1 rfl (Nat.le_of_ble_eq_true rfl) dL_law_748 ⟨by decide, by decide⟩ (fun rx ux H locs hpx hW => ?_)
        refine lv_aload_n F.1 F.2.1 dL_law_751 rfl (lv_at hl 1 rfl) ?_
        refine lv_aload_n F.1 F.2.1 dL_law_752 rfl (lv_at hl 3 rfl) ?_
        refine lv_iload_n F.1 F.2.1 dL_law_753 rfl (lv_at hl 0 rfl) ?_
        refine lv_iconst (v := nI 1) F.1 F.2.1 dL_law_754 (by decide) ?_
        refine ax_add (z := nI (i + 1)) F (nI_add _ _) dL_law_755 ?_
        refine l_sld F hX hbl hW (show i + 1 < L by omega) hL dL_law_756 ?_
        refine lm_i (As := [.int (xs (i + 1))]) (rest := [.int rx]) F (c_X8_many l GM Y.1 Y.2.1 Y.2.2.1 Y.2.2.2.1 Y.2.2.2.2 _ _ _ _ _ _ _ _ (zR_m hR) yw (xs (i + 1))) (xcw F.2.2.2.2 ca_X8_many tm_738 rfl rfl ⟨by decide, by decide⟩) hW rfl hl.1 rfl (Nat.le_of_ble_eq_true rfl) dL_law_757 ⟨by decide, by decide⟩ (fun rm um H locs hpm hW => ?_)
        obtain ⟨e1, _, _, _, rfl⟩ := hpx
        obtain ⟨e2, _, _, _, _, rfl⟩ := hpm
        rw [← r5] at e2
        have e := e1.trans e2.symm
        have hR2 : zR X.1 Y.1 := hR
        refine lv_icmp_eq (tgt := 854) F.1 F.2.1 dL_law_760 (by decide) (fun _ => ?_) (fun q => absurd e q)
        exact back _ _ _ _ ls hW hR2 hl
      by_cases j21 : j = 21
      · skip
        refine lv_tableIn (tgt := 765) (off := 733) F.1 F.2.1 dL_law_32 (by rw [ej2]; omega) (by rw [ej2]; omega) (by rw [ej2, show ((j : Int) - 0).toNat = 21 by omega]; rfl) (by decide) ?_
        refine lv_aload_n F.1 F.2.1 dL_law_765 rfl (lv_at hl 2 rfl) ?_
        refine lv_aload_n F.1 F.2.1 dL_law_766 rfl (lv_at hl 3 rfl) ?_
        refine lv_iload_n F.1 F.2.1 dL_law_767 rfl (lv_at hl 0 rfl) ?_
        refine lv_iconst (v := nI 1) F.1 F.2.1 dL_law_768 (by decide) ?_
        refine ax_add (z := nI (i + 1)) F (nI_add _ _) dL_law_769 ?_
        refine l_sld F hX hbl hW (show i + 1 < L by omega) hL dL_law_770 ?_
        refine lv_aload_n F.1 F.2.1 dL_law_771 rfl (lv_at hl 3 rfl) ?_
        refine lv_iload_n F.1 F.2.1 dL_law_772 rfl (lv_at hl 0 rfl) ?_
        refine lv_iconst (v := nI 2) F.1 F.2.1 dL_law_773 (by decide) ?_
        refine ax_add (z := nI (i + 2)) F (nI_add _ _) dL_law_774 ?_
        refine l_sld F hX hbl hW (show i + 2 < L by omega) hL dL_law_775 ?_
        refine lx_i (As := [.int (xs (i + 1)), .int (xs (i + 2))]) (rest := []) F (c_X7_same l GX X.1 X.2.1 X.2.2.1 X.2.2.2 _ _ _ _ _ _ _ _ (zR_x hR) (xs (i + 1)) (xs (i + 2))) (xcw F.2.2.2.2 ca_X7_same tm_479 rfl rfl ⟨by decide, by decide⟩) hW rfl hl.1 rfl (Nat.le_of_ble_eq_true rfl) dL_law_776 ⟨by decide, by decide⟩ (fun rx ux H locs hpx hW => ?_)
        refine lv_aload_n F.1 F.2.1 dL_law_779 rfl (lv_at hl 1 rfl) ?_
        refine lv_aload_n F.1 F.2.1 dL_law_780 rfl (lv_at hl 3 rfl) ?_
        refine lv_iload_n F.1 F.2.1 dL_law_781 rfl (lv_at hl 0 rfl) ?_
        refine lv_iconst (v := nI 1) F.1 F.2.1 dL_law_782 (by decide) ?_
        refine ax_add (z := nI (i + 1)) F (nI_add _ _) dL_law_783 ?_
        refine l_sld F hX hbl hW (show i + 1 < L by omega) hL dL_law_784 ?_
        refine lv_aload_n F.1 F.2.1 dL_law_785 rfl (lv_at hl 3 rfl) ?_
        refine lv_iload_n F.1 F.2.1 dL_law_786 rfl (lv_at hl 0 rfl) ?_
        refine lv_iconst (v := nI 2) F.1 F.2.1 dL_law_787 (by decide) ?_
        refine ax_add (z := nI (i + 2)) F (nI_add _ _) dL_law_788 ?_
        refine l_sld F hX hbl hW (show i + 2 < L by omega) hL dL_law_789 ?_
        refine lm_i (As := [.int (xs (i + 1)), .int (xs (i + 2))]) (rest := [.int rx]) F (c_X8_same l GM Y.1 Y.2.1 Y.2.2.1 Y.2.2.2.1 Y.2.2.2.2 _ _ _ _ _ _ _ _ (zR_m hR) (xs (i + 1)) (xs (i + 2))) (xcw F.2.2.2.2 ca_X8_same tm_758 rfl rfl ⟨by decide, by decide⟩) hW rfl hl.1 rfl (Nat.le_of_ble_eq_true rfl) dL_law_790 ⟨by decide, by decide⟩ (fun rm um H locs hpm hW => ?_)
        obtain ⟨e1, _, rfl⟩ := hpx
        obtain ⟨e2, _, rfl⟩ := hpm
        have e := R_same e1 e2
        have hR2 : zR X.1 Y.1 := hR
        refine lv_icmp_eq (tgt := 854) F.1 F.2.1 dL_law_793 (by decide) (fun _ => ?_) (fun q => absurd e q)
        exact back _ _ _ _ ls hW hR2 hl
      by_cases j22 : j = 22
      · skip
        refine lv_tableIn (tgt := 798) (off := 766) F.1 F.2.1 dL_law_32 (by rw [ej2]; omega) (by rw [ej2]; omega) (by rw [ej2, show ((j : Int) - 0).toNat = 22 by omega]; rfl) (by decide) ?_
        refine lv_aload_n F.1 F.2.1 dL_law_798 rfl (lv_at hl 2 rfl) ?_
        refine lv_aload_n F.1 F.2.1 dL_law_799 rfl (lv_at hl 3 rfl) ?_
        refine lv_iload_n F.1 F.2.1 dL_law_800 rfl (lv_at hl 0 rfl) ?_
        refine lv_iconst (v := nI 1) F.1 F.2.1 dL_law_801 (by decide) ?_
        refine ax_add (z := nI (i + 1)) F (nI_add _ _) dL_law_802 ?_
        refine l_sld F hX hbl hW (show i + 1 < L by omega) hL dL_law_803 ?_
        refine lv_aload_n F.1 F.2.1 dL_law_804 rfl (lv_at hl 3 rfl) ?_
        refine lv_iload_n F.1 F.2.1 dL_law_805 rfl (lv_at hl 0 rfl) ?_
        refine lv_iconst (v := nI 2) F.1 F.2.1 dL_law_806 (by decide) ?_
        refine ax_add (z := nI (i + 2)) F (nI_add _ _) dL_law_807 ?_
        refine l_sld F hX hbl hW (show i + 2 < L by omega) hL dL_law_808 ?_
        refine lx_i (As := [.int (xs (i + 1)), .int (xs (i + 2))]) (rest := []) F (c_X7_differ l GX X.1 X.2.1 X.2.2.1 X.2.2.2 _ _ _ _ _ _ _ _ (zR_x hR) (xs (i + 1)) (xs (i + 2))) (xcw F.2.2.2.2 ca_X7_differ tm_488 rfl rfl ⟨by decide, by decide⟩) hW rfl hl.1 rfl (Nat.le_of_ble_eq_true rfl) dL_law_809 ⟨by decide, by decide⟩ (fun rx ux H locs hpx hW => ?_)
        refine lv_aload_n F.1 F.2.1 dL_law_812 rfl (lv_at hl 1 rfl) ?_
        refine lv_aload_n F.1 F.2.1 dL_law_813 rfl (lv_at hl 3 rfl) ?_
        refine lv_iload_n F.1 F.2.1 dL_law_814 rfl (lv_at hl 0 rfl) ?_
        refine lv_iconst (v := nI 1) F.1 F.2.1 dL_law_815 (by decide) ?_
        refine ax_add (z := nI (i + 1)) F (nI_add _ _) dL_law_816 ?_
        refine l_sld F hX hbl hW (show i + 1 < L by omega) hL dL_law_817 ?_
        refine lv_aload_n F.1 F.2.1 dL_law_818 rfl (lv_at hl 3 rfl) ?_
        refine lv_iload_n F.1 F.2.1 dL_law_819 rfl (lv_at hl 0 rfl) ?_
        refine lv_iconst (v := nI 2) F.1 F.2.1 dL_law_820 (by decide) ?_
        refine ax_add (z := nI (i + 2)) F (nI_add _ _) dL_law_821 ?_
        refine l_sld F hX hbl hW (show i + 2 < L by omega) hL dL_law_822 ?_
        refine lm_i (As := [.int (xs (i + 1)), .int (xs (i + 2))]) (rest := [.int rx]) F (c_X8_differ l GM Y.1 Y.2.1 Y.2.2.1 Y.2.2.2.1 Y.2.2.2.2 _ _ _ _ _ _ _ _ (zR_m hR) (xs (i + 1)) (xs (i + 2))) (xcw F.2.2.2.2 ca_X8_differ tm_762 rfl rfl ⟨by decide, by decide⟩) hW rfl hl.1 rfl (Nat.le_of_ble_eq_true rfl) dL_law_823 ⟨by decide, by decide⟩ (fun rm um H locs hpm hW => ?_)
        obtain ⟨e1, _, rfl⟩ := hpx
        obtain ⟨e2, _, rfl⟩ := hpm
        have e := R_differ e1 e2
        have hR2 : zR X.1 Y.1 := hR
        refine lv_icmp_eq (tgt := 854) F.1 F.2.1 dL_law_826 (by decide) (fun _ => ?_) (fun q => absurd e q)
        exact back _ _ _ _ ls hW hR2 hl
      have j23 : j = 23 := by omega
      refine lv_tableIn (tgt := 831) (off := 799) F.1 F.2.1 dL_law_32 (by rw [ej2]; omega) (by rw [ej2]; omega) (by rw [ej2, show ((j : Int) - 0).toNat = 23 by omega]; rfl) (by decide) ?_
      refine lv_aload_n F.1 F.2.1 dL_law_831 rfl (lv_at hl 2 rfl) ?_
      refine lv_aload_n F.1 F.2.1 dL_law_832 rfl (lv_at hl 3 rfl) ?_
      refine lv_iload_n F.1 F.2.1 dL_law_833 rfl (lv_at hl 0 rfl) ?_
      refine lv_iconst (v := nI 1) F.1 F.2.1 dL_law_834 (by decide) ?_
      refine ax_add (z := nI (i + 1)) F (nI_add _ _) dL_law_835 ?_
      refine l_sld F hX hbl hW (show i + 1 < L by omega) hL dL_law_836 ?_
      refine lx_i (As := [.int (xs (i + 1))]) (rest := []) F (c_X7_first l GX X.1 X.2.1 X.2.2.1 X.2.2.2 _ _ _ _ _ _ _ _ (zR_x hR) (xs (i + 1))) (xcw F.2.2.2.2 ca_X7_first tm_489 rfl rfl ⟨by decide, by decide⟩) hW rfl hl.1 rfl (Nat.le_of_ble_eq_true rfl) dL_law_837 ⟨by decide, by decide⟩ (fun rx ux H locs hpx hW => ?_)
      refine lv_aload_n F.1 F.2.1 dL_law_840 rfl (lv_at hl 1 rfl) ?_
      refine lv_aload_n F.1 F.2.1 dL_law_841 rfl (lv_at hl 3 rfl) ?_
      refine lv_iload_n F.1 F.2.1 dL_law_842 rfl (lv_at hl 0 rfl) ?_
      refine lv_iconst (v := nI 1) F.1 F.2.1 dL_law_843 (by decide) ?_
      refine ax_add (z := nI (i + 1)) F (nI_add _ _) dL_law_844 ?_
      refine l_sld F hX hbl hW (show i + 1 < L by omega) hL dL_law_845 ?_
      refine lm_i (As := [.int (xs (i + 1))]) (rest := [.int rx]) F (c_X8_first l GM Y.1 Y.2.1 Y.2.2.1 Y.2.2.2.1 Y.2.2.2.2 _ _ _ _ _ _ _ _ (zR_m hR) (xs (i + 1))) (xcw F.2.2.2.2 ca_X8_first tm_766 rfl rfl ⟨by decide, by decide⟩) hW rfl hl.1 rfl (Nat.le_of_ble_eq_true rfl) dL_law_846 ⟨by decide, by decide⟩ (fun rm um H locs hpm hW => ?_)
      obtain ⟨e1, _, rfl⟩ := hpx
      obtain ⟨e2, _, rfl⟩ := hpm
      have e := R_first e1 e2
      have hR2 : zR X.1 Y.1 := hR
      refine lv_icmp_eq (tgt := 854) F.1 F.2.1 dL_law_849 (by decide) (fun _ => ?_) (fun q => absurd e q)
      exact back _ _ _ _ ls hW hR2 hl
