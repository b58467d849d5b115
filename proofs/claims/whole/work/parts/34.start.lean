/-! ===== the start ===== -/
theorem ap_l {D : va_G} {cl : List vw_C} {ws wt : va_W} {H : Heap} (h : va_P D cl (ws ++ wt) H) : va_P D cl ws H := fun k q hk => h k q (by rw [List.getElem?_append_left (List.getElem?_eq_some_iff.mp hk).1]; exact hk)
theorem ap_r {D : va_G} {cl : List vw_C} {ws wt : va_W} {H : Heap} (h : va_P D cl (ws ++ wt) H) : va_P D cl wt H := fun k q hk => h (ws.length + k) q (by rw [List.getElem?_append_right (by omega), Nat.add_sub_cancel_left]; exact hk)
theorem apg_l {ws wt : va_W} {k : Nat} {q : Nat × va_E} (hk : ws[k]? = some q) : (ws ++ wt)[k]? = some q := by rw [List.getElem?_append_left (List.getElem?_eq_some_iff.mp hk).1]; exact hk
theorem apg_r {ws wt : va_W} {k : Nat} {q : Nat × va_E} (hk : wt[k]? = some q) : (ws ++ wt)[ws.length + k]? = some q := by rw [List.getElem?_append_right (by omega), Nat.add_sub_cancel_left]; exact hk
theorem apD_l {A : Nat → Prop} {ws wt : va_W} (h : va_D A (ws ++ wt)) : va_D A ws := ⟨fun i j p q hi hj e => h.1 i j p q (apg_l hi) (apg_l hj) e, fun k q hk => h.2 k q (apg_l hk)⟩
theorem apD_r {A : Nat → Prop} {ws wt : va_W} (h : va_D A (ws ++ wt)) : va_D A wt := ⟨fun i j p q hi hj e => by have := h.1 _ _ p q (apg_r hi) (apg_r hj) e; omega, fun k q hk => h.2 _ q (apg_r hk)⟩
theorem apD_x {A : Nat → Prop} {ws wt : va_W} (h : va_D A (ws ++ wt)) {i j : Nat} {p q : Nat × va_E} (hi : ws[i]? = some p) (hj : wt[j]? = some q) (e : p.1 = q.1) : False := by
  have h1 := h.1 _ _ p q (apg_l hi) (apg_r hj) e
  have h2 := (List.getElem?_eq_some_iff.mp hi).1
  omega
theorem xA_ex {G : XG} {M : XM} {P : XP} {S : XS} {V : XV} {q : Nat} (h : xA G q) : ∃ (k : Nat) (e : va_E), (xw G M P S V)[k]? = some (q, e) := by
  rcases h with ⟨i, hi, rfl⟩ | ⟨j, hj, rfl⟩ | ⟨j, hj, rfl⟩
  · match i, hi with
    | 0, _ => exact ⟨0, _, rfl⟩
    | 1, _ => exact ⟨1, _, rfl⟩
    | 2, _ => exact ⟨2, _, rfl⟩
    | 3, _ => exact ⟨3, _, rfl⟩
    | 4, _ => exact ⟨4, _, rfl⟩
    | 5, _ => exact ⟨5, _, rfl⟩
    | 6, _ => exact ⟨6, _, rfl⟩
    | 7, _ => exact ⟨7, _, rfl⟩
    | 8, _ => exact ⟨8, _, rfl⟩
    | 9, _ => exact ⟨9, _, rfl⟩
    | 10, _ => exact ⟨10, _, rfl⟩
    | 11, _ => exact ⟨11, _, rfl⟩
    | 12, _ => exact ⟨12, _, rfl⟩
    | 13, _ => exact ⟨13, _, rfl⟩
    | 14, _ => exact ⟨14, _, rfl⟩
    | 15, _ => exact ⟨15, _, rfl⟩
    | i + 16, hi => exact absurd hi (by omega)
  · exact ⟨_, _, xw_o hj⟩
  · exact ⟨_, _, xw_s hj⟩
theorem mA_ex {G : MG} {M : MM} {P : MP} {L : ML} {N : MN} {V : MV} {q : Nat} (h : mA G q) : ∃ (k : Nat) (e : va_E), (mw G M P L N V)[k]? = some (q, e) := by
  obtain ⟨i, hi, rfl⟩ := h
  match i, hi with
  | 0, _ => exact ⟨0, _, rfl⟩
  | 1, _ => exact ⟨1, _, rfl⟩
  | 2, _ => exact ⟨2, _, rfl⟩
  | 3, _ => exact ⟨3, _, rfl⟩
  | 4, _ => exact ⟨4, _, rfl⟩
  | 5, _ => exact ⟨5, _, rfl⟩
  | 6, _ => exact ⟨6, _, rfl⟩
  | 7, _ => exact ⟨7, _, rfl⟩
  | 8, _ => exact ⟨8, _, rfl⟩
  | 9, _ => exact ⟨9, _, rfl⟩
  | 10, _ => exact ⟨10, _, rfl⟩
  | 11, _ => exact ⟨11, _, rfl⟩
  | 12, _ => exact ⟨12, _, rfl⟩
  | 13, _ => exact ⟨13, _, rfl⟩
  | i + 14, hi => exact absurd hi (by omega)
theorem mA_in {G : MG} {M : MM} {P : MP} {L : ML} {N : MN} {V : MV} {k : Nat} {q : Nat × va_E} (hk : (mw G M P L N V)[k]? = some q) : mA G q.1 := by
  have hl : k < 14 := (List.getElem?_eq_some_iff.mp hk).1
  match k, hl, hk with
  | 0, _, hk => cases hk; exact ⟨0, by decide, rfl⟩
  | 1, _, hk => cases hk; exact ⟨1, by decide, rfl⟩
  | 2, _, hk => cases hk; exact ⟨2, by decide, rfl⟩
  | 3, _, hk => cases hk; exact ⟨3, by decide, rfl⟩
  | 4, _, hk => cases hk; exact ⟨4, by decide, rfl⟩
  | 5, _, hk => cases hk; exact ⟨5, by decide, rfl⟩
  | 6, _, hk => cases hk; exact ⟨6, by decide, rfl⟩
  | 7, _, hk => cases hk; exact ⟨7, by decide, rfl⟩
  | 8, _, hk => cases hk; exact ⟨8, by decide, rfl⟩
  | 9, _, hk => cases hk; exact ⟨9, by decide, rfl⟩
  | 10, _, hk => cases hk; exact ⟨10, by decide, rfl⟩
  | 11, _, hk => cases hk; exact ⟨11, by decide, rfl⟩
  | 12, _, hk => cases hk; exact ⟨12, by decide, rfl⟩
  | 13, _, hk => cases hk; exact ⟨13, by decide, rfl⟩
  | k + 14, hl, _ => exact absurd hl (by omega)
abbrev wMm (cI cJ : ClassId) (qm : Nat) (um : Nat × Nat × Nat × Nat × Nat × Nat × Nat × Nat × Nat × Nat × Nat × Nat × Nat) : va_W := [(qm, .inr (7, [.int (nI 0), .ref um.1, .ref um.2.1, .ref um.2.2.1, .int 0, .ref um.2.2.2.1, .int (nI 60), .int (nI 1), .int 0, .ref um.2.2.2.2.1, .ref um.2.2.2.2.2.1, .ref um.2.2.2.2.2.2.1, .ref um.2.2.2.2.2.2.2.1, .int 0, .int 0, .int 0, .int 0, .ref um.2.2.2.2.2.2.2.2.1, .ref um.2.2.2.2.2.2.2.2.2.1, .ref um.2.2.2.2.2.2.2.2.2.2.1, .ref um.2.2.2.2.2.2.2.2.2.2.2.1, .ref um.2.2.2.2.2.2.2.2.2.2.2.2, .int 0, .int 0])), (um.1, .inl (cI, 12, .inl (fun _ => 0))), (um.2.1, .inl (cI, 12, .inl (fun _ => 0))), (um.2.2.1, .inl (cI, 144, .inl (fun _ => 0))), (um.2.2.2.1, .inl (cI, 12, .inl (fun _ => 0))), (um.2.2.2.2.1, .inl (cI, 8, .inl (fun _ => 0))), (um.2.2.2.2.2.1, .inl (cI, 8, .inl (fun _ => 0))), (um.2.2.2.2.2.2.1, .inl (cJ, 8, .inr (.inl (fun _ => 0)))), (um.2.2.2.2.2.2.2.1, .inl (cI, 8, .inl (fun _ => 0))), (um.2.2.2.2.2.2.2.2.1, .inl (cI, 240, .inl (fun _ => 0))), (um.2.2.2.2.2.2.2.2.2.1, .inl (cI, 240, .inl (fun _ => 0))), (um.2.2.2.2.2.2.2.2.2.2.1, .inl (cI, 240, .inl (fun _ => 0))), (um.2.2.2.2.2.2.2.2.2.2.2.1, .inl (cJ, 240, .inr (.inl (fun _ => 0)))), (um.2.2.2.2.2.2.2.2.2.2.2.2, .inl (cI, 240, .inl (fun _ => 0)))]
def gM (D : va_G) (cI cJ : ClassId) (qm : Nat) (um : Nat × Nat × Nat × Nat × Nat × Nat × Nat × Nat × Nat × Nat × Nat × Nat × Nat) : MG := (D.1, D.2, cI, cJ, (fun i => match i with
  | 0 => qm
  | 1 => um.1
  | 2 => um.2.1
  | 3 => um.2.2.1
  | 4 => um.2.2.2.1
  | 5 => um.2.2.2.2.1
  | 6 => um.2.2.2.2.2.1
  | 7 => um.2.2.2.2.2.2.1
  | 8 => um.2.2.2.2.2.2.2.1
  | 9 => um.2.2.2.2.2.2.2.2.1
  | 10 => um.2.2.2.2.2.2.2.2.2.1
  | 11 => um.2.2.2.2.2.2.2.2.2.2.1
  | 12 => um.2.2.2.2.2.2.2.2.2.2.2.1
  | _ => um.2.2.2.2.2.2.2.2.2.2.2.2))
theorem mk_m {D : va_G} {cI cJ : ClassId} {qm : Nat} {um : Nat × Nat × Nat × Nat × Nat × Nat × Nat × Nat × Nat × Nat × Nat × Nat × Nat} {A : Nat → Prop} {H : Heap} (hP : va_P D vwCl (wMm cI cJ qm um) H) (hD : va_D A (wMm cI cJ qm um)) : va_P D vwCl (mw (gM D cI cJ qm um) mM0 mP0 mL0 mN0 mV0) H ∧ va_D A (mw (gM D cI cJ qm um) mM0 mP0 mL0 mN0 mV0) := ⟨hP, hD⟩
set_option maxHeartbeats 40000000 in
set_option maxRecDepth 100000 in
theorem whole_start {p : Program} {e : Env} {s : State} {m : MethodId} {below : List Frame} {meth : Method} {c : Code} (l : Launch) {b L : Nat} {xs : Nat → Int32} (hL : L ≤ 2048) (C0 : lw_At p s m meth c b L xs) : W p l e room_1 s m #[Value.ref b] below meth c s.heap [] 0 0 (lw_Z below #[Value.ref b] s) (entryFrame m ([Value.ref b] : List Value).toArray 4) := by
  obtain ⟨hx, hb, hrr, hml, hown, hts, hX, hbl, hlocks, hgv⟩ := id C0
  have F : CallFix p m c code 4 s #[Value.ref b] gtbl "DoFinderLaw" := ⟨hx, hb, hml, hown, fun w hw => hts w (gt_in w hw)⟩
  have hA : ∀ q : Nat, s.heap.size ≤ q → (fun q : Nat => s.heap.size ≤ q) q := fun _ h => h
  obtain ⟨c0, i0, k0⟩ := u_known (C := RX0) (T := TX0) (N := 5) (n := 5) F.2.2.2.2 iw_X0 (F.2.2.2.2 _ tm_91)
  obtain ⟨c1, i1, k1⟩ := u_known (C := RX1) (T := TX1) (N := 5) (n := 5) F.2.2.2.2 iw_X1 (F.2.2.2.2 _ tm_43)
  obtain ⟨c2, i2, k2⟩ := u_known (C := RX2) (T := TX2) (N := 8) (n := 8) F.2.2.2.2 iw_X2 (F.2.2.2.2 _ tm_146)
  obtain ⟨c3, i3, k3⟩ := u_known (C := RX3) (T := TX3) (N := 3) (n := 3) F.2.2.2.2 iw_X3 (F.2.2.2.2 _ tm_51)
  obtain ⟨c4, i4, k4⟩ := u_known (C := RX4) (T := TX4) (N := 3) (n := 3) F.2.2.2.2 iw_X4 (F.2.2.2.2 _ tm_20)
  obtain ⟨c5, i5, k5⟩ := u_known (C := RX5) (T := TX5) (N := 6) (n := 6) F.2.2.2.2 iw_X5 (F.2.2.2.2 _ tm_121)
  obtain ⟨c6, i6, k6⟩ := u_known (C := RX7) (T := TX7) (N := 5) (n := 5) F.2.2.2.2 iw_X7 (F.2.2.2.2 _ tm_12)
  obtain ⟨c7, i7, k7⟩ := u_known (C := RX8) (T := TX8) (N := 24) (n := 24) F.2.2.2.2 iw_X8 (F.2.2.2.2 _ tm_495)
  obtain ⟨dC, dI, hKc⟩ : ∃ (dC : Nat → ClassId) (dI : Nat → Nat → Nat), ∀ (k : Nat) (q : vw_C), vwCl[k]? = some q → u_Kn s q.1 q.2.1 q.2.2 (dC k) (dI k) := by
    refine ⟨fun k => if k = 0 then c0 else if k = 1 then c1 else if k = 2 then c2 else if k = 3 then c3 else if k = 4 then c4 else if k = 5 then c5 else if k = 6 then c6 else c7, fun k => if k = 0 then i0 else if k = 1 then i1 else if k = 2 then i2 else if k = 3 then i3 else if k = 4 then i4 else if k = 5 then i5 else if k = 6 then i6 else i7, ?_⟩
    intro k q hq
    match k, hq with
    | 0, hq => cases hq; exact k0
    | 1, hq => cases hq; exact k1
    | 2, hq => cases hq; exact k2
    | 3, hq => cases hq; exact k3
    | 4, hq => cases hq; exact k4
    | 5, hq => cases hq; exact k5
    | 6, hq => cases hq; exact k6
    | 7, hq => cases hq; exact k7
    | k + 8, hq => simp [vwCl] at hq
  obtain ⟨cI, kI, pI, a1, a2, a3⟩ := Cond.arrayClass_spec (F.2.2.2.2 _ tm_41)
  obtain ⟨cJ, kJ, pJ, b1, b2, b3⟩ := Cond.arrayClass_spec (F.2.2.2.2 _ tm_119)
  have hov : (Cond.arrayOver (.object "DoFinder$Routine")).before #[Value.ref b] s = true := hts _ (List.mem_of_getElem? (i := 77) (by decide +kernel))
  obtain ⟨pR, cR, kR, d1, d2, d3, d4, d5⟩ := Cond.arrayOver_spec hov
  have hK : va_K (dC, dI) vwCl (kT cI cJ cR) s := by
    refine ⟨hKc, fun k q hq => ?_⟩
    match k, hq with
    | 0, hq => cases hq; exact ⟨fun n z => ⟨(fun k h => by cases h), kI, a2, pI, a3⟩, a1⟩
    | 1, hq => cases hq; exact ⟨fun n z => ⟨(fun k h => by cases h), kJ, b2, pJ, b3⟩, b1⟩
    | 2, hq => cases hq; exact ⟨fun n z => ⟨(fun k h => by cases h), kR, d3, pR, d4⟩, kR, pR, d3, d4, d1, d5⟩
    | k + 3, hq => simp [kT] at hq
  have hE : kE s := ⟨va_AO.of hov, va_Nw.of rfl (hts _ (List.mem_of_getElem? (i := 49) (by decide +kernel))), va_Nw.of rfl (hts _ (List.mem_of_getElem? (i := 80) (by decide +kernel))), va_Nw.of rfl (hts _ (List.mem_of_getElem? (i := 95) (by decide +kernel))), va_Nw.of rfl (hts _ (List.mem_of_getElem? (i := 120) (by decide +kernel)))⟩
  generalize hDD : ((dC, dI) : va_G) = D at hK
  have hP : va_P D vwCl ([] : va_W) s.heap := fun k q h => by simp at h
  have hD : va_D (fun q : Nat => s.heap.size ≤ q) ([] : va_W) := ⟨fun i j p q h => by simp at h, fun k q h => by simp at h⟩
  have hS : va_S (fun q : Nat => s.heap.size ≤ q) s.heap s.heap [] := va_S.rf
  have hl := lv_entry ([.ref b]) (n := 4) (Nat.le_of_ble_eq_true rfl)
  rw [lg_entry_eq]
  generalize (lg_sl ([.ref b]) ++ List.replicate (4 - (lg_sl ([.ref b])).length) Slot.unset).toArray = ls at hl ⊢
  have hl : lv_has ls 4 [(0, .ref b)] := hl
  refine va_new (ci := 6) (fs := [.null, .null, .null, .null, .null]) (C := RX7) (T := TX7) (N := 5) F.1 F.2.1 F.2.2.2.2 iw_X7 tyX7 tyX7_ok F.2.2.2.1 (F.2.2.2.2 _ tm_11) (F.2.2.2.2 _ tm_12) (F.2.2.2.2 _ tm_1) hK hP hD hS hA rfl (fun j hj => by rcases (show j = 0 ∨ j = 1 ∨ j = 2 ∨ j = 3 ∨ j = 4 by omega) with rfl | rfl | rfl | rfl | rfl <;> rfl) (Nat.le_of_ble_eq_true rfl) (Nat.le_of_ble_eq_true rfl) dL_law_0 (fun qx H hP hD hS => ?_)
  refine W.widen (k := 1) (n := 5) (by omega) (by omega) ?_
  refine lv_dup F.1 F.2.1 dL_law_3 rfl ?_
  have hFc := k_free hD hS hA
  refine va_callv (va_runI (As := []) (rest := [.ref qx]) F (c_X7_init l D cI cJ cR qx H.size) (cwI 0 F.2.2.2.2 (gt_cons tm_15) rfl rfl rfl (F.2.2.2.2 _ tm_1) (F.2.2.2.2 _ tm_13) (F.2.2.2.2 _ tm_14) rfl (by decide +kernel) ⟨Nat.le_of_ble_eq_true rfl, Nat.le_of_ble_eq_true rfl⟩) (k_pre (k_last hP) hK hE) rfl rfl hl.1 rfl (lv_room (Nat.le_of_ble_eq_true rfl)) dL_law_4 ⟨Nat.le_of_ble_eq_true rfl, Nat.le_of_ble_eq_true rfl⟩) hS (fun q _ h => hFc q h) hFc (fun ux t H1 locs ht hvm hw hB hz1 hk1 hS => ?_)
  obtain ⟨hP1, hK1, hD1⟩ := hB
  rw [ht] at hP1
  obtain ⟨hP, hD⟩ := k_join hP hD hk1 hFc hP1 hD1
  generalize H1 = H at hP hS ⊢
  have hP : va_P D vwCl (wD cI cJ cR qx ux) H := hP
  have hD : va_D (fun q : Nat => s.heap.size ≤ q) (wD cI cJ cR qx ux) := hD
  refine W.widen (k := 42) (n := 1987) (by omega) (by omega) ?_
  refine lv_astore_n (lv' := [(1, .ref qx), (0, .ref b)]) F.1 F.2.1 dL_law_7 rfl hl (by decide) rfl (fun ls hl => ?_)
  refine va_new (ci := 7) (fs := [.int 0, .null, .null, .null, .int 0, .null, .int 0, .int 0, .int 0, .null, .null, .null, .null, .int 0, .int 0, .int 0, .int 0, .null, .null, .null, .null, .null, .int 0, .int 0]) (C := RX8) (T := TX8) (N := 24) F.1 F.2.1 F.2.2.2.2 iw_X8 tyX8 tyX8_ok F.2.2.2.1 (F.2.2.2.2 _ tm_494) (F.2.2.2.2 _ tm_495) (F.2.2.2.2 _ tm_8) hK hP hD hS hA rfl (fun j hj => by rcases (show j = 0 ∨ j = 1 ∨ j = 2 ∨ j = 3 ∨ j = 4 ∨ j = 5 ∨ j = 6 ∨ j = 7 ∨ j = 8 ∨ j = 9 ∨ j = 10 ∨ j = 11 ∨ j = 12 ∨ j = 13 ∨ j = 14 ∨ j = 15 ∨ j = 16 ∨ j = 17 ∨ j = 18 ∨ j = 19 ∨ j = 20 ∨ j = 21 ∨ j = 22 ∨ j = 23 by omega) with rfl | rfl | rfl | rfl | rfl | rfl | rfl | rfl | rfl | rfl | rfl | rfl | rfl | rfl | rfl | rfl | rfl | rfl | rfl | rfl | rfl | rfl | rfl | rfl <;> rfl) (Nat.le_of_ble_eq_true rfl) (Nat.le_of_ble_eq_true rfl) dL_law_8 (fun qm H hP hD hS => ?_)
  refine W.widen (k := 43) (n := 2011) (by omega) (by omega) ?_
  refine lv_dup F.1 F.2.1 dL_law_11 rfl ?_
  have hFc := k_free hD hS hA
  refine va_callv (va_runI (As := []) (rest := [.ref qm]) F (c_X8_init l D cI cJ cR qm H.size) (cwI 0 F.2.2.2.2 (gt_cons tm_498) rfl rfl rfl (F.2.2.2.2 _ tm_8) (F.2.2.2.2 _ tm_496) (F.2.2.2.2 _ tm_497) rfl (by decide +kernel) ⟨Nat.le_of_ble_eq_true rfl, Nat.le_of_ble_eq_true rfl⟩) (k_pre (k_last hP) hK hE) rfl rfl hl.1 rfl (lv_room (Nat.le_of_ble_eq_true rfl)) dL_law_12 ⟨Nat.le_of_ble_eq_true rfl, Nat.le_of_ble_eq_true rfl⟩) hS (fun q _ h => hFc q h) hFc (fun um t H1 locs ht hvm hw hB hz1 hk1 hS => ?_)
  obtain ⟨hP1, hK1, hD1⟩ := hB
  rw [ht] at hP1
  obtain ⟨hP, hD⟩ := k_join hP hD hk1 hFc hP1 hD1
  generalize H1 = H at hP hS ⊢
  have hP : va_P D vwCl (wD cI cJ cR qx ux ++ wMm cI cJ qm um) H := hP
  have hD : va_D (fun q : Nat => s.heap.size ≤ q) (wD cI cJ cR qx ux ++ wMm cI cJ qm um) := hD
  refine W.widen (k := 600000) (n := 7302250) (by omega) (by omega) ?_
  refine lv_astore_n (lv' := [(2, .ref qm), (1, .ref qx), (0, .ref b)]) F.1 F.2.1 dL_law_15 rfl hl (by decide) rfl (fun ls hl => ?_)
  refine lv_iconst (v := nI 0) F.1 F.2.1 dL_law_16 (by decide) ?_
  refine lv_istore_n (lv' := [(3, .int (nI 0)), (2, .ref qm), (1, .ref qx), (0, .ref b)]) F.1 F.2.1 dL_law_17 rfl hl (by decide) rfl (fun ls hl => ?_)
  have hPx := ap_l hP
  have hPm := ap_r hP
  have hDx0 : va_D (fun q => ∃ (k : Nat) (e : va_E), (wD cI cJ cR qx ux)[k]? = some (q, e)) (wD cI cJ cR qx ux) := ⟨(apD_l hD).1, fun k q hk => ⟨k, q.2, hk⟩⟩
  have hDm0 : va_D (fun q => ∃ (k : Nat) (e : va_E), (wMm cI cJ qm um)[k]? = some (q, e)) (wMm cI cJ qm um) := ⟨(apD_r hD).1, fun k q hk => ⟨k, q.2, hk⟩⟩
  obtain ⟨wPx, wDx⟩ := mk_x hPx hDx0
  obtain ⟨wPm, wDm⟩ := mk_m hPm hDm0
  have gx0 : xga (gX D cI cJ cR qx ux) 0 = qx := rfl
  have gm0 : mga (gM D cI cJ qm um) 0 = qm := rfl
  have hW : lW (gX D cI cJ cR qx ux) (gM D cI cJ qm um) s s.heap H locs (xM0, xP0, xS0, xV0) (mM0, mP0, mL0, mN0, mV0) := by
    refine ⟨⟨?_, ⟨wDx.1, fun k q hk => xA_in hk⟩, ?_⟩, ⟨?_, ⟨wDm.1, fun k q hk => mA_in hk⟩, ?_⟩, ?_, ?_, ?_, hS⟩
    · exact wPx
    · exact hK
    · exact wPm
    · exact hK.sub (tys' := [(cI, .int), (cJ, .long)]) [0, 1] rfl
    · intro q h1 h2
      obtain ⟨k1, e1, h1⟩ := xA_ex (M := xM0) (P := xP0) (S := xS0) (V := xV0) h1
      obtain ⟨k2, e2, h2⟩ := mA_ex (M := mM0) (P := mP0) (L := mL0) (N := mN0) (V := mV0) h2
      obtain ⟨k3, e3, h3⟩ := wDx.2 k1 _ h1
      obtain ⟨k4, e4, h4⟩ := wDm.2 k2 _ h2
      exact apD_x hD h3 h4 rfl
    · intro q h1
      obtain ⟨k1, e1, h1⟩ := xA_ex (M := xM0) (P := xP0) (S := xS0) (V := xV0) h1
      obtain ⟨k3, e3, h3⟩ := wDx.2 k1 _ h1
      exact (apD_l hD).2 k3 _ h3
    · intro q h2
      obtain ⟨k2, e2, h2⟩ := mA_ex (M := mM0) (P := mP0) (L := mL0) (N := mN0) (V := mV0) h2
      obtain ⟨k4, e4, h4⟩ := wDm.2 k2 _ h2
      exact (apD_r hD).2 k4 _ h4
  exact law_loop l hL C0 (gX D cI cJ cR qx ux) (gM D cI cJ qm um) (L - 0) 0 (xM0, xP0, xS0, xV0) (mM0, mP0, mL0, mN0, mV0) rfl (Nat.zero_le _) zR0 H locs ls hW hl
set_option maxHeartbeats 4000000 in
theorem lw_walk (l : Launch) (b : Addr) (xs : List Int32) : MetFree l x (headSpec (Jvm.Cond.code x code maxLocals ret :: tables_1) room_1) (lw_P b xs) (fun _ _ _ _ _ => True) lw_Q := by
  refine MetFree.of_bodyS (code := code) (maxLocals := maxLocals) (ret := ret) (by decide) ?_ ?_
  · intro args s m h hn
    obtain ⟨meth, c, h1, h2, h3, h4, h5, h6, -, -⟩ := Cond.code_spec hn (atoms_spec (ws := Jvm.Cond.code x code maxLocals ret :: tables_1) h _ List.mem_cons_self)
    exact ⟨meth, c, h1, h2, h3, h4, h5, h6⟩
  · intro p e s m args below meth c s₁ B hml0 hP _
    obtain ⟨rfl, hx, hbd, hgv⟩ := hP
    obtain ⟨scr, harrAt, hlist, hof, hsmall⟩ := hx
    obtain ⟨hcb, hkn, -, -⟩ := State.arrayAt?_spec harrAt
    have hown : s.vm.findClass R_law = some m.cls := findClass_of_methodNamed B.named
    have hts0 : ∀ c ∈ (Jvm.Cond.code x code maxLocals ret :: tables_1), c.before #[Value.ref b] s = true := atoms_spec (ws := Jvm.Cond.code x code maxLocals ret :: tables_1) B.pre
    have hts : ∀ w ∈ lw_tbl, w.before #[Value.ref b] s = true := k2_hts_sels lw_privs (fun w hw => hts0 w (List.mem_cons_of_mem _ hw)) lw_privs_ok
    have hml : c.maxLocals = 4 := B.maxLocals_eq (hts0 _ List.mem_cons_self)
    have X₀ : Stand p l e room_1 s m #[Value.ref b] below meth c s₁ [] 0 0 := Stand.of_body B
    have hh0 : s₁.heap = s.heap := by rw [B.state]; rfl
    have hsz : scr.slots.size = xs.length := by rw [← Array.length_toList, hlist, List.length_map]
    have hval : ∀ j : Nat, j < xs.length → scr.slots[j]? = some (.int (xs.getD j 0)) := fun j hj => by
      rw [← Array.getElem?_toList, hlist]
      simp [hj]
    have hbl : b < s.heap.size := (Array.getElem?_eq_some_iff.mp hcb).1
    have hX : va_X b xs.length (fun j => xs.getD j 0) s s.heap := ⟨scr, hcb, hof, hkn, hsz, hval⟩
    have K : W p l e room_1 s m #[Value.ref b] below meth c s₁.heap [] 0 0 (lw_Z below #[Value.ref b] s) (entryFrame m ([Value.ref b] : List Value).toArray 4) := by
      rw [hh0]
      exact whole_start l hbd ⟨B.exec, B.bytes, B.returns, hml, hown, hts, hX, hbl, B.notSynchronized, hgv⟩
    obtain ⟨t, a1, o, b1, b2, b3⟩ := K s₁ rfl X₀
    exact ⟨t, o, a1, b1, b2, b3⟩
theorem lw_pre_spec {args : Array Value} {s : State} (h : (Jvm.Cond.and given_1 narrow_1).before args s = true) (hr : rest_1_c.before args s = true) : ∃ (b : Addr) (xs : List Int32), lw_P b xs args s := by
  have hs := flat_of_before _ h
  have hq := flat_of_before _ hr
  have hc : (Cond.count 1).before args s = true := hs _ (by decide +kernel)
  have harr : (Cond.arrayOf (.arg 0) .int).before args s = true := hs _ (by decide +kernel)
  have hle : (Cond.le (.length (.arg 0)) (.int 2048)).before args s = true := hs _ (by decide +kernel)
  have hlen : (Cond.isInt (.length (.arg 0))).before args s = true := hq _ (by decide +kernel)
  have hall : (Cond.all (.arg 0) (.isInt (.elem (.arg 0) (.index 0)))).before args s = true := hq _ (by decide +kernel)
  obtain ⟨b, xs, hb, hx⟩ := State.ints_of_pre rfl harr hlen hall
  have hsm : xs.length < 2 ^ 31 := hx.choose_spec.2.2.2
  have hev : (Term.length (.arg 0)).eval args s none [] s = some (.int xs.length.toInt32) := hx.length_eval hb
  have hv := Cond.le_ints hev (show (Term.int 2048).eval args s none [] s = some (.int 2048) from rfl)
  have hd : xs.length.toInt32 ≤ 2048 := by
    simpa [Cond.before, Cond.holds, hv] using hle
  have hN : xs.length ≤ 2048 := (Int32.ofNat_le_ofNat hsm (by decide)).mp (show Int32.ofNat xs.length ≤ Int32.ofNat 2048 from hd)
  exact ⟨b, xs, Cond.one_arg hc (show args[0]? = some (.ref b) from hb), hx, hN, h⟩
theorem lw_comes (l : Launch) : Comes l x (Jvm.Cond.code x code maxLocals ret :: tables_1) room_1 (fun tb e args s => Calls_1 tb e args s ∧ rest_1 tb e args s ∧ Pre_1 tb e args s)
    (fun _ _ args s o t => lw_Q args s o t) := by
  intro p e ha hc hk s m args below hf hfit hheap happ hpre
  obtain ⟨b, xs, hP⟩ := lw_pre_spec hpre.2.2 hpre.2.1
  obtain ⟨k, o, h1, h2, h3, hQ⟩ := lw_walk l b xs p e ha hc hk s m args below hf ((Spec.applies_iff_loose hf).mp happ).1 hP trivial
  exact ⟨k, o, h1, h2, h3, hQ⟩
theorem lw_frame {s t : State} {o : Outcome} {args : Array Value} (h : Framed s o t [] 600000 7302250) :
    Framed s o t (fieldLocs frame_1_writes args s ++ arrayLocs frame_1_arrays args s ++ staticLocs frame_1_statics s) 600000 7302250 := h
theorem lw_limb (L : Cond) (hL : ∀ (args : Array Value) (s t : State), L.after args s (.returned (some (.int 1))) t = true) :
    ArmFor flags0 classFile x code maxLocals ret World_1 tables_1 room_1 Calls_1 rest_1 Pre_1
      (fun tb e a s o t => postC L tb e a s o t ∧ Framed s o t (fieldLocs frame_1_writes a s ++ arrayLocs frame_1_arrays a s ++ staticLocs frame_1_statics s) 600000 7302250) := by
  intro l _ _ _ p e ha hc hk s m args below hf hfit hheap happ hpre
  obtain ⟨k, o, h1, h2, h3, rfl, hF⟩ := lw_comes l p e ha hc hk s m args below hf hfit hheap happ hpre
  exact ⟨k, _, h1, h2, h3, hL args s _, lw_frame hF⟩
theorem i_vc : Claimed_1_1 ∧ Claimed_1_2 := ⟨lw_limb limb_1_1 (fun args s t => by simp [limb_1_1, Cond.after, Cond.holds, Cond.value]), lw_limb limb_1_2 (fun args s t => Cond.after_iff.mpr (by
  first | (rw [show limb_1_2 = Cond.eq .result (.int 1) from rfl, Cond.eq_ints (x := 1) (y := 1) rfl rfl]; simp; done) | (simp [limb_1_2, Cond.value, Term.eval]; done)))⟩
