def wD (cI cJ cR : ClassId) (h0 : Nat) (u : Nat × Nat × Nat × Nat × Nat × Nat × (Nat × Nat × Nat × (Nat → Nat) × (Nat → Nat)) × (Nat × Nat × Nat) × (Nat × Nat × Nat) × (Nat × Nat)) : va_W := match u with
  | (qX4, qX1, qX0, qX5, qX2, uX4, uX1, uX0, uX5, uX2) => ((((([(h0, .inr (6, [.ref qX4, .ref qX1, .ref qX0, .ref qX5, .ref qX2]))] ++ [(qX4, .inr (4, [.ref uX4, .int (nI 0), .int (nI 1)])), (uX4, .inl (cI, 12, .inl (fun _ => 0)))]) ++ (wLf cI cR qX1 uX1.1 uX1.2.1 uX1.2.2.1 12 uX1.2.2.2.1 ++ wLp cI uX1.2.2.2.1 uX1.2.2.2.2 12)) ++ [(qX0, .inr (0, [.ref uX0.1, .ref uX0.2.1, .ref uX0.2.2, .int (nI 0), .int (nI 1)])), (uX0.1, .inl (cI, 8, .inl (fun _ => 0))), (uX0.2.1, .inl (cI, 8, .inl (fun _ => 0))), (uX0.2.2, .inl (cJ, 8, .inr (.inl (fun _ => 0))))]) ++ [(qX5, .inr (5, [.ref qX1, .ref qX0, .ref uX5.1, .ref uX5.2.1, .ref uX5.2.2, .int (nI 0)])), (uX5.1, .inl (cI, 240, .inl (fun _ => 0))), (uX5.2.1, .inl (cI, 240, .inl (fun _ => 0))), (uX5.2.2, .inl (cI, 756, .inl (fun _ => 0)))]) ++ [(qX2, .inr (2, [.ref qX5, .ref uX2.1, .ref uX2.2, .int (nI 0), .int (nI 0), .int (nI 0), .int (nI 0), .int (nI 0)])), (uX2.1, .inl (cJ, 240, .inr (.inl (fun _ => 0)))), (uX2.2, .inl (cI, 240, .inl (fun _ => 0)))])
theorem dX7_init_0 : decode cX7_init 0 = .ok (.aload_n 0, 1) := by decide +kernel
theorem dX7_init_1 : decode cX7_init 1 = .ok (.invokespecial 1, 3) := by decide +kernel
theorem dX7_init_4 : decode cX7_init 4 = .ok (.aload_n 0, 1) := by decide +kernel
theorem dX7_init_5 : decode cX7_init 5 = .ok (.new 7, 3) := by decide +kernel
theorem dX7_init_8 : decode cX7_init 8 = .ok (.dup, 1) := by decide +kernel
theorem dX7_init_9 : decode cX7_init 9 = .ok (.invokespecial 9, 3) := by decide +kernel
theorem dX7_init_12 : decode cX7_init 12 = .ok (.putfield 10, 3) := by decide +kernel
theorem dX7_init_15 : decode cX7_init 15 = .ok (.aload_n 0, 1) := by decide +kernel
theorem dX7_init_16 : decode cX7_init 16 = .ok (.new 16, 3) := by decide +kernel
theorem dX7_init_19 : decode cX7_init 19 = .ok (.dup, 1) := by decide +kernel
theorem dX7_init_20 : decode cX7_init 20 = .ok (.invokespecial 18, 3) := by decide +kernel
theorem dX7_init_23 : decode cX7_init 23 = .ok (.putfield 19, 3) := by decide +kernel
theorem dX7_init_26 : decode cX7_init 26 = .ok (.aload_n 0, 1) := by decide +kernel
theorem dX7_init_27 : decode cX7_init 27 = .ok (.new 23, 3) := by decide +kernel
theorem dX7_init_30 : decode cX7_init 30 = .ok (.dup, 1) := by decide +kernel
theorem dX7_init_31 : decode cX7_init 31 = .ok (.invokespecial 25, 3) := by decide +kernel
theorem dX7_init_34 : decode cX7_init 34 = .ok (.putfield 26, 3) := by decide +kernel
theorem dX7_init_37 : decode cX7_init 37 = .ok (.aload_n 0, 1) := by decide +kernel
theorem dX7_init_38 : decode cX7_init 38 = .ok (.new 30, 3) := by decide +kernel
theorem dX7_init_41 : decode cX7_init 41 = .ok (.dup, 1) := by decide +kernel
theorem dX7_init_42 : decode cX7_init 42 = .ok (.aload_n 0, 1) := by decide +kernel
theorem dX7_init_43 : decode cX7_init 43 = .ok (.getfield 19, 3) := by decide +kernel
theorem dX7_init_46 : decode cX7_init 46 = .ok (.aload_n 0, 1) := by decide +kernel
theorem dX7_init_47 : decode cX7_init 47 = .ok (.getfield 26, 3) := by decide +kernel
theorem dX7_init_50 : decode cX7_init 50 = .ok (.invokespecial 32, 3) := by decide +kernel
theorem dX7_init_53 : decode cX7_init 53 = .ok (.putfield 35, 3) := by decide +kernel
theorem dX7_init_56 : decode cX7_init 56 = .ok (.aload_n 0, 1) := by decide +kernel
theorem dX7_init_57 : decode cX7_init 57 = .ok (.new 39, 3) := by decide +kernel
theorem dX7_init_60 : decode cX7_init 60 = .ok (.dup, 1) := by decide +kernel
theorem dX7_init_61 : decode cX7_init 61 = .ok (.aload_n 0, 1) := by decide +kernel
theorem dX7_init_62 : decode cX7_init 62 = .ok (.getfield 35, 3) := by decide +kernel
theorem dX7_init_65 : decode cX7_init 65 = .ok (.invokespecial 41, 3) := by decide +kernel
theorem dX7_init_68 : decode cX7_init 68 = .ok (.putfield 44, 3) := by decide +kernel
theorem dX7_init_71 : decode cX7_init 71 = .ok (.return_, 1) := by decide +kernel
set_option maxHeartbeats 4000000 in
set_option maxRecDepth 100000 in
theorem c_X7_init (l : Launch) (D : va_G) (cI cJ cR : ClassId) (h0 sz : Nat) : Met l yX7_init (wC yX7_init cX7_init 1 none) ({ frames := 3, cells := 41, slots := 1982, locals := 200 }) (kPc D cI cJ cR [.ref h0] [(h0, .inr (6, [.null, .null, .null, .null, .null]))] sz) (va_Qv (fun _ : Nat × Nat × Nat × Nat × Nat × Nat × (Nat × Nat × Nat × (Nat → Nat) × (Nat → Nat)) × (Nat × Nat × Nat) × (Nat × Nat × Nat) × (Nat × Nat) => True) (fun u t => kB D cI cJ cR (va_A [(h0, .inr (6, [.null, .null, .null, .null, .null]))] sz) (wD cI cJ cR h0 u) t) (va_A [(h0, .inr (6, [.null, .null, .null, .null, .null]))] sz)) 41 1982 (va_A [(h0, .inr (6, [.null, .null, .null, .null, .null]))] sz) := by
  refine xst_gen "DoFinder" (by decide) rfl ?_
  intro p e s m args below meth c F hr hlk hin hv
  obtain ⟨rfl, hsz, ⟨hP, hK, hD0⟩, hE⟩ := hv
  subst hsz
  have hD := hD0.self (sz := s.heap.size)
  generalize hAe : va_A [(h0, .inr (6, [.null, .null, .null, .null, .null]))] s.heap.size = A at hD ⊢
  have hA : ∀ q : Nat, s.heap.size ≤ q → A q := fun q h => by rw [← hAe]; exact Or.inr h
  have hS : va_S A s.heap s.heap [] := va_S.rf
  have hl := lv_entry ([.ref h0]) (n := 1) (Nat.le_of_ble_eq_true rfl)
  rw [lg_entry_eq]
  generalize (lg_sl ([.ref h0]) ++ List.replicate (1 - (lg_sl ([.ref h0])).length) Slot.unset).toArray = ls at hl ⊢
  have hl : lv_has ls 1 [(0, .ref h0)] := hl
  refine lv_aload_n F.1 F.2.1 dX7_init_0 rfl (lv_at hl 0 rfl) ?_
  refine W.objInit F.1 F.2.1 F.2.2.2.1 (F.2.2.2.2 _ tm_16) (F.2.2.2.2 _ tm_17) (F.2.2.2.2 _ tm_18) rfl (by rw [F.2.2.1]; exact hl.1) rfl dX7_init_1 (Nat.le_of_ble_eq_true rfl) (Nat.le_of_ble_eq_true rfl) ?_
  refine W.eq (g2 := F0 m 4 ls []) rfl ?_
  refine lv_aload_n F.1 F.2.1 dX7_init_4 rfl (lv_at hl 0 rfl) ?_
  refine va_new (ci := 4) (fs := [.null, .int 0, .int 0]) (C := RX4) (T := TX4) (N := 3) F.1 F.2.1 F.2.2.2.2 iw_X4 tyX4 tyX4_ok F.2.2.2.1 (F.2.2.2.2 _ tm_19) (F.2.2.2.2 _ tm_20) (F.2.2.2.2 _ tm_2) hK hP hD hS hA rfl (fun j hj => by rcases (show j = 0 ∨ j = 1 ∨ j = 2 by omega) with rfl | rfl | rfl <;> rfl) (Nat.le_of_ble_eq_true rfl) (Nat.le_of_ble_eq_true rfl) dX7_init_5 (fun qX4 H hP hD hS => ?_)
  refine W.widen (k := 1) (n := 3) (by omega) (by omega) ?_
  refine lv_dup F.1 F.2.1 dX7_init_8 rfl ?_
  have hFc := k_free hD hS hA
  refine va_callv (va_runIN (As := []) (rest := [.ref qX4, .ref h0]) F (c_X4_init l D cI cJ cR qX4 H.size) ⟨va_cnB 0 F.2.2.2.2 (gt_cons tm_23) rfl rfl rfl (hE.2.1) (F.2.2.2.2 _ tm_2) (by decide +kernel) ⟨Nat.le_of_ble_eq_true rfl, Nat.le_of_ble_eq_true rfl⟩, rfl, F.2.2.2.2 _ tm_22⟩ (k_pre (k_last hP) hK hE) rfl rfl hl.1 rfl (lv_room (Nat.le_of_ble_eq_true rfl)) dX7_init_9 ⟨Nat.le_of_ble_eq_true rfl, Nat.le_of_ble_eq_true rfl⟩) hS (fun q _ h => hFc q h) hFc (fun uX4 t H1 locs ht hvm hw hB hz1 hk1 hS => ?_)
  obtain ⟨hP1, hK1, hD1⟩ := hB
  rw [ht] at hP1
  obtain ⟨hP, hD⟩ := k_join hP hD hk1 hFc hP1 hD1
  generalize H1 = H at hP hS ⊢
  refine W.widen (k := 2) (n := 15) (by omega) (by omega) ?_
  have hP : va_P D vwCl (([(h0, .inr (6, [.null, .null, .null, .null, .null]))] ++ [(qX4, .inr (4, [.ref uX4, .int (nI 0), .int (nI 1)])), (uX4, .inl (cI, 12, .inl (fun _ => 0)))])) H := hP
  have hD : va_D A (([(h0, .inr (6, [.null, .null, .null, .null, .null]))] ++ [(qX4, .inr (4, [.ref uX4, .int (nI 0), .int (nI 1)])), (uX4, .inl (cI, 12, .inl (fun _ => 0)))])) := hD
  refine va_putF (D := D) (ci := 6) (v := .ref qX4) (ty := .object "DoFinder$Routine") (C := RX7) (T := TX7) (N := 5) F.1 F.2.1 F.2.2.2.2 iw_X7 tyX7 tyX7_ok nmX7 F.2.2.2.1 hK hP hD hS 0 rfl rfl 0 (by decide) (F.2.2.2.2 _ tm_179) (fun _ h9 => h9) rfl hin rfl (by decide +kernel) rfl rfl (Nat.le_of_ble_eq_true rfl) dX7_init_12 (fun H locs hP hD hS => ?_)
  have hP : va_P D vwCl (([(h0, .inr (6, [.ref qX4, .null, .null, .null, .null]))] ++ [(qX4, .inr (4, [.ref uX4, .int (nI 0), .int (nI 1)])), (uX4, .inl (cI, 12, .inl (fun _ => 0)))])) H := hP
  have hD : va_D A (([(h0, .inr (6, [.ref qX4, .null, .null, .null, .null]))] ++ [(qX4, .inr (4, [.ref uX4, .int (nI 0), .int (nI 1)])), (uX4, .inl (cI, 12, .inl (fun _ => 0)))])) := hD
  refine lv_aload_n F.1 F.2.1 dX7_init_15 rfl (lv_at hl 0 rfl) ?_
  refine va_new (ci := 1) (fs := [.null, .null, .int 0, .int 0, .int 0]) (C := RX1) (T := TX1) (N := 5) F.1 F.2.1 F.2.2.2.2 iw_X1 tyX1 tyX1_ok F.2.2.2.1 (F.2.2.2.2 _ tm_42) (F.2.2.2.2 _ tm_43) (F.2.2.2.2 _ tm_3) hK hP hD hS hA rfl (fun j hj => by rcases (show j = 0 ∨ j = 1 ∨ j = 2 ∨ j = 3 ∨ j = 4 by omega) with rfl | rfl | rfl | rfl | rfl <;> rfl) (Nat.le_of_ble_eq_true rfl) (Nat.le_of_ble_eq_true rfl) dX7_init_16 (fun qX1 H hP hD hS => ?_)
  refine W.widen (k := 3) (n := 20) (by omega) (by omega) ?_
  refine lv_dup F.1 F.2.1 dX7_init_19 rfl ?_
  have hFc := k_free hD hS hA
  refine va_callv (va_runI (As := []) (rest := [.ref qX1, .ref h0]) F (c_X1_init l D cI cJ cR qX1 H.size) (cwI 0 F.2.2.2.2 (gt_cons tm_46) rfl rfl rfl (F.2.2.2.2 _ tm_3) (F.2.2.2.2 _ tm_44) (F.2.2.2.2 _ tm_45) rfl (by decide +kernel) ⟨Nat.le_of_ble_eq_true rfl, Nat.le_of_ble_eq_true rfl⟩) (k_pre (k_last hP) hK hE) rfl rfl hl.1 rfl (lv_room (Nat.le_of_ble_eq_true rfl)) dX7_init_20 ⟨Nat.le_of_ble_eq_true rfl, Nat.le_of_ble_eq_true rfl⟩) hS (fun q _ h => hFc q h) hFc (fun uX1 t H1 locs ht hvm hw hB hz1 hk1 hS => ?_)
  obtain ⟨hP1, hK1, hD1⟩ := hB
  rw [ht] at hP1
  obtain ⟨hP, hD⟩ := k_join hP hD hk1 hFc hP1 hD1
  generalize H1 = H at hP hS ⊢
  refine W.widen (k := 30) (n := 223) (by omega) (by omega) ?_
  have hP : va_P D vwCl ((([(h0, .inr (6, [.ref qX4, .null, .null, .null, .null]))] ++ [(qX4, .inr (4, [.ref uX4, .int (nI 0), .int (nI 1)])), (uX4, .inl (cI, 12, .inl (fun _ => 0)))]) ++ (wLf cI cR qX1 uX1.1 uX1.2.1 uX1.2.2.1 12 uX1.2.2.2.1 ++ wLp cI uX1.2.2.2.1 uX1.2.2.2.2 12))) H := hP
  have hD : va_D A ((([(h0, .inr (6, [.ref qX4, .null, .null, .null, .null]))] ++ [(qX4, .inr (4, [.ref uX4, .int (nI 0), .int (nI 1)])), (uX4, .inl (cI, 12, .inl (fun _ => 0)))]) ++ (wLf cI cR qX1 uX1.1 uX1.2.1 uX1.2.2.1 12 uX1.2.2.2.1 ++ wLp cI uX1.2.2.2.1 uX1.2.2.2.2 12))) := hD
  refine va_putF (D := D) (ci := 6) (v := .ref qX1) (ty := .object "DoFinder$Library") (C := RX7) (T := TX7) (N := 5) F.1 F.2.1 F.2.2.2.2 iw_X7 tyX7 tyX7_ok nmX7 F.2.2.2.1 hK hP hD hS 0 rfl rfl 1 (by decide) (F.2.2.2.2 _ tm_180) (fun _ h9 => h9) rfl hin rfl (by decide +kernel) rfl rfl (Nat.le_of_ble_eq_true rfl) dX7_init_23 (fun H locs hP hD hS => ?_)
  have hP : va_P D vwCl ((([(h0, .inr (6, [.ref qX4, .ref qX1, .null, .null, .null]))] ++ [(qX4, .inr (4, [.ref uX4, .int (nI 0), .int (nI 1)])), (uX4, .inl (cI, 12, .inl (fun _ => 0)))]) ++ (wLf cI cR qX1 uX1.1 uX1.2.1 uX1.2.2.1 12 uX1.2.2.2.1 ++ wLp cI uX1.2.2.2.1 uX1.2.2.2.2 12))) H := hP
  have hD : va_D A ((([(h0, .inr (6, [.ref qX4, .ref qX1, .null, .null, .null]))] ++ [(qX4, .inr (4, [.ref uX4, .int (nI 0), .int (nI 1)])), (uX4, .inl (cI, 12, .inl (fun _ => 0)))]) ++ (wLf cI cR qX1 uX1.1 uX1.2.1 uX1.2.2.1 12 uX1.2.2.2.1 ++ wLp cI uX1.2.2.2.1 uX1.2.2.2.2 12))) := hD
  refine lv_aload_n F.1 F.2.1 dX7_init_26 rfl (lv_at hl 0 rfl) ?_
  refine va_new (ci := 0) (fs := [.null, .null, .null, .int 0, .int 0]) (C := RX0) (T := TX0) (N := 5) F.1 F.2.1 F.2.2.2.2 iw_X0 tyX0 tyX0_ok F.2.2.2.1 (F.2.2.2.2 _ tm_90) (F.2.2.2.2 _ tm_91) (F.2.2.2.2 _ tm_5) hK hP hD hS hA rfl (fun j hj => by rcases (show j = 0 ∨ j = 1 ∨ j = 2 ∨ j = 3 ∨ j = 4 by omega) with rfl | rfl | rfl | rfl | rfl <;> rfl) (Nat.le_of_ble_eq_true rfl) (Nat.le_of_ble_eq_true rfl) dX7_init_27 (fun qX0 H hP hD hS => ?_)
  refine W.widen (k := 31) (n := 228) (by omega) (by omega) ?_
  refine lv_dup F.1 F.2.1 dX7_init_30 rfl ?_
  have hFc := k_free hD hS hA
  refine va_callv (va_runIN (As := []) (rest := [.ref qX0, .ref h0]) F (c_X0_init l D cI cJ cR qX0 H.size) ⟨va_cnB 0 F.2.2.2.2 (gt_cons tm_94) rfl rfl rfl (hE.2.2.2.2) (F.2.2.2.2 _ tm_5) (by decide +kernel) ⟨Nat.le_of_ble_eq_true rfl, Nat.le_of_ble_eq_true rfl⟩, rfl, F.2.2.2.2 _ tm_93⟩ (k_pre (k_last hP) hK hE) rfl rfl hl.1 rfl (lv_room (Nat.le_of_ble_eq_true rfl)) dX7_init_31 ⟨Nat.le_of_ble_eq_true rfl, Nat.le_of_ble_eq_true rfl⟩) hS (fun q _ h => hFc q h) hFc (fun uX0 t H1 locs ht hvm hw hB hz1 hk1 hS => ?_)
  obtain ⟨hP1, hK1, hD1⟩ := hB
  rw [ht] at hP1
  obtain ⟨hP, hD⟩ := k_join hP hD hk1 hFc hP1 hD1
  generalize H1 = H at hP hS ⊢
  refine W.widen (k := 34) (n := 252) (by omega) (by omega) ?_
  have hP : va_P D vwCl (((([(h0, .inr (6, [.ref qX4, .ref qX1, .null, .null, .null]))] ++ [(qX4, .inr (4, [.ref uX4, .int (nI 0), .int (nI 1)])), (uX4, .inl (cI, 12, .inl (fun _ => 0)))]) ++ (wLf cI cR qX1 uX1.1 uX1.2.1 uX1.2.2.1 12 uX1.2.2.2.1 ++ wLp cI uX1.2.2.2.1 uX1.2.2.2.2 12)) ++ [(qX0, .inr (0, [.ref uX0.1, .ref uX0.2.1, .ref uX0.2.2, .int (nI 0), .int (nI 1)])), (uX0.1, .inl (cI, 8, .inl (fun _ => 0))), (uX0.2.1, .inl (cI, 8, .inl (fun _ => 0))), (uX0.2.2, .inl (cJ, 8, .inr (.inl (fun _ => 0))))])) H := hP
  have hD : va_D A (((([(h0, .inr (6, [.ref qX4, .ref qX1, .null, .null, .null]))] ++ [(qX4, .inr (4, [.ref uX4, .int (nI 0), .int (nI 1)])), (uX4, .inl (cI, 12, .inl (fun _ => 0)))]) ++ (wLf cI cR qX1 uX1.1 uX1.2.1 uX1.2.2.1 12 uX1.2.2.2.1 ++ wLp cI uX1.2.2.2.1 uX1.2.2.2.2 12)) ++ [(qX0, .inr (0, [.ref uX0.1, .ref uX0.2.1, .ref uX0.2.2, .int (nI 0), .int (nI 1)])), (uX0.1, .inl (cI, 8, .inl (fun _ => 0))), (uX0.2.1, .inl (cI, 8, .inl (fun _ => 0))), (uX0.2.2, .inl (cJ, 8, .inr (.inl (fun _ => 0))))])) := hD
  refine va_putF (D := D) (ci := 6) (v := .ref qX0) (ty := .object "DoFinder$Ask") (C := RX7) (T := TX7) (N := 5) F.1 F.2.1 F.2.2.2.2 iw_X7 tyX7 tyX7_ok nmX7 F.2.2.2.1 hK hP hD hS 0 rfl rfl 2 (by decide) (F.2.2.2.2 _ tm_181) (fun _ h9 => h9) rfl hin rfl (by decide +kernel) rfl rfl (Nat.le_of_ble_eq_true rfl) dX7_init_34 (fun H locs hP hD hS => ?_)
  have hP : va_P D vwCl (((([(h0, .inr (6, [.ref qX4, .ref qX1, .ref qX0, .null, .null]))] ++ [(qX4, .inr (4, [.ref uX4, .int (nI 0), .int (nI 1)])), (uX4, .inl (cI, 12, .inl (fun _ => 0)))]) ++ (wLf cI cR qX1 uX1.1 uX1.2.1 uX1.2.2.1 12 uX1.2.2.2.1 ++ wLp cI uX1.2.2.2.1 uX1.2.2.2.2 12)) ++ [(qX0, .inr (0, [.ref uX0.1, .ref uX0.2.1, .ref uX0.2.2, .int (nI 0), .int (nI 1)])), (uX0.1, .inl (cI, 8, .inl (fun _ => 0))), (uX0.2.1, .inl (cI, 8, .inl (fun _ => 0))), (uX0.2.2, .inl (cJ, 8, .inr (.inl (fun _ => 0))))])) H := hP
  have hD : va_D A (((([(h0, .inr (6, [.ref qX4, .ref qX1, .ref qX0, .null, .null]))] ++ [(qX4, .inr (4, [.ref uX4, .int (nI 0), .int (nI 1)])), (uX4, .inl (cI, 12, .inl (fun _ => 0)))]) ++ (wLf cI cR qX1 uX1.1 uX1.2.1 uX1.2.2.1 12 uX1.2.2.2.1 ++ wLp cI uX1.2.2.2.1 uX1.2.2.2.2 12)) ++ [(qX0, .inr (0, [.ref uX0.1, .ref uX0.2.1, .ref uX0.2.2, .int (nI 0), .int (nI 1)])), (uX0.1, .inl (cI, 8, .inl (fun _ => 0))), (uX0.2.1, .inl (cI, 8, .inl (fun _ => 0))), (uX0.2.2, .inl (cJ, 8, .inr (.inl (fun _ => 0))))])) := hD
  refine lv_aload_n F.1 F.2.1 dX7_init_37 rfl (lv_at hl 0 rfl) ?_
  refine va_new (ci := 5) (fs := [.null, .null, .null, .null, .null, .int 0]) (C := RX5) (T := TX5) (N := 6) F.1 F.2.1 F.2.2.2.2 iw_X5 tyX5 tyX5_ok F.2.2.2.1 (F.2.2.2.2 _ tm_120) (F.2.2.2.2 _ tm_121) (F.2.2.2.2 _ tm_6) hK hP hD hS hA rfl (fun j hj => by rcases (show j = 0 ∨ j = 1 ∨ j = 2 ∨ j = 3 ∨ j = 4 ∨ j = 5 by omega) with rfl | rfl | rfl | rfl | rfl | rfl <;> rfl) (Nat.le_of_ble_eq_true rfl) (Nat.le_of_ble_eq_true rfl) dX7_init_38 (fun qX5 H hP hD hS => ?_)
  refine W.widen (k := 35) (n := 258) (by omega) (by omega) ?_
  refine lv_dup F.1 F.2.1 dX7_init_41 rfl ?_
  refine lv_aload_n F.1 F.2.1 dX7_init_42 rfl (lv_at hl 0 rfl) ?_
  refine va_get (D := D) (ci := 6) (v := .ref qX1) (C := RX7) (T := TX7) (N := 5) F.1 F.2.1 F.2.2.2.2 iw_X7 F.2.2.2.1 hK hP 0 rfl rfl 1 (by decide) (F.2.2.2.2 _ tm_180) (fun _ h9 => h9) rfl dX7_init_43 ?_
  refine lv_aload_n F.1 F.2.1 dX7_init_46 rfl (lv_at hl 0 rfl) ?_
  refine va_get (D := D) (ci := 6) (v := .ref qX0) (C := RX7) (T := TX7) (N := 5) F.1 F.2.1 F.2.2.2.2 iw_X7 F.2.2.2.1 hK hP 0 rfl rfl 2 (by decide) (F.2.2.2.2 _ tm_181) (fun _ h9 => h9) rfl dX7_init_47 ?_
  have hFc := k_free hD hS hA
  refine va_callv (va_runI (As := [.ref qX1, .ref qX0]) (rest := [.ref qX5, .ref h0]) F (c_X5_init l D cI cJ cR qX5 qX1 qX0 H.size) (cwI 2 F.2.2.2.2 (gt_cons tm_124) rfl rfl rfl (F.2.2.2.2 _ tm_6) (F.2.2.2.2 _ tm_122) (F.2.2.2.2 _ tm_123) rfl (by decide +kernel) ⟨Nat.le_of_ble_eq_true rfl, Nat.le_of_ble_eq_true rfl⟩) (k_pre (k_last hP) hK hE) rfl rfl hl.1 rfl (lv_room (Nat.le_of_ble_eq_true rfl)) dX7_init_50 ⟨Nat.le_of_ble_eq_true rfl, Nat.le_of_ble_eq_true rfl⟩) hS (fun q _ h => hFc q h) hFc (fun uX5 t H1 locs ht hvm hw hB hz1 hk1 hS => ?_)
  obtain ⟨hP1, hK1, hD1⟩ := hB
  rw [ht] at hP1
  obtain ⟨hP, hD⟩ := k_join hP hD hk1 hFc hP1 hD1
  generalize H1 = H at hP hS ⊢
  refine W.widen (k := 38) (n := 1494) (by omega) (by omega) ?_
  have hP : va_P D vwCl ((((([(h0, .inr (6, [.ref qX4, .ref qX1, .ref qX0, .null, .null]))] ++ [(qX4, .inr (4, [.ref uX4, .int (nI 0), .int (nI 1)])), (uX4, .inl (cI, 12, .inl (fun _ => 0)))]) ++ (wLf cI cR qX1 uX1.1 uX1.2.1 uX1.2.2.1 12 uX1.2.2.2.1 ++ wLp cI uX1.2.2.2.1 uX1.2.2.2.2 12)) ++ [(qX0, .inr (0, [.ref uX0.1, .ref uX0.2.1, .ref uX0.2.2, .int (nI 0), .int (nI 1)])), (uX0.1, .inl (cI, 8, .inl (fun _ => 0))), (uX0.2.1, .inl (cI, 8, .inl (fun _ => 0))), (uX0.2.2, .inl (cJ, 8, .inr (.inl (fun _ => 0))))]) ++ [(qX5, .inr (5, [.ref qX1, .ref qX0, .ref uX5.1, .ref uX5.2.1, .ref uX5.2.2, .int (nI 0)])), (uX5.1, .inl (cI, 240, .inl (fun _ => 0))), (uX5.2.1, .inl (cI, 240, .inl (fun _ => 0))), (uX5.2.2, .inl (cI, 756, .inl (fun _ => 0)))])) H := hP
  have hD : va_D A ((((([(h0, .inr (6, [.ref qX4, .ref qX1, .ref qX0, .null, .null]))] ++ [(qX4, .inr (4, [.ref uX4, .int (nI 0), .int (nI 1)])), (uX4, .inl (cI, 12, .inl (fun _ => 0)))]) ++ (wLf cI cR qX1 uX1.1 uX1.2.1 uX1.2.2.1 12 uX1.2.2.2.1 ++ wLp cI uX1.2.2.2.1 uX1.2.2.2.2 12)) ++ [(qX0, .inr (0, [.ref uX0.1, .ref uX0.2.1, .ref uX0.2.2, .int (nI 0), .int (nI 1)])), (uX0.1, .inl (cI, 8, .inl (fun _ => 0))), (uX0.2.1, .inl (cI, 8, .inl (fun _ => 0))), (uX0.2.2, .inl (cJ, 8, .inr (.inl (fun _ => 0))))]) ++ [(qX5, .inr (5, [.ref qX1, .ref qX0, .ref uX5.1, .ref uX5.2.1, .ref uX5.2.2, .int (nI 0)])), (uX5.1, .inl (cI, 240, .inl (fun _ => 0))), (uX5.2.1, .inl (cI, 240, .inl (fun _ => 0))), (uX5.2.2, .inl (cI, 756, .inl (fun _ => 0)))])) := hD
  refine va_putF (D := D) (ci := 6) (v := .ref qX5) (ty := .object "DoFinder$Search") (C := RX7) (T := TX7) (N := 5) F.1 F.2.1 F.2.2.2.2 iw_X7 tyX7 tyX7_ok nmX7 F.2.2.2.1 hK hP hD hS 0 rfl rfl 3 (by decide) (F.2.2.2.2 _ tm_182) (fun _ h9 => h9) rfl hin rfl (by decide +kernel) rfl rfl (Nat.le_of_ble_eq_true rfl) dX7_init_53 (fun H locs hP hD hS => ?_)
  have hP : va_P D vwCl ((((([(h0, .inr (6, [.ref qX4, .ref qX1, .ref qX0, .ref qX5, .null]))] ++ [(qX4, .inr (4, [.ref uX4, .int (nI 0), .int (nI 1)])), (uX4, .inl (cI, 12, .inl (fun _ => 0)))]) ++ (wLf cI cR qX1 uX1.1 uX1.2.1 uX1.2.2.1 12 uX1.2.2.2.1 ++ wLp cI uX1.2.2.2.1 uX1.2.2.2.2 12)) ++ [(qX0, .inr (0, [.ref uX0.1, .ref uX0.2.1, .ref uX0.2.2, .int (nI 0), .int (nI 1)])), (uX0.1, .inl (cI, 8, .inl (fun _ => 0))), (uX0.2.1, .inl (cI, 8, .inl (fun _ => 0))), (uX0.2.2, .inl (cJ, 8, .inr (.inl (fun _ => 0))))]) ++ [(qX5, .inr (5, [.ref qX1, .ref qX0, .ref uX5.1, .ref uX5.2.1, .ref uX5.2.2, .int (nI 0)])), (uX5.1, .inl (cI, 240, .inl (fun _ => 0))), (uX5.2.1, .inl (cI, 240, .inl (fun _ => 0))), (uX5.2.2, .inl (cI, 756, .inl (fun _ => 0)))])) H := hP
  have hD : va_D A ((((([(h0, .inr (6, [.ref qX4, .ref qX1, .ref qX0, .ref qX5, .null]))] ++ [(qX4, .inr (4, [.ref uX4, .int (nI 0), .int (nI 1)])), (uX4, .inl (cI, 12, .inl (fun _ => 0)))]) ++ (wLf cI cR qX1 uX1.1 uX1.2.1 uX1.2.2.1 12 uX1.2.2.2.1 ++ wLp cI uX1.2.2.2.1 uX1.2.2.2.2 12)) ++ [(qX0, .inr (0, [.ref uX0.1, .ref uX0.2.1, .ref uX0.2.2, .int (nI 0), .int (nI 1)])), (uX0.1, .inl (cI, 8, .inl (fun _ => 0))), (uX0.2.1, .inl (cI, 8, .inl (fun _ => 0))), (uX0.2.2, .inl (cJ, 8, .inr (.inl (fun _ => 0))))]) ++ [(qX5, .inr (5, [.ref qX1, .ref qX0, .ref uX5.1, .ref uX5.2.1, .ref uX5.2.2, .int (nI 0)])), (uX5.1, .inl (cI, 240, .inl (fun _ => 0))), (uX5.2.1, .inl (cI, 240, .inl (fun _ => 0))), (uX5.2.2, .inl (cI, 756, .inl (fun _ => 0)))])) := hD
  refine lv_aload_n F.1 F.2.1 dX7_init_56 rfl (lv_at hl 0 rfl) ?_
  refine va_new (ci := 2) (fs := [.null, .null, .null, .int 0, .int 0, .int 0, .int 0, .int 0]) (C := RX2) (T := TX2) (N := 8) F.1 F.2.1 F.2.2.2.2 iw_X2 tyX2 tyX2_ok F.2.2.2.1 (F.2.2.2.2 _ tm_145) (F.2.2.2.2 _ tm_146) (F.2.2.2.2 _ tm_7) hK hP hD hS hA rfl (fun j hj => by rcases (show j = 0 ∨ j = 1 ∨ j = 2 ∨ j = 3 ∨ j = 4 ∨ j = 5 ∨ j = 6 ∨ j = 7 by omega) with rfl | rfl | rfl | rfl | rfl | rfl | rfl | rfl <;> rfl) (Nat.le_of_ble_eq_true rfl) (Nat.le_of_ble_eq_true rfl) dX7_init_57 (fun qX2 H hP hD hS => ?_)
  refine W.widen (k := 39) (n := 1502) (by omega) (by omega) ?_
  refine lv_dup F.1 F.2.1 dX7_init_60 rfl ?_
  refine lv_aload_n F.1 F.2.1 dX7_init_61 rfl (lv_at hl 0 rfl) ?_
  refine va_get (D := D) (ci := 6) (v := .ref qX5) (C := RX7) (T := TX7) (N := 5) F.1 F.2.1 F.2.2.2.2 iw_X7 F.2.2.2.1 hK hP 0 rfl rfl 3 (by decide) (F.2.2.2.2 _ tm_182) (fun _ h9 => h9) rfl dX7_init_62 ?_
  have hFc := k_free hD hS hA
  refine va_callv (va_runI (As := [.ref qX5]) (rest := [.ref qX2, .ref h0]) F (c_X2_init l D cI cJ cR qX2 qX5 H.size) (cwI 1 F.2.2.2.2 (gt_cons tm_149) rfl rfl rfl (F.2.2.2.2 _ tm_7) (F.2.2.2.2 _ tm_147) (F.2.2.2.2 _ tm_148) rfl (by decide +kernel) ⟨Nat.le_of_ble_eq_true rfl, Nat.le_of_ble_eq_true rfl⟩) (k_pre (k_last hP) hK hE) rfl rfl hl.1 rfl (lv_room (Nat.le_of_ble_eq_true rfl)) dX7_init_65 ⟨Nat.le_of_ble_eq_true rfl, Nat.le_of_ble_eq_true rfl⟩) hS (fun q _ h => hFc q h) hFc (fun uX2 t H1 locs ht hvm hw hB hz1 hk1 hS => ?_)
  obtain ⟨hP1, hK1, hD1⟩ := hB
  rw [ht] at hP1
  obtain ⟨hP, hD⟩ := k_join hP hD hk1 hFc hP1 hD1
  generalize H1 = H at hP hS ⊢
  refine W.widen (k := 41) (n := 1982) (by omega) (by omega) ?_
  have hP : va_P D vwCl (((((([(h0, .inr (6, [.ref qX4, .ref qX1, .ref qX0, .ref qX5, .null]))] ++ [(qX4, .inr (4, [.ref uX4, .int (nI 0), .int (nI 1)])), (uX4, .inl (cI, 12, .inl (fun _ => 0)))]) ++ (wLf cI cR qX1 uX1.1 uX1.2.1 uX1.2.2.1 12 uX1.2.2.2.1 ++ wLp cI uX1.2.2.2.1 uX1.2.2.2.2 12)) ++ [(qX0, .inr (0, [.ref uX0.1, .ref uX0.2.1, .ref uX0.2.2, .int (nI 0), .int (nI 1)])), (uX0.1, .inl (cI, 8, .inl (fun _ => 0))), (uX0.2.1, .inl (cI, 8, .inl (fun _ => 0))), (uX0.2.2, .inl (cJ, 8, .inr (.inl (fun _ => 0))))]) ++ [(qX5, .inr (5, [.ref qX1, .ref qX0, .ref uX5.1, .ref uX5.2.1, .ref uX5.2.2, .int (nI 0)])), (uX5.1, .inl (cI, 240, .inl (fun _ => 0))), (uX5.2.1, .inl (cI, 240, .inl (fun _ => 0))), (uX5.2.2, .inl (cI, 756, .inl (fun _ => 0)))]) ++ [(qX2, .inr (2, [.ref qX5, .ref uX2.1, .ref uX2.2, .int (nI 0), .int (nI 0), .int (nI 0), .int (nI 0), .int (nI 0)])), (uX2.1, .inl (cJ, 240, .inr (.inl (fun _ => 0)))), (uX2.2, .inl (cI, 240, .inl (fun _ => 0)))])) H := hP
  have hD : va_D A (((((([(h0, .inr (6, [.ref qX4, .ref qX1, .ref qX0, .ref qX5, .null]))] ++ [(qX4, .inr (4, [.ref uX4, .int (nI 0), .int (nI 1)])), (uX4, .inl (cI, 12, .inl (fun _ => 0)))]) ++ (wLf cI cR qX1 uX1.1 uX1.2.1 uX1.2.2.1 12 uX1.2.2.2.1 ++ wLp cI uX1.2.2.2.1 uX1.2.2.2.2 12)) ++ [(qX0, .inr (0, [.ref uX0.1, .ref uX0.2.1, .ref uX0.2.2, .int (nI 0), .int (nI 1)])), (uX0.1, .inl (cI, 8, .inl (fun _ => 0))), (uX0.2.1, .inl (cI, 8, .inl (fun _ => 0))), (uX0.2.2, .inl (cJ, 8, .inr (.inl (fun _ => 0))))]) ++ [(qX5, .inr (5, [.ref qX1, .ref qX0, .ref uX5.1, .ref uX5.2.1, .ref uX5.2.2, .int (nI 0)])), (uX5.1, .inl (cI, 240, .inl (fun _ => 0))), (uX5.2.1, .inl (cI, 240, .inl (fun _ => 0))), (uX5.2.2, .inl (cI, 756, .inl (fun _ => 0)))]) ++ [(qX2, .inr (2, [.ref qX5, .ref uX2.1, .ref uX2.2, .int (nI 0), .int (nI 0), .int (nI 0), .int (nI 0), .int (nI 0)])), (uX2.1, .inl (cJ, 240, .inr (.inl (fun _ => 0)))), (uX2.2, .inl (cI, 240, .inl (fun _ => 0)))])) := hD
  refine va_putF (D := D) (ci := 6) (v := .ref qX2) (ty := .object "DoFinder$Parting") (C := RX7) (T := TX7) (N := 5) F.1 F.2.1 F.2.2.2.2 iw_X7 tyX7 tyX7_ok nmX7 F.2.2.2.1 hK hP hD hS 0 rfl rfl 4 (by decide) (F.2.2.2.2 _ tm_183) (fun _ h9 => h9) rfl hin rfl (by decide +kernel) rfl rfl (Nat.le_of_ble_eq_true rfl) dX7_init_68 (fun H locs hP hD hS => ?_)
  have hP : va_P D vwCl (((((([(h0, .inr (6, [.ref qX4, .ref qX1, .ref qX0, .ref qX5, .ref qX2]))] ++ [(qX4, .inr (4, [.ref uX4, .int (nI 0), .int (nI 1)])), (uX4, .inl (cI, 12, .inl (fun _ => 0)))]) ++ (wLf cI cR qX1 uX1.1 uX1.2.1 uX1.2.2.1 12 uX1.2.2.2.1 ++ wLp cI uX1.2.2.2.1 uX1.2.2.2.2 12)) ++ [(qX0, .inr (0, [.ref uX0.1, .ref uX0.2.1, .ref uX0.2.2, .int (nI 0), .int (nI 1)])), (uX0.1, .inl (cI, 8, .inl (fun _ => 0))), (uX0.2.1, .inl (cI, 8, .inl (fun _ => 0))), (uX0.2.2, .inl (cJ, 8, .inr (.inl (fun _ => 0))))]) ++ [(qX5, .inr (5, [.ref qX1, .ref qX0, .ref uX5.1, .ref uX5.2.1, .ref uX5.2.2, .int (nI 0)])), (uX5.1, .inl (cI, 240, .inl (fun _ => 0))), (uX5.2.1, .inl (cI, 240, .inl (fun _ => 0))), (uX5.2.2, .inl (cI, 756, .inl (fun _ => 0)))]) ++ [(qX2, .inr (2, [.ref qX5, .ref uX2.1, .ref uX2.2, .int (nI 0), .int (nI 0), .int (nI 0), .int (nI 0), .int (nI 0)])), (uX2.1, .inl (cJ, 240, .inr (.inl (fun _ => 0)))), (uX2.2, .inl (cI, 240, .inl (fun _ => 0)))])) H := hP
  have hD : va_D A (((((([(h0, .inr (6, [.ref qX4, .ref qX1, .ref qX0, .ref qX5, .ref qX2]))] ++ [(qX4, .inr (4, [.ref uX4, .int (nI 0), .int (nI 1)])), (uX4, .inl (cI, 12, .inl (fun _ => 0)))]) ++ (wLf cI cR qX1 uX1.1 uX1.2.1 uX1.2.2.1 12 uX1.2.2.2.1 ++ wLp cI uX1.2.2.2.1 uX1.2.2.2.2 12)) ++ [(qX0, .inr (0, [.ref uX0.1, .ref uX0.2.1, .ref uX0.2.2, .int (nI 0), .int (nI 1)])), (uX0.1, .inl (cI, 8, .inl (fun _ => 0))), (uX0.2.1, .inl (cI, 8, .inl (fun _ => 0))), (uX0.2.2, .inl (cJ, 8, .inr (.inl (fun _ => 0))))]) ++ [(qX5, .inr (5, [.ref qX1, .ref qX0, .ref uX5.1, .ref uX5.2.1, .ref uX5.2.2, .int (nI 0)])), (uX5.1, .inl (cI, 240, .inl (fun _ => 0))), (uX5.2.1, .inl (cI, 240, .inl (fun _ => 0))), (uX5.2.2, .inl (cI, 756, .inl (fun _ => 0)))]) ++ [(qX2, .inr (2, [.ref qX5, .ref uX2.1, .ref uX2.2, .int (nI 0), .int (nI 0), .int (nI 0), .int (nI 0), .int (nI 0)])), (uX2.1, .inl (cJ, 240, .inr (.inl (fun _ => 0)))), (uX2.2, .inl (cI, 240, .inl (fun _ => 0)))])) := hD
  refine W.vret F.1 F.2.1 hr (fun t ht hw => ⟨⟨(qX4, qX1, qX0, qX5, qX2, uX4, uX1, uX0, uX5, uX2), rfl, trivial, by rw [ht]; exact hP, va_K.moved hw.alike hK, hD⟩, hS.F ht⟩) hS.2.2 dX7_init_71 hlk
