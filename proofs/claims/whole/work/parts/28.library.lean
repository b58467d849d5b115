/-! ===== the makers of the library and of the class ===== -/
theorem k_at {ws : va_W} {x y : Nat × va_E} {k : Nat} (h : k = ws.length) : (ws ++ [x, y])[k]? = some x := by subst h; simp
theorem va_nd_range : ∀ n, va_nd (List.range n) = true := by
  have key : ∀ (l : List Nat), l.Nodup → va_nd l = true := by
    intro l
    induction l with
    | nil => intro _; rfl
    | cons a l ih =>
      intro h
      rw [List.nodup_cons] at h
      unfold va_nd
      rw [ih h.2, Bool.and_true]
      exact decide_eq_true h.1
  exact fun n => key _ List.nodup_range
theorem k_last {D : va_G} {cl : List vw_C} {ws : va_W} {x : Nat × va_E} {H : Heap} (h : va_P D cl (ws ++ [x]) H) : va_P D cl [x] H := by
  intro k q hk
  have hk0 : k < 1 := (List.getElem?_eq_some_iff.mp hk).1
  rw [show k = 0 by omega] at hk
  exact h ws.length q (by rw [List.getElem?_append_right (Nat.le_refl _), Nat.sub_self]; exact hk)
theorem k_lastD {A : Nat → Prop} {x : Nat × va_E} : va_D (fun _ => True) [x] := by
  refine ⟨fun i j p q hi hj _ => ?_, fun _ _ _ => trivial⟩
  have h1 : i < 1 := (List.getElem?_eq_some_iff.mp hi).1
  have h2 : j < 1 := (List.getElem?_eq_some_iff.mp hj).1
  omega
theorem k_free {A0 : Nat → Prop} {ws : va_W} {x : Nat × va_E} {H0 H : Heap} {locs : List Loc} (hD : va_D A0 (ws ++ [x])) (hS : va_S A0 H0 H locs) (hA : ∀ q, H0.size ≤ q → A0 q) : ∀ q, va_A [x] H.size q → A0 q :=
  va_free hD hS hA [ws.length] (by simp)
theorem k_join {D : va_G} {cl : List vw_C} {A0 : Nat → Prop} {ws w1 : va_W} {x : Nat × va_E} {H H1 : Heap} (hP : va_P D cl (ws ++ [x]) H) (hD : va_D A0 (ws ++ [x])) (hk : ∀ q : Nat, q < H.size → ¬ va_A [x] H.size q → H1[q]? = H[q]?) (hF : ∀ q, va_A [x] H.size q → A0 q) (hP1 : va_P D cl w1 H1) (hD1 : va_D (va_A [x] H.size) w1) : va_P D cl (ws ++ w1) H1 ∧ va_D A0 (ws ++ w1) := by
  refine va_join hP hD [ws.length] (List.range ws.length) (by simp) ?_ (va_nd_range _) ?_ hk hF hP1 hD1
  · apply List.ext_getElem?
    intro i
    by_cases hi : i < ws.length
    · simp [hi, List.getElem?_append_left hi]
    · simp [hi]
  · intro i hi
    simp at hi ⊢
    omega
theorem k_pre {D : va_G} {cI cJ cR : ClassId} {s : State} {H : Heap} {x : Nat × va_E} {av : List Value} (hP : va_P D vwCl [x] H) (hK : va_K D vwCl (kT cI cJ cR) s) (hE : kE s) : PreS s H (kPc D cI cJ cR av [x] H.size) av :=
  ⟨kPc_blind, fun U hU hw => ⟨rfl, by rw [hU], ⟨by rw [hU]; exact hP, va_K.moved hw.alike hK, k_lastD (A := fun _ => True)⟩, kE.warm hw hE⟩⟩
/-- the routines that a library has made so far -/
def wLp (cI : ClassId) (go gs : Nat → Nat) (i : Nat) : va_W := (List.range i).flatMap (fun j => [(go j, .inr (4, [.ref (gs j), .int (nI 0), .int (nI 1)])), (gs j, .inl (cI, 12, .inl (fun _ => 0)))])
theorem wLp_0 {cI : ClassId} {go gs : Nat → Nat} : wLp cI go gs 0 = [] := rfl
theorem wLp_up {cI : ClassId} {go gs : Nat → Nat} {i q r : Nat} : wLp cI (va_up go i q) (va_up gs i r) (i + 1) = wLp cI go gs i ++ [(q, .inr (4, [.ref r, .int (nI 0), .int (nI 1)])), (r, .inl (cI, 12, .inl (fun _ => 0)))] := by
  unfold wLp
  rw [List.range_succ, List.flatMap_append]
  congr 1
  · simp only [List.flatMap_def]
    congr 1
    apply List.map_congr_left
    intro j hj
    have : j ≠ i := by have := List.mem_range.mp hj; omega
    rw [va_up_ne _ _ this, va_up_ne _ _ this]
  · simp [va_up_self]
def rw_ (go : Nat → Nat) (i : Nat) : Nat → Option Nat := fun j => if j < i then some (go j) else none
theorem rw_up {go : Nat → Nat} {i q : Nat} : va_up (rw_ go i) i (some q) = rw_ (va_up go i q) (i + 1) := by
  funext j
  unfold rw_
  by_cases e : j = i
  · subst e; rw [va_up_self, if_pos (by omega), va_up_self]
  · rw [va_up_ne _ _ e]
    by_cases h : j < i
    · rw [if_pos h, if_pos (by omega), va_up_ne _ _ e]
    · rw [if_neg h, if_neg (by omega)]
theorem rw_0 {go : Nat → Nat} : rw_ go 0 = fun _ => none := by
  funext j; unfold rw_; rw [if_neg (by omega)]
def wLf (cI cR : ClassId) (h0 q1 q2 q3 i : Nat) (go : Nat → Nat) : va_W := [(h0, .inr (1, [.ref q1, .ref q2, .int (nI 0), .int (nI 60), .int (nI 0)])), (q1, .inl (cR, 12, .inr (.inr (.inr (.inr (rw_ go i)))))), (q2, .inr (3, [.ref q3, .int (nI 0), .int (nI 0)])), (q3, .inl (cI, 8, .inl (fun _ => 0)))]
theorem wLp_len {cI : ClassId} {go gs : Nat → Nat} {i : Nat} : (wLp cI go gs i).length = 2 * i := by
  unfold wLp
  induction i with
  | zero => rfl
  | succ i ih => rw [List.range_succ, List.flatMap_append, List.length_append, ih]; simp; omega
theorem dX1_init_0 : decode cX1_init 0 = .ok (.aload_n 0, 1) := by decide +kernel
theorem dX1_init_1 : decode cX1_init 1 = .ok (.invokespecial 3, 3) := by decide +kernel
theorem dX1_init_4 : decode cX1_init 4 = .ok (.aload_n 0, 1) := by decide +kernel
theorem dX1_init_5 : decode cX1_init 5 = .ok (.bipush 12, 2) := by decide +kernel
theorem dX1_init_7 : decode cX1_init 7 = .ok (.anewarray 9, 3) := by decide +kernel
theorem dX1_init_10 : decode cX1_init 10 = .ok (.putfield 11, 3) := by decide +kernel
theorem dX1_init_13 : decode cX1_init 13 = .ok (.aload_n 0, 1) := by decide +kernel
theorem dX1_init_14 : decode cX1_init 14 = .ok (.new 17, 3) := by decide +kernel
theorem dX1_init_17 : decode cX1_init 17 = .ok (.dup, 1) := by decide +kernel
theorem dX1_init_18 : decode cX1_init 18 = .ok (.invokespecial 19, 3) := by decide +kernel
theorem dX1_init_21 : decode cX1_init 21 = .ok (.putfield 20, 3) := by decide +kernel
theorem dX1_init_24 : decode cX1_init 24 = .ok (.aload_n 0, 1) := by decide +kernel
theorem dX1_init_25 : decode cX1_init 25 = .ok (.iconst 0, 1) := by decide +kernel
theorem dX1_init_26 : decode cX1_init 26 = .ok (.putfield 24, 3) := by decide +kernel
theorem dX1_init_29 : decode cX1_init 29 = .ok (.aload_n 0, 1) := by decide +kernel
theorem dX1_init_30 : decode cX1_init 30 = .ok (.bipush 60, 2) := by decide +kernel
theorem dX1_init_32 : decode cX1_init 32 = .ok (.putfield 28, 3) := by decide +kernel
theorem dX1_init_35 : decode cX1_init 35 = .ok (.aload_n 0, 1) := by decide +kernel
theorem dX1_init_36 : decode cX1_init 36 = .ok (.iconst 0, 1) := by decide +kernel
theorem dX1_init_37 : decode cX1_init 37 = .ok (.putfield 31, 3) := by decide +kernel
theorem dX1_init_40 : decode cX1_init 40 = .ok (.iconst 0, 1) := by decide +kernel
theorem dX1_init_41 : decode cX1_init 41 = .ok (.istore_n 1, 1) := by decide +kernel
theorem dX1_init_42 : decode cX1_init 42 = .ok (.iload_n 1, 1) := by decide +kernel
theorem dX1_init_43 : decode cX1_init 43 = .ok (.bipush 12, 2) := by decide +kernel
theorem dX1_init_45 : decode cX1_init 45 = .ok (.if_icmp .ge 22, 3) := by decide +kernel
theorem dX1_init_48 : decode cX1_init 48 = .ok (.aload_n 0, 1) := by decide +kernel
theorem dX1_init_49 : decode cX1_init 49 = .ok (.getfield 11, 3) := by decide +kernel
theorem dX1_init_52 : decode cX1_init 52 = .ok (.iload_n 1, 1) := by decide +kernel
theorem dX1_init_53 : decode cX1_init 53 = .ok (.new 9, 3) := by decide +kernel
theorem dX1_init_56 : decode cX1_init 56 = .ok (.dup, 1) := by decide +kernel
theorem dX1_init_57 : decode cX1_init 57 = .ok (.invokespecial 34, 3) := by decide +kernel
theorem dX1_init_60 : decode cX1_init 60 = .ok (.aastore, 1) := by decide +kernel
theorem dX1_init_61 : decode cX1_init 61 = .ok (.iinc 1 1, 3) := by decide +kernel
theorem dX1_init_64 : decode cX1_init 64 = .ok (.goto (-22), 3) := by decide +kernel
theorem dX1_init_67 : decode cX1_init 67 = .ok (.return_, 1) := by decide +kernel
set_option maxHeartbeats 4000000 in
set_option maxRecDepth 100000 in
theorem c_X1_init (l : Launch) (D : va_G) (cI cJ cR : ClassId) (h0 sz : Nat) : Met l yX1_init (wC yX1_init cX1_init 2 none) ({ frames := 2, cells := 27, slots := 203, locals := 100 }) (kPc D cI cJ cR [.ref h0] [(h0, .inr (1, [.null, .null, .int 0, .int 0, .int 0]))] sz) (va_Qv (fun _ : Nat × Nat × Nat × (Nat → Nat) × (Nat → Nat) => True) (fun u t => kB D cI cJ cR (va_A [(h0, .inr (1, [.null, .null, .int 0, .int 0, .int 0]))] sz) (wLf cI cR h0 u.1 u.2.1 u.2.2.1 12 u.2.2.2.1 ++ wLp cI u.2.2.2.1 u.2.2.2.2 12) t) (va_A [(h0, .inr (1, [.null, .null, .int 0, .int 0, .int 0]))] sz)) 27 203 (va_A [(h0, .inr (1, [.null, .null, .int 0, .int 0, .int 0]))] sz) := by
  refine xst_gen "DoFinder$Library" (by decide) rfl ?_
  intro p e s m args below meth c F hr hlk hin hv
  obtain ⟨rfl, hsz, ⟨hP, hK, hD0⟩, hE⟩ := hv
  subst hsz
  have hD := hD0.self (sz := s.heap.size)
  generalize hAe : va_A [(h0, .inr (1, [.null, .null, .int 0, .int 0, .int 0]))] s.heap.size = A at hD ⊢
  have hA : ∀ q : Nat, s.heap.size ≤ q → A q := fun q h => by rw [← hAe]; exact Or.inr h
  have hS : va_S A s.heap s.heap [] := va_S.rf
  have hl := lv_entry ([.ref h0]) (n := 2) (Nat.le_of_ble_eq_true rfl)
  rw [lg_entry_eq]
  generalize (lg_sl ([.ref h0]) ++ List.replicate (2 - (lg_sl ([.ref h0])).length) Slot.unset).toArray = ls at hl ⊢
  have hl : lv_has ls 2 [(0, .ref h0)] := hl
  refine lv_aload_n F.1 F.2.1 dX1_init_0 rfl (lv_at hl 0 rfl) ?_
  refine W.objInit F.1 F.2.1 F.2.2.2.1 (F.2.2.2.2 _ tm_47) (F.2.2.2.2 _ tm_17) (F.2.2.2.2 _ tm_18) rfl (by rw [F.2.2.1]; exact hl.1) rfl dX1_init_1 (Nat.le_of_ble_eq_true rfl) (Nat.le_of_ble_eq_true rfl) ?_
  refine W.eq (g2 := F0 m 4 ls []) rfl ?_
  refine lv_aload_n F.1 F.2.1 dX1_init_4 rfl (lv_at hl 0 rfl) ?_
  refine lv_bipush (v := nI 12) F.1 F.2.1 dX1_init_5 (by decide) ?_
  refine va_newq (C := "DoFinder$Routine") F.1 F.2.1 F.2.2.2.1 (F.2.2.2.2 _ tm_48) hE.1 hK hP hD hS hA (N' := 12) (by decide) (by decide) (by decide) (Nat.le_of_ble_eq_true rfl) (Nat.le_of_ble_eq_true rfl) dX1_init_7 (fun q1 cA H hK hP hD hS => ?_)
  obtain rfl := kc_ref hK
  have hK := hK.sub (tys' := kT cI cJ cR) [0, 1, 2] rfl
  have hP : va_P D vwCl ([(h0, .inr (1, [.null, .null, .int 0, .int 0, .int 0])), (q1, .inl (cR, 12, .inr (.inr (.inr (.inr (fun _ => none))))))]) H := hP
  have hD : va_D A ([(h0, .inr (1, [.null, .null, .int 0, .int 0, .int 0])), (q1, .inl (cR, 12, .inr (.inr (.inr (.inr (fun _ => none))))))]) := hD
  refine va_putF (D := D) (ci := 1) (v := .ref q1) (ty := .array (.object "DoFinder$Routine")) (C := RX1) (T := TX1) (N := 5) F.1 F.2.1 F.2.2.2.2 iw_X1 tyX1 tyX1_ok nmX1 F.2.2.2.1 hK hP hD hS 0 rfl rfl 0 (by decide) (F.2.2.2.2 _ tm_68) (fun _ h9 => h9) rfl hin rfl (by decide +kernel) rfl rfl (Nat.le_of_ble_eq_true rfl) dX1_init_10 (fun H locs hP hD hS => ?_)
  have hP : va_P D vwCl ([(h0, .inr (1, [.ref q1, .null, .int 0, .int 0, .int 0])), (q1, .inl (cR, 12, .inr (.inr (.inr (.inr (fun _ => none))))))]) H := hP
  have hD : va_D A ([(h0, .inr (1, [.ref q1, .null, .int 0, .int 0, .int 0])), (q1, .inl (cR, 12, .inr (.inr (.inr (.inr (fun _ => none))))))]) := hD
  refine lv_aload_n F.1 F.2.1 dX1_init_13 rfl (lv_at hl 0 rfl) ?_
  refine va_new (ci := 3) (fs := [.null, .int 0, .int 0]) (C := RX3) (T := TX3) (N := 3) F.1 F.2.1 F.2.2.2.2 iw_X3 tyX3 tyX3_ok F.2.2.2.1 (F.2.2.2.2 _ tm_50) (F.2.2.2.2 _ tm_51) (F.2.2.2.2 _ tm_4) hK hP hD hS hA rfl (fun j hj => by rcases (show j = 0 ∨ j = 1 ∨ j = 2 by omega) with rfl | rfl | rfl <;> rfl) (Nat.le_of_ble_eq_true rfl) (Nat.le_of_ble_eq_true rfl) dX1_init_14 (fun q2 H hP hD hS => ?_)
  refine lv_dup F.1 F.2.1 dX1_init_17 rfl ?_
  have hFc := k_free hD hS hA
  refine va_callv (va_runIN (As := []) (rest := [.ref q2, .ref h0]) F (c_X3_init l D cI cJ cR q2 H.size) ⟨va_cnB 0 F.2.2.2.2 (gt_cons tm_54) rfl rfl rfl (hE.2.2.1) (F.2.2.2.2 _ tm_4) (by decide +kernel) ⟨Nat.le_of_ble_eq_true rfl, Nat.le_of_ble_eq_true rfl⟩, rfl, F.2.2.2.2 _ tm_53⟩ (k_pre (k_last hP) hK hE) rfl rfl hl.1 rfl (lv_room (Nat.le_of_ble_eq_true rfl)) dX1_init_18 ⟨Nat.le_of_ble_eq_true rfl, Nat.le_of_ble_eq_true rfl⟩) hS (fun q _ h => hFc q h) hFc (fun u t H1 locs ht hvm hw hB hz1 hk1 hS => ?_)
  obtain ⟨hP1, hK1, hD1⟩ := hB
  rw [ht] at hP1
  obtain ⟨hP, hD⟩ := k_join hP hD hk1 hFc hP1 hD1
  generalize H1 = H at hP hS ⊢
  generalize u = q3 at hP hD
  have hP : va_P D vwCl ([(h0, .inr (1, [.ref q1, .null, .int 0, .int 0, .int 0])), (q1, .inl (cR, 12, .inr (.inr (.inr (.inr (fun _ => none)))))), (q2, .inr (3, [.ref q3, .int (nI 0), .int (nI 0)])), (q3, .inl (cI, 8, .inl (fun _ => 0)))]) H := hP
  have hD : va_D A ([(h0, .inr (1, [.ref q1, .null, .int 0, .int 0, .int 0])), (q1, .inl (cR, 12, .inr (.inr (.inr (.inr (fun _ => none)))))), (q2, .inr (3, [.ref q3, .int (nI 0), .int (nI 0)])), (q3, .inl (cI, 8, .inl (fun _ => 0)))]) := hD
  refine W.widen (k := 3) (n := 23) (by omega) (by omega) ?_
  refine va_putF (D := D) (ci := 1) (v := .ref q2) (ty := .object "DoFinder$Pile") (C := RX1) (T := TX1) (N := 5) F.1 F.2.1 F.2.2.2.2 iw_X1 tyX1 tyX1_ok nmX1 F.2.2.2.1 hK hP hD hS 0 rfl rfl 1 (by decide) (F.2.2.2.2 _ tm_71) (fun _ h9 => h9) rfl hin rfl (by decide +kernel) rfl rfl (Nat.le_of_ble_eq_true rfl) dX1_init_21 (fun H locs hP hD hS => ?_)
  have hP : va_P D vwCl ([(h0, .inr (1, [.ref q1, .ref q2, .int 0, .int 0, .int 0])), (q1, .inl (cR, 12, .inr (.inr (.inr (.inr (fun _ => none)))))), (q2, .inr (3, [.ref q3, .int (nI 0), .int (nI 0)])), (q3, .inl (cI, 8, .inl (fun _ => 0)))]) H := hP
  have hD : va_D A ([(h0, .inr (1, [.ref q1, .ref q2, .int 0, .int 0, .int 0])), (q1, .inl (cR, 12, .inr (.inr (.inr (.inr (fun _ => none)))))), (q2, .inr (3, [.ref q3, .int (nI 0), .int (nI 0)])), (q3, .inl (cI, 8, .inl (fun _ => 0)))]) := hD
  refine lv_aload_n F.1 F.2.1 dX1_init_24 rfl (lv_at hl 0 rfl) ?_
  refine lv_iconst (v := nI 0) F.1 F.2.1 dX1_init_25 (by decide) ?_
  refine va_put (D := D) (ci := 1) (v := .int (nI 0)) (ty := .int) (C := RX1) (T := TX1) (N := 5) F.1 F.2.1 F.2.2.2.2 iw_X1 tyX1 tyX1_ok nmX1 F.2.2.2.1 hK hP hD hS 0 rfl rfl 2 (by decide) (F.2.2.2.2 _ tm_72) (fun _ h9 => h9) rfl (by decide +kernel) rfl rfl (Nat.le_of_ble_eq_true rfl) dX1_init_26 (fun H locs hP hD hS => ?_)
  have hP : va_P D vwCl ([(h0, .inr (1, [.ref q1, .ref q2, .int (nI 0), .int 0, .int 0])), (q1, .inl (cR, 12, .inr (.inr (.inr (.inr (fun _ => none)))))), (q2, .inr (3, [.ref q3, .int (nI 0), .int (nI 0)])), (q3, .inl (cI, 8, .inl (fun _ => 0)))]) H := hP
  have hD : va_D A ([(h0, .inr (1, [.ref q1, .ref q2, .int (nI 0), .int 0, .int 0])), (q1, .inl (cR, 12, .inr (.inr (.inr (.inr (fun _ => none)))))), (q2, .inr (3, [.ref q3, .int (nI 0), .int (nI 0)])), (q3, .inl (cI, 8, .inl (fun _ => 0)))]) := hD
  refine lv_aload_n F.1 F.2.1 dX1_init_29 rfl (lv_at hl 0 rfl) ?_
  refine lv_bipush (v := nI 60) F.1 F.2.1 dX1_init_30 (by decide) ?_
  refine va_put (D := D) (ci := 1) (v := .int (nI 60)) (ty := .int) (C := RX1) (T := TX1) (N := 5) F.1 F.2.1 F.2.2.2.2 iw_X1 tyX1 tyX1_ok nmX1 F.2.2.2.1 hK hP hD hS 0 rfl rfl 3 (by decide) (F.2.2.2.2 _ tm_75) (fun _ h9 => h9) rfl (by decide +kernel) rfl rfl (Nat.le_of_ble_eq_true rfl) dX1_init_32 (fun H locs hP hD hS => ?_)
  have hP : va_P D vwCl ([(h0, .inr (1, [.ref q1, .ref q2, .int (nI 0), .int (nI 60), .int 0])), (q1, .inl (cR, 12, .inr (.inr (.inr (.inr (fun _ => none)))))), (q2, .inr (3, [.ref q3, .int (nI 0), .int (nI 0)])), (q3, .inl (cI, 8, .inl (fun _ => 0)))]) H := hP
  have hD : va_D A ([(h0, .inr (1, [.ref q1, .ref q2, .int (nI 0), .int (nI 60), .int 0])), (q1, .inl (cR, 12, .inr (.inr (.inr (.inr (fun _ => none)))))), (q2, .inr (3, [.ref q3, .int (nI 0), .int (nI 0)])), (q3, .inl (cI, 8, .inl (fun _ => 0)))]) := hD
  refine lv_aload_n F.1 F.2.1 dX1_init_35 rfl (lv_at hl 0 rfl) ?_
  refine lv_iconst (v := nI 0) F.1 F.2.1 dX1_init_36 (by decide) ?_
  refine va_put (D := D) (ci := 1) (v := .int (nI 0)) (ty := .int) (C := RX1) (T := TX1) (N := 5) F.1 F.2.1 F.2.2.2.2 iw_X1 tyX1 tyX1_ok nmX1 F.2.2.2.1 hK hP hD hS 0 rfl rfl 4 (by decide) (F.2.2.2.2 _ tm_77) (fun _ h9 => h9) rfl (by decide +kernel) rfl rfl (Nat.le_of_ble_eq_true rfl) dX1_init_37 (fun H locs hP hD hS => ?_)
  have hP : va_P D vwCl ([(h0, .inr (1, [.ref q1, .ref q2, .int (nI 0), .int (nI 60), .int (nI 0)])), (q1, .inl (cR, 12, .inr (.inr (.inr (.inr (fun _ => none)))))), (q2, .inr (3, [.ref q3, .int (nI 0), .int (nI 0)])), (q3, .inl (cI, 8, .inl (fun _ => 0)))]) H := hP
  have hD : va_D A ([(h0, .inr (1, [.ref q1, .ref q2, .int (nI 0), .int (nI 60), .int (nI 0)])), (q1, .inl (cR, 12, .inr (.inr (.inr (.inr (fun _ => none)))))), (q2, .inr (3, [.ref q3, .int (nI 0), .int (nI 0)])), (q3, .inl (cI, 8, .inl (fun _ => 0)))]) := hD
  refine lv_iconst (v := nI 0) F.1 F.2.1 dX1_init_40 (by decide) ?_
  refine lv_istore_n (lv' := [(1, .int (nI 0)), (0, .ref h0)]) F.1 F.2.1 dX1_init_41 rfl hl (by decide) rfl (fun ls hl => ?_)
  have lp : ∀ (k i : Nat) (go gs : Nat → Nat), 12 - i = k → i ≤ 12 → ∀ (H : Heap) (locs : List Loc) (ls : Array Slot), va_P D vwCl (wLf cI cR h0 q1 q2 q3 i go ++ wLp cI go gs i) H → va_D A (wLf cI cR h0 q1 q2 q3 i go ++ wLp cI go gs i) → va_S A s.heap H locs → lv_has ls 2 [(1, .int (nI i)), (0, .ref h0)] → W p l e ({ frames := 2, cells := 27, slots := 203, locals := 100 }) s m ([Value.ref h0] : List Value).toArray below meth c H locs (3 + 2 * i) (23 + 15 * i) (MQ below (va_Qv (fun _ : Nat × Nat × Nat × (Nat → Nat) × (Nat → Nat) => True) (fun u t => kB D cI cJ cR A (wLf cI cR h0 u.1 u.2.1 u.2.2.1 12 u.2.2.2.1 ++ wLp cI u.2.2.2.1 u.2.2.2.2 12) t) A) ([Value.ref h0] : List Value).toArray s 27 203 A) (F0 m 42 ls []) := by
    intro k
    induction k using Nat.strongRecOn with
    | ind k ih =>
      intro i go gs hk hi H locs ls hP hD hS hl
      refine lv_iload_n F.1 F.2.1 dX1_init_42 rfl (lv_at hl 0 rfl) ?_
      refine lv_bipush (v := nI 12) F.1 F.2.1 dX1_init_43 (by decide) ?_
      refine lv_icmp_ge (tgt := 67) F.1 F.2.1 dX1_init_45 (by decide) (fun c45 => ?_) (fun c45 => ?_)
      · have c45 := ci_le (a := 12) (b := (i : Int)) (by decide) (nI_toInt (by omega)) c45
        have e12 : i = 12 := by omega
        subst e12
        refine W.vret F.1 F.2.1 hr (fun t ht hw => ⟨⟨(q1, q2, q3, go, gs), rfl, trivial, by rw [ht]; exact hP, va_K.moved hw.alike hK, hD⟩, hS.F ht⟩) hS.2.2 dX1_init_67 hlk
      · have c45 := ci_nle (a := 12) (b := (i : Int)) (by decide) (nI_toInt (by omega)) c45
        refine lv_aload_n F.1 F.2.1 dX1_init_48 rfl (lv_at hl 1 rfl) ?_
        refine va_get (D := D) (ci := 1) (v := .ref q1) (C := RX1) (T := TX1) (N := 5) F.1 F.2.1 F.2.2.2.2 iw_X1 F.2.2.2.1 hK hP 0 rfl rfl 0 (by decide) (F.2.2.2.2 _ tm_68) (fun _ h9 => h9) rfl dX1_init_49 ?_
        refine lv_iload_n F.1 F.2.1 dX1_init_52 rfl (lv_at hl 0 rfl) ?_
        refine va_new (ci := 4) (fs := [.null, .int 0, .int 0]) (C := RX4) (T := TX4) (N := 3) F.1 F.2.1 F.2.2.2.2 iw_X4 tyX4 tyX4_ok F.2.2.2.1 (F.2.2.2.2 _ tm_48) (F.2.2.2.2 _ tm_20) (F.2.2.2.2 _ tm_2) hK hP hD hS hA rfl (fun j hj => by rcases (show j = 0 ∨ j = 1 ∨ j = 2 by omega) with rfl | rfl | rfl <;> rfl) (by show 3 + 2 * i + 1 ≤ 27; omega) (by show 23 + 15 * i + 3 ≤ 203; omega) dX1_init_53 (fun q4 H hP hD hS => ?_)
        refine lv_dup F.1 F.2.1 dX1_init_56 rfl ?_
        have hFc := k_free hD hS hA
        refine va_callv (va_runIN (As := []) (rest := [.ref q4, .int (nI i), .ref q1]) F (c_X4_init l D cI cJ cR q4 H.size) ⟨va_cnB 0 F.2.2.2.2 (gt_cons tm_23) rfl rfl rfl (hE.2.2.2.1) (F.2.2.2.2 _ tm_2) (by decide +kernel) ⟨Nat.le_of_ble_eq_true rfl, Nat.le_of_ble_eq_true rfl⟩, rfl, F.2.2.2.2 _ tm_22⟩ (k_pre (k_last hP) hK hE) rfl rfl hl.1 rfl (lv_room (Nat.le_of_ble_eq_true rfl)) dX1_init_57 ⟨by show 3 + 2 * i + 1 + 1 ≤ 27; omega, by show 23 + 15 * i + 3 + 12 ≤ 203; omega⟩) hS (fun q _ h => hFc q h) hFc (fun u t H1 locs ht hvm hw hB hz1 hk1 hS => ?_)
        obtain ⟨hP1, hK1, hD1⟩ := hB
        rw [ht] at hP1
        obtain ⟨hP, hD⟩ := k_join hP hD hk1 hFc hP1 hD1
        generalize H1 = H at hP hS ⊢
        generalize u = q5 at hP hD
        refine va_astq (r := (RX4, TX4, 3)) F.1 F.2.1 hK hP hD hS 1 2 (4 + 2 * i) 4 rfl rfl (vs := [.ref q5, .int (nI 0), .int (nI 1)]) (v := q4) (k_at (by rw [List.length_append, wLp_len]; show 4 + 2 * i = 4 + 2 * i; rfl)) rfl (vp_in_nI (show i < 12 by omega) (by decide)) dX1_init_60 (fun H locs hP hD hS => ?_)
        rw [nI_clamp (by omega), rw_up] at hP hD
        refine lv_iinc (v := nI (i + 1)) (lv' := [(1, .int (nI (i + 1))), (0, .ref h0)]) F.1 F.2.1 dX1_init_61 hl (k := 0) rfl (nI_add _ 1) (by decide) rfl (fun ls hl => ?_)
        refine lv_goto (tgt := 42) F.1 F.2.1 dX1_init_64 (by decide) ?_
        refine W.widen (k := 3 + 2 * (i + 1)) (n := 23 + 15 * (i + 1)) (by omega) (by omega) ?_
        refine ih (12 - (i + 1)) (by omega) (i + 1) (va_up go i q4) (va_up gs i q5) rfl (by omega) H locs ls ?_ ?_ hS hl
        · rw [wLp_up, ← List.append_assoc]; exact hP
        · rw [wLp_up, ← List.append_assoc]; exact hD
  exact lp 12 0 (fun _ => 0) (fun _ => 0) rfl (Nat.zero_le _) H locs ls (by unfold wLf; rw [rw_0]; exact hP) (by unfold wLf; rw [rw_0]; exact hD) hS hl
