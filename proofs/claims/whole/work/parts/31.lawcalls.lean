/-! ===== calls of the law ===== -/
theorem Met_mono {l : Launch} {y : MethodName} {ws : List Cond} {rm : Room} {Pc : Array Value → State → Prop} {Qc Qc' : Array Value → State → Outcome → State → Prop} {mc ms : Nat} {free : Addr → Prop} (h : Met l y ws rm Pc Qc mc ms free) (hq : ∀ a s o t, Qc a s o t → Qc' a s o t) : Met l y ws rm Pc Qc' mc ms free := by
  intro p e ha hc hk s m args below hf h1 hP hK
  obtain ⟨k, o, a1, a2, a3, hQ⟩ := h p e ha hc hk s m args below hf h1 hP hK
  exact ⟨k, o, a1, a2, a3, hq _ _ _ _ hQ.1, hQ.2⟩
theorem Qi_mono {S : Type} {post post' : Int32 → S → Prop} {B : S → State → Prop} {A : Nat → Prop} (h : ∀ r u, post r u → post' r u) : ∀ a s o t, va_Qi post B A a s o t → va_Qi post' B A a s o t := fun a s o t q => by
  obtain ⟨⟨r, u, h1, h2, h3⟩, h4⟩ := q
  exact ⟨⟨r, u, h1, h r u h2, h3⟩, h4⟩
theorem Ql_mono {S : Type} {post post' : Int64 → S → Prop} {B : S → State → Prop} {A : Nat → Prop} (h : ∀ r u, post r u → post' r u) : ∀ a s o t, va_Ql post B A a s o t → va_Ql post' B A a s o t := fun a s o t q => by
  obtain ⟨⟨r, u, h1, h2, h3⟩, h4⟩ := q
  exact ⟨⟨r, u, h1, h r u h2, h3⟩, h4⟩
theorem k_X7_would (l : Launch) (G : XG) (M : XM) (P : XP) (S : XS) (V : XV) (n aa ac : Nat) (ra : Nat → Nat) (o : Nat → Int32 → Int32 → Int64) (zf zs : Nat → Int32) (zd : Nat → Int64) (hV : xV M n aa ac ra o zf zs zd) (x a b : Int32) : Met l yX7_would (wC yX7_would cX7_would 4 (some .long)) (rmD 3) (xPc G [.ref (xga G 0), .int x, .int a, .int b] M P S V) (va_Ql (fun v u => ((0 ≤ x.toInt ∧ zok n aa ra x.toInt.toNat = true ∧ v = zjo o x.toInt.toNat a b) ∨ (¬ (0 ≤ x.toInt ∧ zok n aa ra x.toInt.toNat = true) ∧ v = zNOT)) ∧ ∃ (P2 : XP) (S2 : XS) (V2 : XV), u = (M, P2, S2, V2)) (xB G) (xA G)) 0 0 (xA G) := by
  by_cases h : x.toInt < 0
  · exact Met_mono (c_X7_would_neg l G M P S.1 S.2.1 S.2.2.1 S.2.2.2 V.1 V.2.1 V.2.2.1 V.2.2.2.1 V.2.2.2.2.1 V.2.2.2.2.2.1 V.2.2.2.2.2.2 n aa ac ra o zf zs zd hV x h a b) (Ql_mono (fun v u q => ⟨Or.inr ⟨fun z => by omega, q.1⟩, q.2⟩))
  · obtain ⟨w, w1, w2, rfl⟩ := argN (x := x) (by omega)
    have we : (nI w).toInt.toNat = w := by omega
    exact Met_mono (c_X7_would l G M P S.1 S.2.1 S.2.2.1 S.2.2.2 V.1 V.2.1 V.2.2.1 V.2.2.2.1 V.2.2.2.2.1 V.2.2.2.2.2.1 V.2.2.2.2.2.2 n aa ac ra o zf zs zd hV w (by omega) a b) (Ql_mono (fun v u q => ⟨q.1.elim (fun z => Or.inl ⟨by omega, by rw [we]; exact z.1, by rw [we]; exact z.2⟩) (fun z => Or.inr ⟨fun z2 => z.1 (by rw [we] at z2; exact z2.2), z.2⟩), q.2⟩))
theorem k_X7_misses (l : Launch) (G : XG) (M : XM) (P : XP) (S : XS) (V : XV) (n aa ac : Nat) (ra : Nat → Nat) (o : Nat → Int32 → Int32 → Int64) (zf zs : Nat → Int32) (zd : Nat → Int64) (hV : xV M n aa ac ra o zf zs zd) (x : Int32) : Met l yX7_misses (wC yX7_misses cX7_misses 2 (some .int)) (rmD 5) (xPc G [.ref (xga G 0), .int x] M P S V) (va_Qi (fun v u => ((0 ≤ x.toInt ∧ zok n aa ra x.toInt.toNat = true ∧ v = nI (zmi o zf zs zd ac x.toInt.toNat)) ∨ (¬ (0 ≤ x.toInt ∧ zok n aa ra x.toInt.toNat = true) ∧ v = (-1))) ∧ ∃ (P2 : XP) (S2 : XS) (V2 : XV), u = (M, P2, S2, V2)) (xB G) (xA G)) 0 0 (xA G) := by
  by_cases h : x.toInt < 0
  · exact Met_mono (c_X7_misses_neg l G M P S.1 S.2.1 S.2.2.1 S.2.2.2 V.1 V.2.1 V.2.2.1 V.2.2.2.1 V.2.2.2.2.1 V.2.2.2.2.2.1 V.2.2.2.2.2.2 n aa ac ra o zf zs zd hV x h) (Qi_mono (fun v u q => ⟨Or.inr ⟨fun z => by omega, q.1⟩, q.2⟩))
  · obtain ⟨w, w1, w2, rfl⟩ := argN (x := x) (by omega)
    have we : (nI w).toInt.toNat = w := by omega
    exact Met_mono (c_X7_misses l G M P S.1 S.2.1 S.2.2.1 S.2.2.2 V.1 V.2.1 V.2.2.1 V.2.2.2.1 V.2.2.2.2.1 V.2.2.2.2.2.1 V.2.2.2.2.2.2 n aa ac ra o zf zs zd hV w (by omega)) (Qi_mono (fun v u q => ⟨q.1.elim (fun z => Or.inl ⟨by omega, by rw [we]; exact z.1, by rw [we]; exact z.2⟩) (fun z => Or.inr ⟨fun z2 => z.1 (by rw [we] at z2; exact z2.2), z.2⟩), q.2⟩))
theorem k_X8_would (l : Launch) (G : MG) (M : MM) (P : MP) (L : ML) (N : MN) (V : MV) (n aa ac : Nat) (ra : Nat → Nat) (o : Nat → Int32 → Int32 → Int64) (zf zs : Nat → Int32) (zd : Nat → Int64) (hV : mV M n aa ac ra o zf zs zd) (x a b : Int32) : Met l yX8_would (wC yX8_would cX8_would 4 (some .long)) (rmD 5) (mPc G [.ref (mga G 0), .int x, .int a, .int b] M P L N V) (va_Ql (fun v u => ((0 ≤ x.toInt ∧ zok n aa ra x.toInt.toNat = true ∧ v = zjo o x.toInt.toNat a b) ∨ (¬ (0 ≤ x.toInt ∧ zok n aa ra x.toInt.toNat = true) ∧ v = zNOT)) ∧ ∃ (P2 : MP) (L2 : ML) (N2 : MN) (V2 : MV), u = (M, P2, L2, N2, V2)) (mB G) (mA G)) 0 0 (mA G) := by
  by_cases h : x.toInt < 0
  · exact Met_mono (c_X8_would_neg l G M P L N V n aa ac ra o zf zs zd hV x h a b) (Ql_mono (fun v u q => ⟨Or.inr ⟨fun z => by omega, q.1⟩, q.2⟩))
  · obtain ⟨w, w1, w2, rfl⟩ := argN (x := x) (by omega)
    have we : (nI w).toInt.toNat = w := by omega
    exact Met_mono (c_X8_would l G M P L N V n aa ac ra o zf zs zd hV w (by omega) a b) (Ql_mono (fun v u q => ⟨q.1.elim (fun z => Or.inl ⟨by omega, by rw [we]; exact z.1, by rw [we]; exact z.2⟩) (fun z => Or.inr ⟨fun z2 => z.1 (by rw [we] at z2; exact z2.2), z.2⟩), q.2⟩))
theorem k_X8_misses (l : Launch) (G : MG) (M : MM) (P : MP) (L : ML) (N : MN) (V : MV) (n aa ac : Nat) (ra : Nat → Nat) (o : Nat → Int32 → Int32 → Int64) (zf zs : Nat → Int32) (zd : Nat → Int64) (hV : mV M n aa ac ra o zf zs zd) (x : Int32) : Met l yX8_misses (wC yX8_misses cX8_misses 3 (some .int)) (rmD 7) (mPc G [.ref (mga G 0), .int x] M P L N V) (va_Qi (fun v u => ((0 ≤ x.toInt ∧ zok n aa ra x.toInt.toNat = true ∧ v = nI (zmi o zf zs zd ac x.toInt.toNat)) ∨ (¬ (0 ≤ x.toInt ∧ zok n aa ra x.toInt.toNat = true) ∧ v = (-1))) ∧ ∃ (P2 : MP) (L2 : ML) (N2 : MN) (V2 : MV), u = (M, P2, L2, N2, V2)) (mB G) (mA G)) 0 0 (mA G) := by
  by_cases h : x.toInt < 0
  · exact Met_mono (c_X8_misses_neg l G M P L N V n aa ac ra o zf zs zd hV x h) (Qi_mono (fun v u q => ⟨Or.inr ⟨fun z => by omega, q.1⟩, q.2⟩))
  · obtain ⟨w, w1, w2, rfl⟩ := argN (x := x) (by omega)
    have we : (nI w).toInt.toNat = w := by omega
    exact Met_mono (c_X8_misses l G M P L N V n aa ac ra o zf zs zd hV w (by omega)) (Qi_mono (fun v u q => ⟨q.1.elim (fun z => Or.inl ⟨by omega, by rw [we]; exact z.1, by rw [we]; exact z.2⟩) (fun z => Or.inr ⟨fun z2 => z.1 (by rw [we] at z2; exact z2.2), z.2⟩), q.2⟩))
theorem k_X8_found (l : Launch) (G : MG) (M : MM) (P : MP) (L : ML) (N : MN) (V : MV) (n aa ac : Nat) (ra : Nat → Nat) (o : Nat → Int32 → Int32 → Int64) (zf zs : Nat → Int32) (zd : Nat → Int64) (hV : mV M n aa ac ra o zf zs zd) (x : Int32) : Met l yX8_found (wC yX8_found cX8_found 2 (some .int)) (rmD 8) (mPc G [.ref (mga G 0), .int x] M P L N V) (va_Qi (fun v u => v = zkth ((zwl n aa ra 1200).filter (fun w => decide (zst o zf zs zd ac w = 0))) x ∧ ∃ (P2 : MP) (L2 : ML) (N2 : MN) (V2 : MV), u = (M, P2, L2, N2, V2)) (mB G) (mA G)) 0 0 (mA G) := by
  by_cases h : x.toInt < 0
  · exact Met_mono (c_X8_found_neg l G M P L N V n aa ac ra o zf zs zd hV x h) (Qi_mono (fun v u q => ⟨by rw [q.1]; exact zkth_0 (by omega), q.2⟩))
  · obtain ⟨w, w1, w2, rfl⟩ := argN (x := x) (by omega)
    have we : (nI w).toInt.toNat = w := by omega
    exact c_X8_found l G M P L N V n aa ac ra o zf zs zd hV w (by omega)
theorem k_X8_open (l : Launch) (G : MG) (M : MM) (P : MP) (L : ML) (N : MN) (V : MV) (n aa ac : Nat) (ra : Nat → Nat) (o : Nat → Int32 → Int32 → Int64) (zf zs : Nat → Int32) (zd : Nat → Int64) (hV : mV M n aa ac ra o zf zs zd) (x : Int32) : Met l yX8_open (wC yX8_open cX8_open 2 (some .int)) (rmD 8) (mPc G [.ref (mga G 0), .int x] M P L N V) (va_Qi (fun v u => v = zkth ((zwl n aa ra 1200).filter (fun w => decide (zst o zf zs zd ac w = 1))) x ∧ ∃ (P2 : MP) (L2 : ML) (N2 : MN) (V2 : MV), u = (M, P2, L2, N2, V2)) (mB G) (mA G)) 0 0 (mA G) := by
  by_cases h : x.toInt < 0
  · exact Met_mono (c_X8_open_neg l G M P L N V n aa ac ra o zf zs zd hV x h) (Qi_mono (fun v u q => ⟨by rw [q.1]; exact zkth_0 (by omega), q.2⟩))
  · obtain ⟨w, w1, w2, rfl⟩ := argN (x := x) (by omega)
    have we : (nI w).toInt.toNat = w := by omega
    exact c_X8_open l G M P L N V n aa ac ra o zf zs zd hV w (by omega)
theorem k_X8_joint (l : Launch) (G : MG) (M : MM) (P : MP) (L : ML) (N : MN) (V : MV) (n aa ac : Nat) (ra : Nat → Nat) (o : Nat → Int32 → Int32 → Int64) (zf zs : Nat → Int32) (zd : Nat → Int64) (hV : mV M n aa ac ra o zf zs zd) (x : Int32) : Met l yX8_joint (wC yX8_joint cX8_joint 5 (some .int)) (rmD 7) (mPc G [.ref (mga G 0), .int x] M P L N V) (va_Qi (fun v u => v = zkth (zjl (zwl n aa ra 1200) ra (fun w => decide (zst o zf zs zd ac w = 0)) n) x ∧ ∃ (P2 : MP) (L2 : ML) (N2 : MN) (V2 : MV), u = (M, P2, L2, N2, V2)) (mB G) (mA G)) 0 0 (mA G) := by
  by_cases h : x.toInt < 0
  · exact Met_mono (c_X8_joint_neg l G M P L N V n aa ac ra o zf zs zd hV x h) (Qi_mono (fun v u q => ⟨by rw [q.1]; exact zkth_0 (by omega), q.2⟩))
  · obtain ⟨w, w1, w2, rfl⟩ := argN (x := x) (by omega)
    have we : (nI w).toInt.toNat = w := by omega
    exact c_X8_joint l G M P L N V n aa ac ra o zf zs zd hV w (by omega)
theorem k_X7_run (l : Launch) (G : XG) (M : XM) (P : XP) (S : XS) (V : XV)  (hn : M.1 ≤ 12) (hrc : ∀ r, r < M.1 → M.2.2.1 r ≤ 12) (hra : ∀ r, r < M.1 → M.2.2.2.1 r = 1 ∨ M.2.2.2.1 r = 2) (hf : M.2.1 ≤ 200) (x a b : Int32) : Met l yX7_run (wC yX7_run cX7_run 4 (some .long)) (rmD 2) (xPc G [.ref (xga G 0), .int x, .int a, .int b] M P S V) (va_Ql (fun v u => ((zin M.1 x ∧ v = zout M.2.1 (M.2.2.1 x.toInt.toNat) (M.2.2.2.2.1 x.toInt.toNat) a b) ∨ (¬ zin M.1 x ∧ v = zNOT)) ∧ ∃ P2 : XP, u = (M, P2, S, V)) (xB G) (xA G)) 0 0 (xA G) := by
  by_cases h : ¬ zin M.1 x
  · exact Met_mono (c_X7_run_no l G M P S V hn hrc hra hf x a b h) (Ql_mono (fun v u q => ⟨Or.inr ⟨h, q.1⟩, q.2⟩))
  · have h : zin M.1 x := Classical.not_not.mp h
    have h2 := h
    unfold zin at h2
    obtain ⟨w, w1, w2, rfl⟩ := argN (x := x) (by omega)
    have we : (nI w).toInt.toNat = w := by omega
    exact Met_mono (c_X7_run l G M P S V hn hrc hra hf w (by omega) a b) (Ql_mono (fun v u q => ⟨Or.inl ⟨h, by rw [we]; exact q.1⟩, q.2⟩))
theorem k_X8_run (l : Launch) (G : MG) (M : MM) (P : MP) (L : ML) (N : MN) (V : MV)  (hn : M.1 ≤ 12) (hrc : ∀ r, r < M.1 → M.2.2.1 r ≤ 12) (hra : ∀ r, r < M.1 → M.2.1 r = 1 ∨ M.2.1 r = 2) (hf : M.2.2.2.2.2.2.1 ≤ 200) (x a b : Int32) : Met l yX8_run (wC yX8_run cX8_run 4 (some .long)) (rmD 3) (mPc G [.ref (mga G 0), .int x, .int a, .int b] M P L N V) (va_Ql (fun v u => ((zin M.1 x ∧ v = zout M.2.2.2.2.2.2.1 (M.2.2.1 x.toInt.toNat) (fun k => M.2.2.2.1 (12 * x.toInt.toNat + k)) a b) ∨ (¬ zin M.1 x ∧ v = zNOT)) ∧ ∃ P2 : MP, u = (M, P2, L, N, V)) (mB G) (mA G)) 0 0 (mA G) := by
  by_cases h : ¬ zin M.1 x
  · exact Met_mono (c_X8_run_no l G M P L N V hn hrc hra hf x a b h) (Ql_mono (fun v u q => ⟨Or.inr ⟨h, q.1⟩, q.2⟩))
  · have h : zin M.1 x := Classical.not_not.mp h
    have h2 := h
    unfold zin at h2
    obtain ⟨w, w1, w2, rfl⟩ := argN (x := x) (by omega)
    have we : (nI w).toInt.toNat = w := by omega
    exact Met_mono (c_X8_run l G M P L N V hn hrc hra hf w (by omega) a b) (Ql_mono (fun v u q => ⟨Or.inl ⟨h, by rw [we]; exact q.1⟩, q.2⟩))
def lW (GX : XG) (GM : MG) (s : State) (H0 H : Heap) (locs : List Loc) (X : XX) (Y : YY) : Prop :=
  (va_P (xD GX) vwCl (xw GX X.1 X.2.1 X.2.2.1 X.2.2.2) H ∧ va_D (xA GX) (xw GX X.1 X.2.1 X.2.2.1 X.2.2.2) ∧ va_K (xD GX) vwCl (xT GX) s) ∧ (va_P (mD GM) vwCl (mw GM Y.1 Y.2.1 Y.2.2.1 Y.2.2.2.1 Y.2.2.2.2) H ∧ va_D (mA GM) (mw GM Y.1 Y.2.1 Y.2.2.1 Y.2.2.2.1 Y.2.2.2.2) ∧ va_K (mD GM) vwCl (mT GM) s) ∧ (∀ q, xA GX q → mA GM q → False) ∧ (∀ q, xA GX q → H0.size ≤ q) ∧ (∀ q, mA GM q → H0.size ≤ q) ∧ va_S (fun q => H0.size ≤ q) H0 H locs
section LC
variable {p : Program} {l : Launch} {e : Env} {R : Room} {s : State} {m : MethodId} {args : Array Value} {below : List Frame} {meth : Method} {c : Code} {H : Heap} {locs : List Loc} {cells slots : Nat} {Q : State → Prop} {cc : ByteArray} {pc nL : Nat} {ls : Array Slot} {rest st0 : List Value} {own : String} {GX : XG} {GM : MG} {H0 : Heap} {X : XX} {Y : YY}
variable {y : MethodName} {bytes : ByteArray} {maxL n idx : Nat} {ret : Option FieldType} {rm : Room} {As : List Value}
theorem lx_i {post : Int32 → XX → Prop} (F : CallFix p m c cc nL s args gtbl own) (hM : Met l y (wC y bytes maxL ret) rm (xPc GX (.ref (xga GX 0) :: As) X.1 X.2.1 X.2.2.1 X.2.2.2) (va_Qi post (xB GX) (xA GX)) 0 0 (xA GX)) (cw : CallW R s args own "DoFinder" idx y bytes maxL ret (wC y bytes maxL ret) rm 0 0 n) (hL : lW GX GM s H0 H locs X Y) (hn : As.length = n) (hls : ls.size = nL) (hst : st0 = As.reverse ++ .ref (xga GX 0) :: rest) (hrm : (rest.map fun v => v.category).sum ≤ 8) (hdg : decode cc pc = .ok (.invokevirtual idx, 3)) (hcs : cells ≤ R.cells ∧ slots ≤ R.slots)
    (kk : ∀ (r : Int32) (u : XX) (H1 : Heap) (locs1 : List Loc), post r u → lW GX GM s H0 H1 locs1 u Y → W p l e R s m args below meth c H1 locs1 cells slots Q (F0 m (pc + 3) ls (.int r :: rest))) : W p l e R s m args below meth c H locs cells slots Q (F0 m pc ls st0) := by
  subst hst
  exact va_calli (va_runV F hM cw ⟨xPc_blind, va_recv hL.1.2.2 hL.1.1 (ci := 6) (q0 := 0) rfl rfl, fun U hU hw => ⟨rfl, by rw [hU]; exact hL.1.1, hL.1.2.1, va_K.moved hw.alike hL.1.2.2⟩⟩ rfl hn hls rfl (lv_room hrm) hdg hcs) hL.2.2.2.2.2 (fun q _ h => hL.2.2.2.1 q h) (fun q h => hL.2.2.2.1 q h) (fun r u t H1 locs1 ht hvm hp hB _ hkp hS => kk r u H1 locs1 hp ⟨⟨by rw [← ht]; exact hB.1, hB.2.1, va_K.moved hvm.symm hB.2.2⟩, ⟨hL.2.1.1.kept (fun k q hk => hkp q.1 ((hL.2.1.1 k q hk).lt) (fun z => hL.2.2.1 q.1 z (hL.2.1.2.1.2 k q hk))), hL.2.1.2.1, hL.2.1.2.2⟩, hL.2.2.1, hL.2.2.2.1, hL.2.2.2.2.1, hS⟩)
theorem lx_l {post : Int64 → XX → Prop} (F : CallFix p m c cc nL s args gtbl own) (hM : Met l y (wC y bytes maxL ret) rm (xPc GX (.ref (xga GX 0) :: As) X.1 X.2.1 X.2.2.1 X.2.2.2) (va_Ql post (xB GX) (xA GX)) 0 0 (xA GX)) (cw : CallW R s args own "DoFinder" idx y bytes maxL ret (wC y bytes maxL ret) rm 0 0 n) (hL : lW GX GM s H0 H locs X Y) (hn : As.length = n) (hls : ls.size = nL) (hst : st0 = As.reverse ++ .ref (xga GX 0) :: rest) (hrm : (rest.map fun v => v.category).sum ≤ 8) (hdg : decode cc pc = .ok (.invokevirtual idx, 3)) (hcs : cells ≤ R.cells ∧ slots ≤ R.slots)
    (kk : ∀ (r : Int64) (u : XX) (H1 : Heap) (locs1 : List Loc), post r u → lW GX GM s H0 H1 locs1 u Y → W p l e R s m args below meth c H1 locs1 cells slots Q (F0 m (pc + 3) ls (.long r :: rest))) : W p l e R s m args below meth c H locs cells slots Q (F0 m pc ls st0) := by
  subst hst
  exact va_calll (va_runV F hM cw ⟨xPc_blind, va_recv hL.1.2.2 hL.1.1 (ci := 6) (q0 := 0) rfl rfl, fun U hU hw => ⟨rfl, by rw [hU]; exact hL.1.1, hL.1.2.1, va_K.moved hw.alike hL.1.2.2⟩⟩ rfl hn hls rfl (lv_room hrm) hdg hcs) hL.2.2.2.2.2 (fun q _ h => hL.2.2.2.1 q h) (fun q h => hL.2.2.2.1 q h) (fun r u t H1 locs1 ht hvm hp hB _ hkp hS => kk r u H1 locs1 hp ⟨⟨by rw [← ht]; exact hB.1, hB.2.1, va_K.moved hvm.symm hB.2.2⟩, ⟨hL.2.1.1.kept (fun k q hk => hkp q.1 ((hL.2.1.1 k q hk).lt) (fun z => hL.2.2.1 q.1 z (hL.2.1.2.1.2 k q hk))), hL.2.1.2.1, hL.2.1.2.2⟩, hL.2.2.1, hL.2.2.2.1, hL.2.2.2.2.1, hS⟩)
theorem lm_i {post : Int32 → YY → Prop} (F : CallFix p m c cc nL s args gtbl own) (hM : Met l y (wC y bytes maxL ret) rm (mPc GM (.ref (mga GM 0) :: As) Y.1 Y.2.1 Y.2.2.1 Y.2.2.2.1 Y.2.2.2.2) (va_Qi post (mB GM) (mA GM)) 0 0 (mA GM)) (cw : CallW R s args own "DoFinderModel" idx y bytes maxL ret (wC y bytes maxL ret) rm 0 0 n) (hL : lW GX GM s H0 H locs X Y) (hn : As.length = n) (hls : ls.size = nL) (hst : st0 = As.reverse ++ .ref (mga GM 0) :: rest) (hrm : (rest.map fun v => v.category).sum ≤ 8) (hdg : decode cc pc = .ok (.invokevirtual idx, 3)) (hcs : cells ≤ R.cells ∧ slots ≤ R.slots)
    (kk : ∀ (r : Int32) (u : YY) (H1 : Heap) (locs1 : List Loc), post r u → lW GX GM s H0 H1 locs1 X u → W p l e R s m args below meth c H1 locs1 cells slots Q (F0 m (pc + 3) ls (.int r :: rest))) : W p l e R s m args below meth c H locs cells slots Q (F0 m pc ls st0) := by
  subst hst
  exact va_calli (va_runV F hM cw ⟨mPc_blind, va_recv hL.2.1.2.2 hL.2.1.1 (ci := 7) (q0 := 0) rfl rfl, fun U hU hw => ⟨rfl, by rw [hU]; exact hL.2.1.1, hL.2.1.2.1, va_K.moved hw.alike hL.2.1.2.2⟩⟩ rfl hn hls rfl (lv_room hrm) hdg hcs) hL.2.2.2.2.2 (fun q _ h => hL.2.2.2.2.1 q h) (fun q h => hL.2.2.2.2.1 q h) (fun r u t H1 locs1 ht hvm hp hB _ hkp hS => kk r u H1 locs1 hp ⟨⟨hL.1.1.kept (fun k q hk => hkp q.1 ((hL.1.1 k q hk).lt) (fun z => hL.2.2.1 q.1 (hL.1.2.1.2 k q hk) z)), hL.1.2.1, hL.1.2.2⟩, ⟨by rw [← ht]; exact hB.1, hB.2.1, va_K.moved hvm.symm hB.2.2⟩, hL.2.2.1, hL.2.2.2.1, hL.2.2.2.2.1, hS⟩)
theorem lm_l {post : Int64 → YY → Prop} (F : CallFix p m c cc nL s args gtbl own) (hM : Met l y (wC y bytes maxL ret) rm (mPc GM (.ref (mga GM 0) :: As) Y.1 Y.2.1 Y.2.2.1 Y.2.2.2.1 Y.2.2.2.2) (va_Ql post (mB GM) (mA GM)) 0 0 (mA GM)) (cw : CallW R s args own "DoFinderModel" idx y bytes maxL ret (wC y bytes maxL ret) rm 0 0 n) (hL : lW GX GM s H0 H locs X Y) (hn : As.length = n) (hls : ls.size = nL) (hst : st0 = As.reverse ++ .ref (mga GM 0) :: rest) (hrm : (rest.map fun v => v.category).sum ≤ 8) (hdg : decode cc pc = .ok (.invokevirtual idx, 3)) (hcs : cells ≤ R.cells ∧ slots ≤ R.slots)
    (kk : ∀ (r : Int64) (u : YY) (H1 : Heap) (locs1 : List Loc), post r u → lW GX GM s H0 H1 locs1 X u → W p l e R s m args below meth c H1 locs1 cells slots Q (F0 m (pc + 3) ls (.long r :: rest))) : W p l e R s m args below meth c H locs cells slots Q (F0 m pc ls st0) := by
  subst hst
  exact va_calll (va_runV F hM cw ⟨mPc_blind, va_recv hL.2.1.2.2 hL.2.1.1 (ci := 7) (q0 := 0) rfl rfl, fun U hU hw => ⟨rfl, by rw [hU]; exact hL.2.1.1, hL.2.1.2.1, va_K.moved hw.alike hL.2.1.2.2⟩⟩ rfl hn hls rfl (lv_room hrm) hdg hcs) hL.2.2.2.2.2 (fun q _ h => hL.2.2.2.2.1 q h) (fun q h => hL.2.2.2.2.1 q h) (fun r u t H1 locs1 ht hvm hp hB _ hkp hS => kk r u H1 locs1 hp ⟨⟨hL.1.1.kept (fun k q hk => hkp q.1 ((hL.1.1 k q hk).lt) (fun z => hL.2.2.1 q.1 (hL.1.2.1.2 k q hk) z)), hL.1.2.1, hL.1.2.2⟩, ⟨by rw [← ht]; exact hB.1, hB.2.1, va_K.moved hvm.symm hB.2.2⟩, hL.2.2.1, hL.2.2.2.1, hL.2.2.2.2.1, hS⟩)
end LC
