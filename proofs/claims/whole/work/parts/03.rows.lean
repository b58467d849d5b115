/-! ===== rows of the class's world ===== -/
theorem nI_cl {n : Nat} {x : Int32} (hx : x = nI n) (h : n < 1000) : x.toNatClampNeg = n := by subst hx; exact nI_clamp (by omega)
theorem upN_id (f : Nat → Nat) (j : Nat) : upN f j (f j) = f := by
  funext i
  by_cases h : i = j
  · subst h; exact upN_s
  · exact upN_n h
theorem xst_gen {l : Launch} {y : MethodName} {cc : ByteArray} {maxL : Nat} {ret : Option FieldType} {rm : Room} {Pc : Array Value → State → Prop} {Qc : Array Value → State → Outcome → State → Prop} {mc ms : Nat} {free : Addr → Prop} (own : String) (hy : plainName y.cls = true) (ho : y.cls = own)
    (body : ∀ (p : Program) (e : Env) (s : State) (m : MethodId) (args : Array Value) (below : List Frame) (meth : Method) (c : Code), CallFix p m c cc maxL s args gtbl own → meth.sig.returnType = ret → meth.locks = false → (meth.name = y.name) → Pc args s → W p l e rm s m args below meth c s.heap [] 0 0 (MQ below Qc args s mc ms free) (entryFrame m args maxL)) : Met l y (wC y cc maxL ret) rm Pc Qc mc ms free := by
  refine Met.ofW (cc := cc) (maxL := maxL) (ret := ret) hy rfl ?_
  intro p e s m args below meth c s₁ B hml hv
  subst ho
  exact body p e s m args below meth c ⟨B.exec, B.bytes, hml, findClass_of_methodNamed B.named, fun w hw => atoms_spec (ws := wC y cc maxL ret) B.pre w (List.mem_cons_of_mem _ hw)⟩ B.returns B.notSynchronized (name_of_methodNamed B.named B.method).1 hv
theorem xst {l : Launch} {y : MethodName} {cc : ByteArray} {maxL : Nat} {ret : Option FieldType} {rm : Room} {G : XG} {av : List Value} {M : XM} {P : XP} {S : XS} {V : XV} {Qc : Array Value → State → Outcome → State → Prop} (own : String) (hy : plainName y.cls = true) (ho : y.cls = own) (hn : (lg_sl av).length ≤ maxL)
    (body : ∀ (p : Program) (e : Env) (s : State) (m : MethodId) (args : Array Value) (below : List Frame) (meth : Method) (c : Code) (ls : Array Slot), CallFix p m c cc maxL s args gtbl own → meth.sig.returnType = ret → meth.locks = false → xW G s s.heap s.heap [] M P S V → lv_has ls maxL (lv_args 0 av) → W p l e rm s m args below meth c s.heap [] 0 0 (MQ below Qc args s 0 0 (xA G)) (F0 m 0 ls [])) : Met l y (wC y cc maxL ret) rm (xPc G av M P S V) Qc 0 0 (xA G) := by
  refine xst_gen own hy ho ?_
  intro p e s m args below meth c F hr hlk _ hv
  obtain ⟨rfl, hP, hD, hK⟩ := hv
  rw [lg_entry_eq]
  exact body p e s m av.toArray below meth c _ F hr hlk ⟨hP, hD, va_S.rf, hK⟩ (lv_entry av hn)
section XR
variable {p : Program} {l : Launch} {e : Env} {R : Room} {s : State} {m : MethodId} {args : Array Value} {below : List Frame} {meth : Method} {c : Code} {H : Heap} {locs : List Loc} {cells slots : Nat} {Q : State → Prop} {cc : ByteArray} {pc nL : Nat} {ls : Array Slot} {rest : List Value} {own : String} {G : XG} {H0 : Heap} {M : XM} {P : XP} {S : XS} {V : XV}
theorem xg_DoFinder_written (F : CallFix p m c cc nL s args gtbl own) (hW : xW G s H0 H locs M P S V) {idx : Nat} (hl : Cond.fieldLink own idx "DoFinder" "written" "LDoFinder$Routine;" ∈ gtbl) (hdg : decode cc pc = .ok (.getfield idx, 3)) (kk : W p l e R s m args below meth c H locs cells slots Q (F0 m (pc + 3) ls (.ref (xgo G 12) :: rest))) : W p l e R s m args below meth c H locs cells slots Q (F0 m pc ls (.ref (xga G 0) :: rest)) :=
  va_get (D := xD G) (ci := 6) (v := .ref (xgo G 12)) (C := RX7) (T := TX7) (N := 5) F.1 F.2.1 F.2.2.2.2 iw_X7 F.2.2.2.1 hW.2.2.2 hW.1 0 rfl rfl 0 (by decide) (F.2.2.2.2 _ hl) (fun _ h9 => h9) rfl hdg kk
theorem xg_DoFinder_library (F : CallFix p m c cc nL s args gtbl own) (hW : xW G s H0 H locs M P S V) {idx : Nat} (hl : Cond.fieldLink own idx "DoFinder" "library" "LDoFinder$Library;" ∈ gtbl) (hdg : decode cc pc = .ok (.getfield idx, 3)) (kk : W p l e R s m args below meth c H locs cells slots Q (F0 m (pc + 3) ls (.ref (xga G 1) :: rest))) : W p l e R s m args below meth c H locs cells slots Q (F0 m pc ls (.ref (xga G 0) :: rest)) :=
  va_get (D := xD G) (ci := 6) (v := .ref (xga G 1)) (C := RX7) (T := TX7) (N := 5) F.1 F.2.1 F.2.2.2.2 iw_X7 F.2.2.2.1 hW.2.2.2 hW.1 0 rfl rfl 1 (by decide) (F.2.2.2.2 _ hl) (fun _ h9 => h9) rfl hdg kk
theorem xg_DoFinder_asked (F : CallFix p m c cc nL s args gtbl own) (hW : xW G s H0 H locs M P S V) {idx : Nat} (hl : Cond.fieldLink own idx "DoFinder" "asked" "LDoFinder$Ask;" ∈ gtbl) (hdg : decode cc pc = .ok (.getfield idx, 3)) (kk : W p l e R s m args below meth c H locs cells slots Q (F0 m (pc + 3) ls (.ref (xga G 2) :: rest))) : W p l e R s m args below meth c H locs cells slots Q (F0 m pc ls (.ref (xga G 0) :: rest)) :=
  va_get (D := xD G) (ci := 6) (v := .ref (xga G 2)) (C := RX7) (T := TX7) (N := 5) F.1 F.2.1 F.2.2.2.2 iw_X7 F.2.2.2.1 hW.2.2.2 hW.1 0 rfl rfl 2 (by decide) (F.2.2.2.2 _ hl) (fun _ h9 => h9) rfl hdg kk
theorem xg_DoFinder_search (F : CallFix p m c cc nL s args gtbl own) (hW : xW G s H0 H locs M P S V) {idx : Nat} (hl : Cond.fieldLink own idx "DoFinder" "search" "LDoFinder$Search;" ∈ gtbl) (hdg : decode cc pc = .ok (.getfield idx, 3)) (kk : W p l e R s m args below meth c H locs cells slots Q (F0 m (pc + 3) ls (.ref (xga G 3) :: rest))) : W p l e R s m args below meth c H locs cells slots Q (F0 m pc ls (.ref (xga G 0) :: rest)) :=
  va_get (D := xD G) (ci := 6) (v := .ref (xga G 3)) (C := RX7) (T := TX7) (N := 5) F.1 F.2.1 F.2.2.2.2 iw_X7 F.2.2.2.1 hW.2.2.2 hW.1 0 rfl rfl 3 (by decide) (F.2.2.2.2 _ hl) (fun _ h9 => h9) rfl hdg kk
theorem xg_DoFinder_parter (F : CallFix p m c cc nL s args gtbl own) (hW : xW G s H0 H locs M P S V) {idx : Nat} (hl : Cond.fieldLink own idx "DoFinder" "parter" "LDoFinder$Parting;" ∈ gtbl) (hdg : decode cc pc = .ok (.getfield idx, 3)) (kk : W p l e R s m args below meth c H locs cells slots Q (F0 m (pc + 3) ls (.ref (xga G 4) :: rest))) : W p l e R s m args below meth c H locs cells slots Q (F0 m pc ls (.ref (xga G 0) :: rest)) :=
  va_get (D := xD G) (ci := 6) (v := .ref (xga G 4)) (C := RX7) (T := TX7) (N := 5) F.1 F.2.1 F.2.2.2.2 iw_X7 F.2.2.2.1 hW.2.2.2 hW.1 0 rfl rfl 4 (by decide) (F.2.2.2.2 _ hl) (fun _ h9 => h9) rfl hdg kk
theorem xg_Library_routines (F : CallFix p m c cc nL s args gtbl own) (hW : xW G s H0 H locs M P S V) {idx : Nat} (hl : Cond.fieldLink own idx "DoFinder$Library" "routines" "[LDoFinder$Routine;" ∈ gtbl) (hdg : decode cc pc = .ok (.getfield idx, 3)) (kk : W p l e R s m args below meth c H locs cells slots Q (F0 m (pc + 3) ls (.ref (xga G 6) :: rest))) : W p l e R s m args below meth c H locs cells slots Q (F0 m pc ls (.ref (xga G 1) :: rest)) :=
  va_get (D := xD G) (ci := 1) (v := .ref (xga G 6)) (C := RX1) (T := TX1) (N := 5) F.1 F.2.1 F.2.2.2.2 iw_X1 F.2.2.2.1 hW.2.2.2 hW.1 1 rfl rfl 0 (by decide) (F.2.2.2.2 _ hl) (fun _ h9 => h9) rfl hdg kk
theorem xg_Library_pile (F : CallFix p m c cc nL s args gtbl own) (hW : xW G s H0 H locs M P S V) {idx : Nat} (hl : Cond.fieldLink own idx "DoFinder$Library" "pile" "LDoFinder$Pile;" ∈ gtbl) (hdg : decode cc pc = .ok (.getfield idx, 3)) (kk : W p l e R s m args below meth c H locs cells slots Q (F0 m (pc + 3) ls (.ref (xga G 5) :: rest))) : W p l e R s m args below meth c H locs cells slots Q (F0 m pc ls (.ref (xga G 1) :: rest)) :=
  va_get (D := xD G) (ci := 1) (v := .ref (xga G 5)) (C := RX1) (T := TX1) (N := 5) F.1 F.2.1 F.2.2.2.2 iw_X1 F.2.2.2.1 hW.2.2.2 hW.1 1 rfl rfl 1 (by decide) (F.2.2.2.2 _ hl) (fun _ h9 => h9) rfl hdg kk
theorem xg_Library_count (F : CallFix p m c cc nL s args gtbl own) (hW : xW G s H0 H locs M P S V) {idx : Nat} (hl : Cond.fieldLink own idx "DoFinder$Library" "count" "I" ∈ gtbl) (hdg : decode cc pc = .ok (.getfield idx, 3)) (kk : W p l e R s m args below meth c H locs cells slots Q (F0 m (pc + 3) ls (.int (nI M.1) :: rest))) : W p l e R s m args below meth c H locs cells slots Q (F0 m pc ls (.ref (xga G 1) :: rest)) :=
  va_get (D := xD G) (ci := 1) (v := .int (nI M.1)) (C := RX1) (T := TX1) (N := 5) F.1 F.2.1 F.2.2.2.2 iw_X1 F.2.2.2.1 hW.2.2.2 hW.1 1 rfl rfl 2 (by decide) (F.2.2.2.2 _ hl) (fun _ h9 => h9) rfl hdg kk
theorem xg_Library_fuel (F : CallFix p m c cc nL s args gtbl own) (hW : xW G s H0 H locs M P S V) {idx : Nat} (hl : Cond.fieldLink own idx "DoFinder$Library" "fuel" "I" ∈ gtbl) (hdg : decode cc pc = .ok (.getfield idx, 3)) (kk : W p l e R s m args below meth c H locs cells slots Q (F0 m (pc + 3) ls (.int (nI M.2.1) :: rest))) : W p l e R s m args below meth c H locs cells slots Q (F0 m pc ls (.ref (xga G 1) :: rest)) :=
  va_get (D := xD G) (ci := 1) (v := .int (nI M.2.1)) (C := RX1) (T := TX1) (N := 5) F.1 F.2.1 F.2.2.2.2 iw_X1 F.2.2.2.1 hW.2.2.2 hW.1 1 rfl rfl 3 (by decide) (F.2.2.2.2 _ hl) (fun _ h9 => h9) rfl hdg kk
theorem xg_Library_done (F : CallFix p m c cc nL s args gtbl own) (hW : xW G s H0 H locs M P S V) {idx : Nat} (hl : Cond.fieldLink own idx "DoFinder$Library" "done" "I" ∈ gtbl) (hdg : decode cc pc = .ok (.getfield idx, 3)) (kk : W p l e R s m args below meth c H locs cells slots Q (F0 m (pc + 3) ls (.int (nI P.1) :: rest))) : W p l e R s m args below meth c H locs cells slots Q (F0 m pc ls (.ref (xga G 1) :: rest)) :=
  va_get (D := xD G) (ci := 1) (v := .int (nI P.1)) (C := RX1) (T := TX1) (N := 5) F.1 F.2.1 F.2.2.2.2 iw_X1 F.2.2.2.1 hW.2.2.2 hW.1 1 rfl rfl 4 (by decide) (F.2.2.2.2 _ hl) (fun _ h9 => h9) rfl hdg kk
theorem xg_Ask_firsts (F : CallFix p m c cc nL s args gtbl own) (hW : xW G s H0 H locs M P S V) {idx : Nat} (hl : Cond.fieldLink own idx "DoFinder$Ask" "firsts" "[I" ∈ gtbl) (hdg : decode cc pc = .ok (.getfield idx, 3)) (kk : W p l e R s m args below meth c H locs cells slots Q (F0 m (pc + 3) ls (.ref (xga G 8) :: rest))) : W p l e R s m args below meth c H locs cells slots Q (F0 m pc ls (.ref (xga G 2) :: rest)) :=
  va_get (D := xD G) (ci := 0) (v := .ref (xga G 8)) (C := RX0) (T := TX0) (N := 5) F.1 F.2.1 F.2.2.2.2 iw_X0 F.2.2.2.1 hW.2.2.2 hW.1 2 rfl rfl 0 (by decide) (F.2.2.2.2 _ hl) (fun _ h9 => h9) rfl hdg kk
theorem xg_Ask_seconds (F : CallFix p m c cc nL s args gtbl own) (hW : xW G s H0 H locs M P S V) {idx : Nat} (hl : Cond.fieldLink own idx "DoFinder$Ask" "seconds" "[I" ∈ gtbl) (hdg : decode cc pc = .ok (.getfield idx, 3)) (kk : W p l e R s m args below meth c H locs cells slots Q (F0 m (pc + 3) ls (.ref (xga G 9) :: rest))) : W p l e R s m args below meth c H locs cells slots Q (F0 m pc ls (.ref (xga G 2) :: rest)) :=
  va_get (D := xD G) (ci := 0) (v := .ref (xga G 9)) (C := RX0) (T := TX0) (N := 5) F.1 F.2.1 F.2.2.2.2 iw_X0 F.2.2.2.1 hW.2.2.2 hW.1 2 rfl rfl 1 (by decide) (F.2.2.2.2 _ hl) (fun _ h9 => h9) rfl hdg kk
theorem xg_Ask_dues (F : CallFix p m c cc nL s args gtbl own) (hW : xW G s H0 H locs M P S V) {idx : Nat} (hl : Cond.fieldLink own idx "DoFinder$Ask" "dues" "[J" ∈ gtbl) (hdg : decode cc pc = .ok (.getfield idx, 3)) (kk : W p l e R s m args below meth c H locs cells slots Q (F0 m (pc + 3) ls (.ref (xga G 10) :: rest))) : W p l e R s m args below meth c H locs cells slots Q (F0 m pc ls (.ref (xga G 2) :: rest)) :=
  va_get (D := xD G) (ci := 0) (v := .ref (xga G 10)) (C := RX0) (T := TX0) (N := 5) F.1 F.2.1 F.2.2.2.2 iw_X0 F.2.2.2.1 hW.2.2.2 hW.1 2 rfl rfl 2 (by decide) (F.2.2.2.2 _ hl) (fun _ h9 => h9) rfl hdg kk
theorem xg_Ask_count (F : CallFix p m c cc nL s args gtbl own) (hW : xW G s H0 H locs M P S V) {idx : Nat} (hl : Cond.fieldLink own idx "DoFinder$Ask" "count" "I" ∈ gtbl) (hdg : decode cc pc = .ok (.getfield idx, 3)) (kk : W p l e R s m args below meth c H locs cells slots Q (F0 m (pc + 3) ls (.int (nI M.2.2.2.2.2.1) :: rest))) : W p l e R s m args below meth c H locs cells slots Q (F0 m pc ls (.ref (xga G 2) :: rest)) :=
  va_get (D := xD G) (ci := 0) (v := .int (nI M.2.2.2.2.2.1)) (C := RX0) (T := TX0) (N := 5) F.1 F.2.1 F.2.2.2.2 iw_X0 F.2.2.2.1 hW.2.2.2 hW.1 2 rfl rfl 3 (by decide) (F.2.2.2.2 _ hl) (fun _ h9 => h9) rfl hdg kk
theorem xg_Ask_arguments (F : CallFix p m c cc nL s args gtbl own) (hW : xW G s H0 H locs M P S V) {idx : Nat} (hl : Cond.fieldLink own idx "DoFinder$Ask" "arguments" "I" ∈ gtbl) (hdg : decode cc pc = .ok (.getfield idx, 3)) (kk : W p l e R s m args below meth c H locs cells slots Q (F0 m (pc + 3) ls (.int (nI M.2.2.2.2.2.2.1) :: rest))) : W p l e R s m args below meth c H locs cells slots Q (F0 m pc ls (.ref (xga G 2) :: rest)) :=
  va_get (D := xD G) (ci := 0) (v := .int (nI M.2.2.2.2.2.2.1)) (C := RX0) (T := TX0) (N := 5) F.1 F.2.1 F.2.2.2.2 iw_X0 F.2.2.2.1 hW.2.2.2 hW.1 2 rfl rfl 4 (by decide) (F.2.2.2.2 _ hl) (fun _ h9 => h9) rfl hdg kk
theorem xg_Search_library (F : CallFix p m c cc nL s args gtbl own) (hW : xW G s H0 H locs M P S V) {idx : Nat} (hl : Cond.fieldLink own idx "DoFinder$Search" "library" "LDoFinder$Library;" ∈ gtbl) (hdg : decode cc pc = .ok (.getfield idx, 3)) (kk : W p l e R s m args below meth c H locs cells slots Q (F0 m (pc + 3) ls (.ref (xga G 1) :: rest))) : W p l e R s m args below meth c H locs cells slots Q (F0 m pc ls (.ref (xga G 3) :: rest)) :=
  va_get (D := xD G) (ci := 5) (v := .ref (xga G 1)) (C := RX5) (T := TX5) (N := 6) F.1 F.2.1 F.2.2.2.2 iw_X5 F.2.2.2.1 hW.2.2.2 hW.1 3 rfl rfl 0 (by decide) (F.2.2.2.2 _ hl) (fun _ h9 => h9) rfl hdg kk
theorem xg_Search_asked (F : CallFix p m c cc nL s args gtbl own) (hW : xW G s H0 H locs M P S V) {idx : Nat} (hl : Cond.fieldLink own idx "DoFinder$Search" "asked" "LDoFinder$Ask;" ∈ gtbl) (hdg : decode cc pc = .ok (.getfield idx, 3)) (kk : W p l e R s m args below meth c H locs cells slots Q (F0 m (pc + 3) ls (.ref (xga G 2) :: rest))) : W p l e R s m args below meth c H locs cells slots Q (F0 m pc ls (.ref (xga G 3) :: rest)) :=
  va_get (D := xD G) (ci := 5) (v := .ref (xga G 2)) (C := RX5) (T := TX5) (N := 6) F.1 F.2.1 F.2.2.2.2 iw_X5 F.2.2.2.1 hW.2.2.2 hW.1 3 rfl rfl 1 (by decide) (F.2.2.2.2 _ hl) (fun _ h9 => h9) rfl hdg kk
theorem xg_Search_ways (F : CallFix p m c cc nL s args gtbl own) (hW : xW G s H0 H locs M P S V) {idx : Nat} (hl : Cond.fieldLink own idx "DoFinder$Search" "ways" "[I" ∈ gtbl) (hdg : decode cc pc = .ok (.getfield idx, 3)) (kk : W p l e R s m args below meth c H locs cells slots Q (F0 m (pc + 3) ls (.ref (xga G 11) :: rest))) : W p l e R s m args below meth c H locs cells slots Q (F0 m pc ls (.ref (xga G 3) :: rest)) :=
  va_get (D := xD G) (ci := 5) (v := .ref (xga G 11)) (C := RX5) (T := TX5) (N := 6) F.1 F.2.1 F.2.2.2.2 iw_X5 F.2.2.2.1 hW.2.2.2 hW.1 3 rfl rfl 2 (by decide) (F.2.2.2.2 _ hl) (fun _ h9 => h9) rfl hdg kk
theorem xg_Search_wayMisses (F : CallFix p m c cc nL s args gtbl own) (hW : xW G s H0 H locs M P S V) {idx : Nat} (hl : Cond.fieldLink own idx "DoFinder$Search" "wayMisses" "[I" ∈ gtbl) (hdg : decode cc pc = .ok (.getfield idx, 3)) (kk : W p l e R s m args below meth c H locs cells slots Q (F0 m (pc + 3) ls (.ref (xga G 12) :: rest))) : W p l e R s m args below meth c H locs cells slots Q (F0 m pc ls (.ref (xga G 3) :: rest)) :=
  va_get (D := xD G) (ci := 5) (v := .ref (xga G 12)) (C := RX5) (T := TX5) (N := 6) F.1 F.2.1 F.2.2.2.2 iw_X5 F.2.2.2.1 hW.2.2.2 hW.1 3 rfl rfl 3 (by decide) (F.2.2.2.2 _ hl) (fun _ h9 => h9) rfl hdg kk
theorem xg_Search_picked (F : CallFix p m c cc nL s args gtbl own) (hW : xW G s H0 H locs M P S V) {idx : Nat} (hl : Cond.fieldLink own idx "DoFinder$Search" "picked" "[I" ∈ gtbl) (hdg : decode cc pc = .ok (.getfield idx, 3)) (kk : W p l e R s m args below meth c H locs cells slots Q (F0 m (pc + 3) ls (.ref (xga G 13) :: rest))) : W p l e R s m args below meth c H locs cells slots Q (F0 m pc ls (.ref (xga G 3) :: rest)) :=
  va_get (D := xD G) (ci := 5) (v := .ref (xga G 13)) (C := RX5) (T := TX5) (N := 6) F.1 F.2.1 F.2.2.2.2 iw_X5 F.2.2.2.1 hW.2.2.2 hW.1 3 rfl rfl 4 (by decide) (F.2.2.2.2 _ hl) (fun _ h9 => h9) rfl hdg kk
theorem xg_Search_pickedCount (F : CallFix p m c cc nL s args gtbl own) (hW : xW G s H0 H locs M P S V) {idx : Nat} (hl : Cond.fieldLink own idx "DoFinder$Search" "pickedCount" "I" ∈ gtbl) (hdg : decode cc pc = .ok (.getfield idx, 3)) (kk : W p l e R s m args below meth c H locs cells slots Q (F0 m (pc + 3) ls (.int (nI S.1) :: rest))) : W p l e R s m args below meth c H locs cells slots Q (F0 m pc ls (.ref (xga G 3) :: rest)) :=
  va_get (D := xD G) (ci := 5) (v := .int (nI S.1)) (C := RX5) (T := TX5) (N := 6) F.1 F.2.1 F.2.2.2.2 iw_X5 F.2.2.2.1 hW.2.2.2 hW.1 3 rfl rfl 5 (by decide) (F.2.2.2.2 _ hl) (fun _ h9 => h9) rfl hdg kk
theorem xg_Parting_search (F : CallFix p m c cc nL s args gtbl own) (hW : xW G s H0 H locs M P S V) {idx : Nat} (hl : Cond.fieldLink own idx "DoFinder$Parting" "search" "LDoFinder$Search;" ∈ gtbl) (hdg : decode cc pc = .ok (.getfield idx, 3)) (kk : W p l e R s m args below meth c H locs cells slots Q (F0 m (pc + 3) ls (.ref (xga G 3) :: rest))) : W p l e R s m args below meth c H locs cells slots Q (F0 m pc ls (.ref (xga G 4) :: rest)) :=
  va_get (D := xD G) (ci := 2) (v := .ref (xga G 3)) (C := RX2) (T := TX2) (N := 8) F.1 F.2.1 F.2.2.2.2 iw_X2 F.2.2.2.1 hW.2.2.2 hW.1 4 rfl rfl 0 (by decide) (F.2.2.2.2 _ hl) (fun _ h9 => h9) rfl hdg kk
theorem xg_Parting_outcomes (F : CallFix p m c cc nL s args gtbl own) (hW : xW G s H0 H locs M P S V) {idx : Nat} (hl : Cond.fieldLink own idx "DoFinder$Parting" "outcomes" "[J" ∈ gtbl) (hdg : decode cc pc = .ok (.getfield idx, 3)) (kk : W p l e R s m args below meth c H locs cells slots Q (F0 m (pc + 3) ls (.ref (xga G 14) :: rest))) : W p l e R s m args below meth c H locs cells slots Q (F0 m pc ls (.ref (xga G 4) :: rest)) :=
  va_get (D := xD G) (ci := 2) (v := .ref (xga G 14)) (C := RX2) (T := TX2) (N := 8) F.1 F.2.1 F.2.2.2.2 iw_X2 F.2.2.2.1 hW.2.2.2 hW.1 4 rfl rfl 1 (by decide) (F.2.2.2.2 _ hl) (fun _ h9 => h9) rfl hdg kk
theorem xg_Parting_counts (F : CallFix p m c cc nL s args gtbl own) (hW : xW G s H0 H locs M P S V) {idx : Nat} (hl : Cond.fieldLink own idx "DoFinder$Parting" "counts" "[I" ∈ gtbl) (hdg : decode cc pc = .ok (.getfield idx, 3)) (kk : W p l e R s m args below meth c H locs cells slots Q (F0 m (pc + 3) ls (.ref (xga G 15) :: rest))) : W p l e R s m args below meth c H locs cells slots Q (F0 m pc ls (.ref (xga G 4) :: rest)) :=
  va_get (D := xD G) (ci := 2) (v := .ref (xga G 15)) (C := RX2) (T := TX2) (N := 8) F.1 F.2.1 F.2.2.2.2 iw_X2 F.2.2.2.1 hW.2.2.2 hW.1 4 rfl rfl 2 (by decide) (F.2.2.2.2 _ hl) (fun _ h9 => h9) rfl hdg kk
theorem xg_Parting_mostHere (F : CallFix p m c cc nL s args gtbl own) (hW : xW G s H0 H locs M P S V) {idx : Nat} (hl : Cond.fieldLink own idx "DoFinder$Parting" "mostHere" "I" ∈ gtbl) (hdg : decode cc pc = .ok (.getfield idx, 3)) (kk : W p l e R s m args below meth c H locs cells slots Q (F0 m (pc + 3) ls (.int (nI V.1) :: rest))) : W p l e R s m args below meth c H locs cells slots Q (F0 m pc ls (.ref (xga G 4) :: rest)) :=
  va_get (D := xD G) (ci := 2) (v := .int (nI V.1)) (C := RX2) (T := TX2) (N := 8) F.1 F.2.1 F.2.2.2.2 iw_X2 F.2.2.2.1 hW.2.2.2 hW.1 4 rfl rfl 3 (by decide) (F.2.2.2.2 _ hl) (fun _ h9 => h9) rfl hdg kk
theorem xg_Parting_unlikeHere (F : CallFix p m c cc nL s args gtbl own) (hW : xW G s H0 H locs M P S V) {idx : Nat} (hl : Cond.fieldLink own idx "DoFinder$Parting" "unlikeHere" "I" ∈ gtbl) (hdg : decode cc pc = .ok (.getfield idx, 3)) (kk : W p l e R s m args below meth c H locs cells slots Q (F0 m (pc + 3) ls (.int (nI V.2.1) :: rest))) : W p l e R s m args below meth c H locs cells slots Q (F0 m pc ls (.ref (xga G 4) :: rest)) :=
  va_get (D := xD G) (ci := 2) (v := .int (nI V.2.1)) (C := RX2) (T := TX2) (N := 8) F.1 F.2.1 F.2.2.2.2 iw_X2 F.2.2.2.1 hW.2.2.2 hW.1 4 rfl rfl 4 (by decide) (F.2.2.2.2 _ hl) (fun _ h9 => h9) rfl hdg kk
theorem xg_Parting_place (F : CallFix p m c cc nL s args gtbl own) (hW : xW G s H0 H locs M P S V) {idx : Nat} (hl : Cond.fieldLink own idx "DoFinder$Parting" "place" "I" ∈ gtbl) (hdg : decode cc pc = .ok (.getfield idx, 3)) (kk : W p l e R s m args below meth c H locs cells slots Q (F0 m (pc + 3) ls (.int (nI V.2.2.1) :: rest))) : W p l e R s m args below meth c H locs cells slots Q (F0 m pc ls (.ref (xga G 4) :: rest)) :=
  va_get (D := xD G) (ci := 2) (v := .int (nI V.2.2.1)) (C := RX2) (T := TX2) (N := 8) F.1 F.2.1 F.2.2.2.2 iw_X2 F.2.2.2.1 hW.2.2.2 hW.1 4 rfl rfl 5 (by decide) (F.2.2.2.2 _ hl) (fun _ h9 => h9) rfl hdg kk
theorem xg_Parting_most (F : CallFix p m c cc nL s args gtbl own) (hW : xW G s H0 H locs M P S V) {idx : Nat} (hl : Cond.fieldLink own idx "DoFinder$Parting" "most" "I" ∈ gtbl) (hdg : decode cc pc = .ok (.getfield idx, 3)) (kk : W p l e R s m args below meth c H locs cells slots Q (F0 m (pc + 3) ls (.int (nI V.2.2.2.1) :: rest))) : W p l e R s m args below meth c H locs cells slots Q (F0 m pc ls (.ref (xga G 4) :: rest)) :=
  va_get (D := xD G) (ci := 2) (v := .int (nI V.2.2.2.1)) (C := RX2) (T := TX2) (N := 8) F.1 F.2.1 F.2.2.2.2 iw_X2 F.2.2.2.1 hW.2.2.2 hW.1 4 rfl rfl 6 (by decide) (F.2.2.2.2 _ hl) (fun _ h9 => h9) rfl hdg kk
theorem xg_Parting_unlike (F : CallFix p m c cc nL s args gtbl own) (hW : xW G s H0 H locs M P S V) {idx : Nat} (hl : Cond.fieldLink own idx "DoFinder$Parting" "unlike" "I" ∈ gtbl) (hdg : decode cc pc = .ok (.getfield idx, 3)) (kk : W p l e R s m args below meth c H locs cells slots Q (F0 m (pc + 3) ls (.int (nI V.2.2.2.2.1) :: rest))) : W p l e R s m args below meth c H locs cells slots Q (F0 m pc ls (.ref (xga G 4) :: rest)) :=
  va_get (D := xD G) (ci := 2) (v := .int (nI V.2.2.2.2.1)) (C := RX2) (T := TX2) (N := 8) F.1 F.2.1 F.2.2.2.2 iw_X2 F.2.2.2.1 hW.2.2.2 hW.1 4 rfl rfl 7 (by decide) (F.2.2.2.2 _ hl) (fun _ h9 => h9) rfl hdg kk
theorem xg_Pile_numbers (F : CallFix p m c cc nL s args gtbl own) (hW : xW G s H0 H locs M P S V) {idx : Nat} (hl : Cond.fieldLink own idx "DoFinder$Pile" "numbers" "[I" ∈ gtbl) (hdg : decode cc pc = .ok (.getfield idx, 3)) (kk : W p l e R s m args below meth c H locs cells slots Q (F0 m (pc + 3) ls (.ref (xga G 7) :: rest))) : W p l e R s m args below meth c H locs cells slots Q (F0 m pc ls (.ref (xga G 5) :: rest)) :=
  va_get (D := xD G) (ci := 3) (v := .ref (xga G 7)) (C := RX3) (T := TX3) (N := 3) F.1 F.2.1 F.2.2.2.2 iw_X3 F.2.2.2.1 hW.2.2.2 hW.1 5 rfl rfl 0 (by decide) (F.2.2.2.2 _ hl) (fun _ h9 => h9) rfl hdg kk
theorem xg_Pile_height (F : CallFix p m c cc nL s args gtbl own) (hW : xW G s H0 H locs M P S V) {idx : Nat} (hl : Cond.fieldLink own idx "DoFinder$Pile" "height" "I" ∈ gtbl) (hdg : decode cc pc = .ok (.getfield idx, 3)) (kk : W p l e R s m args below meth c H locs cells slots Q (F0 m (pc + 3) ls (.int (nI P.2.1) :: rest))) : W p l e R s m args below meth c H locs cells slots Q (F0 m pc ls (.ref (xga G 5) :: rest)) :=
  va_get (D := xD G) (ci := 3) (v := .int (nI P.2.1)) (C := RX3) (T := TX3) (N := 3) F.1 F.2.1 F.2.2.2.2 iw_X3 F.2.2.2.1 hW.2.2.2 hW.1 5 rfl rfl 1 (by decide) (F.2.2.2.2 _ hl) (fun _ h9 => h9) rfl hdg kk
theorem xg_Pile_taken (F : CallFix p m c cc nL s args gtbl own) (hW : xW G s H0 H locs M P S V) {idx : Nat} (hl : Cond.fieldLink own idx "DoFinder$Pile" "taken" "I" ∈ gtbl) (hdg : decode cc pc = .ok (.getfield idx, 3)) (kk : W p l e R s m args below meth c H locs cells slots Q (F0 m (pc + 3) ls (.int P.2.2.1 :: rest))) : W p l e R s m args below meth c H locs cells slots Q (F0 m pc ls (.ref (xga G 5) :: rest)) :=
  va_get (D := xD G) (ci := 3) (v := .int P.2.2.1) (C := RX3) (T := TX3) (N := 3) F.1 F.2.1 F.2.2.2.2 iw_X3 F.2.2.2.1 hW.2.2.2 hW.1 5 rfl rfl 2 (by decide) (F.2.2.2.2 _ hl) (fun _ h9 => h9) rfl hdg kk
theorem xg_Routine_steps (F : CallFix p m c cc nL s args gtbl own) (hW : xW G s H0 H locs M P S V) {j : Nat} (hj : j < 13) {idx : Nat} (hl : Cond.fieldLink own idx "DoFinder$Routine" "steps" "[I" ∈ gtbl) (hdg : decode cc pc = .ok (.getfield idx, 3)) (kk : W p l e R s m args below meth c H locs cells slots Q (F0 m (pc + 3) ls (.ref (xgs G j) :: rest))) : W p l e R s m args below meth c H locs cells slots Q (F0 m pc ls (.ref (xgo G j) :: rest)) :=
  va_get (D := xD G) (ci := 4) (v := .ref (xgs G j)) (C := RX4) (T := TX4) (N := 3) F.1 F.2.1 F.2.2.2.2 iw_X4 F.2.2.2.1 hW.2.2.2 hW.1 (16 + j) (xw_o hj) rfl 0 (by decide) (F.2.2.2.2 _ hl) (fun _ h9 => h9) rfl hdg kk
theorem xg_Routine_count (F : CallFix p m c cc nL s args gtbl own) (hW : xW G s H0 H locs M P S V) {j : Nat} (hj : j < 13) {idx : Nat} (hl : Cond.fieldLink own idx "DoFinder$Routine" "count" "I" ∈ gtbl) (hdg : decode cc pc = .ok (.getfield idx, 3)) (kk : W p l e R s m args below meth c H locs cells slots Q (F0 m (pc + 3) ls (.int (nI (M.2.2.1 j)) :: rest))) : W p l e R s m args below meth c H locs cells slots Q (F0 m pc ls (.ref (xgo G j) :: rest)) :=
  va_get (D := xD G) (ci := 4) (v := .int (nI (M.2.2.1 j))) (C := RX4) (T := TX4) (N := 3) F.1 F.2.1 F.2.2.2.2 iw_X4 F.2.2.2.1 hW.2.2.2 hW.1 (16 + j) (xw_o hj) rfl 1 (by decide) (F.2.2.2.2 _ hl) (fun _ h9 => h9) rfl hdg kk
theorem xg_Routine_arguments (F : CallFix p m c cc nL s args gtbl own) (hW : xW G s H0 H locs M P S V) {j : Nat} (hj : j < 13) {idx : Nat} (hl : Cond.fieldLink own idx "DoFinder$Routine" "arguments" "I" ∈ gtbl) (hdg : decode cc pc = .ok (.getfield idx, 3)) (kk : W p l e R s m args below meth c H locs cells slots Q (F0 m (pc + 3) ls (.int (nI (M.2.2.2.1 j)) :: rest))) : W p l e R s m args below meth c H locs cells slots Q (F0 m pc ls (.ref (xgo G j) :: rest)) :=
  va_get (D := xD G) (ci := 4) (v := .int (nI (M.2.2.2.1 j))) (C := RX4) (T := TX4) (N := 3) F.1 F.2.1 F.2.2.2.2 iw_X4 F.2.2.2.1 hW.2.2.2 hW.1 (16 + j) (xw_o hj) rfl 2 (by decide) (F.2.2.2.2 _ hl) (fun _ h9 => h9) rfl hdg kk
theorem xp_Library_count (F : CallFix p m c cc nL s args gtbl own) (hW : xW G s H0 H locs M P S V) {idx : Nat} (hl : Cond.fieldLink own idx "DoFinder$Library" "count" "I" ∈ gtbl) {k : Nat} {x : Int32} (hv : x = nI k) (hdg : decode cc pc = .ok (.putfield idx, 3)) (kk : ∀ (H1 : Heap) (locs1 : List Loc), xW G s H0 H1 locs1 (k, M.2.1, M.2.2.1, M.2.2.2.1, M.2.2.2.2.1, M.2.2.2.2.2.1, M.2.2.2.2.2.2.1, M.2.2.2.2.2.2.2.1, M.2.2.2.2.2.2.2.2.1, M.2.2.2.2.2.2.2.2.2) P S V → W p l e R s m args below meth c H1 locs1 cells slots Q (F0 m (pc + 3) ls (rest))) : W p l e R s m args below meth c H locs cells slots Q (F0 m pc ls (.int x :: .ref (xga G 1) :: rest)) := by
  subst hv
  refine va_put (D := xD G) (ci := 1) (v := .int (nI k)) (ty := .int) (C := RX1) (T := TX1) (N := 5) F.1 F.2.1 F.2.2.2.2 iw_X1 tyX1 tyX1_ok nmX1 F.2.2.2.1 hW.2.2.2 hW.1 hW.2.1 hW.2.2.1 1 rfl rfl 2 (by decide) (F.2.2.2.2 _ hl) (fun _ h9 => h9) rfl (by decide +kernel) rfl rfl (Nat.le_of_ble_eq_true rfl) hdg (fun H1 locs1 hP hD hS => kk H1 locs1 ⟨?_, ?_, hS, hW.2.2.2⟩)
  · exact hP
  · exact hD
theorem xp_Library_fuel (F : CallFix p m c cc nL s args gtbl own) (hW : xW G s H0 H locs M P S V) {idx : Nat} (hl : Cond.fieldLink own idx "DoFinder$Library" "fuel" "I" ∈ gtbl) {k : Nat} {x : Int32} (hv : x = nI k) (hdg : decode cc pc = .ok (.putfield idx, 3)) (kk : ∀ (H1 : Heap) (locs1 : List Loc), xW G s H0 H1 locs1 (M.1, k, M.2.2.1, M.2.2.2.1, M.2.2.2.2.1, M.2.2.2.2.2.1, M.2.2.2.2.2.2.1, M.2.2.2.2.2.2.2.1, M.2.2.2.2.2.2.2.2.1, M.2.2.2.2.2.2.2.2.2) P S V → W p l e R s m args below meth c H1 locs1 cells slots Q (F0 m (pc + 3) ls (rest))) : W p l e R s m args below meth c H locs cells slots Q (F0 m pc ls (.int x :: .ref (xga G 1) :: rest)) := by
  subst hv
  refine va_put (D := xD G) (ci := 1) (v := .int (nI k)) (ty := .int) (C := RX1) (T := TX1) (N := 5) F.1 F.2.1 F.2.2.2.2 iw_X1 tyX1 tyX1_ok nmX1 F.2.2.2.1 hW.2.2.2 hW.1 hW.2.1 hW.2.2.1 1 rfl rfl 3 (by decide) (F.2.2.2.2 _ hl) (fun _ h9 => h9) rfl (by decide +kernel) rfl rfl (Nat.le_of_ble_eq_true rfl) hdg (fun H1 locs1 hP hD hS => kk H1 locs1 ⟨?_, ?_, hS, hW.2.2.2⟩)
  · exact hP
  · exact hD
theorem xp_Library_done (F : CallFix p m c cc nL s args gtbl own) (hW : xW G s H0 H locs M P S V) {idx : Nat} (hl : Cond.fieldLink own idx "DoFinder$Library" "done" "I" ∈ gtbl) {k : Nat} {x : Int32} (hv : x = nI k) (hdg : decode cc pc = .ok (.putfield idx, 3)) (kk : ∀ (H1 : Heap) (locs1 : List Loc), xW G s H0 H1 locs1 M (k, P.2.1, P.2.2.1, P.2.2.2) S V → W p l e R s m args below meth c H1 locs1 cells slots Q (F0 m (pc + 3) ls (rest))) : W p l e R s m args below meth c H locs cells slots Q (F0 m pc ls (.int x :: .ref (xga G 1) :: rest)) := by
  subst hv
  refine va_put (D := xD G) (ci := 1) (v := .int (nI k)) (ty := .int) (C := RX1) (T := TX1) (N := 5) F.1 F.2.1 F.2.2.2.2 iw_X1 tyX1 tyX1_ok nmX1 F.2.2.2.1 hW.2.2.2 hW.1 hW.2.1 hW.2.2.1 1 rfl rfl 4 (by decide) (F.2.2.2.2 _ hl) (fun _ h9 => h9) rfl (by decide +kernel) rfl rfl (Nat.le_of_ble_eq_true rfl) hdg (fun H1 locs1 hP hD hS => kk H1 locs1 ⟨?_, ?_, hS, hW.2.2.2⟩)
  · exact hP
  · exact hD
theorem xp_Ask_count (F : CallFix p m c cc nL s args gtbl own) (hW : xW G s H0 H locs M P S V) {idx : Nat} (hl : Cond.fieldLink own idx "DoFinder$Ask" "count" "I" ∈ gtbl) {k : Nat} {x : Int32} (hv : x = nI k) (hdg : decode cc pc = .ok (.putfield idx, 3)) (kk : ∀ (H1 : Heap) (locs1 : List Loc), xW G s H0 H1 locs1 (M.1, M.2.1, M.2.2.1, M.2.2.2.1, M.2.2.2.2.1, k, M.2.2.2.2.2.2.1, M.2.2.2.2.2.2.2.1, M.2.2.2.2.2.2.2.2.1, M.2.2.2.2.2.2.2.2.2) P S V → W p l e R s m args below meth c H1 locs1 cells slots Q (F0 m (pc + 3) ls (rest))) : W p l e R s m args below meth c H locs cells slots Q (F0 m pc ls (.int x :: .ref (xga G 2) :: rest)) := by
  subst hv
  refine va_put (D := xD G) (ci := 0) (v := .int (nI k)) (ty := .int) (C := RX0) (T := TX0) (N := 5) F.1 F.2.1 F.2.2.2.2 iw_X0 tyX0 tyX0_ok nmX0 F.2.2.2.1 hW.2.2.2 hW.1 hW.2.1 hW.2.2.1 2 rfl rfl 3 (by decide) (F.2.2.2.2 _ hl) (fun _ h9 => h9) rfl (by decide +kernel) rfl rfl (Nat.le_of_ble_eq_true rfl) hdg (fun H1 locs1 hP hD hS => kk H1 locs1 ⟨?_, ?_, hS, hW.2.2.2⟩)
  · exact hP
  · exact hD
theorem xp_Ask_arguments (F : CallFix p m c cc nL s args gtbl own) (hW : xW G s H0 H locs M P S V) {idx : Nat} (hl : Cond.fieldLink own idx "DoFinder$Ask" "arguments" "I" ∈ gtbl) {k : Nat} {x : Int32} (hv : x = nI k) (hdg : decode cc pc = .ok (.putfield idx, 3)) (kk : ∀ (H1 : Heap) (locs1 : List Loc), xW G s H0 H1 locs1 (M.1, M.2.1, M.2.2.1, M.2.2.2.1, M.2.2.2.2.1, M.2.2.2.2.2.1, k, M.2.2.2.2.2.2.2.1, M.2.2.2.2.2.2.2.2.1, M.2.2.2.2.2.2.2.2.2) P S V → W p l e R s m args below meth c H1 locs1 cells slots Q (F0 m (pc + 3) ls (rest))) : W p l e R s m args below meth c H locs cells slots Q (F0 m pc ls (.int x :: .ref (xga G 2) :: rest)) := by
  subst hv
  refine va_put (D := xD G) (ci := 0) (v := .int (nI k)) (ty := .int) (C := RX0) (T := TX0) (N := 5) F.1 F.2.1 F.2.2.2.2 iw_X0 tyX0 tyX0_ok nmX0 F.2.2.2.1 hW.2.2.2 hW.1 hW.2.1 hW.2.2.1 2 rfl rfl 4 (by decide) (F.2.2.2.2 _ hl) (fun _ h9 => h9) rfl (by decide +kernel) rfl rfl (Nat.le_of_ble_eq_true rfl) hdg (fun H1 locs1 hP hD hS => kk H1 locs1 ⟨?_, ?_, hS, hW.2.2.2⟩)
  · exact hP
  · exact hD
theorem xp_Search_pickedCount (F : CallFix p m c cc nL s args gtbl own) (hW : xW G s H0 H locs M P S V) {idx : Nat} (hl : Cond.fieldLink own idx "DoFinder$Search" "pickedCount" "I" ∈ gtbl) {k : Nat} {x : Int32} (hv : x = nI k) (hdg : decode cc pc = .ok (.putfield idx, 3)) (kk : ∀ (H1 : Heap) (locs1 : List Loc), xW G s H0 H1 locs1 M P (k, S.2.1, S.2.2.1, S.2.2.2) V → W p l e R s m args below meth c H1 locs1 cells slots Q (F0 m (pc + 3) ls (rest))) : W p l e R s m args below meth c H locs cells slots Q (F0 m pc ls (.int x :: .ref (xga G 3) :: rest)) := by
  subst hv
  refine va_put (D := xD G) (ci := 5) (v := .int (nI k)) (ty := .int) (C := RX5) (T := TX5) (N := 6) F.1 F.2.1 F.2.2.2.2 iw_X5 tyX5 tyX5_ok nmX5 F.2.2.2.1 hW.2.2.2 hW.1 hW.2.1 hW.2.2.1 3 rfl rfl 5 (by decide) (F.2.2.2.2 _ hl) (fun _ h9 => h9) rfl (by decide +kernel) rfl rfl (Nat.le_of_ble_eq_true rfl) hdg (fun H1 locs1 hP hD hS => kk H1 locs1 ⟨?_, ?_, hS, hW.2.2.2⟩)
  · exact hP
  · exact hD
theorem xp_Parting_mostHere (F : CallFix p m c cc nL s args gtbl own) (hW : xW G s H0 H locs M P S V) {idx : Nat} (hl : Cond.fieldLink own idx "DoFinder$Parting" "mostHere" "I" ∈ gtbl) {k : Nat} {x : Int32} (hv : x = nI k) (hdg : decode cc pc = .ok (.putfield idx, 3)) (kk : ∀ (H1 : Heap) (locs1 : List Loc), xW G s H0 H1 locs1 M P S (k, V.2.1, V.2.2.1, V.2.2.2.1, V.2.2.2.2.1, V.2.2.2.2.2.1, V.2.2.2.2.2.2) → W p l e R s m args below meth c H1 locs1 cells slots Q (F0 m (pc + 3) ls (rest))) : W p l e R s m args below meth c H locs cells slots Q (F0 m pc ls (.int x :: .ref (xga G 4) :: rest)) := by
  subst hv
  refine va_put (D := xD G) (ci := 2) (v := .int (nI k)) (ty := .int) (C := RX2) (T := TX2) (N := 8) F.1 F.2.1 F.2.2.2.2 iw_X2 tyX2 tyX2_ok nmX2 F.2.2.2.1 hW.2.2.2 hW.1 hW.2.1 hW.2.2.1 4 rfl rfl 3 (by decide) (F.2.2.2.2 _ hl) (fun _ h9 => h9) rfl (by decide +kernel) rfl rfl (Nat.le_of_ble_eq_true rfl) hdg (fun H1 locs1 hP hD hS => kk H1 locs1 ⟨?_, ?_, hS, hW.2.2.2⟩)
  · exact hP
  · exact hD
theorem xp_Parting_unlikeHere (F : CallFix p m c cc nL s args gtbl own) (hW : xW G s H0 H locs M P S V) {idx : Nat} (hl : Cond.fieldLink own idx "DoFinder$Parting" "unlikeHere" "I" ∈ gtbl) {k : Nat} {x : Int32} (hv : x = nI k) (hdg : decode cc pc = .ok (.putfield idx, 3)) (kk : ∀ (H1 : Heap) (locs1 : List Loc), xW G s H0 H1 locs1 M P S (V.1, k, V.2.2.1, V.2.2.2.1, V.2.2.2.2.1, V.2.2.2.2.2.1, V.2.2.2.2.2.2) → W p l e R s m args below meth c H1 locs1 cells slots Q (F0 m (pc + 3) ls (rest))) : W p l e R s m args below meth c H locs cells slots Q (F0 m pc ls (.int x :: .ref (xga G 4) :: rest)) := by
  subst hv
  refine va_put (D := xD G) (ci := 2) (v := .int (nI k)) (ty := .int) (C := RX2) (T := TX2) (N := 8) F.1 F.2.1 F.2.2.2.2 iw_X2 tyX2 tyX2_ok nmX2 F.2.2.2.1 hW.2.2.2 hW.1 hW.2.1 hW.2.2.1 4 rfl rfl 4 (by decide) (F.2.2.2.2 _ hl) (fun _ h9 => h9) rfl (by decide +kernel) rfl rfl (Nat.le_of_ble_eq_true rfl) hdg (fun H1 locs1 hP hD hS => kk H1 locs1 ⟨?_, ?_, hS, hW.2.2.2⟩)
  · exact hP
  · exact hD
theorem xp_Parting_place (F : CallFix p m c cc nL s args gtbl own) (hW : xW G s H0 H locs M P S V) {idx : Nat} (hl : Cond.fieldLink own idx "DoFinder$Parting" "place" "I" ∈ gtbl) {k : Nat} {x : Int32} (hv : x = nI k) (hdg : decode cc pc = .ok (.putfield idx, 3)) (kk : ∀ (H1 : Heap) (locs1 : List Loc), xW G s H0 H1 locs1 M P S (V.1, V.2.1, k, V.2.2.2.1, V.2.2.2.2.1, V.2.2.2.2.2.1, V.2.2.2.2.2.2) → W p l e R s m args below meth c H1 locs1 cells slots Q (F0 m (pc + 3) ls (rest))) : W p l e R s m args below meth c H locs cells slots Q (F0 m pc ls (.int x :: .ref (xga G 4) :: rest)) := by
  subst hv
  refine va_put (D := xD G) (ci := 2) (v := .int (nI k)) (ty := .int) (C := RX2) (T := TX2) (N := 8) F.1 F.2.1 F.2.2.2.2 iw_X2 tyX2 tyX2_ok nmX2 F.2.2.2.1 hW.2.2.2 hW.1 hW.2.1 hW.2.2.1 4 rfl rfl 5 (by decide) (F.2.2.2.2 _ hl) (fun _ h9 => h9) rfl (by decide +kernel) rfl rfl (Nat.le_of_ble_eq_true rfl) hdg (fun H1 locs1 hP hD hS => kk H1 locs1 ⟨?_, ?_, hS, hW.2.2.2⟩)
  · exact hP
  · exact hD
theorem xp_Parting_most (F : CallFix p m c cc nL s args gtbl own) (hW : xW G s H0 H locs M P S V) {idx : Nat} (hl : Cond.fieldLink own idx "DoFinder$Parting" "most" "I" ∈ gtbl) {k : Nat} {x : Int32} (hv : x = nI k) (hdg : decode cc pc = .ok (.putfield idx, 3)) (kk : ∀ (H1 : Heap) (locs1 : List Loc), xW G s H0 H1 locs1 M P S (V.1, V.2.1, V.2.2.1, k, V.2.2.2.2.1, V.2.2.2.2.2.1, V.2.2.2.2.2.2) → W p l e R s m args below meth c H1 locs1 cells slots Q (F0 m (pc + 3) ls (rest))) : W p l e R s m args below meth c H locs cells slots Q (F0 m pc ls (.int x :: .ref (xga G 4) :: rest)) := by
  subst hv
  refine va_put (D := xD G) (ci := 2) (v := .int (nI k)) (ty := .int) (C := RX2) (T := TX2) (N := 8) F.1 F.2.1 F.2.2.2.2 iw_X2 tyX2 tyX2_ok nmX2 F.2.2.2.1 hW.2.2.2 hW.1 hW.2.1 hW.2.2.1 4 rfl rfl 6 (by decide) (F.2.2.2.2 _ hl) (fun _ h9 => h9) rfl (by decide +kernel) rfl rfl (Nat.le_of_ble_eq_true rfl) hdg (fun H1 locs1 hP hD hS => kk H1 locs1 ⟨?_, ?_, hS, hW.2.2.2⟩)
  · exact hP
  · exact hD
theorem xp_Parting_unlike (F : CallFix p m c cc nL s args gtbl own) (hW : xW G s H0 H locs M P S V) {idx : Nat} (hl : Cond.fieldLink own idx "DoFinder$Parting" "unlike" "I" ∈ gtbl) {k : Nat} {x : Int32} (hv : x = nI k) (hdg : decode cc pc = .ok (.putfield idx, 3)) (kk : ∀ (H1 : Heap) (locs1 : List Loc), xW G s H0 H1 locs1 M P S (V.1, V.2.1, V.2.2.1, V.2.2.2.1, k, V.2.2.2.2.2.1, V.2.2.2.2.2.2) → W p l e R s m args below meth c H1 locs1 cells slots Q (F0 m (pc + 3) ls (rest))) : W p l e R s m args below meth c H locs cells slots Q (F0 m pc ls (.int x :: .ref (xga G 4) :: rest)) := by
  subst hv
  refine va_put (D := xD G) (ci := 2) (v := .int (nI k)) (ty := .int) (C := RX2) (T := TX2) (N := 8) F.1 F.2.1 F.2.2.2.2 iw_X2 tyX2 tyX2_ok nmX2 F.2.2.2.1 hW.2.2.2 hW.1 hW.2.1 hW.2.2.1 4 rfl rfl 7 (by decide) (F.2.2.2.2 _ hl) (fun _ h9 => h9) rfl (by decide +kernel) rfl rfl (Nat.le_of_ble_eq_true rfl) hdg (fun H1 locs1 hP hD hS => kk H1 locs1 ⟨?_, ?_, hS, hW.2.2.2⟩)
  · exact hP
  · exact hD
theorem xp_Pile_height (F : CallFix p m c cc nL s args gtbl own) (hW : xW G s H0 H locs M P S V) {idx : Nat} (hl : Cond.fieldLink own idx "DoFinder$Pile" "height" "I" ∈ gtbl) {k : Nat} {x : Int32} (hv : x = nI k) (hdg : decode cc pc = .ok (.putfield idx, 3)) (kk : ∀ (H1 : Heap) (locs1 : List Loc), xW G s H0 H1 locs1 M (P.1, k, P.2.2.1, P.2.2.2) S V → W p l e R s m args below meth c H1 locs1 cells slots Q (F0 m (pc + 3) ls (rest))) : W p l e R s m args below meth c H locs cells slots Q (F0 m pc ls (.int x :: .ref (xga G 5) :: rest)) := by
  subst hv
  refine va_put (D := xD G) (ci := 3) (v := .int (nI k)) (ty := .int) (C := RX3) (T := TX3) (N := 3) F.1 F.2.1 F.2.2.2.2 iw_X3 tyX3 tyX3_ok nmX3 F.2.2.2.1 hW.2.2.2 hW.1 hW.2.1 hW.2.2.1 5 rfl rfl 1 (by decide) (F.2.2.2.2 _ hl) (fun _ h9 => h9) rfl (by decide +kernel) rfl rfl (Nat.le_of_ble_eq_true rfl) hdg (fun H1 locs1 hP hD hS => kk H1 locs1 ⟨?_, ?_, hS, hW.2.2.2⟩)
  · exact hP
  · exact hD
theorem xp_Pile_taken (F : CallFix p m c cc nL s args gtbl own) (hW : xW G s H0 H locs M P S V) {idx : Nat} (hl : Cond.fieldLink own idx "DoFinder$Pile" "taken" "I" ∈ gtbl) {x : Int32} (hdg : decode cc pc = .ok (.putfield idx, 3)) (kk : ∀ (H1 : Heap) (locs1 : List Loc), xW G s H0 H1 locs1 M (P.1, P.2.1, x, P.2.2.2) S V → W p l e R s m args below meth c H1 locs1 cells slots Q (F0 m (pc + 3) ls (rest))) : W p l e R s m args below meth c H locs cells slots Q (F0 m pc ls (.int x :: .ref (xga G 5) :: rest)) := by
  refine va_put (D := xD G) (ci := 3) (v := .int x) (ty := .int) (C := RX3) (T := TX3) (N := 3) F.1 F.2.1 F.2.2.2.2 iw_X3 tyX3 tyX3_ok nmX3 F.2.2.2.1 hW.2.2.2 hW.1 hW.2.1 hW.2.2.1 5 rfl rfl 2 (by decide) (F.2.2.2.2 _ hl) (fun _ h9 => h9) rfl (by decide +kernel) rfl rfl (Nat.le_of_ble_eq_true rfl) hdg (fun H1 locs1 hP hD hS => kk H1 locs1 ⟨?_, ?_, hS, hW.2.2.2⟩)
  · exact hP
  · exact hD
theorem xp_Routine_count (F : CallFix p m c cc nL s args gtbl own) (hW : xW G s H0 H locs M P S V) {j : Nat} (hj : j < 13) {idx : Nat} (hl : Cond.fieldLink own idx "DoFinder$Routine" "count" "I" ∈ gtbl) {k : Nat} {x : Int32} (hv : x = nI k) (hdg : decode cc pc = .ok (.putfield idx, 3)) (kk : ∀ (H1 : Heap) (locs1 : List Loc), xW G s H0 H1 locs1 (M.1, M.2.1, upN M.2.2.1 j k, M.2.2.2.1, M.2.2.2.2.1, M.2.2.2.2.2.1, M.2.2.2.2.2.2.1, M.2.2.2.2.2.2.2.1, M.2.2.2.2.2.2.2.2.1, M.2.2.2.2.2.2.2.2.2) P S V → W p l e R s m args below meth c H1 locs1 cells slots Q (F0 m (pc + 3) ls (rest))) : W p l e R s m args below meth c H locs cells slots Q (F0 m pc ls (.int x :: .ref (xgo G j) :: rest)) := by
  subst hv
  refine va_put (D := xD G) (ci := 4) (v := .int (nI k)) (ty := .int) (C := RX4) (T := TX4) (N := 3) F.1 F.2.1 F.2.2.2.2 iw_X4 tyX4 tyX4_ok nmX4 F.2.2.2.1 hW.2.2.2 hW.1 hW.2.1 hW.2.2.1 (16 + j) (xw_o hj) rfl 1 (by decide) (F.2.2.2.2 _ hl) (fun _ h9 => h9) rfl (by decide +kernel) rfl rfl (Nat.le_of_ble_eq_true rfl) hdg (fun H1 locs1 hP hD hS => kk H1 locs1 ⟨?_, ?_, hS, hW.2.2.2⟩)
  · have q := hP
    rw [show (xw G M P S V).set (16 + j) (xgo G j, .inr (4, ([.ref (xgs G j), .int (nI (M.2.2.1 j)), .int (nI (M.2.2.2.1 j))] : List Value).set 1 (.int (nI k)))) = xw G (M.1, M.2.1, upN M.2.2.1 j k, M.2.2.2.1, M.2.2.2.2.1, M.2.2.2.2.2.1, M.2.2.2.2.2.2.1, M.2.2.2.2.2.2.2.1, M.2.2.2.2.2.2.2.2.1, M.2.2.2.2.2.2.2.2.2) P S V from (xw_setO (c := k) (a := M.2.2.2.1 j) hj).trans (congrArg (fun f => xw G (M.1, M.2.1, upN M.2.2.1 j k, f, M.2.2.2.2.1, M.2.2.2.2.2.1, M.2.2.2.2.2.2.1, M.2.2.2.2.2.2.2.1, M.2.2.2.2.2.2.2.2.1, M.2.2.2.2.2.2.2.2.2) P S V) (upN_id M.2.2.2.1 j))] at q
    exact q
  · have q := hD
    rw [show (xw G M P S V).set (16 + j) (xgo G j, .inr (4, ([.ref (xgs G j), .int (nI (M.2.2.1 j)), .int (nI (M.2.2.2.1 j))] : List Value).set 1 (.int (nI k)))) = xw G (M.1, M.2.1, upN M.2.2.1 j k, M.2.2.2.1, M.2.2.2.2.1, M.2.2.2.2.2.1, M.2.2.2.2.2.2.1, M.2.2.2.2.2.2.2.1, M.2.2.2.2.2.2.2.2.1, M.2.2.2.2.2.2.2.2.2) P S V from (xw_setO (c := k) (a := M.2.2.2.1 j) hj).trans (congrArg (fun f => xw G (M.1, M.2.1, upN M.2.2.1 j k, f, M.2.2.2.2.1, M.2.2.2.2.2.1, M.2.2.2.2.2.2.1, M.2.2.2.2.2.2.2.1, M.2.2.2.2.2.2.2.2.1, M.2.2.2.2.2.2.2.2.2) P S V) (upN_id M.2.2.2.1 j))] at q
    exact q
theorem xp_Routine_arguments (F : CallFix p m c cc nL s args gtbl own) (hW : xW G s H0 H locs M P S V) {j : Nat} (hj : j < 13) {idx : Nat} (hl : Cond.fieldLink own idx "DoFinder$Routine" "arguments" "I" ∈ gtbl) {k : Nat} {x : Int32} (hv : x = nI k) (hdg : decode cc pc = .ok (.putfield idx, 3)) (kk : ∀ (H1 : Heap) (locs1 : List Loc), xW G s H0 H1 locs1 (M.1, M.2.1, M.2.2.1, upN M.2.2.2.1 j k, M.2.2.2.2.1, M.2.2.2.2.2.1, M.2.2.2.2.2.2.1, M.2.2.2.2.2.2.2.1, M.2.2.2.2.2.2.2.2.1, M.2.2.2.2.2.2.2.2.2) P S V → W p l e R s m args below meth c H1 locs1 cells slots Q (F0 m (pc + 3) ls (rest))) : W p l e R s m args below meth c H locs cells slots Q (F0 m pc ls (.int x :: .ref (xgo G j) :: rest)) := by
  subst hv
  refine va_put (D := xD G) (ci := 4) (v := .int (nI k)) (ty := .int) (C := RX4) (T := TX4) (N := 3) F.1 F.2.1 F.2.2.2.2 iw_X4 tyX4 tyX4_ok nmX4 F.2.2.2.1 hW.2.2.2 hW.1 hW.2.1 hW.2.2.1 (16 + j) (xw_o hj) rfl 2 (by decide) (F.2.2.2.2 _ hl) (fun _ h9 => h9) rfl (by decide +kernel) rfl rfl (Nat.le_of_ble_eq_true rfl) hdg (fun H1 locs1 hP hD hS => kk H1 locs1 ⟨?_, ?_, hS, hW.2.2.2⟩)
  · have q := hP
    rw [show (xw G M P S V).set (16 + j) (xgo G j, .inr (4, ([.ref (xgs G j), .int (nI (M.2.2.1 j)), .int (nI (M.2.2.2.1 j))] : List Value).set 2 (.int (nI k)))) = xw G (M.1, M.2.1, M.2.2.1, upN M.2.2.2.1 j k, M.2.2.2.2.1, M.2.2.2.2.2.1, M.2.2.2.2.2.2.1, M.2.2.2.2.2.2.2.1, M.2.2.2.2.2.2.2.2.1, M.2.2.2.2.2.2.2.2.2) P S V from (xw_setO (c := M.2.2.1 j) (a := k) hj).trans (congrArg (fun f => xw G (M.1, M.2.1, f, upN M.2.2.2.1 j k, M.2.2.2.2.1, M.2.2.2.2.2.1, M.2.2.2.2.2.2.1, M.2.2.2.2.2.2.2.1, M.2.2.2.2.2.2.2.2.1, M.2.2.2.2.2.2.2.2.2) P S V) (upN_id M.2.2.1 j))] at q
    exact q
  · have q := hD
    rw [show (xw G M P S V).set (16 + j) (xgo G j, .inr (4, ([.ref (xgs G j), .int (nI (M.2.2.1 j)), .int (nI (M.2.2.2.1 j))] : List Value).set 2 (.int (nI k)))) = xw G (M.1, M.2.1, M.2.2.1, upN M.2.2.2.1 j k, M.2.2.2.2.1, M.2.2.2.2.2.1, M.2.2.2.2.2.2.1, M.2.2.2.2.2.2.2.1, M.2.2.2.2.2.2.2.2.1, M.2.2.2.2.2.2.2.2.2) P S V from (xw_setO (c := M.2.2.1 j) (a := k) hj).trans (congrArg (fun f => xw G (M.1, M.2.1, f, upN M.2.2.2.1 j k, M.2.2.2.2.1, M.2.2.2.2.2.1, M.2.2.2.2.2.2.1, M.2.2.2.2.2.2.2.1, M.2.2.2.2.2.2.2.2.1, M.2.2.2.2.2.2.2.2.2) P S V) (upN_id M.2.2.1 j))] at q
    exact q
theorem xl_nu (F : CallFix p m c cc nL s args gtbl own) (hW : xW G s H0 H locs M P S V) {i : Nat} {x : Int32} (hi : x = nI i) (h : i < 8) (hdg : decode cc pc = .ok (.iaload, 1)) (kk : W p l e R s m args below meth c H locs cells slots Q (F0 m (pc + 1) ls (.int (P.2.2.2 i) :: rest))) : W p l e R s m args below meth c H locs cells slots Q (F0 m pc ls (.int x :: .ref (xga G 7) :: rest)) := by
  subst hi
  refine va_iald F.1 F.2.1 hW.2.2.2 hW.1 7 0 rfl rfl (vp_in_nI h (by decide)) hdg ?_
  rw [nI_clamp (by omega)]; exact kk
theorem xs_nu (F : CallFix p m c cc nL s args gtbl own) (hW : xW G s H0 H locs M P S V) {i : Nat} {x : Int32} (hi : x = nI i) (h : i < 8) {v : Int32} (hdg : decode cc pc = .ok (.iastore, 1)) (kk : ∀ (H1 : Heap) (locs1 : List Loc), xW G s H0 H1 locs1 M (P.1, P.2.1, P.2.2.1, upd P.2.2.2 i v) S V → W p l e R s m args below meth c H1 locs1 cells slots Q (F0 m (pc + 1) ls (rest))) : W p l e R s m args below meth c H locs cells slots Q (F0 m pc ls (.int v :: .int x :: .ref (xga G 7) :: rest)) := by
  subst hi
  refine va_iast F.1 F.2.1 hW.2.2.2 hW.1 hW.2.1 hW.2.2.1 7 0 rfl rfl (vp_in_nI h (by decide)) hdg (fun H1 locs1 hP hD hS => kk H1 locs1 ⟨?_, ?_, hS, hW.2.2.2⟩)
  · rw [nI_clamp (by omega)] at hP; exact hP
  · rw [nI_clamp (by omega)] at hD; exact hD
theorem xl_af (F : CallFix p m c cc nL s args gtbl own) (hW : xW G s H0 H locs M P S V) {i : Nat} {x : Int32} (hi : x = nI i) (h : i < 8) (hdg : decode cc pc = .ok (.iaload, 1)) (kk : W p l e R s m args below meth c H locs cells slots Q (F0 m (pc + 1) ls (.int (M.2.2.2.2.2.2.2.1 i) :: rest))) : W p l e R s m args below meth c H locs cells slots Q (F0 m pc ls (.int x :: .ref (xga G 8) :: rest)) := by
  subst hi
  refine va_iald F.1 F.2.1 hW.2.2.2 hW.1 8 0 rfl rfl (vp_in_nI h (by decide)) hdg ?_
  rw [nI_clamp (by omega)]; exact kk
theorem xs_af (F : CallFix p m c cc nL s args gtbl own) (hW : xW G s H0 H locs M P S V) {i : Nat} {x : Int32} (hi : x = nI i) (h : i < 8) {v : Int32} (hdg : decode cc pc = .ok (.iastore, 1)) (kk : ∀ (H1 : Heap) (locs1 : List Loc), xW G s H0 H1 locs1 (M.1, M.2.1, M.2.2.1, M.2.2.2.1, M.2.2.2.2.1, M.2.2.2.2.2.1, M.2.2.2.2.2.2.1, upd M.2.2.2.2.2.2.2.1 i v, M.2.2.2.2.2.2.2.2.1, M.2.2.2.2.2.2.2.2.2) P S V → W p l e R s m args below meth c H1 locs1 cells slots Q (F0 m (pc + 1) ls (rest))) : W p l e R s m args below meth c H locs cells slots Q (F0 m pc ls (.int v :: .int x :: .ref (xga G 8) :: rest)) := by
  subst hi
  refine va_iast F.1 F.2.1 hW.2.2.2 hW.1 hW.2.1 hW.2.2.1 8 0 rfl rfl (vp_in_nI h (by decide)) hdg (fun H1 locs1 hP hD hS => kk H1 locs1 ⟨?_, ?_, hS, hW.2.2.2⟩)
  · rw [nI_clamp (by omega)] at hP; exact hP
  · rw [nI_clamp (by omega)] at hD; exact hD
theorem xl_as (F : CallFix p m c cc nL s args gtbl own) (hW : xW G s H0 H locs M P S V) {i : Nat} {x : Int32} (hi : x = nI i) (h : i < 8) (hdg : decode cc pc = .ok (.iaload, 1)) (kk : W p l e R s m args below meth c H locs cells slots Q (F0 m (pc + 1) ls (.int (M.2.2.2.2.2.2.2.2.1 i) :: rest))) : W p l e R s m args below meth c H locs cells slots Q (F0 m pc ls (.int x :: .ref (xga G 9) :: rest)) := by
  subst hi
  refine va_iald F.1 F.2.1 hW.2.2.2 hW.1 9 0 rfl rfl (vp_in_nI h (by decide)) hdg ?_
  rw [nI_clamp (by omega)]; exact kk
theorem xs_as (F : CallFix p m c cc nL s args gtbl own) (hW : xW G s H0 H locs M P S V) {i : Nat} {x : Int32} (hi : x = nI i) (h : i < 8) {v : Int32} (hdg : decode cc pc = .ok (.iastore, 1)) (kk : ∀ (H1 : Heap) (locs1 : List Loc), xW G s H0 H1 locs1 (M.1, M.2.1, M.2.2.1, M.2.2.2.1, M.2.2.2.2.1, M.2.2.2.2.2.1, M.2.2.2.2.2.2.1, M.2.2.2.2.2.2.2.1, upd M.2.2.2.2.2.2.2.2.1 i v, M.2.2.2.2.2.2.2.2.2) P S V → W p l e R s m args below meth c H1 locs1 cells slots Q (F0 m (pc + 1) ls (rest))) : W p l e R s m args below meth c H locs cells slots Q (F0 m pc ls (.int v :: .int x :: .ref (xga G 9) :: rest)) := by
  subst hi
  refine va_iast F.1 F.2.1 hW.2.2.2 hW.1 hW.2.1 hW.2.2.1 9 0 rfl rfl (vp_in_nI h (by decide)) hdg (fun H1 locs1 hP hD hS => kk H1 locs1 ⟨?_, ?_, hS, hW.2.2.2⟩)
  · rw [nI_clamp (by omega)] at hP; exact hP
  · rw [nI_clamp (by omega)] at hD; exact hD
theorem xl_ad (F : CallFix p m c cc nL s args gtbl own) (hW : xW G s H0 H locs M P S V) {i : Nat} {x : Int32} (hi : x = nI i) (h : i < 8) (hdg : decode cc pc = .ok (.laload, 1)) (kk : W p l e R s m args below meth c H locs cells slots Q (F0 m (pc + 1) ls (.long (M.2.2.2.2.2.2.2.2.2 i) :: rest))) : W p l e R s m args below meth c H locs cells slots Q (F0 m pc ls (.int x :: .ref (xga G 10) :: rest)) := by
  subst hi
  refine va_lald F.1 F.2.1 hW.2.2.2 hW.1 10 1 rfl rfl (vp_in_nI h (by decide)) hdg ?_
  rw [nI_clamp (by omega)]; exact kk
theorem xs_ad (F : CallFix p m c cc nL s args gtbl own) (hW : xW G s H0 H locs M P S V) {i : Nat} {x : Int32} (hi : x = nI i) (h : i < 8) {v : Int64} (hdg : decode cc pc = .ok (.lastore, 1)) (kk : ∀ (H1 : Heap) (locs1 : List Loc), xW G s H0 H1 locs1 (M.1, M.2.1, M.2.2.1, M.2.2.2.1, M.2.2.2.2.1, M.2.2.2.2.2.1, M.2.2.2.2.2.2.1, M.2.2.2.2.2.2.2.1, M.2.2.2.2.2.2.2.2.1, vp_updL M.2.2.2.2.2.2.2.2.2 i v) P S V → W p l e R s m args below meth c H1 locs1 cells slots Q (F0 m (pc + 1) ls (rest))) : W p l e R s m args below meth c H locs cells slots Q (F0 m pc ls (.long v :: .int x :: .ref (xga G 10) :: rest)) := by
  subst hi
  refine va_last F.1 F.2.1 hW.2.2.2 hW.1 hW.2.1 hW.2.2.1 10 1 rfl rfl (vp_in_nI h (by decide)) hdg (fun H1 locs1 hP hD hS => kk H1 locs1 ⟨?_, ?_, hS, hW.2.2.2⟩)
  · rw [nI_clamp (by omega)] at hP; exact hP
  · rw [nI_clamp (by omega)] at hD; exact hD
theorem xl_wy (F : CallFix p m c cc nL s args gtbl own) (hW : xW G s H0 H locs M P S V) {i : Nat} {x : Int32} (hi : x = nI i) (h : i < 240) (hdg : decode cc pc = .ok (.iaload, 1)) (kk : W p l e R s m args below meth c H locs cells slots Q (F0 m (pc + 1) ls (.int (nI (S.2.1 i)) :: rest))) : W p l e R s m args below meth c H locs cells slots Q (F0 m pc ls (.int x :: .ref (xga G 11) :: rest)) := by
  subst hi
  refine va_iald F.1 F.2.1 hW.2.2.2 hW.1 11 0 rfl rfl (vp_in_nI h (by decide)) hdg ?_
  rw [nI_clamp (by omega)]; exact kk
theorem xs_wy (F : CallFix p m c cc nL s args gtbl own) (hW : xW G s H0 H locs M P S V) {i : Nat} {x : Int32} (hi : x = nI i) (h : i < 240) {v : Int32} {k : Nat} (hv : v = nI k) (hdg : decode cc pc = .ok (.iastore, 1)) (kk : ∀ (H1 : Heap) (locs1 : List Loc), xW G s H0 H1 locs1 M P (S.1, upN S.2.1 i k, S.2.2.1, S.2.2.2) V → W p l e R s m args below meth c H1 locs1 cells slots Q (F0 m (pc + 1) ls (rest))) : W p l e R s m args below meth c H locs cells slots Q (F0 m pc ls (.int v :: .int x :: .ref (xga G 11) :: rest)) := by
  subst hi; subst hv
  refine va_iast F.1 F.2.1 hW.2.2.2 hW.1 hW.2.1 hW.2.2.1 11 0 rfl rfl (vp_in_nI h (by decide)) hdg (fun H1 locs1 hP hD hS => kk H1 locs1 ⟨?_, ?_, hS, hW.2.2.2⟩)
  · rw [nI_clamp (by omega), nI_upd] at hP; exact hP
  · rw [nI_clamp (by omega), nI_upd] at hD; exact hD
theorem xl_wm (F : CallFix p m c cc nL s args gtbl own) (hW : xW G s H0 H locs M P S V) {i : Nat} {x : Int32} (hi : x = nI i) (h : i < 240) (hdg : decode cc pc = .ok (.iaload, 1)) (kk : W p l e R s m args below meth c H locs cells slots Q (F0 m (pc + 1) ls (.int (nI (S.2.2.1 i)) :: rest))) : W p l e R s m args below meth c H locs cells slots Q (F0 m pc ls (.int x :: .ref (xga G 12) :: rest)) := by
  subst hi
  refine va_iald F.1 F.2.1 hW.2.2.2 hW.1 12 0 rfl rfl (vp_in_nI h (by decide)) hdg ?_
  rw [nI_clamp (by omega)]; exact kk
theorem xs_wm (F : CallFix p m c cc nL s args gtbl own) (hW : xW G s H0 H locs M P S V) {i : Nat} {x : Int32} (hi : x = nI i) (h : i < 240) {v : Int32} {k : Nat} (hv : v = nI k) (hdg : decode cc pc = .ok (.iastore, 1)) (kk : ∀ (H1 : Heap) (locs1 : List Loc), xW G s H0 H1 locs1 M P (S.1, S.2.1, upN S.2.2.1 i k, S.2.2.2) V → W p l e R s m args below meth c H1 locs1 cells slots Q (F0 m (pc + 1) ls (rest))) : W p l e R s m args below meth c H locs cells slots Q (F0 m pc ls (.int v :: .int x :: .ref (xga G 12) :: rest)) := by
  subst hi; subst hv
  refine va_iast F.1 F.2.1 hW.2.2.2 hW.1 hW.2.1 hW.2.2.1 12 0 rfl rfl (vp_in_nI h (by decide)) hdg (fun H1 locs1 hP hD hS => kk H1 locs1 ⟨?_, ?_, hS, hW.2.2.2⟩)
  · rw [nI_clamp (by omega), nI_upd] at hP; exact hP
  · rw [nI_clamp (by omega), nI_upd] at hD; exact hD
theorem xl_pk (F : CallFix p m c cc nL s args gtbl own) (hW : xW G s H0 H locs M P S V) {i : Nat} {x : Int32} (hi : x = nI i) (h : i < 756) (hdg : decode cc pc = .ok (.iaload, 1)) (kk : W p l e R s m args below meth c H locs cells slots Q (F0 m (pc + 1) ls (.int (nI (S.2.2.2 i)) :: rest))) : W p l e R s m args below meth c H locs cells slots Q (F0 m pc ls (.int x :: .ref (xga G 13) :: rest)) := by
  subst hi
  refine va_iald F.1 F.2.1 hW.2.2.2 hW.1 13 0 rfl rfl (vp_in_nI h (by decide)) hdg ?_
  rw [nI_clamp (by omega)]; exact kk
theorem xs_pk (F : CallFix p m c cc nL s args gtbl own) (hW : xW G s H0 H locs M P S V) {i : Nat} {x : Int32} (hi : x = nI i) (h : i < 756) {v : Int32} {k : Nat} (hv : v = nI k) (hdg : decode cc pc = .ok (.iastore, 1)) (kk : ∀ (H1 : Heap) (locs1 : List Loc), xW G s H0 H1 locs1 M P (S.1, S.2.1, S.2.2.1, upN S.2.2.2 i k) V → W p l e R s m args below meth c H1 locs1 cells slots Q (F0 m (pc + 1) ls (rest))) : W p l e R s m args below meth c H locs cells slots Q (F0 m pc ls (.int v :: .int x :: .ref (xga G 13) :: rest)) := by
  subst hi; subst hv
  refine va_iast F.1 F.2.1 hW.2.2.2 hW.1 hW.2.1 hW.2.2.1 13 0 rfl rfl (vp_in_nI h (by decide)) hdg (fun H1 locs1 hP hD hS => kk H1 locs1 ⟨?_, ?_, hS, hW.2.2.2⟩)
  · rw [nI_clamp (by omega), nI_upd] at hP; exact hP
  · rw [nI_clamp (by omega), nI_upd] at hD; exact hD
theorem xl_oc (F : CallFix p m c cc nL s args gtbl own) (hW : xW G s H0 H locs M P S V) {i : Nat} {x : Int32} (hi : x = nI i) (h : i < 240) (hdg : decode cc pc = .ok (.laload, 1)) (kk : W p l e R s m args below meth c H locs cells slots Q (F0 m (pc + 1) ls (.long (V.2.2.2.2.2.1 i) :: rest))) : W p l e R s m args below meth c H locs cells slots Q (F0 m pc ls (.int x :: .ref (xga G 14) :: rest)) := by
  subst hi
  refine va_lald F.1 F.2.1 hW.2.2.2 hW.1 14 1 rfl rfl (vp_in_nI h (by decide)) hdg ?_
  rw [nI_clamp (by omega)]; exact kk
theorem xs_oc (F : CallFix p m c cc nL s args gtbl own) (hW : xW G s H0 H locs M P S V) {i : Nat} {x : Int32} (hi : x = nI i) (h : i < 240) {v : Int64} (hdg : decode cc pc = .ok (.lastore, 1)) (kk : ∀ (H1 : Heap) (locs1 : List Loc), xW G s H0 H1 locs1 M P S (V.1, V.2.1, V.2.2.1, V.2.2.2.1, V.2.2.2.2.1, vp_updL V.2.2.2.2.2.1 i v, V.2.2.2.2.2.2) → W p l e R s m args below meth c H1 locs1 cells slots Q (F0 m (pc + 1) ls (rest))) : W p l e R s m args below meth c H locs cells slots Q (F0 m pc ls (.long v :: .int x :: .ref (xga G 14) :: rest)) := by
  subst hi
  refine va_last F.1 F.2.1 hW.2.2.2 hW.1 hW.2.1 hW.2.2.1 14 1 rfl rfl (vp_in_nI h (by decide)) hdg (fun H1 locs1 hP hD hS => kk H1 locs1 ⟨?_, ?_, hS, hW.2.2.2⟩)
  · rw [nI_clamp (by omega)] at hP; exact hP
  · rw [nI_clamp (by omega)] at hD; exact hD
theorem xl_ct (F : CallFix p m c cc nL s args gtbl own) (hW : xW G s H0 H locs M P S V) {i : Nat} {x : Int32} (hi : x = nI i) (h : i < 240) (hdg : decode cc pc = .ok (.iaload, 1)) (kk : W p l e R s m args below meth c H locs cells slots Q (F0 m (pc + 1) ls (.int (nI (V.2.2.2.2.2.2 i)) :: rest))) : W p l e R s m args below meth c H locs cells slots Q (F0 m pc ls (.int x :: .ref (xga G 15) :: rest)) := by
  subst hi
  refine va_iald F.1 F.2.1 hW.2.2.2 hW.1 15 0 rfl rfl (vp_in_nI h (by decide)) hdg ?_
  rw [nI_clamp (by omega)]; exact kk
theorem xs_ct (F : CallFix p m c cc nL s args gtbl own) (hW : xW G s H0 H locs M P S V) {i : Nat} {x : Int32} (hi : x = nI i) (h : i < 240) {v : Int32} {k : Nat} (hv : v = nI k) (hdg : decode cc pc = .ok (.iastore, 1)) (kk : ∀ (H1 : Heap) (locs1 : List Loc), xW G s H0 H1 locs1 M P S (V.1, V.2.1, V.2.2.1, V.2.2.2.1, V.2.2.2.2.1, V.2.2.2.2.2.1, upN V.2.2.2.2.2.2 i k) → W p l e R s m args below meth c H1 locs1 cells slots Q (F0 m (pc + 1) ls (rest))) : W p l e R s m args below meth c H locs cells slots Q (F0 m pc ls (.int v :: .int x :: .ref (xga G 15) :: rest)) := by
  subst hi; subst hv
  refine va_iast F.1 F.2.1 hW.2.2.2 hW.1 hW.2.1 hW.2.2.1 15 0 rfl rfl (vp_in_nI h (by decide)) hdg (fun H1 locs1 hP hD hS => kk H1 locs1 ⟨?_, ?_, hS, hW.2.2.2⟩)
  · rw [nI_clamp (by omega), nI_upd] at hP; exact hP
  · rw [nI_clamp (by omega), nI_upd] at hD; exact hD
theorem xl_ro (F : CallFix p m c cc nL s args gtbl own) (hW : xW G s H0 H locs M P S V) {j : Nat} {x : Int32} (hi : x = nI j) (h : j < 12) (hdg : decode cc pc = .ok (.aaload, 1)) (kk : W p l e R s m args below meth c H locs cells slots Q (F0 m (pc + 1) ls (.ref (xgo G j) :: rest))) : W p l e R s m args below meth c H locs cells slots Q (F0 m pc ls (.int x :: .ref (xga G 6) :: rest)) := by
  subst hi
  refine va_aldq F.1 F.2.1 hW.2.2.2 hW.1 6 2 rfl rfl (vp_in_nI h (by decide)) hdg ?_
  rw [nI_clamp (by omega)]; exact kk
theorem xl_rs (F : CallFix p m c cc nL s args gtbl own) (hW : xW G s H0 H locs M P S V) {j i : Nat} {x : Int32} (hj : j < 13) (hi : x = nI i) (h : i < 12) (hdg : decode cc pc = .ok (.iaload, 1)) (kk : W p l e R s m args below meth c H locs cells slots Q (F0 m (pc + 1) ls (.int (M.2.2.2.2.1 j i) :: rest))) : W p l e R s m args below meth c H locs cells slots Q (F0 m pc ls (.int x :: .ref (xgs G j) :: rest)) := by
  subst hi
  refine va_iald F.1 F.2.1 hW.2.2.2 hW.1 (29 + j) 0 (xw_s hj) rfl (vp_in_nI h (by decide)) hdg ?_
  rw [nI_clamp (by omega)]; exact kk
theorem xs_rs (F : CallFix p m c cc nL s args gtbl own) (hW : xW G s H0 H locs M P S V) {j i : Nat} {x v : Int32} (hj : j < 13) (hi : x = nI i) (h : i < 12) (hdg : decode cc pc = .ok (.iastore, 1)) (kk : ∀ (H1 : Heap) (locs1 : List Loc), xW G s H0 H1 locs1 (M.1, M.2.1, M.2.2.1, M.2.2.2.1, upF M.2.2.2.2.1 j (upd (M.2.2.2.2.1 j) i v), M.2.2.2.2.2.1, M.2.2.2.2.2.2.1, M.2.2.2.2.2.2.2.1, M.2.2.2.2.2.2.2.2.1, M.2.2.2.2.2.2.2.2.2) P S V → W p l e R s m args below meth c H1 locs1 cells slots Q (F0 m (pc + 1) ls (rest))) : W p l e R s m args below meth c H locs cells slots Q (F0 m pc ls (.int v :: .int x :: .ref (xgs G j) :: rest)) := by
  subst hi
  refine va_iast F.1 F.2.1 hW.2.2.2 hW.1 hW.2.1 hW.2.2.1 (29 + j) 0 (xw_s hj) rfl (vp_in_nI h (by decide)) hdg (fun H1 locs1 hP hD hS => kk H1 locs1 ⟨?_, ?_, hS, hW.2.2.2⟩)
  · rw [nI_clamp (by omega), xw_setS hj] at hP; exact hP
  · rw [nI_clamp (by omega), xw_setS hj] at hD; exact hD
theorem xr_X7 (hW : xW G s H0 H locs M P S V) : ∃ cell : Cell, H[xga G 0]? = some cell ∧ cell.vm.isStatics = false ∧ s.vm.findClass "DoFinder" = some cell.cls := va_recv hW.2.2.2 hW.1 (ci := 6) (q0 := 0) rfl rfl
theorem xr_X1 (hW : xW G s H0 H locs M P S V) : ∃ cell : Cell, H[xga G 1]? = some cell ∧ cell.vm.isStatics = false ∧ s.vm.findClass "DoFinder$Library" = some cell.cls := va_recv hW.2.2.2 hW.1 (ci := 1) (q0 := 1) rfl rfl
theorem xr_X0 (hW : xW G s H0 H locs M P S V) : ∃ cell : Cell, H[xga G 2]? = some cell ∧ cell.vm.isStatics = false ∧ s.vm.findClass "DoFinder$Ask" = some cell.cls := va_recv hW.2.2.2 hW.1 (ci := 0) (q0 := 2) rfl rfl
theorem xr_X5 (hW : xW G s H0 H locs M P S V) : ∃ cell : Cell, H[xga G 3]? = some cell ∧ cell.vm.isStatics = false ∧ s.vm.findClass "DoFinder$Search" = some cell.cls := va_recv hW.2.2.2 hW.1 (ci := 5) (q0 := 3) rfl rfl
theorem xr_X2 (hW : xW G s H0 H locs M P S V) : ∃ cell : Cell, H[xga G 4]? = some cell ∧ cell.vm.isStatics = false ∧ s.vm.findClass "DoFinder$Parting" = some cell.cls := va_recv hW.2.2.2 hW.1 (ci := 2) (q0 := 4) rfl rfl
theorem xr_X3 (hW : xW G s H0 H locs M P S V) : ∃ cell : Cell, H[xga G 5]? = some cell ∧ cell.vm.isStatics = false ∧ s.vm.findClass "DoFinder$Pile" = some cell.cls := va_recv hW.2.2.2 hW.1 (ci := 3) (q0 := 5) rfl rfl
theorem xr_X4 (hW : xW G s H0 H locs M P S V) {j : Nat} (hj : j < 13) : ∃ cell : Cell, H[xgo G j]? = some cell ∧ cell.vm.isStatics = false ∧ s.vm.findClass "DoFinder$Routine" = some cell.cls := va_recv hW.2.2.2 hW.1 (ci := 4) (q0 := 16 + j) rfl (xw_o hj)
theorem xend {u : XX} {t : State} (hW : xW G s s.heap H locs u.1 u.2.1 u.2.2.1 u.2.2.2) (ht : t.heap = H) (hw : s.WarmedH t.vm) : xB G u t := ⟨by rw [ht]; exact hW.1, hW.2.1, va_K.moved hw.alike hW.2.2.2⟩
theorem xre_i {post : Int32 → XX → Prop} {v : Int32} (F : CallFix p m c cc nL s args gtbl own) (hr : meth.sig.returnType = some .int) (hlk : meth.locks = false) (hW : xW G s s.heap H locs M P S V) (hdg : decode cc pc = .ok (.ireturn, 1)) (hp : post v (M, P, S, V)) : W p l e R s m args below meth c H locs 0 0 (MQ below (va_Qi post (xB G) (xA G)) args s 0 0 (xA G)) (F0 m pc ls [.int v]) :=
  W.iret (v := v) F.1 F.2.1 hr (fun t ht hw => ⟨⟨v, (M, P, S, V), rfl, hp, xend (u := (M, P, S, V)) hW ht hw⟩, hW.2.2.1.F ht⟩) hW.2.2.1.2.2 hdg hlk
theorem xre_z {post : Int32 → XX → Prop} {v : Int32} (F : CallFix p m c cc nL s args gtbl own) (hr : meth.sig.returnType = some .boolean) (hlk : meth.locks = false) (hW : xW G s s.heap H locs M P S V) (hn : narrow .boolean (.int v) = .int v) (hdg : decode cc pc = .ok (.ireturn, 1)) (hp : post v (M, P, S, V)) : W p l e R s m args below meth c H locs 0 0 (MQ below (va_Qi post (xB G) (xA G)) args s 0 0 (xA G)) (F0 m pc ls [.int v]) :=
  W.zret (v := v) F.1 F.2.1 hr hn (fun t ht hw => ⟨⟨v, (M, P, S, V), rfl, hp, xend (u := (M, P, S, V)) hW ht hw⟩, hW.2.2.1.F ht⟩) hW.2.2.1.2.2 hdg hlk
theorem xre_l {post : Int64 → XX → Prop} {v : Int64} (F : CallFix p m c cc nL s args gtbl own) (hr : meth.sig.returnType = some .long) (hlk : meth.locks = false) (hW : xW G s s.heap H locs M P S V) (hdg : decode cc pc = .ok (.lreturn, 1)) (hp : post v (M, P, S, V)) : W p l e R s m args below meth c H locs 0 0 (MQ below (va_Ql post (xB G) (xA G)) args s 0 0 (xA G)) (F0 m pc ls [.long v]) :=
  W.lret (v := v) F.1 F.2.1 hr (fun t ht hw => ⟨⟨v, (M, P, S, V), rfl, hp, xend (u := (M, P, S, V)) hW ht hw⟩, hW.2.2.1.F ht⟩) hW.2.2.1.2.2 hdg hlk
theorem xre_v {post : XX → Prop} (F : CallFix p m c cc nL s args gtbl own) (hr : meth.sig.returnType = none) (hlk : meth.locks = false) (hW : xW G s s.heap H locs M P S V) (hdg : decode cc pc = .ok (.return_, 1)) (hp : post (M, P, S, V)) : W p l e R s m args below meth c H locs 0 0 (MQ below (va_Qv post (xB G) (xA G)) args s 0 0 (xA G)) (F0 m pc ls []) :=
  W.vret F.1 F.2.1 hr (fun t ht hw => ⟨⟨(M, P, S, V), rfl, hp, xend (u := (M, P, S, V)) hW ht hw⟩, hW.2.2.1.F ht⟩) hW.2.2.1.2.2 hdg hlk
end XR
section XC
variable {p : Program} {l : Launch} {e : Env} {R : Room} {s : State} {m : MethodId} {args : Array Value} {below : List Frame} {meth : Method} {c : Code} {H : Heap} {locs : List Loc} {Q : State → Prop} {cc : ByteArray} {pc nL : Nat} {ls : Array Slot} {rest st0 : List Value} {own : String} {G : XG} {H0 : Heap} {M : XM} {P : XP} {S : XS} {V : XV}
variable {y : MethodName} {bytes : ByteArray} {maxL n idx : Nat} {ret : Option FieldType} {rm : Room} {C : String} {b : Nat} {As : List Value}
/-- what a callee is by the tables: its words, and its name's parts -/
def caV (C : String) (y : MethodName) (bytes : ByteArray) (maxL : Nat) (ret : Option FieldType) (n : Nat) : Prop :=
  Cond.instanceMethod y ∈ gtbl ∧ Cond.selects C y y ∈ gtbl ∧ Cond.initialized C ∈ gtbl ∧ Cond.code y bytes maxL ret ∈ gtbl ∧ (y.cls = C ∧ y.cls ≠ "java/lang/invoke/MethodHandle" ∧ y.cls ≠ "java/lang/invoke/VarHandle" ∧ (parseMethodDescriptor y.desc).map (fun d => d.parameters.length) = some n)
def caS (y : MethodName) (bytes : ByteArray) (maxL : Nat) (ret : Option FieldType) (n : Nat) : Prop :=
  Cond.static y ∈ gtbl ∧ Cond.initialized y.cls ∈ gtbl ∧ Cond.code y bytes maxL ret ∈ gtbl ∧ (y.cls ≠ "java/lang/invoke/MethodHandle" ∧ y.cls ≠ "java/lang/invoke/VarHandle" ∧ (parseMethodDescriptor y.desc).map (fun d => d.parameters.length) = some n)
theorem xcw (hts : ∀ w ∈ gtbl, w.before args s = true) (hc : caV C y bytes maxL ret n) (hl : Cond.methodLink own idx y ∈ gtbl) (hrc : rm.cells = 0) (hrs : rm.slots = 0) (hR : rm.frames + 1 ≤ R.frames ∧ 8 + (maxL + 11) + rm.locals ≤ R.locals) : CallW R s args own C idx y bytes maxL ret (wC y bytes maxL ret) rm 0 0 n := by
  refine cwV n hts ?_ rfl hrc hrs hc.2.2.2.2 hR
  intro w hw
  rcases List.mem_append.mp hw with h | h
  · simp only [List.mem_cons, List.not_mem_nil, or_false] at h
    rcases h with rfl | rfl | rfl | rfl
    · exact gt_self _ hl
    · exact gt_self _ hc.1
    · exact gt_self _ hc.2.1
    · exact gt_self _ hc.2.2.1
  · exact gt_cons hc.2.2.2.1 w h
theorem xcwS (hts : ∀ w ∈ gtbl, w.before args s = true) (hc : caS y bytes maxL ret n) (hl : Cond.methodLink own idx y ∈ gtbl) (hrc : rm.cells = 0) (hrs : rm.slots = 0) (hR : rm.frames + 1 ≤ R.frames ∧ 8 + (maxL + 11) + rm.locals ≤ R.locals) : CallB R s args own idx y bytes maxL ret (wC y bytes maxL ret) rm 0 0 n ∧ (Cond.static y).before args s = true :=
  ⟨callB_of n hts (gt_cons hc.2.2.1) rfl hrc hrs (hts _ hc.2.1) (hts _ hl) hc.2.2.2 hR, hts _ hc.1⟩
theorem xpre (hW : xW G s H0 H locs M P S V) (hr : ∃ cell : Cell, H[b]? = some cell ∧ cell.vm.isStatics = false ∧ s.vm.findClass C = some cell.cls) : PreV s H C b (xPc G (.ref b :: As) M P S V) As :=
  ⟨xPc_blind, hr, fun U hU hw => ⟨rfl, by rw [hU]; exact hW.1, hW.2.1, va_K.moved hw.alike hW.2.2.2⟩⟩
theorem xback {u : XX} {t : State} {H1 : Heap} {locs1 : List Loc} (ht : t.heap = H1) (hvm : s.vm.Alike t.vm) (hB : xB G u t) (hS : va_S (xA G) H0 H1 locs1) : xW G s H0 H1 locs1 u.1 u.2.1 u.2.2.1 u.2.2.2 := ⟨by rw [← ht]; exact hB.1, hB.2.1, hS, va_K.moved hvm.symm hB.2.2⟩
theorem xca_i {post : Int32 → XX → Prop} (F : CallFix p m c cc nL s args gtbl own) (hM : Met l y (wC y bytes maxL ret) rm (xPc G (.ref b :: As) M P S V) (va_Qi post (xB G) (xA G)) 0 0 (xA G)) (cw : CallW R s args own C idx y bytes maxL ret (wC y bytes maxL ret) rm 0 0 n) (hrc : ∃ cell : Cell, H[b]? = some cell ∧ cell.vm.isStatics = false ∧ s.vm.findClass C = some cell.cls) (hW : xW G s H0 H locs M P S V) (hn : As.length = n) (hls : ls.size = nL) (hst : st0 = As.reverse ++ .ref b :: rest) (hrm : (rest.map fun v => v.category).sum ≤ 8) (hdg : decode cc pc = .ok (.invokevirtual idx, 3))
    (kk : ∀ (r : Int32) (u : XX) (H1 : Heap) (locs1 : List Loc), post r u → xW G s H0 H1 locs1 u.1 u.2.1 u.2.2.1 u.2.2.2 → W p l e R s m args below meth c H1 locs1 0 0 Q (F0 m (pc + 3) ls (.int r :: rest))) : W p l e R s m args below meth c H locs 0 0 Q (F0 m pc ls st0) := by
  subst hst
  exact va_calli (va_runV F hM cw (xpre hW hrc) rfl hn hls rfl (lv_room hrm) hdg ⟨Nat.zero_le _, Nat.zero_le _⟩) hW.2.2.1 (fun q _ h => h) (fun q h => h) (fun r u t H1 locs1 ht hvm hp hB _ _ hS => kk r u H1 locs1 hp (xback ht hvm hB hS))
theorem xca_l {post : Int64 → XX → Prop} (F : CallFix p m c cc nL s args gtbl own) (hM : Met l y (wC y bytes maxL ret) rm (xPc G (.ref b :: As) M P S V) (va_Ql post (xB G) (xA G)) 0 0 (xA G)) (cw : CallW R s args own C idx y bytes maxL ret (wC y bytes maxL ret) rm 0 0 n) (hrc : ∃ cell : Cell, H[b]? = some cell ∧ cell.vm.isStatics = false ∧ s.vm.findClass C = some cell.cls) (hW : xW G s H0 H locs M P S V) (hn : As.length = n) (hls : ls.size = nL) (hst : st0 = As.reverse ++ .ref b :: rest) (hrm : (rest.map fun v => v.category).sum ≤ 8) (hdg : decode cc pc = .ok (.invokevirtual idx, 3))
    (kk : ∀ (r : Int64) (u : XX) (H1 : Heap) (locs1 : List Loc), post r u → xW G s H0 H1 locs1 u.1 u.2.1 u.2.2.1 u.2.2.2 → W p l e R s m args below meth c H1 locs1 0 0 Q (F0 m (pc + 3) ls (.long r :: rest))) : W p l e R s m args below meth c H locs 0 0 Q (F0 m pc ls st0) := by
  subst hst
  exact va_calll (va_runV F hM cw (xpre hW hrc) rfl hn hls rfl (lv_room hrm) hdg ⟨Nat.zero_le _, Nat.zero_le _⟩) hW.2.2.1 (fun q _ h => h) (fun q h => h) (fun r u t H1 locs1 ht hvm hp hB _ _ hS => kk r u H1 locs1 hp (xback ht hvm hB hS))
theorem xca_v {post : XX → Prop} (F : CallFix p m c cc nL s args gtbl own) (hM : Met l y (wC y bytes maxL ret) rm (xPc G (.ref b :: As) M P S V) (va_Qv post (xB G) (xA G)) 0 0 (xA G)) (cw : CallW R s args own C idx y bytes maxL ret (wC y bytes maxL ret) rm 0 0 n) (hrc : ∃ cell : Cell, H[b]? = some cell ∧ cell.vm.isStatics = false ∧ s.vm.findClass C = some cell.cls) (hW : xW G s H0 H locs M P S V) (hn : As.length = n) (hls : ls.size = nL) (hst : st0 = As.reverse ++ .ref b :: rest) (hrm : (rest.map fun v => v.category).sum ≤ 8) (hdg : decode cc pc = .ok (.invokevirtual idx, 3))
    (kk : ∀ (u : XX) (H1 : Heap) (locs1 : List Loc), post u → xW G s H0 H1 locs1 u.1 u.2.1 u.2.2.1 u.2.2.2 → W p l e R s m args below meth c H1 locs1 0 0 Q (F0 m (pc + 3) ls rest)) : W p l e R s m args below meth c H locs 0 0 Q (F0 m pc ls st0) := by
  subst hst
  exact va_callv (va_runV F hM cw (xpre hW hrc) rfl hn hls rfl (lv_room hrm) hdg ⟨Nat.zero_le _, Nat.zero_le _⟩) hW.2.2.1 (fun q _ h => h) (fun q h => h) (fun u t H1 locs1 ht hvm hp hB _ _ hS => kk u H1 locs1 hp (xback ht hvm hB hS))
/-- a static method that only reckons -/
def pPc (av : List Value) : Array Value → State → Prop := fun v _ => v = av.toArray
def pQi (post : Int32 → Prop) : Array Value → State → Outcome → State → Prop := vp_Si post
theorem pst {av : List Value} {post : Int32 → Prop} (own : String) (hy : plainName y.cls = true) (ho : y.cls = own) (hn : (lg_sl av).length ≤ maxL)
    (body : ∀ (p : Program) (e : Env) (s : State) (m : MethodId) (args : Array Value) (below : List Frame) (meth : Method) (c : Code) (ls : Array Slot), CallFix p m c cc maxL s args gtbl own → meth.sig.returnType = ret → meth.locks = false → lv_has ls maxL (lv_args 0 av) → W p l e rm s m args below meth c s.heap [] 0 0 (MQ below (pQi post) args s 0 0 (fun _ => False)) (F0 m 0 ls [])) : Met l y (wC y cc maxL ret) rm (pPc av) (pQi post) 0 0 (fun _ => False) := by
  refine xst_gen own hy ho ?_
  intro p e s m args below meth c F hr hlk _ hv
  obtain rfl := hv
  rw [lg_entry_eq]
  exact body p e s m av.toArray below meth c _ F hr hlk (lv_entry av hn)
theorem pre_i {post : Int32 → Prop} {v : Int32} (F : CallFix p m c cc nL s args gtbl own) (hr : meth.sig.returnType = some .int) (hlk : meth.locks = false) (hdg : decode cc pc = .ok (.ireturn, 1)) (hp : post v) : W p l e R s m args below meth c s.heap [] 0 0 (MQ below (pQi post) args s 0 0 (fun _ => False)) (F0 m pc ls [.int v]) :=
  W.iret (v := v) F.1 F.2.1 hr (fun t ht hw => ⟨v, rfl, hp, ht⟩) (fun q h => by cases h) hdg hlk
theorem pre_z {post : Int32 → Prop} {v : Int32} (F : CallFix p m c cc nL s args gtbl own) (hr : meth.sig.returnType = some .boolean) (hlk : meth.locks = false) (hn : narrow .boolean (.int v) = .int v) (hdg : decode cc pc = .ok (.ireturn, 1)) (hp : post v) : W p l e R s m args below meth c s.heap [] 0 0 (MQ below (pQi post) args s 0 0 (fun _ => False)) (F0 m pc ls [.int v]) :=
  W.zret (v := v) F.1 F.2.1 hr hn (fun t ht hw => ⟨v, rfl, hp, ht⟩) (fun q h => by cases h) hdg hlk
theorem pca {post : Int32 → Prop} (F : CallFix p m c cc nL s args gtbl own) (hM : Met l y (wC y bytes maxL ret) rm (pPc As) (pQi post) 0 0 (fun _ => False)) (cw : CallB R s args own idx y bytes maxL ret (wC y bytes maxL ret) rm 0 0 n ∧ (Cond.static y).before args s = true) (hn : As.length = n) (hls : ls.size = nL) (hst : st0 = As.reverse ++ rest) (hrm : (rest.map fun v => v.category).sum ≤ 8) (hdg : decode cc pc = .ok (.invokestatic idx, 3))
    (kk : ∀ r : Int32, post r → W p l e R s m args below meth c H locs 0 0 Q (F0 m (pc + 3) ls (.int r :: rest))) : W p l e R s m args below meth c H locs 0 0 Q (F0 m pc ls st0) := by
  subst hst
  exact vp_callSi (W.runS F hM cw ⟨fun a U g mk q => q, fun U hU hw => rfl⟩ rfl hn hls rfl (lv_room hrm) hdg ⟨Nat.zero_le _, Nat.zero_le _⟩) kk
end XC
theorem ca_X0_begin : caV "DoFinder$Ask" yX0_begin cX0_begin 2 none 1 := ⟨tm_307, tm_308, tm_5, tm_309, by decide +kernel⟩
theorem ca_X0_append : caV "DoFinder$Ask" yX0_append cX0_append 5 (some .int) 3 := ⟨tm_315, tm_316, tm_5, tm_317, by decide +kernel⟩
theorem ca_X1_has : caV "DoFinder$Library" yX1_has cX1_has 2 (some .boolean) 1 := ⟨tm_245, tm_246, tm_3, tm_247, by decide +kernel⟩
theorem ca_X1_take : caV "DoFinder$Library" yX1_take cX1_take 3 (some .int) 2 := ⟨tm_230, tm_231, tm_3, tm_232, by decide +kernel⟩
theorem ca_X1_outcome : caV "DoFinder$Library" yX1_outcome cX1_outcome 9 (some .long) 3 := ⟨tm_259, tm_260, tm_3, tm_261, by decide +kernel⟩
theorem ca_X1_numberLaid : caS yX1_numberLaid cX1_numberLaid 3 (some .int) 3 := ⟨tm_270, tm_3, tm_271, by decide +kernel⟩
theorem ca_X1_countTaking : caV "DoFinder$Library" yX1_countTaking cX1_countTaking 4 (some .int) 1 := ⟨tm_460, tm_461, tm_3, tm_462, by decide +kernel⟩
theorem ca_X1_firstDifference : caV "DoFinder$Library" yX1_firstDifference cX1_firstDifference 10 (some .int) 2 := ⟨tm_472, tm_473, tm_3, tm_474, by decide +kernel⟩
theorem ca_X1_areDoubles : caV "DoFinder$Library" yX1_areDoubles cX1_areDoubles 3 (some .boolean) 2 := ⟨tm_468, tm_469, tm_3, tm_470, by decide +kernel⟩
theorem ca_X1_countDoubles : caV "DoFinder$Library" yX1_countDoubles cX1_countDoubles 4 (some .int) 0 := ⟨tm_464, tm_465, tm_3, tm_466, by decide +kernel⟩
theorem ca_X2_seek : caV "DoFinder$Parting" yX2_seek cX2_seek 5 none 2 := ⟨tm_436, tm_437, tm_7, tm_438, by decide +kernel⟩
theorem ca_X2_tally : caV "DoFinder$Parting" yX2_tally cX2_tally 6 none 3 := ⟨tm_446, ts_7, tm_7, tm_447, by decide +kernel⟩
theorem ca_X2_rowOf : caV "DoFinder$Parting" yX2_rowOf cX2_rowOf 4 (some .int) 1 := ⟨tm_452, ts_8, tm_7, tm_453, by decide +kernel⟩
theorem ca_X3_clear : caV "DoFinder$Pile" yX3_clear cX3_clear 1 none 0 := ⟨tm_265, tm_266, tm_4, tm_267, by decide +kernel⟩
theorem ca_X3_isEmpty : caV "DoFinder$Pile" yX3_isEmpty cX3_isEmpty 1 (some .boolean) 0 := ⟨tm_287, tm_288, tm_4, tm_289, by decide +kernel⟩
theorem ca_X3_top : caV "DoFinder$Pile" yX3_top cX3_top 1 (some .int) 0 := ⟨tm_291, tm_292, tm_4, tm_293, by decide +kernel⟩
theorem ca_X3_lay : caV "DoFinder$Pile" yX3_lay cX3_lay 2 (some .boolean) 1 := ⟨tm_273, tm_274, tm_4, tm_275, by decide +kernel⟩
theorem ca_X3_reckon : caV "DoFinder$Pile" yX3_reckon cX3_reckon 5 (some .boolean) 1 := ⟨tm_277, tm_278, tm_4, tm_279, by decide +kernel⟩
theorem ca_X3_arrange : caV "DoFinder$Pile" yX3_arrange cX3_arrange 4 (some .boolean) 1 := ⟨tm_281, tm_282, tm_4, tm_283, by decide +kernel⟩
theorem ca_X4_append : caV "DoFinder$Routine" yX4_append cX4_append 2 (some .boolean) 1 := ⟨tm_203, tm_204, tm_2, tm_205, by decide +kernel⟩
theorem ca_X4_hasStep : caV "DoFinder$Routine" yX4_hasStep cX4_hasStep 2 (some .boolean) 1 := ⟨tm_226, tm_227, tm_2, tm_228, by decide +kernel⟩
theorem ca_X4_mayHold : caV "DoFinder$Routine" yX4_mayHold cX4_mayHold 3 (some .boolean) 2 := ⟨tm_222, tm_223, tm_2, tm_224, by decide +kernel⟩
theorem ca_X4_isWhole : caV "DoFinder$Routine" yX4_isWhole cX4_isWhole 3 (some .boolean) 1 := ⟨tm_218, tm_219, tm_2, tm_220, by decide +kernel⟩
theorem ca_X4_copy : caV "DoFinder$Routine" yX4_copy cX4_copy 3 none 2 := ⟨tm_234, tm_235, tm_2, tm_236, by decide +kernel⟩
theorem ca_X5_isWayOrJoint : caV "DoFinder$Search" yX5_isWayOrJoint cX5_isWayOrJoint 3 (some .boolean) 1 := ⟨tm_344, tm_345, tm_6, tm_346, by decide +kernel⟩
theorem ca_X5_isBehind : caV "DoFinder$Search" yX5_isBehind cX5_isBehind 2 (some .boolean) 1 := ⟨tm_358, ts_2, tm_6, tm_359, by decide +kernel⟩
theorem ca_X5_isWay : caV "DoFinder$Search" yX5_isWay cX5_isWay 3 (some .boolean) 1 := ⟨tm_349, ts_0, tm_6, tm_350, by decide +kernel⟩
theorem ca_X5_fits : caV "DoFinder$Search" yX5_fits cX5_fits 3 (some .boolean) 2 := ⟨tm_354, ts_1, tm_6, tm_355, by decide +kernel⟩
theorem ca_X5_outcome : caV "DoFinder$Search" yX5_outcome cX5_outcome 10 (some .long) 3 := ⟨tm_361, tm_362, tm_6, tm_363, by decide +kernel⟩
theorem ca_X5_judge : caV "DoFinder$Search" yX5_judge cX5_judge 7 (some .int) 2 := ⟨tm_386, ts_4, tm_6, tm_387, by decide +kernel⟩
theorem ca_X5_isFound : caV "DoFinder$Search" yX5_isFound cX5_isFound 3 (some .boolean) 1 := ⟨tm_392, ts_5, tm_6, tm_393, by decide +kernel⟩
theorem ca_X5_isOpen : caV "DoFinder$Search" yX5_isOpen cX5_isOpen 5 (some .boolean) 1 := ⟨tm_382, ts_3, tm_6, tm_383, by decide +kernel⟩
theorem ca_X5_countMisses : caV "DoFinder$Search" yX5_countMisses cX5_countMisses 4 (some .int) 1 := ⟨tm_423, tm_424, tm_6, tm_425, by decide +kernel⟩
theorem ca_X5_listWays : caV "DoFinder$Search" yX5_listWays cX5_listWays 5 (some .int) 0 := ⟨tm_377, tm_378, tm_6, tm_379, by decide +kernel⟩
theorem ca_X5_pickWays : caV "DoFinder$Search" yX5_pickWays cX5_pickWays 4 (some .int) 1 := ⟨tm_373, tm_374, tm_6, tm_375, by decide +kernel⟩
theorem ca_X5_pickJoints : caV "DoFinder$Search" yX5_pickJoints cX5_pickJoints 6 (some .int) 0 := ⟨tm_411, tm_412, tm_6, tm_413, by decide +kernel⟩
theorem ca_X5_pickNear : caV "DoFinder$Search" yX5_pickNear cX5_pickNear 4 (some .int) 0 := ⟨tm_419, tm_420, tm_6, tm_421, by decide +kernel⟩
theorem ca_X5_pick : caV "DoFinder$Search" yX5_pick cX5_pick 2 none 1 := ⟨tm_396, ts_6, tm_6, tm_397, by decide +kernel⟩
theorem ca_X5_pickedAt : caV "DoFinder$Search" yX5_pickedAt cX5_pickedAt 3 (some .int) 2 := ⟨tm_399, tm_400, tm_6, tm_401, by decide +kernel⟩
theorem ca_X6_size : caS yX6_size cX6_size 1 (some .int) 1 := ⟨tm_440, tm_10, tm_441, by decide +kernel⟩
theorem ca_X6_firstAt : caS yX6_firstAt cX6_firstAt 2 (some .int) 2 := ⟨tm_333, tm_10, tm_334, by decide +kernel⟩
theorem ca_X6_secondAt : caS yX6_secondAt cX6_secondAt 2 (some .int) 2 := ⟨tm_336, tm_10, tm_337, by decide +kernel⟩
theorem ca_X7_step : caV "DoFinder" yX7_step cX7_step 2 (some .int) 1 := ⟨tm_196, tm_197, tm_1, tm_198, by decide +kernel⟩
theorem ca_X7_scrap : caV "DoFinder" yX7_scrap cX7_scrap 2 (some .int) 0 := ⟨tm_207, tm_208, tm_1, tm_209, by decide +kernel⟩
theorem ca_X7_add : caV "DoFinder" yX7_add cX7_add 3 (some .int) 1 := ⟨tm_211, tm_212, tm_1, tm_213, by decide +kernel⟩
theorem ca_X7_mend : caV "DoFinder" yX7_mend cX7_mend 6 (some .int) 3 := ⟨tm_241, tm_242, tm_1, tm_243, by decide +kernel⟩
theorem ca_X7_of : caV "DoFinder" yX7_of cX7_of 5 (some .int) 2 := ⟨tm_251, tm_252, tm_1, tm_253, by decide +kernel⟩
theorem ca_X7_run : caV "DoFinder" yX7_run cX7_run 4 (some .long) 3 := ⟨tm_255, tm_256, tm_1, tm_257, by decide +kernel⟩
theorem ca_X7_fuel : caV "DoFinder" yX7_fuel cX7_fuel 4 (some .int) 3 := ⟨tm_295, tm_296, tm_1, tm_297, by decide +kernel⟩
theorem ca_X7_limit : caV "DoFinder" yX7_limit cX7_limit 3 (some .int) 1 := ⟨tm_299, tm_300, tm_1, tm_301, by decide +kernel⟩
theorem ca_X7_ask : caV "DoFinder" yX7_ask cX7_ask 3 (some .int) 1 := ⟨tm_303, tm_304, tm_1, tm_305, by decide +kernel⟩
theorem ca_X7_show : caV "DoFinder" yX7_show cX7_show 4 (some .int) 3 := ⟨tm_311, tm_312, tm_1, tm_313, by decide +kernel⟩
theorem ca_X7_leave : caV "DoFinder" yX7_leave cX7_leave 4 (some .int) 3 := ⟨tm_319, tm_320, tm_1, tm_321, by decide +kernel⟩
theorem ca_X7_drop : caV "DoFinder" yX7_drop cX7_drop 1 (some .int) 0 := ⟨tm_325, tm_326, tm_1, tm_327, by decide +kernel⟩
theorem ca_X7_like : caV "DoFinder" yX7_like cX7_like 9 (some .int) 2 := ⟨tm_329, tm_330, tm_1, tm_331, by decide +kernel⟩
theorem ca_X7_would : caV "DoFinder" yX7_would cX7_would 4 (some .long) 3 := ⟨tm_340, tm_341, tm_1, tm_342, by decide +kernel⟩
theorem ca_X7_found : caV "DoFinder" yX7_found cX7_found 2 (some .int) 1 := ⟨tm_369, tm_370, tm_1, tm_371, by decide +kernel⟩
theorem ca_X7_open : caV "DoFinder" yX7_open cX7_open 2 (some .int) 1 := ⟨tm_403, tm_404, tm_1, tm_405, by decide +kernel⟩
theorem ca_X7_joint : caV "DoFinder" yX7_joint cX7_joint 2 (some .int) 1 := ⟨tm_407, tm_408, tm_1, tm_409, by decide +kernel⟩
theorem ca_X7_near : caV "DoFinder" yX7_near cX7_near 2 (some .int) 1 := ⟨tm_415, tm_416, tm_1, tm_417, by decide +kernel⟩
theorem ca_X7_misses : caV "DoFinder" yX7_misses cX7_misses 2 (some .int) 1 := ⟨tm_427, tm_428, tm_1, tm_429, by decide +kernel⟩
theorem ca_X7_parting : caV "DoFinder" yX7_parting cX7_parting 3 (some .int) 1 := ⟨tm_432, tm_433, tm_1, tm_434, by decide +kernel⟩
theorem ca_X7_many : caV "DoFinder" yX7_many cX7_many 2 (some .int) 1 := ⟨tm_455, tm_456, tm_1, tm_457, by decide +kernel⟩
theorem ca_X7_same : caV "DoFinder" yX7_same cX7_same 4 (some .int) 2 := ⟨tm_480, tm_481, tm_1, tm_482, by decide +kernel⟩
theorem ca_X7_differ : caV "DoFinder" yX7_differ cX7_differ 3 (some .int) 2 := ⟨tm_484, tm_485, tm_1, tm_486, by decide +kernel⟩
theorem ca_X7_first : caV "DoFinder" yX7_first cX7_first 3 (some .int) 1 := ⟨tm_490, tm_491, tm_1, tm_492, by decide +kernel⟩
theorem ca_X7_isStep : caS yX7_isStep cX7_isStep 1 (some .boolean) 1 := ⟨tm_200, tm_1, tm_201, by decide +kernel⟩
theorem ca_X7_isArguments : caS yX7_isArguments cX7_isArguments 1 (some .boolean) 1 := ⟨tm_215, tm_1, tm_216, by decide +kernel⟩
theorem ca_X8_in : caS yX8_in cX8_in 3 (some .boolean) 3 := ⟨tm_578, tm_8, tm_579, by decide +kernel⟩
theorem ca_X8_isRoutine : caV "DoFinderModel" yX8_isRoutine cX8_isRoutine 2 (some .boolean) 1 := ⟨tm_597, ts_9, tm_8, tm_598, by decide +kernel⟩
theorem ca_X8_step : caV "DoFinderModel" yX8_step cX8_step 2 (some .int) 1 := ⟨tm_574, tm_575, tm_8, tm_576, by decide +kernel⟩
theorem ca_X8_scrap : caV "DoFinderModel" yX8_scrap cX8_scrap 2 (some .int) 0 := ⟨tm_581, tm_582, tm_8, tm_583, by decide +kernel⟩
theorem ca_X8_fits : caS yX8_fits cX8_fits 3 (some .boolean) 3 := ⟨tm_589, tm_8, tm_590, by decide +kernel⟩
theorem ca_X8_add : caV "DoFinderModel" yX8_add cX8_add 3 (some .int) 1 := ⟨tm_585, tm_586, tm_8, tm_587, by decide +kernel⟩
theorem ca_X8_mend : caV "DoFinderModel" yX8_mend cX8_mend 5 (some .int) 3 := ⟨tm_592, tm_593, tm_8, tm_594, by decide +kernel⟩
theorem ca_X8_of : caV "DoFinderModel" yX8_of cX8_of 3 (some .int) 2 := ⟨tm_600, tm_601, tm_8, tm_602, by decide +kernel⟩
theorem ca_X8_worked : caS yX8_worked cX8_worked 3 (some .int) 3 := ⟨tm_629, tm_8, tm_630, by decide +kernel⟩
theorem ca_X8_needs : caS yX8_needs cX8_needs 1 (some .int) 1 := ⟨tm_617, tm_8, tm_618, by decide +kernel⟩
theorem ca_X8_isGood : caV "DoFinderModel" yX8_isGood cX8_isGood 2 (some .boolean) 1 := ⟨tm_614, ts_11, tm_8, tm_615, by decide +kernel⟩
theorem ca_X8_lay : caV "DoFinderModel" yX8_lay cX8_lay 2 none 1 := ⟨tm_626, ts_13, tm_8, tm_627, by decide +kernel⟩
theorem ca_X8_goOn : caV "DoFinderModel" yX8_goOn cX8_goOn 6 (some .int) 4 := ⟨tm_622, ts_12, tm_8, tm_623, by decide +kernel⟩
theorem ca_X8_runIt : caV "DoFinderModel" yX8_runIt cX8_runIt 6 (some .long) 3 := ⟨tm_609, ts_10, tm_8, tm_610, by decide +kernel⟩
theorem ca_X8_run : caV "DoFinderModel" yX8_run cX8_run 4 (some .long) 3 := ⟨tm_604, tm_605, tm_8, tm_606, by decide +kernel⟩
theorem ca_X8_fuel : caV "DoFinderModel" yX8_fuel cX8_fuel 6 (some .int) 3 := ⟨tm_633, tm_634, tm_8, tm_635, by decide +kernel⟩
theorem ca_X8_limit : caV "DoFinderModel" yX8_limit cX8_limit 3 (some .int) 1 := ⟨tm_637, tm_638, tm_8, tm_639, by decide +kernel⟩
theorem ca_X8_ask : caV "DoFinderModel" yX8_ask cX8_ask 3 (some .int) 1 := ⟨tm_641, tm_642, tm_8, tm_643, by decide +kernel⟩
theorem ca_X8_example : caV "DoFinderModel" yX8_example cX8_example 5 (some .int) 3 := ⟨tm_650, ts_14, tm_8, tm_651, by decide +kernel⟩
theorem ca_X8_show : caV "DoFinderModel" yX8_show cX8_show 4 (some .int) 3 := ⟨tm_645, tm_646, tm_8, tm_647, by decide +kernel⟩
theorem ca_X8_leave : caV "DoFinderModel" yX8_leave cX8_leave 4 (some .int) 3 := ⟨tm_653, tm_654, tm_8, tm_655, by decide +kernel⟩
theorem ca_X8_drop : caV "DoFinderModel" yX8_drop cX8_drop 1 (some .int) 0 := ⟨tm_658, tm_659, tm_8, tm_660, by decide +kernel⟩
theorem ca_X8_inputs : caS yX8_inputs cX8_inputs 1 (some .int) 1 := ⟨tm_732, tm_8, tm_733, by decide +kernel⟩
theorem ca_X8_firstOf : caS yX8_firstOf cX8_firstOf 2 (some .int) 2 := ⟨tm_666, tm_8, tm_667, by decide +kernel⟩
theorem ca_X8_secondOf : caS yX8_secondOf cX8_secondOf 2 (some .int) 2 := ⟨tm_669, tm_8, tm_670, by decide +kernel⟩
theorem ca_X8_like : caV "DoFinderModel" yX8_like cX8_like 9 (some .int) 2 := ⟨tm_662, tm_663, tm_8, tm_664, by decide +kernel⟩
theorem ca_X8_isWay : caV "DoFinderModel" yX8_isWay cX8_isWay 4 (some .boolean) 1 := ⟨tm_677, ts_15, tm_8, tm_678, by decide +kernel⟩
theorem ca_X8_isJoint : caV "DoFinderModel" yX8_isJoint cX8_isJoint 3 (some .boolean) 1 := ⟨tm_681, ts_16, tm_8, tm_682, by decide +kernel⟩
theorem ca_X8_wayAt : caV "DoFinderModel" yX8_wayAt cX8_wayAt 6 (some .long) 3 := ⟨tm_689, ts_18, tm_8, tm_690, by decide +kernel⟩
theorem ca_X8_outcomeAt : caV "DoFinderModel" yX8_outcomeAt cX8_outcomeAt 6 (some .long) 3 := ⟨tm_685, ts_17, tm_8, tm_686, by decide +kernel⟩
theorem ca_X8_would : caV "DoFinderModel" yX8_would cX8_would 4 (some .long) 3 := ⟨tm_672, tm_673, tm_8, tm_674, by decide +kernel⟩
theorem ca_X8_look : caV "DoFinderModel" yX8_look cX8_look 5 none 1 := ⟨tm_705, ts_21, tm_8, tm_706, by decide +kernel⟩
theorem ca_X8_stateOf : caV "DoFinderModel" yX8_stateOf cX8_stateOf 2 (some .int) 1 := ⟨tm_701, ts_20, tm_8, tm_702, by decide +kernel⟩
theorem ca_X8_wayOf : caV "DoFinderModel" yX8_wayOf cX8_wayOf 5 (some .int) 2 := ⟨tm_697, ts_19, tm_8, tm_698, by decide +kernel⟩
theorem ca_X8_found : caV "DoFinderModel" yX8_found cX8_found 2 (some .int) 1 := ⟨tm_692, tm_693, tm_8, tm_694, by decide +kernel⟩
theorem ca_X8_open : caV "DoFinderModel" yX8_open cX8_open 2 (some .int) 1 := ⟨tm_708, tm_709, tm_8, tm_710, by decide +kernel⟩
theorem ca_X8_joint : caV "DoFinderModel" yX8_joint cX8_joint 5 (some .int) 1 := ⟨tm_712, tm_713, tm_8, tm_714, by decide +kernel⟩
theorem ca_X8_near : caV "DoFinderModel" yX8_near cX8_near 6 (some .int) 1 := ⟨tm_716, tm_717, tm_8, tm_718, by decide +kernel⟩
theorem ca_X8_misses : caV "DoFinderModel" yX8_misses cX8_misses 3 (some .int) 1 := ⟨tm_720, tm_721, tm_8, tm_722, by decide +kernel⟩
theorem ca_X8_heapUp : caV "DoFinderModel" yX8_heapUp cX8_heapUp 8 none 3 := ⟨tm_736, ts_23, tm_8, tm_737, by decide +kernel⟩
theorem ca_X8_findWays : caV "DoFinderModel" yX8_findWays cX8_findWays 3 (some .int) 0 := ⟨tm_729, ts_22, tm_8, tm_730, by decide +kernel⟩
theorem ca_X8_parting : caV "DoFinderModel" yX8_parting cX8_parting 7 (some .int) 1 := ⟨tm_724, tm_725, tm_8, tm_726, by decide +kernel⟩
theorem ca_X8_wayMany : caV "DoFinderModel" yX8_wayMany cX8_wayMany 4 (some .int) 1 := ⟨tm_744, ts_24, tm_8, tm_745, by decide +kernel⟩
theorem ca_X8_jointMany : caV "DoFinderModel" yX8_jointMany cX8_jointMany 5 (some .int) 1 := ⟨tm_748, ts_25, tm_8, tm_749, by decide +kernel⟩
theorem ca_X8_doubleMany : caV "DoFinderModel" yX8_doubleMany cX8_doubleMany 4 (some .int) 0 := ⟨tm_752, ts_26, tm_8, tm_753, by decide +kernel⟩
theorem ca_X8_many : caV "DoFinderModel" yX8_many cX8_many 2 (some .int) 1 := ⟨tm_739, tm_740, tm_8, tm_741, by decide +kernel⟩
theorem ca_X8_differAt : caV "DoFinderModel" yX8_differAt cX8_differAt 9 (some .int) 2 := ⟨tm_756, ts_27, tm_8, tm_757, by decide +kernel⟩
theorem ca_X8_same : caV "DoFinderModel" yX8_same cX8_same 3 (some .int) 2 := ⟨tm_759, tm_760, tm_8, tm_761, by decide +kernel⟩
theorem ca_X8_differ : caV "DoFinderModel" yX8_differ cX8_differ 4 (some .int) 2 := ⟨tm_763, tm_764, tm_8, tm_765, by decide +kernel⟩
theorem ca_X8_first : caV "DoFinderModel" yX8_first cX8_first 3 (some .int) 1 := ⟨tm_767, tm_768, tm_8, tm_769, by decide +kernel⟩
