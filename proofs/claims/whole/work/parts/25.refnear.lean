/-! ===== near ways by insertion ===== -/
def zprg (f : Nat → Nat) (g : Nat → Nat) (l : List Nat) : Prop := ∀ i, i < l.length → f i = g (l.getD i 0)
def znr (WL : List Nat) (g : Nat → Nat) (a : Nat) : Nat → List Nat
  | 0 => []
  | d + 1 => znr WL g a d ++ WL.filter (fun w => decide (g w = a + d + 1))
theorem znl_split (WL : List Nat) (g : Nat → Nat) (a : Nat) : ∀ d, znl WL g (a + d) = znl WL g a ++ znr WL g a d := by
  intro d
  induction d with
  | zero => exact (List.append_nil _).symm
  | succ d ih => show znl WL g (a + d) ++ _ = _; rw [ih, List.append_assoc]; rfl
theorem znl_out {WL : List Nat} {g : Nat → Nat} {x : Nat} : ∀ k, (g x = 0 ∨ k < g x) → znl (WL ++ [x]) g k = znl WL g k := by
  intro k
  induction k with
  | zero => intro _; rfl
  | succ k ih =>
    intro h
    show znl (WL ++ [x]) g k ++ _ = znl WL g k ++ _
    rw [ih (by omega), List.filter_append]
    have : List.filter (fun w => decide (g w = k + 1)) [x] = [] := by
      rw [List.filter_cons, if_neg (by simp only [decide_eq_true_eq]; omega)]; rfl
    rw [this, List.append_nil]
theorem znr_out {WL : List Nat} {g : Nat → Nat} {x : Nat} : ∀ d, znr (WL ++ [x]) g (g x) d = znr WL g (g x) d := by
  intro d
  induction d with
  | zero => rfl
  | succ d ih =>
    show znr (WL ++ [x]) g (g x) d ++ _ = znr WL g (g x) d ++ _
    rw [ih, List.filter_append]
    have : List.filter (fun w => decide (g w = g x + d + 1)) [x] = [] := by
      rw [List.filter_cons, if_neg (by simp only [decide_eq_true_eq]; omega)]; rfl
    rw [this, List.append_nil]
theorem znl_in {WL : List Nat} {g : Nat → Nat} {x k : Nat} (h1 : 0 < g x) (h2 : g x ≤ k) : znl (WL ++ [x]) g k = znl WL g (g x) ++ (x :: znr WL g (g x) (k - g x)) := by
  rw [show k = g x + (k - g x) by omega, znl_split, znr_out, show g x + (k - g x) - g x = k - g x by omega]
  obtain ⟨j, hj⟩ : ∃ j, g x = j + 1 := ⟨g x - 1, by omega⟩
  have : znl (WL ++ [x]) g (g x) = znl WL g (g x) ++ [x] := by
    rw [hj]
    show znl (WL ++ [x]) g j ++ _ = (znl WL g j ++ _) ++ [x]
    rw [znl_out j (by omega), List.filter_append, List.append_assoc]
    have e : List.filter (fun w => decide (g w = j + 1)) [x] = [x] := by
      rw [List.filter_cons, if_pos (decide_eq_true hj)]; rfl
    rw [e]
  rw [this, List.append_assoc]; rfl
theorem znl_le_mem {WL : List Nat} {g : Nat → Nat} : ∀ k a, a ∈ znl WL g k → g a ≤ k := by
  intro k
  induction k with
  | zero => intro a h; cases h
  | succ k ih =>
    intro a h
    rcases List.mem_append.mp h with h | h
    · have := ih a h; omega
    · have := of_decide_eq_true (List.mem_filter.mp h).2; omega
theorem znr_gt_mem {WL : List Nat} {g : Nat → Nat} {m : Nat} : ∀ d a, a ∈ znr WL g m d → m < g a := by
  intro d
  induction d with
  | zero => intro a h; cases h
  | succ d ih =>
    intro a h
    rcases List.mem_append.mp h with h | h
    · exact ih a h
    · have := of_decide_eq_true (List.mem_filter.mp h).2; omega
theorem zgetD_mem {l : List Nat} {i : Nat} (h : i < l.length) : l.getD i 0 ∈ l := by
  rw [List.getD, List.getElem?_eq_getElem h]; exact List.getElem_mem h
theorem zgetD_l {a b : List Nat} {i : Nat} (h : i < a.length) : (a ++ b).getD i 0 = a.getD i 0 := by
  simp [List.getD, List.getElem?_append_left h]
theorem zgetD_r {a b : List Nat} {i : Nat} (h : a.length ≤ i) : (a ++ b).getD i 0 = b.getD (i - a.length) 0 := by
  simp [List.getD, List.getElem?_append_right h]
theorem zins {A B : List Nat} {x q : Nat} {g nw nm : Nat → Nat} (hA : ∀ a, a ∈ A → g a ≤ g x) (hB : ∀ b, b ∈ B → g x < g b) (hq : q ≤ (A ++ B).length)
    (I1 : ∀ i, i < q → nw i = (A ++ B).getD i 0 ∧ nm i = g ((A ++ B).getD i 0)) (I2 : ∀ i, q < i → i ≤ (A ++ B).length → nw i = (A ++ B).getD (i - 1) 0 ∧ nm i = g ((A ++ B).getD (i - 1) 0)) (I3 : ∀ i, q ≤ i → i < (A ++ B).length → g x < g ((A ++ B).getD i 0)) (hx : q = 0 ∨ g ((A ++ B).getD (q - 1) 0) ≤ g x) :
    zpre (upN nw q x) (A ++ (x :: B)) ∧ zprg (upN nm q (g x)) g (A ++ (x :: B)) := by
  have hl : (A ++ B).length = A.length + B.length := List.length_append
  have e : q = A.length := by
    rcases Nat.lt_trichotomy q A.length with h | h | h
    · have h1 := I3 q (Nat.le_refl _) (by omega)
      rw [zgetD_l h] at h1
      have h2 := hA _ (zgetD_mem h)
      omega
    · exact h
    · have h1 : g ((A ++ B).getD (q - 1) 0) ≤ g x := by rcases hx with h | h
                                                        · omega
                                                        · exact h
      rw [zgetD_r (by omega)] at h1
      have h2 := hB _ (zgetD_mem (show q - 1 - A.length < B.length by omega))
      omega
  subst e
  have key : ∀ i, i < (A ++ (x :: B)).length → (upN nw A.length x) i = (A ++ (x :: B)).getD i 0 ∧ (upN nm A.length (g x)) i = g ((A ++ (x :: B)).getD i 0) := by
    intro i hi
    rw [List.length_append, List.length_cons] at hi
    rcases Nat.lt_trichotomy i A.length with h | h | h
    · rw [upN_n (by omega), upN_n (by omega), zgetD_l h]
      have := I1 i h
      rw [zgetD_l h] at this
      exact this
    · subst h
      rw [upN_s, upN_s, zget_cut]
      exact ⟨rfl, rfl⟩
    · rw [upN_n (by omega), upN_n (by omega), zgetD_r (by omega)]
      have := I2 i h (by omega)
      rw [zgetD_r (by omega)] at this
      rw [show i - A.length = (i - 1 - A.length) + 1 by omega]
      exact this
  exact ⟨fun i hi => (key i hi).1, fun i hi => (key i hi).2⟩
theorem zst_2 {o : Nat → Int32 → Int32 → Int64} {zf zs : Nat → Int32} {zd : Nat → Int64} {ac w : Nat} : zst o zf zs zd ac w = 2 ↔ 0 < zmi o zf zs zd ac w := by
  unfold zst
  constructor
  · intro h
    by_cases q : 0 < zmi o zf zs zd ac w
    · exact q
    · rw [if_neg q] at h; split at h <;> omega
  · intro h; rw [if_pos h]
theorem znl_nil (g : Nat → Nat) : ∀ k, znl [] g k = [] := by
  intro k
  induction k with
  | zero => rfl
  | succ k ih => show znl [] g k ++ _ = _; rw [ih]; rfl
theorem zsh {O : List Nat} {g nw nm : Nat → Nat} {q i : Nat} (h : nw (q - 1) = O.getD (q - 1) 0 ∧ nm (q - 1) = g (O.getD (q - 1) 0)) (h2 : q < i → i ≤ O.length → nw i = O.getD (i - 1) 0 ∧ nm i = g (O.getD (i - 1) 0)) (hi : q - 1 < i) (hi2 : i ≤ O.length) : upN nw q (nw (q - 1)) i = O.getD (i - 1) 0 ∧ upN nm q (nm (q - 1)) i = g (O.getD (i - 1) 0) := by
  by_cases e : i = q
  · subst e; rw [upN_s, upN_s]; exact h
  · rw [upN_n e, upN_n e]; exact h2 (by omega) hi2
theorem zsh3 {O : List Nat} {g nm : Nat → Nat} {q m : Nat} (h : nm (q - 1) = g (O.getD (q - 1) 0)) (hm : m < nm (q - 1)) (h3 : ∀ i, q ≤ i → i < O.length → m < g (O.getD i 0)) (hq : 0 < q) : ∀ i, q - 1 ≤ i → i < O.length → m < g (O.getD i 0) := by
  intro i hi hi2
  by_cases e : i = q - 1
  · subst e; rw [← h]; exact hm
  · exact h3 i (by omega) hi2
theorem dX8_heapUp_0 : decode cX8_heapUp 0 = .ok (.aload_n 0, 1) := by decide +kernel
theorem dX8_heapUp_1 : decode cX8_heapUp 1 = .ok (.iconst 0, 1) := by decide +kernel
theorem dX8_heapUp_2 : decode cX8_heapUp 2 = .ok (.putfield 152, 3) := by decide +kernel
theorem dX8_heapUp_5 : decode cX8_heapUp 5 = .ok (.aload_n 0, 1) := by decide +kernel
theorem dX8_heapUp_6 : decode cX8_heapUp 6 = .ok (.iconst 0, 1) := by decide +kernel
theorem dX8_heapUp_7 : decode cX8_heapUp 7 = .ok (.putfield 155, 3) := by decide +kernel
theorem dX8_heapUp_10 : decode cX8_heapUp 10 = .ok (.iconst 0, 1) := by decide +kernel
theorem dX8_heapUp_11 : decode cX8_heapUp 11 = .ok (.istore 4, 2) := by decide +kernel
theorem dX8_heapUp_13 : decode cX8_heapUp 13 = .ok (.iload 4, 2) := by decide +kernel
theorem dX8_heapUp_15 : decode cX8_heapUp 15 = .ok (.iload_n 1, 1) := by decide +kernel
theorem dX8_heapUp_16 : decode cX8_heapUp 16 = .ok (.if_icmp .ge 134, 3) := by decide +kernel
theorem dX8_heapUp_19 : decode cX8_heapUp 19 = .ok (.aload_n 0, 1) := by decide +kernel
theorem dX8_heapUp_20 : decode cX8_heapUp 20 = .ok (.aload_n 0, 1) := by decide +kernel
theorem dX8_heapUp_21 : decode cX8_heapUp 21 = .ok (.getfield 48, 3) := by decide +kernel
theorem dX8_heapUp_24 : decode cX8_heapUp 24 = .ok (.iload 4, 2) := by decide +kernel
theorem dX8_heapUp_26 : decode cX8_heapUp 26 = .ok (.iaload, 1) := by decide +kernel
theorem dX8_heapUp_27 : decode cX8_heapUp 27 = .ok (.iload_n 2, 1) := by decide +kernel
theorem dX8_heapUp_28 : decode cX8_heapUp 28 = .ok (.iload_n 3, 1) := by decide +kernel
theorem dX8_heapUp_29 : decode cX8_heapUp 29 = .ok (.invokevirtual 134, 3) := by decide +kernel
theorem dX8_heapUp_32 : decode cX8_heapUp 32 = .ok (.lstore 5, 2) := by decide +kernel
theorem dX8_heapUp_34 : decode cX8_heapUp 34 = .ok (.iconst 0, 1) := by decide +kernel
theorem dX8_heapUp_35 : decode cX8_heapUp 35 = .ok (.istore 7, 2) := by decide +kernel
theorem dX8_heapUp_37 : decode cX8_heapUp 37 = .ok (.iload 7, 2) := by decide +kernel
theorem dX8_heapUp_39 : decode cX8_heapUp 39 = .ok (.aload_n 0, 1) := by decide +kernel
theorem dX8_heapUp_40 : decode cX8_heapUp 40 = .ok (.getfield 155, 3) := by decide +kernel
theorem dX8_heapUp_43 : decode cX8_heapUp 43 = .ok (.if_icmp .ge 22, 3) := by decide +kernel
theorem dX8_heapUp_46 : decode cX8_heapUp 46 = .ok (.aload_n 0, 1) := by decide +kernel
theorem dX8_heapUp_47 : decode cX8_heapUp 47 = .ok (.getfield 51, 3) := by decide +kernel
theorem dX8_heapUp_50 : decode cX8_heapUp 50 = .ok (.iload 7, 2) := by decide +kernel
theorem dX8_heapUp_52 : decode cX8_heapUp 52 = .ok (.laload, 1) := by decide +kernel
theorem dX8_heapUp_53 : decode cX8_heapUp 53 = .ok (.lload 5, 2) := by decide +kernel
theorem dX8_heapUp_55 : decode cX8_heapUp 55 = .ok (.lcmp, 1) := by decide +kernel
theorem dX8_heapUp_56 : decode cX8_heapUp 56 = .ok (.ifCond .eq 9, 3) := by decide +kernel
theorem dX8_heapUp_59 : decode cX8_heapUp 59 = .ok (.iinc 7 1, 3) := by decide +kernel
theorem dX8_heapUp_62 : decode cX8_heapUp 62 = .ok (.goto (-25), 3) := by decide +kernel
theorem dX8_heapUp_65 : decode cX8_heapUp 65 = .ok (.iload 7, 2) := by decide +kernel
theorem dX8_heapUp_67 : decode cX8_heapUp 67 = .ok (.aload_n 0, 1) := by decide +kernel
theorem dX8_heapUp_68 : decode cX8_heapUp 68 = .ok (.getfield 155, 3) := by decide +kernel
theorem dX8_heapUp_71 : decode cX8_heapUp 71 = .ok (.if_icmp .ne 30, 3) := by decide +kernel
theorem dX8_heapUp_74 : decode cX8_heapUp 74 = .ok (.aload_n 0, 1) := by decide +kernel
theorem dX8_heapUp_75 : decode cX8_heapUp 75 = .ok (.getfield 51, 3) := by decide +kernel
theorem dX8_heapUp_78 : decode cX8_heapUp 78 = .ok (.iload 7, 2) := by decide +kernel
theorem dX8_heapUp_80 : decode cX8_heapUp 80 = .ok (.lload 5, 2) := by decide +kernel
theorem dX8_heapUp_82 : decode cX8_heapUp 82 = .ok (.lastore, 1) := by decide +kernel
theorem dX8_heapUp_83 : decode cX8_heapUp 83 = .ok (.aload_n 0, 1) := by decide +kernel
theorem dX8_heapUp_84 : decode cX8_heapUp 84 = .ok (.getfield 54, 3) := by decide +kernel
theorem dX8_heapUp_87 : decode cX8_heapUp 87 = .ok (.iload 7, 2) := by decide +kernel
theorem dX8_heapUp_89 : decode cX8_heapUp 89 = .ok (.iconst 0, 1) := by decide +kernel
theorem dX8_heapUp_90 : decode cX8_heapUp 90 = .ok (.iastore, 1) := by decide +kernel
theorem dX8_heapUp_91 : decode cX8_heapUp 91 = .ok (.aload_n 0, 1) := by decide +kernel
theorem dX8_heapUp_92 : decode cX8_heapUp 92 = .ok (.dup, 1) := by decide +kernel
theorem dX8_heapUp_93 : decode cX8_heapUp 93 = .ok (.getfield 155, 3) := by decide +kernel
theorem dX8_heapUp_96 : decode cX8_heapUp 96 = .ok (.iconst 1, 1) := by decide +kernel
theorem dX8_heapUp_97 : decode cX8_heapUp 97 = .ok (.iadd, 1) := by decide +kernel
theorem dX8_heapUp_98 : decode cX8_heapUp 98 = .ok (.putfield 155, 3) := by decide +kernel
theorem dX8_heapUp_101 : decode cX8_heapUp 101 = .ok (.aload_n 0, 1) := by decide +kernel
theorem dX8_heapUp_102 : decode cX8_heapUp 102 = .ok (.getfield 54, 3) := by decide +kernel
theorem dX8_heapUp_105 : decode cX8_heapUp 105 = .ok (.iload 7, 2) := by decide +kernel
theorem dX8_heapUp_107 : decode cX8_heapUp 107 = .ok (.dup2, 1) := by decide +kernel
theorem dX8_heapUp_108 : decode cX8_heapUp 108 = .ok (.iaload, 1) := by decide +kernel
theorem dX8_heapUp_109 : decode cX8_heapUp 109 = .ok (.iconst 1, 1) := by decide +kernel
theorem dX8_heapUp_110 : decode cX8_heapUp 110 = .ok (.iadd, 1) := by decide +kernel
theorem dX8_heapUp_111 : decode cX8_heapUp 111 = .ok (.iastore, 1) := by decide +kernel
theorem dX8_heapUp_112 : decode cX8_heapUp 112 = .ok (.aload_n 0, 1) := by decide +kernel
theorem dX8_heapUp_113 : decode cX8_heapUp 113 = .ok (.aload_n 0, 1) := by decide +kernel
theorem dX8_heapUp_114 : decode cX8_heapUp 114 = .ok (.getfield 54, 3) := by decide +kernel
theorem dX8_heapUp_117 : decode cX8_heapUp 117 = .ok (.iload 7, 2) := by decide +kernel
theorem dX8_heapUp_119 : decode cX8_heapUp 119 = .ok (.iaload, 1) := by decide +kernel
theorem dX8_heapUp_120 : decode cX8_heapUp 120 = .ok (.aload_n 0, 1) := by decide +kernel
theorem dX8_heapUp_121 : decode cX8_heapUp 121 = .ok (.getfield 152, 3) := by decide +kernel
theorem dX8_heapUp_124 : decode cX8_heapUp 124 = .ok (.if_icmp .le 13, 3) := by decide +kernel
theorem dX8_heapUp_127 : decode cX8_heapUp 127 = .ok (.aload_n 0, 1) := by decide +kernel
theorem dX8_heapUp_128 : decode cX8_heapUp 128 = .ok (.getfield 54, 3) := by decide +kernel
theorem dX8_heapUp_131 : decode cX8_heapUp 131 = .ok (.iload 7, 2) := by decide +kernel
theorem dX8_heapUp_133 : decode cX8_heapUp 133 = .ok (.iaload, 1) := by decide +kernel
theorem dX8_heapUp_134 : decode cX8_heapUp 134 = .ok (.goto 7, 3) := by decide +kernel
theorem dX8_heapUp_137 : decode cX8_heapUp 137 = .ok (.aload_n 0, 1) := by decide +kernel
theorem dX8_heapUp_138 : decode cX8_heapUp 138 = .ok (.getfield 152, 3) := by decide +kernel
theorem dX8_heapUp_141 : decode cX8_heapUp 141 = .ok (.putfield 152, 3) := by decide +kernel
theorem dX8_heapUp_144 : decode cX8_heapUp 144 = .ok (.iinc 4 1, 3) := by decide +kernel
theorem dX8_heapUp_147 : decode cX8_heapUp 147 = .ok (.goto (-134), 3) := by decide +kernel
theorem dX8_heapUp_150 : decode cX8_heapUp 150 = .ok (.return_, 1) := by decide +kernel
set_option maxHeartbeats 4000000 in
set_option maxRecDepth 100000 in
theorem c_X8_heapUp (l : Launch) (G : MG) (M : MM) (P : MP) (L : ML) (N : MN) (fw : Nat → Nat) (oc : Nat → Int64) (hp : Nat → Nat) (mo un : Nat) (n aa ac : Nat) (ra : Nat → Nat) (o : Nat → Int32 → Int32 → Int64) (zf zs : Nat → Int32) (zd : Nat → Int64) (hV : mV M n aa ac ra o zf zs zd) (ws : Nat) (hws : ws ≤ 240) (hpk : ∀ i, i < ws → zok n aa ra (fw i) = true ∧ fw i < 1200) (a b : Int32) : Met l yX8_heapUp (wC yX8_heapUp cX8_heapUp 8 none) (rmD 5) (mPc G [.ref (mga G 0), .int (nI ws), .int a, .int b] M P L N (fw, oc, hp, mo, un)) (va_Qv (fun u => ∃ (P2 : MP) (oc2 : Nat → Int64) (hp2 : Nat → Nat), u = (M, P2, L, N, (fw, oc2, hp2, (zta (fun i => zjo o (fw i) a b) ws).1, (zta (fun i => zjo o (fw i) a b) ws).2.1))) (mB G) (mA G)) 0 0 (mA G) := by
  refine mst "DoFinderModel" (by decide) rfl (Nat.le_of_ble_eq_true rfl) ?_
  intro p e s m args below meth c ls F hr hlk hW hl
  have hl : lv_has ls 8 [(0, .ref (mga G 0)), (1, .int (nI ws)), (2, .int a), (3, .int b)] := hl
  have hW : mW G s s.heap s.heap [] M P L N (fw, oc, hp, mo, un) := hW
  have b_a := i32b a
  have b_b := i32b b
  obtain ⟨en, ea, ec, era, eo, ef, es, ed, bn, ba, bc, bf, brc, bra, bd⟩ := id hV
  refine lv_aload_n F.1 F.2.1 dX8_heapUp_0 rfl (lv_at hl 0 rfl) ?_
  refine lv_iconst (v := nI 0) F.1 F.2.1 dX8_heapUp_1 (by decide) ?_
  refine mp_most (k := 0) F hW tm_522 rfl dX8_heapUp_2 (fun H locs hW => ?_)
  have hW : mW G s s.heap H locs M P L N (fw, oc, hp, 0, un) := hW
  refine lv_aload_n F.1 F.2.1 dX8_heapUp_5 rfl (lv_at hl 0 rfl) ?_
  refine lv_iconst (v := nI 0) F.1 F.2.1 dX8_heapUp_6 (by decide) ?_
  refine mp_unlike (k := 0) F hW tm_523 rfl dX8_heapUp_7 (fun H locs hW => ?_)
  have hW : mW G s s.heap H locs M P L N (fw, oc, hp, 0, 0) := hW
  refine lv_iconst (v := nI 0) F.1 F.2.1 dX8_heapUp_10 (by decide) ?_
  refine lv_istore (lv' := [(4, .int (nI 0)), (0, .ref (mga G 0)), (1, .int (nI ws)), (2, .int a), (3, .int b)]) F.1 F.2.1 dX8_heapUp_11 hl (by decide) rfl (fun ls hl => ?_)
  have lp13 : ∀ (k13 : Nat) (Pk : MP) (i : Nat) (mo1 : Nat) (un1 : Nat) (oc1 : Nat → Int64) (hp1 : Nat → Nat), ws - i = k13 → (i ≤ ws) → (zag (zta (fun i => zjo o (fw i) a b) i) mo1 un1 oc1 hp1) → ∀ (H : Heap) (locs : List Loc) (ls : Array Slot), mW G s s.heap H locs M Pk L N (fw, oc1, hp1, mo1, un1) →  lv_has ls 8 [(0, .ref (mga G 0)), (1, .int (nI ws)), (2, .int a), (3, .int b), (4, .int (nI i))] → W p l e (rmD 5) s m args below meth c H locs 0 0 (MQ below (va_Qv (fun u => ∃ (P2 : MP) (oc2 : Nat → Int64) (hp2 : Nat → Nat), u = (M, P2, L, N, (fw, oc2, hp2, (zta (fun i => zjo o (fw i) a b) ws).1, (zta (fun i => zjo o (fw i) a b) ws).2.1))) (mB G) (mA G)) args s 0 0 (mA G)) (F0 m 13 ls []) := by
    intro k13
    induction k13 using Nat.strongRecOn with
    | ind k13 ih13 =>
      intro Pk i mo1 un1 oc1 hp1 hk13 h1 h2 H locs ls hW hl
      obtain ⟨g1, g2, g3, g4⟩ := id h2
      have zl := zta_le (fun i => zjo o (fw i) a b) i
      have zl1 := zl.1
      have zl2 := zl.2.1
      refine lv_iload F.1 F.2.1 dX8_heapUp_13 (lv_at hl 4 rfl) ?_
      refine lv_iload_n F.1 F.2.1 dX8_heapUp_15 rfl (lv_at hl 1 rfl) ?_
      refine lv_icmp_ge (tgt := 150) F.1 F.2.1 dX8_heapUp_16 (by decide) (fun c16 => ?_) (fun c16 => ?_)
      · have c16 := ci_le (a := ((ws : Nat) : Int)) (b := ((i : Nat) : Int)) (nI_toInt (by omega)) (nI_toInt (by omega)) c16
        refine mre_v F hr hlk hW dX8_heapUp_150 ?_
        obtain ⟨g1, g2, -, -⟩ := h2
        rw [show i = ws by omega] at g1 g2
        exact ⟨_, _, _, by rw [g1, g2]⟩
      · have c16 := ci_nle (a := ((ws : Nat) : Int)) (b := ((i : Nat) : Int)) (nI_toInt (by omega)) (nI_toInt (by omega)) c16
        have hq := hpk i (by omega)
        refine lv_aload_n F.1 F.2.1 dX8_heapUp_19 rfl (lv_at hl 0 rfl) ?_
        refine lv_aload_n F.1 F.2.1 dX8_heapUp_20 rfl (lv_at hl 0 rfl) ?_
        refine mg_foundWays F hW tm_519 dX8_heapUp_21 ?_
        refine lv_iload F.1 F.2.1 dX8_heapUp_24 (lv_at hl 4 rfl) ?_
        refine ml_fw (i := i) F hW rfl (by omega) dX8_heapUp_26 ?_
        refine lv_iload_n F.1 F.2.1 dX8_heapUp_27 rfl (lv_at hl 2 rfl) ?_
        refine lv_iload_n F.1 F.2.1 dX8_heapUp_28 rfl (lv_at hl 3 rfl) ?_
        refine mca_l (b := (mga G 0)) (As := [.int (nI (fw i)), .int a, .int b]) (rest := []) F (c_X8_outcomeAt l G M Pk L N (fw, oc1, hp1, mo1, un1) n aa ac ra o zf zs zd hV (fw i) (by omega) hq.1 a b) (xcw F.2.2.2.2 ca_X8_outcomeAt tm_683 rfl rfl ⟨by decide, by decide⟩) (mr_X8 hW) hW rfl hl.1 rfl (Nat.le_of_ble_eq_true rfl) dX8_heapUp_29 (fun r29 u29 H locs hp29 hW => ?_)
        obtain ⟨rfl, P29, rfl⟩ := hp29
        have hW : mW G s s.heap H locs M P29 L N (fw, oc1, hp1, mo1, un1) := hW
        refine lv_lstore (lv' := [(5, .long (zjo o (fw i) a b)), (0, .ref (mga G 0)), (1, .int (nI ws)), (2, .int a), (3, .int b), (4, .int (nI i))]) F.1 F.2.1 dX8_heapUp_32 hl (by decide) rfl (fun ls hl => ?_)
        refine lv_iconst (v := nI 0) F.1 F.2.1 dX8_heapUp_34 (by decide) ?_
        refine lv_istore (lv' := [(7, .int (nI 0)), (5, .long (zjo o (fw i) a b)), (0, .ref (mga G 0)), (1, .int (nI ws)), (2, .int a), (3, .int b), (4, .int (nI i))]) F.1 F.2.1 dX8_heapUp_35 hl (by decide) rfl (fun ls hl => ?_)
        have lp37 : ∀ (k37 : Nat) (k : Nat), un1 - k = k37 → (k ≤ un1) → (∀ j, j < k → decide (oc1 j ≠ zjo o (fw i) a b) = true) → ∀ (H : Heap) (locs : List Loc) (ls : Array Slot), mW G s s.heap H locs M P29 L N (fw, oc1, hp1, mo1, un1) →  lv_has ls 8 [(0, .ref (mga G 0)), (1, .int (nI ws)), (2, .int a), (3, .int b), (4, .int (nI i)), (5, .long (zjo o (fw i) a b)), (7, .int (nI k))] → W p l e (rmD 5) s m args below meth c H locs 0 0 (MQ below (va_Qv (fun u => ∃ (P2 : MP) (oc2 : Nat → Int64) (hp2 : Nat → Nat), u = (M, P2, L, N, (fw, oc2, hp2, (zta (fun i => zjo o (fw i) a b) ws).1, (zta (fun i => zjo o (fw i) a b) ws).2.1))) (mB G) (mA G)) args s 0 0 (mA G)) (F0 m 37 ls []) := by
          intro k37
          induction k37 using Nat.strongRecOn with
          | ind k37 ih37 =>
            intro k hk37 h3 h4 H locs ls hW hl
            refine lv_iload F.1 F.2.1 dX8_heapUp_37 (lv_at hl 6 rfl) ?_
            refine lv_aload_n F.1 F.2.1 dX8_heapUp_39 rfl (lv_at hl 0 rfl) ?_
            refine mg_unlike F hW tm_523 dX8_heapUp_40 ?_
            refine lv_icmp_ge (tgt := 65) F.1 F.2.1 dX8_heapUp_43 (by decide) (fun c43 => ?_) (fun c43 => ?_)
            · have c43 := ci_le (a := ((un1 : Nat) : Int)) (b := ((k : Nat) : Int)) (nI_toInt (by omega)) (nI_toInt (by omega)) c43
              skip
              refine lv_iload F.1 F.2.1 dX8_heapUp_65 (lv_at hl 6 rfl) ?_
              refine lv_aload_n F.1 F.2.1 dX8_heapUp_67 rfl (lv_at hl 0 rfl) ?_
              refine mg_unlike F hW tm_523 dX8_heapUp_68 ?_
              refine lv_icmp_ne (tgt := 101) F.1 F.2.1 dX8_heapUp_71 (by decide) (fun c71 => ?_) (fun c71 => ?_)
              · exfalso
                have c71 := ci_ne (a := ((k : Nat) : Int)) (b := ((un1 : Nat) : Int)) (nI_toInt (by omega)) (nI_toInt (by omega)) c71
                omega
              have c71 := ci_eq (a := ((k : Nat) : Int)) (b := ((un1 : Nat) : Int)) (nI_toInt (by omega)) (nI_toInt (by omega)) c71
              refine lv_aload_n F.1 F.2.1 dX8_heapUp_74 rfl (lv_at hl 0 rfl) ?_
              refine mg_outcomes F hW tm_520 dX8_heapUp_75 ?_
              refine lv_iload F.1 F.2.1 dX8_heapUp_78 (lv_at hl 6 rfl) ?_
              refine lv_lload F.1 F.2.1 dX8_heapUp_80 (lv_at hl 5 rfl) ?_
              refine ms_oc (i := k) F hW rfl (by omega) dX8_heapUp_82 (fun H locs hW => ?_)
              have hW : mW G s s.heap H locs M P29 L N (fw, vp_updL oc1 k (zjo o (fw i) a b), hp1, mo1, un1) := hW
              refine lv_aload_n F.1 F.2.1 dX8_heapUp_83 rfl (lv_at hl 0 rfl) ?_
              refine mg_heaps F hW tm_521 dX8_heapUp_84 ?_
              refine lv_iload F.1 F.2.1 dX8_heapUp_87 (lv_at hl 6 rfl) ?_
              refine lv_iconst (v := nI 0) F.1 F.2.1 dX8_heapUp_89 (by decide) ?_
              refine ms_hp (i := k) (k := 0) F hW rfl (by omega) rfl dX8_heapUp_90 (fun H locs hW => ?_)
              have hW : mW G s s.heap H locs M P29 L N (fw, vp_updL oc1 k (zjo o (fw i) a b), upN hp1 k 0, mo1, un1) := hW
              refine lv_aload_n F.1 F.2.1 dX8_heapUp_91 rfl (lv_at hl 0 rfl) ?_
              refine lv_dup F.1 F.2.1 dX8_heapUp_92 rfl ?_
              refine mg_unlike F hW tm_523 dX8_heapUp_93 ?_
              refine lv_iconst (v := nI 1) F.1 F.2.1 dX8_heapUp_96 (by decide) ?_
              refine ax_add (z := nI (un1 + 1)) F (nI_add _ _) dX8_heapUp_97 ?_
              refine mp_unlike (k := (un1 + 1)) F hW tm_523 rfl dX8_heapUp_98 (fun H locs hW => ?_)
              have hW : mW G s s.heap H locs M P29 L N (fw, vp_updL oc1 k (zjo o (fw i) a b), upN hp1 k 0, mo1, un1 + 1) := hW
              refine lv_aload_n F.1 F.2.1 dX8_heapUp_101 rfl (lv_at hl 0 rfl) ?_
              refine mg_heaps F hW tm_521 dX8_heapUp_102 ?_
              refine lv_iload F.1 F.2.1 dX8_heapUp_105 (lv_at hl 6 rfl) ?_
              refine lv_dup2_11 F.1 F.2.1 dX8_heapUp_107 rfl rfl ?_
              refine ml_hp (i := k) F hW rfl (by omega) dX8_heapUp_108 ?_
              refine ax_re (show nI ((upN hp1 k 0) k) = nI 0 from congrArg nI upN_s) ?_
              refine lv_iconst (v := nI 1) F.1 F.2.1 dX8_heapUp_109 (by decide) ?_
              refine ax_add (z := nI 1) F (nI_add _ _) dX8_heapUp_110 ?_
              refine ms_hp (i := k) (k := 1) F hW rfl (by omega) rfl dX8_heapUp_111 (fun H locs hW => ?_)
              have hW : mW G s s.heap H locs M P29 L N (fw, vp_updL oc1 k (zjo o (fw i) a b), upN (upN hp1 k 0) k 1, mo1, un1 + 1) := hW
              refine lv_aload_n F.1 F.2.1 dX8_heapUp_112 rfl (lv_at hl 0 rfl) ?_
              refine lv_aload_n F.1 F.2.1 dX8_heapUp_113 rfl (lv_at hl 0 rfl) ?_
              refine mg_heaps F hW tm_521 dX8_heapUp_114 ?_
              refine lv_iload F.1 F.2.1 dX8_heapUp_117 (lv_at hl 6 rfl) ?_
              refine ml_hp (i := k) F hW rfl (by omega) dX8_heapUp_119 ?_
              refine ax_re (show nI ((upN (upN hp1 k 0) k 1) k) = nI 1 from congrArg nI upN_s) ?_
              refine lv_aload_n F.1 F.2.1 dX8_heapUp_120 rfl (lv_at hl 0 rfl) ?_
              refine mg_most F hW tm_522 dX8_heapUp_121 ?_
              refine lv_icmp_le (tgt := 137) F.1 F.2.1 dX8_heapUp_124 (by decide) (fun c124 => ?_) (fun c124 => ?_)
              · have c124 := ci_le (a := 1) (b := ((mo1 : Nat) : Int)) (by decide) (nI_toInt (by omega)) c124
                refine lv_aload_n F.1 F.2.1 dX8_heapUp_137 rfl (lv_at hl 0 rfl) ?_
                refine mg_most F hW tm_522 dX8_heapUp_138 ?_
                refine mp_most (k := mo1) F hW tm_522 rfl dX8_heapUp_141 (fun H locs hW => ?_)
                have hW : mW G s s.heap H locs M P29 L N (fw, vp_updL oc1 k (zjo o (fw i) a b), upN (upN hp1 k 0) k 1, mo1, un1 + 1) := hW
                refine lv_iinc (v := nI (i + 1)) (lv' := [(4, .int (nI (i + 1))), (0, .ref (mga G 0)), (1, .int (nI ws)), (2, .int a), (3, .int b), (5, .long (zjo o (fw i) a b)), (7, .int (nI k))]) F.1 F.2.1 dX8_heapUp_144 hl (k := 4) rfl (nI_add _ 1) (by decide) rfl (fun ls hl => ?_)
                refine lv_goto (tgt := 13) F.1 F.2.1 dX8_heapUp_147 (by decide) ?_
                exact ih13 (ws - (i + 1)) (by omega) P29 (i + 1) mo1 (un1 + 1) (vp_updL oc1 k (zjo o (fw i) a b)) (upN (upN hp1 k 0) k 1) rfl (by omega) (zag_new2 (by omega) h2 h4 (by omega) upN_s (fun j hj => by rw [upN_n (by omega), upN_n (by omega)])) _ _ _ hW (lv_sub hl [1, 2, 3, 4, 0] rfl)
              · have c124 := ci_nle (a := 1) (b := ((mo1 : Nat) : Int)) (by decide) (nI_toInt (by omega)) c124
                refine lv_aload_n F.1 F.2.1 dX8_heapUp_127 rfl (lv_at hl 0 rfl) ?_
                refine mg_heaps F hW tm_521 dX8_heapUp_128 ?_
                refine lv_iload F.1 F.2.1 dX8_heapUp_131 (lv_at hl 6 rfl) ?_
                refine ml_hp (i := k) F hW rfl (by omega) dX8_heapUp_133 ?_
                refine ax_re (show nI ((upN (upN hp1 k 0) k 1) k) = nI 1 from congrArg nI upN_s) ?_
                refine lv_goto (tgt := 141) F.1 F.2.1 dX8_heapUp_134 (by decide) ?_
                refine mp_most (k := 1) F hW tm_522 rfl dX8_heapUp_141 (fun H locs hW => ?_)
                have hW : mW G s s.heap H locs M P29 L N (fw, vp_updL oc1 k (zjo o (fw i) a b), upN (upN hp1 k 0) k 1, 1, un1 + 1) := hW
                refine lv_iinc (v := nI (i + 1)) (lv' := [(4, .int (nI (i + 1))), (0, .ref (mga G 0)), (1, .int (nI ws)), (2, .int a), (3, .int b), (5, .long (zjo o (fw i) a b)), (7, .int (nI k))]) F.1 F.2.1 dX8_heapUp_144 hl (k := 4) rfl (nI_add _ 1) (by decide) rfl (fun ls hl => ?_)
                refine lv_goto (tgt := 13) F.1 F.2.1 dX8_heapUp_147 (by decide) ?_
                exact ih13 (ws - (i + 1)) (by omega) P29 (i + 1) 1 (un1 + 1) (vp_updL oc1 k (zjo o (fw i) a b)) (upN (upN hp1 k 0) k 1) rfl (by omega) (zag_new2 (by omega) h2 h4 (by omega) upN_s (fun j hj => by rw [upN_n (by omega), upN_n (by omega)])) _ _ _ hW (lv_sub hl [1, 2, 3, 4, 0] rfl)
            · have c43 := ci_nle (a := ((un1 : Nat) : Int)) (b := ((k : Nat) : Int)) (nI_toInt (by omega)) (nI_toInt (by omega)) c43
              refine lv_aload_n F.1 F.2.1 dX8_heapUp_46 rfl (lv_at hl 0 rfl) ?_
              refine mg_outcomes F hW tm_520 dX8_heapUp_47 ?_
              refine lv_iload F.1 F.2.1 dX8_heapUp_50 (lv_at hl 6 rfl) ?_
              refine ml_oc (i := k) F hW rfl (by omega) dX8_heapUp_52 ?_
              refine lv_lload F.1 F.2.1 dX8_heapUp_53 (lv_at hl 5 rfl) ?_
              refine W.lcmp F.1 F.2.1 dX8_heapUp_55 ?_
              refine lv_if_eq (tgt := 65) F.1 F.2.1 dX8_heapUp_56 (by decide) (fun c56 => ?_) (fun c56 => ?_)
              · have c56 := (lg_cmp_eq _ _).mp c56
                have gk := g4 k (by omega)
                have gl := zl.2.2 k
                refine lv_iload F.1 F.2.1 dX8_heapUp_65 (lv_at hl 6 rfl) ?_
                refine lv_aload_n F.1 F.2.1 dX8_heapUp_67 rfl (lv_at hl 0 rfl) ?_
                refine mg_unlike F hW tm_523 dX8_heapUp_68 ?_
                refine lv_icmp_ne (tgt := 101) F.1 F.2.1 dX8_heapUp_71 (by decide) (fun c71 => ?_) (fun c71 => ?_)
                rotate_left
                · exfalso
                  have c71 := ci_eq (a := ((k : Nat) : Int)) (b := ((un1 : Nat) : Int)) (nI_toInt (by omega)) (nI_toInt (by omega)) c71
                  omega
                have c71 := ci_ne (a := ((k : Nat) : Int)) (b := ((un1 : Nat) : Int)) (nI_toInt (by omega)) (nI_toInt (by omega)) c71
                refine lv_aload_n F.1 F.2.1 dX8_heapUp_101 rfl (lv_at hl 0 rfl) ?_
                refine mg_heaps F hW tm_521 dX8_heapUp_102 ?_
                refine lv_iload F.1 F.2.1 dX8_heapUp_105 (lv_at hl 6 rfl) ?_
                refine lv_dup2_11 F.1 F.2.1 dX8_heapUp_107 rfl rfl ?_
                refine ml_hp (i := k) F hW rfl (by omega) dX8_heapUp_108 ?_
                refine lv_iconst (v := nI 1) F.1 F.2.1 dX8_heapUp_109 (by decide) ?_
                refine ax_add (z := nI ((hp1 k) + 1)) F (nI_add _ _) dX8_heapUp_110 ?_
                refine ms_hp (i := k) (k := ((hp1 k) + 1)) F hW rfl (by omega) rfl dX8_heapUp_111 (fun H locs hW => ?_)
                have hW : mW G s s.heap H locs M P29 L N (fw, oc1, upN hp1 k ((hp1 k) + 1), mo1, un1) := hW
                refine lv_aload_n F.1 F.2.1 dX8_heapUp_112 rfl (lv_at hl 0 rfl) ?_
                refine lv_aload_n F.1 F.2.1 dX8_heapUp_113 rfl (lv_at hl 0 rfl) ?_
                refine mg_heaps F hW tm_521 dX8_heapUp_114 ?_
                refine lv_iload F.1 F.2.1 dX8_heapUp_117 (lv_at hl 6 rfl) ?_
                refine ml_hp (i := k) F hW rfl (by omega) dX8_heapUp_119 ?_
                refine ax_re (show nI ((upN hp1 k ((hp1 k) + 1)) k) = nI (hp1 k + 1) from congrArg nI upN_s) ?_
                refine lv_aload_n F.1 F.2.1 dX8_heapUp_120 rfl (lv_at hl 0 rfl) ?_
                refine mg_most F hW tm_522 dX8_heapUp_121 ?_
                refine lv_icmp_le (tgt := 137) F.1 F.2.1 dX8_heapUp_124 (by decide) (fun c124 => ?_) (fun c124 => ?_)
                · have c124 := ci_le (a := ((hp1 k + 1 : Nat) : Int)) (b := ((mo1 : Nat) : Int)) (nI_toInt (by omega)) (nI_toInt (by omega)) c124
                  refine lv_aload_n F.1 F.2.1 dX8_heapUp_137 rfl (lv_at hl 0 rfl) ?_
                  refine mg_most F hW tm_522 dX8_heapUp_138 ?_
                  refine mp_most (k := mo1) F hW tm_522 rfl dX8_heapUp_141 (fun H locs hW => ?_)
                  have hW : mW G s s.heap H locs M P29 L N (fw, oc1, upN hp1 k ((hp1 k) + 1), mo1, un1) := hW
                  refine lv_iinc (v := nI (i + 1)) (lv' := [(4, .int (nI (i + 1))), (0, .ref (mga G 0)), (1, .int (nI ws)), (2, .int a), (3, .int b), (5, .long (zjo o (fw i) a b)), (7, .int (nI k))]) F.1 F.2.1 dX8_heapUp_144 hl (k := 4) rfl (nI_add _ 1) (by decide) rfl (fun ls hl => ?_)
                  refine lv_goto (tgt := 13) F.1 F.2.1 dX8_heapUp_147 (by decide) ?_
                  exact ih13 (ws - (i + 1)) (by omega) P29 (i + 1) mo1 un1 oc1 (upN hp1 k ((hp1 k) + 1)) rfl (by omega) (zag_old2 h2 h4 c56 (by omega) (by omega)) _ _ _ hW (lv_sub hl [1, 2, 3, 4, 0] rfl)
                · have c124 := ci_nle (a := ((hp1 k + 1 : Nat) : Int)) (b := ((mo1 : Nat) : Int)) (nI_toInt (by omega)) (nI_toInt (by omega)) c124
                  refine lv_aload_n F.1 F.2.1 dX8_heapUp_127 rfl (lv_at hl 0 rfl) ?_
                  refine mg_heaps F hW tm_521 dX8_heapUp_128 ?_
                  refine lv_iload F.1 F.2.1 dX8_heapUp_131 (lv_at hl 6 rfl) ?_
                  refine ml_hp (i := k) F hW rfl (by omega) dX8_heapUp_133 ?_
                  refine ax_re (show nI ((upN hp1 k ((hp1 k) + 1)) k) = nI (hp1 k + 1) from congrArg nI upN_s) ?_
                  refine lv_goto (tgt := 141) F.1 F.2.1 dX8_heapUp_134 (by decide) ?_
                  refine mp_most (k := (hp1 k + 1)) F hW tm_522 rfl dX8_heapUp_141 (fun H locs hW => ?_)
                  have hW : mW G s s.heap H locs M P29 L N (fw, oc1, upN hp1 k ((hp1 k) + 1), hp1 k + 1, un1) := hW
                  refine lv_iinc (v := nI (i + 1)) (lv' := [(4, .int (nI (i + 1))), (0, .ref (mga G 0)), (1, .int (nI ws)), (2, .int a), (3, .int b), (5, .long (zjo o (fw i) a b)), (7, .int (nI k))]) F.1 F.2.1 dX8_heapUp_144 hl (k := 4) rfl (nI_add _ 1) (by decide) rfl (fun ls hl => ?_)
                  refine lv_goto (tgt := 13) F.1 F.2.1 dX8_heapUp_147 (by decide) ?_
                  exact ih13 (ws - (i + 1)) (by omega) P29 (i + 1) (hp1 k + 1) un1 oc1 (upN hp1 k ((hp1 k) + 1)) rfl (by omega) (zag_old2 h2 h4 c56 (by omega) (by omega)) _ _ _ hW (lv_sub hl [1, 2, 3, 4, 0] rfl)
              · have c56 := fun q => c56 ((lg_cmp_eq _ _).mpr q)
                refine lv_iinc (v := nI (k + 1)) (lv' := [(7, .int (nI (k + 1))), (0, .ref (mga G 0)), (1, .int (nI ws)), (2, .int a), (3, .int b), (4, .int (nI i)), (5, .long (zjo o (fw i) a b))]) F.1 F.2.1 dX8_heapUp_59 hl (k := 6) rfl (nI_add _ 1) (by decide) rfl (fun ls hl => ?_)
                refine lv_goto (tgt := 37) F.1 F.2.1 dX8_heapUp_62 (by decide) ?_
                exact ih37 (un1 - (k + 1)) (by omega) (k + 1) rfl (by omega) (lt_s h4 (decide_eq_true c56)) _ _ _ hW (lv_sub hl [1, 2, 3, 4, 5, 6, 0] rfl)
        exact lp37 (un1 - 0) 0 rfl (Nat.zero_le _) (lt_0) _ _ _ hW (lv_sub hl [2, 3, 4, 5, 6, 1, 0] rfl)
  exact lp13 (ws - 0) P 0 0 0 oc hp rfl (Nat.zero_le _) (⟨rfl, rfl, lt_0, lt_0⟩) _ _ _ hW (lv_sub hl [1, 2, 3, 4, 0] rfl)
theorem dX8_parting_0 : decode cX8_parting 0 = .ok (.iload_n 1, 1) := by decide +kernel
theorem dX8_parting_1 : decode cX8_parting 1 = .ok (.iconst 0, 1) := by decide +kernel
theorem dX8_parting_2 : decode cX8_parting 2 = .ok (.iconst 3, 1) := by decide +kernel
theorem dX8_parting_3 : decode cX8_parting 3 = .ok (.invokestatic 60, 3) := by decide +kernel
theorem dX8_parting_6 : decode cX8_parting 6 = .ok (.ifCond .ne 7, 3) := by decide +kernel
theorem dX8_parting_9 : decode cX8_parting 9 = .ok (.sipush (-1000), 3) := by decide +kernel
theorem dX8_parting_12 : decode cX8_parting 12 = .ok (.ireturn, 1) := by decide +kernel
theorem dX8_parting_13 : decode cX8_parting 13 = .ok (.aload_n 0, 1) := by decide +kernel
theorem dX8_parting_14 : decode cX8_parting 14 = .ok (.invokevirtual 158, 3) := by decide +kernel
theorem dX8_parting_17 : decode cX8_parting 17 = .ok (.istore_n 2, 1) := by decide +kernel
theorem dX8_parting_18 : decode cX8_parting 18 = .ok (.iload_n 2, 1) := by decide +kernel
theorem dX8_parting_19 : decode cX8_parting 19 = .ok (.ifCond .ne 7, 3) := by decide +kernel
theorem dX8_parting_22 : decode cX8_parting 22 = .ok (.sipush (-1000), 3) := by decide +kernel
theorem dX8_parting_25 : decode cX8_parting 25 = .ok (.ireturn, 1) := by decide +kernel
theorem dX8_parting_26 : decode cX8_parting 26 = .ok (.iconst (-1), 1) := by decide +kernel
theorem dX8_parting_27 : decode cX8_parting 27 = .ok (.istore_n 3, 1) := by decide +kernel
theorem dX8_parting_28 : decode cX8_parting 28 = .ok (.iconst 0, 1) := by decide +kernel
theorem dX8_parting_29 : decode cX8_parting 29 = .ok (.istore 4, 2) := by decide +kernel
theorem dX8_parting_31 : decode cX8_parting 31 = .ok (.iconst 0, 1) := by decide +kernel
theorem dX8_parting_32 : decode cX8_parting 32 = .ok (.istore 5, 2) := by decide +kernel
theorem dX8_parting_34 : decode cX8_parting 34 = .ok (.iconst 0, 1) := by decide +kernel
theorem dX8_parting_35 : decode cX8_parting 35 = .ok (.istore 6, 2) := by decide +kernel
theorem dX8_parting_37 : decode cX8_parting 37 = .ok (.iload 6, 2) := by decide +kernel
theorem dX8_parting_39 : decode cX8_parting 39 = .ok (.aload_n 0, 1) := by decide +kernel
theorem dX8_parting_40 : decode cX8_parting 40 = .ok (.getfield 26, 3) := by decide +kernel
theorem dX8_parting_43 : decode cX8_parting 43 = .ok (.invokestatic 162, 3) := by decide +kernel
theorem dX8_parting_46 : decode cX8_parting 46 = .ok (.if_icmp .ge 60, 3) := by decide +kernel
theorem dX8_parting_49 : decode cX8_parting 49 = .ok (.aload_n 0, 1) := by decide +kernel
theorem dX8_parting_50 : decode cX8_parting 50 = .ok (.iload_n 2, 1) := by decide +kernel
theorem dX8_parting_51 : decode cX8_parting 51 = .ok (.aload_n 0, 1) := by decide +kernel
theorem dX8_parting_52 : decode cX8_parting 52 = .ok (.getfield 26, 3) := by decide +kernel
theorem dX8_parting_55 : decode cX8_parting 55 = .ok (.iload 6, 2) := by decide +kernel
theorem dX8_parting_57 : decode cX8_parting 57 = .ok (.invokestatic 118, 3) := by decide +kernel
theorem dX8_parting_60 : decode cX8_parting 60 = .ok (.aload_n 0, 1) := by decide +kernel
theorem dX8_parting_61 : decode cX8_parting 61 = .ok (.getfield 26, 3) := by decide +kernel
theorem dX8_parting_64 : decode cX8_parting 64 = .ok (.iload 6, 2) := by decide +kernel
theorem dX8_parting_66 : decode cX8_parting 66 = .ok (.invokestatic 122, 3) := by decide +kernel
theorem dX8_parting_69 : decode cX8_parting 69 = .ok (.invokevirtual 165, 3) := by decide +kernel
theorem dX8_parting_72 : decode cX8_parting 72 = .ok (.iload_n 3, 1) := by decide +kernel
theorem dX8_parting_73 : decode cX8_parting 73 = .ok (.ifCond .lt 12, 3) := by decide +kernel
theorem dX8_parting_76 : decode cX8_parting 76 = .ok (.aload_n 0, 1) := by decide +kernel
theorem dX8_parting_77 : decode cX8_parting 77 = .ok (.getfield 152, 3) := by decide +kernel
theorem dX8_parting_80 : decode cX8_parting 80 = .ok (.iload 4, 2) := by decide +kernel
theorem dX8_parting_82 : decode cX8_parting 82 = .ok (.if_icmp .ge 18, 3) := by decide +kernel
theorem dX8_parting_85 : decode cX8_parting 85 = .ok (.iload 6, 2) := by decide +kernel
theorem dX8_parting_87 : decode cX8_parting 87 = .ok (.istore_n 3, 1) := by decide +kernel
theorem dX8_parting_88 : decode cX8_parting 88 = .ok (.aload_n 0, 1) := by decide +kernel
theorem dX8_parting_89 : decode cX8_parting 89 = .ok (.getfield 152, 3) := by decide +kernel
theorem dX8_parting_92 : decode cX8_parting 92 = .ok (.istore 4, 2) := by decide +kernel
theorem dX8_parting_94 : decode cX8_parting 94 = .ok (.aload_n 0, 1) := by decide +kernel
theorem dX8_parting_95 : decode cX8_parting 95 = .ok (.getfield 155, 3) := by decide +kernel
theorem dX8_parting_98 : decode cX8_parting 98 = .ok (.istore 5, 2) := by decide +kernel
theorem dX8_parting_100 : decode cX8_parting 100 = .ok (.iinc 6 1, 3) := by decide +kernel
theorem dX8_parting_103 : decode cX8_parting 103 = .ok (.goto (-66), 3) := by decide +kernel
theorem dX8_parting_106 : decode cX8_parting 106 = .ok (.iload_n 1, 1) := by decide +kernel
theorem dX8_parting_107 : decode cX8_parting 107 = .ok (.ifCond .ne 14, 3) := by decide +kernel
theorem dX8_parting_110 : decode cX8_parting 110 = .ok (.aload_n 0, 1) := by decide +kernel
theorem dX8_parting_111 : decode cX8_parting 111 = .ok (.getfield 26, 3) := by decide +kernel
theorem dX8_parting_114 : decode cX8_parting 114 = .ok (.iload_n 3, 1) := by decide +kernel
theorem dX8_parting_115 : decode cX8_parting 115 = .ok (.invokestatic 118, 3) := by decide +kernel
theorem dX8_parting_118 : decode cX8_parting 118 = .ok (.goto 31, 3) := by decide +kernel
theorem dX8_parting_121 : decode cX8_parting 121 = .ok (.iload_n 1, 1) := by decide +kernel
theorem dX8_parting_122 : decode cX8_parting 122 = .ok (.iconst 1, 1) := by decide +kernel
theorem dX8_parting_123 : decode cX8_parting 123 = .ok (.if_icmp .ne 14, 3) := by decide +kernel
theorem dX8_parting_126 : decode cX8_parting 126 = .ok (.aload_n 0, 1) := by decide +kernel
theorem dX8_parting_127 : decode cX8_parting 127 = .ok (.getfield 26, 3) := by decide +kernel
theorem dX8_parting_130 : decode cX8_parting 130 = .ok (.iload_n 3, 1) := by decide +kernel
theorem dX8_parting_131 : decode cX8_parting 131 = .ok (.invokestatic 122, 3) := by decide +kernel
theorem dX8_parting_134 : decode cX8_parting 134 = .ok (.goto 15, 3) := by decide +kernel
theorem dX8_parting_137 : decode cX8_parting 137 = .ok (.iload_n 1, 1) := by decide +kernel
theorem dX8_parting_138 : decode cX8_parting 138 = .ok (.iconst 2, 1) := by decide +kernel
theorem dX8_parting_139 : decode cX8_parting 139 = .ok (.if_icmp .ne 8, 3) := by decide +kernel
theorem dX8_parting_142 : decode cX8_parting 142 = .ok (.iload 4, 2) := by decide +kernel
theorem dX8_parting_144 : decode cX8_parting 144 = .ok (.goto 5, 3) := by decide +kernel
theorem dX8_parting_147 : decode cX8_parting 147 = .ok (.iload 5, 2) := by decide +kernel
theorem dX8_parting_149 : decode cX8_parting 149 = .ok (.ireturn, 1) := by decide +kernel
set_option maxHeartbeats 4000000 in
set_option maxRecDepth 100000 in
theorem c_X8_parting (l : Launch) (G : MG) (M : MM) (P : MP) (L : ML) (N : MN) (fw : Nat → Nat) (oc : Nat → Int64) (hp : Nat → Nat) (mo un : Nat) (n aa ac : Nat) (ra : Nat → Nat) (o : Nat → Int32 → Int32 → Int64) (zf zs : Nat → Int32) (zd : Nat → Int64) (hV : mV M n aa ac ra o zf zs zd) (x : Int32) : Met l yX8_parting (wC yX8_parting cX8_parting 7 (some .int)) (rmD 8) (mPc G [.ref (mga G 0), .int x] M P L N (fw, oc, hp, mo, un)) (va_Qi (fun v u => v = zpart0 ((zwl n aa ra 1200).filter (fun w => decide (zst o zf zs zd ac w = 0))) o aa x ∧ ∃ (P2 : MP) (L2 : ML) (N2 : MN) (V2 : MV), u = (M, P2, L2, N2, V2)) (mB G) (mA G)) 0 0 (mA G) := by
  refine mst "DoFinderModel" (by decide) rfl (Nat.le_of_ble_eq_true rfl) ?_
  intro p e s m args below meth c ls F hr hlk hW hl
  have hl : lv_has ls 7 [(0, .ref (mga G 0)), (1, .int x)] := hl
  have hW : mW G s s.heap s.heap [] M P L N (fw, oc, hp, mo, un) := hW
  have b_x := i32b x
  obtain ⟨en, ea, ec, era, eo, ef, es, ed, bn, ba, bc, bf, brc, bra, bd⟩ := id hV
  have w9 := wN_le aa
  have w8 : 0 < wN aa := by unfold wN; split <;> omega
  refine lv_iload_n F.1 F.2.1 dX8_parting_0 rfl (lv_at hl 1 rfl) ?_
  refine lv_iconst (v := nI 0) F.1 F.2.1 dX8_parting_1 (by decide) ?_
  refine lv_iconst (v := nI 3) F.1 F.2.1 dX8_parting_2 (by decide) ?_
  refine pca (As := [.int x, .int (nI 0), .int (nI 3)]) (rest := []) F (c_X8_in l x (nI 0) (nI 3) x.toInt 0 3 rfl (by decide) (by decide)) (xcwS F.2.2.2.2 ca_X8_in tm_577 rfl rfl ⟨by decide, by decide⟩) rfl hl.1 rfl (Nat.le_of_ble_eq_true rfl) dX8_parting_3 (fun r3 hr3 => ?_)
  rcases hr3 with ⟨rfl, y3⟩ | ⟨rfl, y3⟩
  · skip
    refine lv_if_ne (tgt := 13) F.1 F.2.1 dX8_parting_6 (by decide) (fun _ => ?_) (fun q => absurd q (by decide))
    refine lv_aload_n F.1 F.2.1 dX8_parting_13 rfl (lv_at hl 0 rfl) ?_
    refine mca_i (b := (mga G 0)) (As := []) (rest := []) F (c_X8_findWays l G M P L N fw oc hp mo un n aa ac ra o zf zs zd hV) (xcw F.2.2.2.2 ca_X8_findWays tm_727 rfl rfl ⟨by decide, by decide⟩) (mr_X8 hW) hW rfl hl.1 rfl (Nat.le_of_ble_eq_true rfl) dX8_parting_14 (fun r14 u14 H locs hp14 hW => ?_)
    obtain ⟨rfl, P14, L14, fw14, rfl, hz⟩ := hp14
    have hW : mW G s s.heap H locs M P14 L14 N (fw14, oc, hp, mo, un) := hW
    have lb : ((zwl n aa ra 1200).filter (fun w => decide (zst o zf zs zd ac w = 0))).length ≤ 240 := Nat.le_trans (List.length_filter_le _ _) (zwl_all_len bn)
    refine lv_istore_n (lv' := [(2, .int (nI (((zwl n aa ra 1200).filter (fun w => decide (zst o zf zs zd ac w = 0))).length))), (0, .ref (mga G 0)), (1, .int x)]) F.1 F.2.1 dX8_parting_17 rfl hl (by decide) rfl (fun ls hl => ?_)
    refine lv_iload_n F.1 F.2.1 dX8_parting_18 rfl (lv_at hl 0 rfl) ?_
    refine lv_if_ne (tgt := 26) F.1 F.2.1 dX8_parting_19 (by decide) (fun c19 => ?_) (fun c19 => ?_)
    · have c19 := ci_ne (a := ((((zwl n aa ra 1200).filter (fun w => decide (zst o zf zs zd ac w = 0))).length : Nat) : Int)) (b := 0) (nI_toInt (by omega)) ci_0 c19
      refine lv_iconst (v := (-1)) F.1 F.2.1 dX8_parting_26 (by decide) ?_
      refine lv_istore_n (lv' := [(3, .int (-1)), (2, .int (nI (((zwl n aa ra 1200).filter (fun w => decide (zst o zf zs zd ac w = 0))).length))), (0, .ref (mga G 0)), (1, .int x)]) F.1 F.2.1 dX8_parting_27 rfl hl (by decide) rfl (fun ls hl => ?_)
      refine lv_iconst (v := nI 0) F.1 F.2.1 dX8_parting_28 (by decide) ?_
      refine lv_istore (lv' := [(4, .int (nI 0)), (3, .int (-1)), (2, .int (nI (((zwl n aa ra 1200).filter (fun w => decide (zst o zf zs zd ac w = 0))).length))), (0, .ref (mga G 0)), (1, .int x)]) F.1 F.2.1 dX8_parting_29 hl (by decide) rfl (fun ls hl => ?_)
      refine lv_iconst (v := nI 0) F.1 F.2.1 dX8_parting_31 (by decide) ?_
      refine lv_istore (lv' := [(5, .int (nI 0)), (4, .int (nI 0)), (3, .int (-1)), (2, .int (nI (((zwl n aa ra 1200).filter (fun w => decide (zst o zf zs zd ac w = 0))).length))), (0, .ref (mga G 0)), (1, .int x)]) F.1 F.2.1 dX8_parting_32 hl (by decide) rfl (fun ls hl => ?_)
      refine lv_iconst (v := nI 0) F.1 F.2.1 dX8_parting_34 (by decide) ?_
      refine lv_istore (lv' := [(6, .int (nI 0)), (5, .int (nI 0)), (4, .int (nI 0)), (3, .int (-1)), (2, .int (nI (((zwl n aa ra 1200).filter (fun w => decide (zst o zf zs zd ac w = 0))).length))), (0, .ref (mga G 0)), (1, .int x)]) F.1 F.2.1 dX8_parting_35 hl (by decide) rfl (fun ls hl => ?_)
      have lp37 : ∀ (k37 : Nat) (Pk : MP) (k : Nat) (bs : Int32) (ls1 : Nat) (pr1 : Nat) (oc1 : Nat → Int64) (hp1 : Nat → Nat) (mo1 : Nat) (un1 : Nat), wN aa - k = k37 → (k ≤ wN aa) → (k = 0 → bs.toInt = -1) → (0 < k → bs.toInt = (((zbs (zgp o fw14 ((zwl n aa ra 1200).filter (fun w => decide (zst o zf zs zd ac w = 0))).length aa) k).1 : Nat) : Int) ∧ ls1 = (zbs (zgp o fw14 ((zwl n aa ra 1200).filter (fun w => decide (zst o zf zs zd ac w = 0))).length aa) k).2.1 ∧ pr1 = (zbs (zgp o fw14 ((zwl n aa ra 1200).filter (fun w => decide (zst o zf zs zd ac w = 0))).length aa) k).2.2) → ∀ (H : Heap) (locs : List Loc) (ls : Array Slot), mW G s s.heap H locs M Pk L14 N (fw14, oc1, hp1, mo1, un1) →  lv_has ls 7 [(0, .ref (mga G 0)), (1, .int x), (2, .int (nI (((zwl n aa ra 1200).filter (fun w => decide (zst o zf zs zd ac w = 0))).length))), (3, .int bs), (4, .int (nI ls1)), (5, .int (nI pr1)), (6, .int (nI k))] → W p l e (rmD 8) s m args below meth c H locs 0 0 (MQ below (va_Qi (fun v u => v = zpart0 ((zwl n aa ra 1200).filter (fun w => decide (zst o zf zs zd ac w = 0))) o aa x ∧ ∃ (P2 : MP) (L2 : ML) (N2 : MN) (V2 : MV), u = (M, P2, L2, N2, V2)) (mB G) (mA G)) args s 0 0 (mA G)) (F0 m 37 ls []) := by
        intro k37
        induction k37 using Nat.strongRecOn with
        | ind k37 ih37 =>
          intro Pk k bs ls1 pr1 oc1 hp1 mo1 un1 hk37 h1 h0 h2 H locs ls hW hl
          have zl := zgp_le o fw14 ((zwl n aa ra 1200).filter (fun w => decide (zst o zf zs zd ac w = 0))).length aa k
          have zm := zbs_le2 (fun i => zgp_le o fw14 ((zwl n aa ra 1200).filter (fun w => decide (zst o zf zs zd ac w = 0))).length aa i) k
          have zg1 : (zgp o fw14 ((zwl n aa ra 1200).filter (fun w => decide (zst o zf zs zd ac w = 0))).length aa k).1 = (zta (fun i => zjo o (fw14 i) (wA aa k) (wB aa k)) ((zwl n aa ra 1200).filter (fun w => decide (zst o zf zs zd ac w = 0))).length).1 := rfl
          have zg2 : (zgp o fw14 ((zwl n aa ra 1200).filter (fun w => decide (zst o zf zs zd ac w = 0))).length aa k).2 = (zta (fun i => zjo o (fw14 i) (wA aa k) (wB aa k)) ((zwl n aa ra 1200).filter (fun w => decide (zst o zf zs zd ac w = 0))).length).2.1 := rfl
          have hb : bs.toInt < 0 → k = 0 := fun q => by
            rcases Nat.eq_zero_or_pos k with z | z
            · exact z
            · have := (h2 z).1; omega
          have hb2 : 0 ≤ bs.toInt → 0 < k := fun q => by
            rcases Nat.eq_zero_or_pos k with z | z
            · have := h0 z; omega
            · exact z
          refine lv_iload F.1 F.2.1 dX8_parting_37 (lv_at hl 6 rfl) ?_
          refine lv_aload_n F.1 F.2.1 dX8_parting_39 rfl (lv_at hl 0 rfl) ?_
          refine mg_arguments F hW tm_507 dX8_parting_40 ?_
          refine ax_re (show nI M.2.2.2.2.2.2.2.1 = nI aa from congrArg nI ea) ?_
          refine pca (As := [.int (nI aa)]) (rest := [.int (nI k)]) F (c_X8_inputs l aa (by omega)) (xcwS F.2.2.2.2 ca_X8_inputs tm_731 rfl rfl ⟨by decide, by decide⟩) rfl hl.1 rfl (Nat.le_of_ble_eq_true rfl) dX8_parting_43 (fun r43 hr43 => ?_)
          subst hr43
          refine lv_icmp_ge (tgt := 106) F.1 F.2.1 dX8_parting_46 (by decide) (fun c46 => ?_) (fun c46 => ?_)
          · have c46 := ci_le (a := (((wN aa) : Nat) : Int)) (b := ((k : Nat) : Int)) (nI_toInt (by omega)) (nI_toInt (by omega)) c46
            have h3 := h2 (by omega)
            rw [show k = wN aa by omega] at h3
            have zq : (zbs (zgp o fw14 ((zwl n aa ra 1200).filter (fun w => decide (zst o zf zs zd ac w = 0))).length aa) (wN aa)).1 ≤ wN aa := zbs_le _
            have zq2 : (zbs (zgp o (fun i => ((zwl n aa ra 1200).filter (fun w => decide (zst o zf zs zd ac w = 0))).getD i 0) ((zwl n aa ra 1200).filter (fun w => decide (zst o zf zs zd ac w = 0))).length aa) (wN aa)).1 ≤ wN aa := zbs_le _
            refine lv_iload_n F.1 F.2.1 dX8_parting_106 rfl (lv_at hl 1 rfl) ?_
            refine lv_if_ne (tgt := 121) F.1 F.2.1 dX8_parting_107 (by decide) (fun c107 => ?_) (fun c107 => ?_)
            · have c107 := ci_ne (a := x.toInt) (b := 0) rfl ci_0 c107
              refine lv_iload_n F.1 F.2.1 dX8_parting_121 rfl (lv_at hl 1 rfl) ?_
              refine lv_iconst (v := nI 1) F.1 F.2.1 dX8_parting_122 (by decide) ?_
              refine lv_icmp_ne (tgt := 137) F.1 F.2.1 dX8_parting_123 (by decide) (fun c123 => ?_) (fun c123 => ?_)
              · have c123 := ci_ne (a := x.toInt) (b := 1) rfl (by decide) c123
                refine lv_iload_n F.1 F.2.1 dX8_parting_137 rfl (lv_at hl 1 rfl) ?_
                refine lv_iconst (v := nI 2) F.1 F.2.1 dX8_parting_138 (by decide) ?_
                refine lv_icmp_ne (tgt := 147) F.1 F.2.1 dX8_parting_139 (by decide) (fun c139 => ?_) (fun c139 => ?_)
                · have c139 := ci_ne (a := x.toInt) (b := 2) rfl (by decide) c139
                  refine lv_iload F.1 F.2.1 dX8_parting_147 (lv_at hl 5 rfl) ?_
                  refine mre_i F hr hlk hW dX8_parting_149 ?_
                  exact ⟨by rw [zbg_congr hz] at h3; unfold zpart0; rw [if_pos (by omega)]; unfold zp4; first | rw [if_pos (by omega)] | (rw [if_neg (by omega), if_pos (by omega)]) | (rw [if_neg (by omega), if_neg (by omega), if_pos (by omega), h3.2.1]) | (rw [if_neg (by omega), if_neg (by omega), if_neg (by omega), h3.2.2]), _, _, _, _, rfl⟩
                · have c139 := ci_eq (a := x.toInt) (b := 2) rfl (by decide) c139
                  refine lv_iload F.1 F.2.1 dX8_parting_142 (lv_at hl 4 rfl) ?_
                  refine lv_goto (tgt := 149) F.1 F.2.1 dX8_parting_144 (by decide) ?_
                  refine mre_i F hr hlk hW dX8_parting_149 ?_
                  exact ⟨by rw [zbg_congr hz] at h3; unfold zpart0; rw [if_pos (by omega)]; unfold zp4; first | rw [if_pos (by omega)] | (rw [if_neg (by omega), if_pos (by omega)]) | (rw [if_neg (by omega), if_neg (by omega), if_pos (by omega), h3.2.1]) | (rw [if_neg (by omega), if_neg (by omega), if_neg (by omega), h3.2.2]), _, _, _, _, rfl⟩
              · have c123 := ci_eq (a := x.toInt) (b := 1) rfl (by decide) c123
                refine lv_aload_n F.1 F.2.1 dX8_parting_126 rfl (lv_at hl 0 rfl) ?_
                refine mg_arguments F hW tm_507 dX8_parting_127 ?_
                refine ax_re (show nI M.2.2.2.2.2.2.2.1 = nI aa from congrArg nI ea) ?_
                refine lv_iload_n F.1 F.2.1 dX8_parting_130 rfl (lv_at hl 3 rfl) ?_
                refine ax_re (show bs = nI ((zbs (zgp o (fun i => ((zwl n aa ra 1200).filter (fun w => decide (zst o zf zs zd ac w = 0))).getD i 0) ((zwl n aa ra 1200).filter (fun w => decide (zst o zf zs zd ac w = 0))).length aa) (wN aa)).1) from ix_of (by rw [← zbg_congr hz]; omega)) ?_
                refine pca (As := [.int (nI aa), .int (nI ((zbs (zgp o (fun i => ((zwl n aa ra 1200).filter (fun w => decide (zst o zf zs zd ac w = 0))).getD i 0) ((zwl n aa ra 1200).filter (fun w => decide (zst o zf zs zd ac w = 0))).length aa) (wN aa)).1))]) (rest := []) F (c_X8_secondOf l aa ((zbs (zgp o (fun i => ((zwl n aa ra 1200).filter (fun w => decide (zst o zf zs zd ac w = 0))).getD i 0) ((zwl n aa ra 1200).filter (fun w => decide (zst o zf zs zd ac w = 0))).length aa) (wN aa)).1) (by omega) (by omega)) (xcwS F.2.2.2.2 ca_X8_secondOf tm_668 rfl rfl ⟨by decide, by decide⟩) rfl hl.1 rfl (Nat.le_of_ble_eq_true rfl) dX8_parting_131 (fun r131 hr131 => ?_)
                subst hr131
                refine lv_goto (tgt := 149) F.1 F.2.1 dX8_parting_134 (by decide) ?_
                refine mre_i F hr hlk hW dX8_parting_149 ?_
                exact ⟨by rw [zbg_congr hz] at h3; unfold zpart0; rw [if_pos (by omega)]; unfold zp4; first | rw [if_pos (by omega)] | (rw [if_neg (by omega), if_pos (by omega)]) | (rw [if_neg (by omega), if_neg (by omega), if_pos (by omega), h3.2.1]) | (rw [if_neg (by omega), if_neg (by omega), if_neg (by omega), h3.2.2]), _, _, _, _, rfl⟩
            · have c107 := ci_eq (a := x.toInt) (b := 0) rfl ci_0 c107
              refine lv_aload_n F.1 F.2.1 dX8_parting_110 rfl (lv_at hl 0 rfl) ?_
              refine mg_arguments F hW tm_507 dX8_parting_111 ?_
              refine ax_re (show nI M.2.2.2.2.2.2.2.1 = nI aa from congrArg nI ea) ?_
              refine lv_iload_n F.1 F.2.1 dX8_parting_114 rfl (lv_at hl 3 rfl) ?_
              refine ax_re (show bs = nI ((zbs (zgp o (fun i => ((zwl n aa ra 1200).filter (fun w => decide (zst o zf zs zd ac w = 0))).getD i 0) ((zwl n aa ra 1200).filter (fun w => decide (zst o zf zs zd ac w = 0))).length aa) (wN aa)).1) from ix_of (by rw [← zbg_congr hz]; omega)) ?_
              refine pca (As := [.int (nI aa), .int (nI ((zbs (zgp o (fun i => ((zwl n aa ra 1200).filter (fun w => decide (zst o zf zs zd ac w = 0))).getD i 0) ((zwl n aa ra 1200).filter (fun w => decide (zst o zf zs zd ac w = 0))).length aa) (wN aa)).1))]) (rest := []) F (c_X8_firstOf l aa ((zbs (zgp o (fun i => ((zwl n aa ra 1200).filter (fun w => decide (zst o zf zs zd ac w = 0))).getD i 0) ((zwl n aa ra 1200).filter (fun w => decide (zst o zf zs zd ac w = 0))).length aa) (wN aa)).1) (by omega) (by omega)) (xcwS F.2.2.2.2 ca_X8_firstOf tm_665 rfl rfl ⟨by decide, by decide⟩) rfl hl.1 rfl (Nat.le_of_ble_eq_true rfl) dX8_parting_115 (fun r115 hr115 => ?_)
              subst hr115
              refine lv_goto (tgt := 149) F.1 F.2.1 dX8_parting_118 (by decide) ?_
              refine mre_i F hr hlk hW dX8_parting_149 ?_
              exact ⟨by rw [zbg_congr hz] at h3; unfold zpart0; rw [if_pos (by omega)]; unfold zp4; first | rw [if_pos (by omega)] | (rw [if_neg (by omega), if_pos (by omega)]) | (rw [if_neg (by omega), if_neg (by omega), if_pos (by omega), h3.2.1]) | (rw [if_neg (by omega), if_neg (by omega), if_neg (by omega), h3.2.2]), _, _, _, _, rfl⟩
          · have c46 := ci_nle (a := (((wN aa) : Nat) : Int)) (b := ((k : Nat) : Int)) (nI_toInt (by omega)) (nI_toInt (by omega)) c46
            refine lv_aload_n F.1 F.2.1 dX8_parting_49 rfl (lv_at hl 0 rfl) ?_
            refine lv_iload_n F.1 F.2.1 dX8_parting_50 rfl (lv_at hl 2 rfl) ?_
            refine lv_aload_n F.1 F.2.1 dX8_parting_51 rfl (lv_at hl 0 rfl) ?_
            refine mg_arguments F hW tm_507 dX8_parting_52 ?_
            refine ax_re (show nI M.2.2.2.2.2.2.2.1 = nI aa from congrArg nI ea) ?_
            refine lv_iload F.1 F.2.1 dX8_parting_55 (lv_at hl 6 rfl) ?_
            refine pca (As := [.int (nI aa), .int (nI k)]) (rest := [.int (nI (((zwl n aa ra 1200).filter (fun w => decide (zst o zf zs zd ac w = 0))).length)), .ref (mga G 0)]) F (c_X8_firstOf l aa k (by omega) (by omega)) (xcwS F.2.2.2.2 ca_X8_firstOf tm_665 rfl rfl ⟨by decide, by decide⟩) rfl hl.1 rfl (Nat.le_of_ble_eq_true rfl) dX8_parting_57 (fun r57 hr57 => ?_)
            subst hr57
            refine lv_aload_n F.1 F.2.1 dX8_parting_60 rfl (lv_at hl 0 rfl) ?_
            refine mg_arguments F hW tm_507 dX8_parting_61 ?_
            refine ax_re (show nI M.2.2.2.2.2.2.2.1 = nI aa from congrArg nI ea) ?_
            refine lv_iload F.1 F.2.1 dX8_parting_64 (lv_at hl 6 rfl) ?_
            refine pca (As := [.int (nI aa), .int (nI k)]) (rest := [.int (wA aa k), .int (nI (((zwl n aa ra 1200).filter (fun w => decide (zst o zf zs zd ac w = 0))).length)), .ref (mga G 0)]) F (c_X8_secondOf l aa k (by omega) (by omega)) (xcwS F.2.2.2.2 ca_X8_secondOf tm_668 rfl rfl ⟨by decide, by decide⟩) rfl hl.1 rfl (Nat.le_of_ble_eq_true rfl) dX8_parting_66 (fun r66 hr66 => ?_)
            subst hr66
            refine mca_v (b := (mga G 0)) (As := [.int (nI (((zwl n aa ra 1200).filter (fun w => decide (zst o zf zs zd ac w = 0))).length)), .int (wA aa k), .int (wB aa k)]) (rest := []) F (c_X8_heapUp l G M Pk L14 N fw14 oc1 hp1 mo1 un1 n aa ac ra o zf zs zd hV (((zwl n aa ra 1200).filter (fun w => decide (zst o zf zs zd ac w = 0))).length) (by omega) (zfl_get hz) (wA aa k) (wB aa k)) (xcw F.2.2.2.2 ca_X8_heapUp tm_734 rfl rfl ⟨by decide, by decide⟩) (mr_X8 hW) hW rfl hl.1 rfl (Nat.le_of_ble_eq_true rfl) dX8_parting_69 (fun u69 H locs hp69 hW => ?_)
            obtain ⟨P69, oc69, hp69_, rfl⟩ := hp69
            have hW : mW G s s.heap H locs M P69 L14 N (fw14, oc69, hp69_, (zta (fun i => zjo o (fw14 i) (wA aa k) (wB aa k)) (((zwl n aa ra 1200).filter (fun w => decide (zst o zf zs zd ac w = 0))).length)).1, (zta (fun i => zjo o (fw14 i) (wA aa k) (wB aa k)) (((zwl n aa ra 1200).filter (fun w => decide (zst o zf zs zd ac w = 0))).length)).2.1) := hW
            refine lv_iload_n F.1 F.2.1 dX8_parting_72 rfl (lv_at hl 3 rfl) ?_
            refine lv_if_lt (tgt := 85) F.1 F.2.1 dX8_parting_73 (by decide) (fun c73 => ?_) (fun c73 => ?_)
            · have c73 := ci_lt (a := bs.toInt) (b := 0) rfl ci_0 c73
              have k0 := hb (by omega)
              refine lv_iload F.1 F.2.1 dX8_parting_85 (lv_at hl 6 rfl) ?_
              refine lv_istore_n (lv' := [(3, .int (nI k)), (0, .ref (mga G 0)), (1, .int x), (2, .int (nI (((zwl n aa ra 1200).filter (fun w => decide (zst o zf zs zd ac w = 0))).length))), (4, .int (nI ls1)), (5, .int (nI pr1)), (6, .int (nI k))]) F.1 F.2.1 dX8_parting_87 rfl hl (by decide) rfl (fun ls hl => ?_)
              refine lv_aload_n F.1 F.2.1 dX8_parting_88 rfl (lv_at hl 1 rfl) ?_
              refine mg_most F hW tm_522 dX8_parting_89 ?_
              refine lv_istore (lv' := [(4, .int (nI ((zta (fun i => zjo o (fw14 i) (wA aa k) (wB aa k)) (((zwl n aa ra 1200).filter (fun w => decide (zst o zf zs zd ac w = 0))).length)).1))), (3, .int (nI k)), (0, .ref (mga G 0)), (1, .int x), (2, .int (nI (((zwl n aa ra 1200).filter (fun w => decide (zst o zf zs zd ac w = 0))).length))), (5, .int (nI pr1)), (6, .int (nI k))]) F.1 F.2.1 dX8_parting_92 hl (by decide) rfl (fun ls hl => ?_)
              refine lv_aload_n F.1 F.2.1 dX8_parting_94 rfl (lv_at hl 2 rfl) ?_
              refine mg_unlike F hW tm_523 dX8_parting_95 ?_
              refine lv_istore (lv' := [(5, .int (nI ((zta (fun i => zjo o (fw14 i) (wA aa k) (wB aa k)) (((zwl n aa ra 1200).filter (fun w => decide (zst o zf zs zd ac w = 0))).length)).2.1))), (4, .int (nI ((zta (fun i => zjo o (fw14 i) (wA aa k) (wB aa k)) (((zwl n aa ra 1200).filter (fun w => decide (zst o zf zs zd ac w = 0))).length)).1))), (3, .int (nI k)), (0, .ref (mga G 0)), (1, .int x), (2, .int (nI (((zwl n aa ra 1200).filter (fun w => decide (zst o zf zs zd ac w = 0))).length))), (6, .int (nI k))]) F.1 F.2.1 dX8_parting_98 hl (by decide) rfl (fun ls hl => ?_)
              refine lv_iinc (v := nI (k + 1)) (lv' := [(6, .int (nI (k + 1))), (5, .int (nI ((zta (fun i => zjo o (fw14 i) (wA aa k) (wB aa k)) (((zwl n aa ra 1200).filter (fun w => decide (zst o zf zs zd ac w = 0))).length)).2.1))), (4, .int (nI ((zta (fun i => zjo o (fw14 i) (wA aa k) (wB aa k)) (((zwl n aa ra 1200).filter (fun w => decide (zst o zf zs zd ac w = 0))).length)).1))), (3, .int (nI k)), (0, .ref (mga G 0)), (1, .int x), (2, .int (nI (((zwl n aa ra 1200).filter (fun w => decide (zst o zf zs zd ac w = 0))).length)))]) F.1 F.2.1 dX8_parting_100 hl (k := 6) rfl (nI_add _ 1) (by decide) rfl (fun ls hl => ?_)
              refine lv_goto (tgt := 37) F.1 F.2.1 dX8_parting_103 (by decide) ?_
              exact ih37 (wN aa - (k + 1)) (by omega) P69 (k + 1) (nI k) ((zta (fun i => zjo o (fw14 i) (wA aa k) (wB aa k)) (((zwl n aa ra 1200).filter (fun w => decide (zst o zf zs zd ac w = 0))).length)).1) ((zta (fun i => zjo o (fw14 i) (wA aa k) (wB aa k)) (((zwl n aa ra 1200).filter (fun w => decide (zst o zf zs zd ac w = 0))).length)).2.1) oc69 hp69_ ((zta (fun i => zjo o (fw14 i) (wA aa k) (wB aa k)) (((zwl n aa ra 1200).filter (fun w => decide (zst o zf zs zd ac w = 0))).length)).1) ((zta (fun i => zjo o (fw14 i) (wA aa k) (wB aa k)) (((zwl n aa ra 1200).filter (fun w => decide (zst o zf zs zd ac w = 0))).length)).2.1) rfl (by omega) (fun q => by omega) (fun _ => by rw [zbs_t (by omega)]; exact ⟨nI_toInt (by omega), rfl, rfl⟩) _ _ _ hW (lv_sub hl [4, 5, 6, 3, 2, 1, 0] rfl)
            · have c73 := ci_nlt (a := bs.toInt) (b := 0) rfl ci_0 c73
              have h3 := h2 (hb2 (by omega))
              refine lv_aload_n F.1 F.2.1 dX8_parting_76 rfl (lv_at hl 0 rfl) ?_
              refine mg_most F hW tm_522 dX8_parting_77 ?_
              refine lv_iload F.1 F.2.1 dX8_parting_80 (lv_at hl 4 rfl) ?_
              refine lv_icmp_ge (tgt := 100) F.1 F.2.1 dX8_parting_82 (by decide) (fun c82 => ?_) (fun c82 => ?_)
              · have c82 := ci_le (a := ((ls1 : Nat) : Int)) (b := (((zta (fun i => zjo o (fw14 i) (wA aa k) (wB aa k)) (((zwl n aa ra 1200).filter (fun w => decide (zst o zf zs zd ac w = 0))).length)).1 : Nat) : Int)) (nI_toInt (by omega)) (nI_toInt (by omega)) c82
                skip
                refine lv_iinc (v := nI (k + 1)) (lv' := [(6, .int (nI (k + 1))), (0, .ref (mga G 0)), (1, .int x), (2, .int (nI (((zwl n aa ra 1200).filter (fun w => decide (zst o zf zs zd ac w = 0))).length))), (3, .int bs), (4, .int (nI ls1)), (5, .int (nI pr1))]) F.1 F.2.1 dX8_parting_100 hl (k := 6) rfl (nI_add _ 1) (by decide) rfl (fun ls hl => ?_)
                refine lv_goto (tgt := 37) F.1 F.2.1 dX8_parting_103 (by decide) ?_
                exact ih37 (wN aa - (k + 1)) (by omega) P69 (k + 1) bs ls1 pr1 oc69 hp69_ ((zta (fun i => zjo o (fw14 i) (wA aa k) (wB aa k)) (((zwl n aa ra 1200).filter (fun w => decide (zst o zf zs zd ac w = 0))).length)).1) ((zta (fun i => zjo o (fw14 i) (wA aa k) (wB aa k)) (((zwl n aa ra 1200).filter (fun w => decide (zst o zf zs zd ac w = 0))).length)).2.1) rfl (by omega) (fun q => by omega) (fun _ => by rw [zbs_f (by omega)]; exact h2 (by omega)) _ _ _ hW (lv_sub hl [1, 2, 3, 4, 5, 6, 0] rfl)
              · have c82 := ci_nle (a := ((ls1 : Nat) : Int)) (b := (((zta (fun i => zjo o (fw14 i) (wA aa k) (wB aa k)) (((zwl n aa ra 1200).filter (fun w => decide (zst o zf zs zd ac w = 0))).length)).1 : Nat) : Int)) (nI_toInt (by omega)) (nI_toInt (by omega)) c82
                skip
                refine lv_iload F.1 F.2.1 dX8_parting_85 (lv_at hl 6 rfl) ?_
                refine lv_istore_n (lv' := [(3, .int (nI k)), (0, .ref (mga G 0)), (1, .int x), (2, .int (nI (((zwl n aa ra 1200).filter (fun w => decide (zst o zf zs zd ac w = 0))).length))), (4, .int (nI ls1)), (5, .int (nI pr1)), (6, .int (nI k))]) F.1 F.2.1 dX8_parting_87 rfl hl (by decide) rfl (fun ls hl => ?_)
                refine lv_aload_n F.1 F.2.1 dX8_parting_88 rfl (lv_at hl 1 rfl) ?_
                refine mg_most F hW tm_522 dX8_parting_89 ?_
                refine lv_istore (lv' := [(4, .int (nI ((zta (fun i => zjo o (fw14 i) (wA aa k) (wB aa k)) (((zwl n aa ra 1200).filter (fun w => decide (zst o zf zs zd ac w = 0))).length)).1))), (3, .int (nI k)), (0, .ref (mga G 0)), (1, .int x), (2, .int (nI (((zwl n aa ra 1200).filter (fun w => decide (zst o zf zs zd ac w = 0))).length))), (5, .int (nI pr1)), (6, .int (nI k))]) F.1 F.2.1 dX8_parting_92 hl (by decide) rfl (fun ls hl => ?_)
                refine lv_aload_n F.1 F.2.1 dX8_parting_94 rfl (lv_at hl 2 rfl) ?_
                refine mg_unlike F hW tm_523 dX8_parting_95 ?_
                refine lv_istore (lv' := [(5, .int (nI ((zta (fun i => zjo o (fw14 i) (wA aa k) (wB aa k)) (((zwl n aa ra 1200).filter (fun w => decide (zst o zf zs zd ac w = 0))).length)).2.1))), (4, .int (nI ((zta (fun i => zjo o (fw14 i) (wA aa k) (wB aa k)) (((zwl n aa ra 1200).filter (fun w => decide (zst o zf zs zd ac w = 0))).length)).1))), (3, .int (nI k)), (0, .ref (mga G 0)), (1, .int x), (2, .int (nI (((zwl n aa ra 1200).filter (fun w => decide (zst o zf zs zd ac w = 0))).length))), (6, .int (nI k))]) F.1 F.2.1 dX8_parting_98 hl (by decide) rfl (fun ls hl => ?_)
                refine lv_iinc (v := nI (k + 1)) (lv' := [(6, .int (nI (k + 1))), (5, .int (nI ((zta (fun i => zjo o (fw14 i) (wA aa k) (wB aa k)) (((zwl n aa ra 1200).filter (fun w => decide (zst o zf zs zd ac w = 0))).length)).2.1))), (4, .int (nI ((zta (fun i => zjo o (fw14 i) (wA aa k) (wB aa k)) (((zwl n aa ra 1200).filter (fun w => decide (zst o zf zs zd ac w = 0))).length)).1))), (3, .int (nI k)), (0, .ref (mga G 0)), (1, .int x), (2, .int (nI (((zwl n aa ra 1200).filter (fun w => decide (zst o zf zs zd ac w = 0))).length)))]) F.1 F.2.1 dX8_parting_100 hl (k := 6) rfl (nI_add _ 1) (by decide) rfl (fun ls hl => ?_)
                refine lv_goto (tgt := 37) F.1 F.2.1 dX8_parting_103 (by decide) ?_
                exact ih37 (wN aa - (k + 1)) (by omega) P69 (k + 1) (nI k) ((zta (fun i => zjo o (fw14 i) (wA aa k) (wB aa k)) (((zwl n aa ra 1200).filter (fun w => decide (zst o zf zs zd ac w = 0))).length)).1) ((zta (fun i => zjo o (fw14 i) (wA aa k) (wB aa k)) (((zwl n aa ra 1200).filter (fun w => decide (zst o zf zs zd ac w = 0))).length)).2.1) oc69 hp69_ ((zta (fun i => zjo o (fw14 i) (wA aa k) (wB aa k)) (((zwl n aa ra 1200).filter (fun w => decide (zst o zf zs zd ac w = 0))).length)).1) ((zta (fun i => zjo o (fw14 i) (wA aa k) (wB aa k)) (((zwl n aa ra 1200).filter (fun w => decide (zst o zf zs zd ac w = 0))).length)).2.1) rfl (by omega) (fun q => by omega) (fun _ => by rw [zbs_t (by omega)]; exact ⟨nI_toInt (by omega), rfl, rfl⟩) _ _ _ hW (lv_sub hl [4, 5, 6, 3, 2, 1, 0] rfl)
      exact lp37 (wN aa - 0) P14 0 (-1) 0 0 oc hp mo un rfl (Nat.zero_le _) (fun _ => by decide) (fun q => absurd q (Nat.lt_irrefl _)) _ _ _ hW (lv_sub hl [5, 6, 4, 3, 2, 1, 0] rfl)
    · have c19 := ci_eq (a := ((((zwl n aa ra 1200).filter (fun w => decide (zst o zf zs zd ac w = 0))).length : Nat) : Int)) (b := 0) (nI_toInt (by omega)) ci_0 c19
      refine lv_sipush (v := (-1000)) F.1 F.2.1 dX8_parting_22 (by decide) ?_
      refine mre_i F hr hlk hW dX8_parting_25 ?_
      exact ⟨by unfold zpart0; rw [if_neg (by omega)], _, _, _, _, rfl⟩
  · skip
    refine lv_if_ne (tgt := 13) F.1 F.2.1 dX8_parting_6 (by decide) (fun q => absurd q (by decide)) (fun _ => ?_)
    refine lv_sipush (v := (-1000)) F.1 F.2.1 dX8_parting_9 (by decide) ?_
    refine mre_i F hr hlk hW dX8_parting_12 ?_
    exact ⟨by unfold zpart0; rw [if_neg (by omega)], _, _, _, _, rfl⟩
theorem dX8_many_0 : decode cX8_many 0 = .ok (.iload_n 1, 1) := by decide +kernel
theorem dX8_many_1 : decode cX8_many 1 = .ok (.tableswitch 110 0 9 #[55, 60, 65, 71, 77, 83, 89, 95, 100, 105], 55) := by decide +kernel
theorem dX8_many_56 : decode cX8_many 56 = .ok (.aload_n 0, 1) := by decide +kernel
theorem dX8_many_57 : decode cX8_many 57 = .ok (.getfield 57, 3) := by decide +kernel
theorem dX8_many_60 : decode cX8_many 60 = .ok (.ireturn, 1) := by decide +kernel
theorem dX8_many_61 : decode cX8_many 61 = .ok (.aload_n 0, 1) := by decide +kernel
theorem dX8_many_62 : decode cX8_many 62 = .ok (.getfield 109, 3) := by decide +kernel
theorem dX8_many_65 : decode cX8_many 65 = .ok (.ireturn, 1) := by decide +kernel
theorem dX8_many_66 : decode cX8_many 66 = .ok (.aload_n 0, 1) := by decide +kernel
theorem dX8_many_67 : decode cX8_many 67 = .ok (.iconst (-1), 1) := by decide +kernel
theorem dX8_many_68 : decode cX8_many 68 = .ok (.invokevirtual 172, 3) := by decide +kernel
theorem dX8_many_71 : decode cX8_many 71 = .ok (.ireturn, 1) := by decide +kernel
theorem dX8_many_72 : decode cX8_many 72 = .ok (.aload_n 0, 1) := by decide +kernel
theorem dX8_many_73 : decode cX8_many 73 = .ok (.iconst 0, 1) := by decide +kernel
theorem dX8_many_74 : decode cX8_many 74 = .ok (.invokevirtual 172, 3) := by decide +kernel
theorem dX8_many_77 : decode cX8_many 77 = .ok (.ireturn, 1) := by decide +kernel
theorem dX8_many_78 : decode cX8_many 78 = .ok (.aload_n 0, 1) := by decide +kernel
theorem dX8_many_79 : decode cX8_many 79 = .ok (.iconst 1, 1) := by decide +kernel
theorem dX8_many_80 : decode cX8_many 80 = .ok (.invokevirtual 172, 3) := by decide +kernel
theorem dX8_many_83 : decode cX8_many 83 = .ok (.ireturn, 1) := by decide +kernel
theorem dX8_many_84 : decode cX8_many 84 = .ok (.aload_n 0, 1) := by decide +kernel
theorem dX8_many_85 : decode cX8_many 85 = .ok (.iconst 0, 1) := by decide +kernel
theorem dX8_many_86 : decode cX8_many 86 = .ok (.invokevirtual 175, 3) := by decide +kernel
theorem dX8_many_89 : decode cX8_many 89 = .ok (.ireturn, 1) := by decide +kernel
theorem dX8_many_90 : decode cX8_many 90 = .ok (.aload_n 0, 1) := by decide +kernel
theorem dX8_many_91 : decode cX8_many 91 = .ok (.iconst 1, 1) := by decide +kernel
theorem dX8_many_92 : decode cX8_many 92 = .ok (.invokevirtual 175, 3) := by decide +kernel
theorem dX8_many_95 : decode cX8_many 95 = .ok (.ireturn, 1) := by decide +kernel
theorem dX8_many_96 : decode cX8_many 96 = .ok (.aload_n 0, 1) := by decide +kernel
theorem dX8_many_97 : decode cX8_many 97 = .ok (.invokevirtual 179, 3) := by decide +kernel
theorem dX8_many_100 : decode cX8_many 100 = .ok (.ireturn, 1) := by decide +kernel
theorem dX8_many_101 : decode cX8_many 101 = .ok (.aload_n 0, 1) := by decide +kernel
theorem dX8_many_102 : decode cX8_many 102 = .ok (.getfield 64, 3) := by decide +kernel
theorem dX8_many_105 : decode cX8_many 105 = .ok (.ireturn, 1) := by decide +kernel
theorem dX8_many_106 : decode cX8_many 106 = .ok (.aload_n 0, 1) := by decide +kernel
theorem dX8_many_107 : decode cX8_many 107 = .ok (.getfield 26, 3) := by decide +kernel
theorem dX8_many_110 : decode cX8_many 110 = .ok (.ireturn, 1) := by decide +kernel
theorem dX8_many_111 : decode cX8_many 111 = .ok (.iconst (-1), 1) := by decide +kernel
theorem dX8_many_112 : decode cX8_many 112 = .ok (.ireturn, 1) := by decide +kernel
set_option maxHeartbeats 4000000 in
set_option maxRecDepth 100000 in
theorem c_X8_many (l : Launch) (G : MG) (M : MM) (P : MP) (L : ML) (N : MN) (V : MV) (n aa ac : Nat) (ra : Nat → Nat) (o : Nat → Int32 → Int32 → Int64) (zf zs : Nat → Int32) (zd : Nat → Int64) (hV : mV M n aa ac ra o zf zs zd) (h12 : M.2.2.2.2.1 ≤ 12) (x : Int32) : Met l yX8_many (wC yX8_many cX8_many 2 (some .int)) (rmD 8) (mPc G [.ref (mga G 0), .int x] M P L N V) (va_Qi (fun v u => v = zmany (zwl n aa ra 1200) ((zwl n aa ra 1200).filter (fun w => decide (zst o zf zs zd ac w = 0))) ((zwl n aa ra 1200).filter (fun w => decide (zst o zf zs zd ac w = 1))) (zjl (zwl n aa ra 1200) ra (fun w => decide (zst o zf zs zd ac w = 0)) n) n ac (zcnt (fun r => decide (ra r = 1)) n) (zsum (fun s2 => zcnt (fun r => zdbl ra o r s2) s2) n) M.2.2.2.2.1 aa x.toInt ∧ ∃ (P2 : MP) (L2 : ML) (N2 : MN) (V2 : MV), u = (M, P2, L2, N2, V2)) (mB G) (mA G)) 0 0 (mA G) := by
  refine mst "DoFinderModel" (by decide) rfl (Nat.le_of_ble_eq_true rfl) ?_
  intro p e s m args below meth c ls F hr hlk hW hl
  have hl : lv_has ls 2 [(0, .ref (mga G 0)), (1, .int x)] := hl
  have hW : mW G s s.heap s.heap [] M P L N V := hW
  have b_x := i32b x
  obtain ⟨en, ea, ec, era, eo, ef, es, ed, bn, ba, bc, bf, brc, bra, bd⟩ := id hV
  refine lv_iload_n F.1 F.2.1 dX8_many_0 rfl (lv_at hl 1 rfl) ?_
  by_cases q1 : x.toInt < 0 ∨ 9 < x.toInt
  · refine lv_tableOut (tgt := 111) F.1 F.2.1 dX8_many_1 (by have := True.intro; omega) (by decide) ?_
    refine lv_iconst (v := (-1)) F.1 F.2.1 dX8_many_111 (by decide) ?_
    refine mre_i F hr hlk hW dX8_many_112 ?_
    exact ⟨by unfold zmany; (repeat first | rw [if_pos (by omega)] | rw [if_neg (by omega)]); try rfl, _, _, _, _, rfl⟩
  by_cases q1_0 : x.toInt = 0
  · skip
    refine lv_tableIn (tgt := 56) (off := 55) F.1 F.2.1 dX8_many_1 (by have := True.intro; omega) (by have := True.intro; omega) (by rw [show ((x).toInt - 0).toNat = 0 from by have := True.intro; omega]; rfl) (by decide) ?_
    refine lv_aload_n F.1 F.2.1 dX8_many_56 rfl (lv_at hl 0 rfl) ?_
    refine mg_routines F hW tm_500 dX8_many_57 ?_
    refine ax_re (show nI M.1 = nI n from congrArg nI en) ?_
    refine mre_i F hr hlk hW dX8_many_60 ?_
    exact ⟨by unfold zmany; (repeat first | rw [if_pos (by omega)] | rw [if_neg (by omega)]); try rfl, _, _, _, _, rfl⟩
  by_cases q1_1 : x.toInt = 1
  · skip
    refine lv_tableIn (tgt := 61) (off := 60) F.1 F.2.1 dX8_many_1 (by have := True.intro; omega) (by have := True.intro; omega) (by rw [show ((x).toInt - 0).toNat = 1 from by have := True.intro; omega]; rfl) (by decide) ?_
    refine lv_aload_n F.1 F.2.1 dX8_many_61 rfl (lv_at hl 0 rfl) ?_
    refine mg_examples F hW tm_508 dX8_many_62 ?_
    refine ax_re (show nI M.2.2.2.2.2.2.2.2.1 = nI ac from congrArg nI ec) ?_
    refine mre_i F hr hlk hW dX8_many_65 ?_
    exact ⟨by unfold zmany; (repeat first | rw [if_pos (by omega)] | rw [if_neg (by omega)]); try rfl, _, _, _, _, rfl⟩
  by_cases q1_2 : x.toInt = 2
  · skip
    refine lv_tableIn (tgt := 66) (off := 65) F.1 F.2.1 dX8_many_1 (by have := True.intro; omega) (by have := True.intro; omega) (by rw [show ((x).toInt - 0).toNat = 2 from by have := True.intro; omega]; rfl) (by decide) ?_
    refine lv_aload_n F.1 F.2.1 dX8_many_66 rfl (lv_at hl 0 rfl) ?_
    refine lv_iconst (v := (-1)) F.1 F.2.1 dX8_many_67 (by decide) ?_
    refine mca_i (b := (mga G 0)) (As := [.int (-1)]) (rest := []) F (c_X8_wayMany_all l G M P L N V n aa ac ra o zf zs zd hV) (xcw F.2.2.2.2 ca_X8_wayMany tm_742 rfl rfl ⟨by decide, by decide⟩) (mr_X8 hW) hW rfl hl.1 rfl (Nat.le_of_ble_eq_true rfl) dX8_many_68 (fun r68 u68 H locs hp68 hW => ?_)
    obtain ⟨rfl, P68, L68, rfl⟩ := hp68
    have hW : mW G s s.heap H locs M P68 L68 N V := hW
    refine mre_i F hr hlk hW dX8_many_71 ?_
    exact ⟨by unfold zmany; (repeat first | rw [if_pos (by omega)] | rw [if_neg (by omega)]); try rfl, _, _, _, _, rfl⟩
  by_cases q1_3 : x.toInt = 3
  · skip
    refine lv_tableIn (tgt := 72) (off := 71) F.1 F.2.1 dX8_many_1 (by have := True.intro; omega) (by have := True.intro; omega) (by rw [show ((x).toInt - 0).toNat = 3 from by have := True.intro; omega]; rfl) (by decide) ?_
    refine lv_aload_n F.1 F.2.1 dX8_many_72 rfl (lv_at hl 0 rfl) ?_
    refine lv_iconst (v := nI 0) F.1 F.2.1 dX8_many_73 (by decide) ?_
    refine mca_i (b := (mga G 0)) (As := [.int (nI 0)]) (rest := []) F (c_X8_wayMany l G M P L N V n aa ac ra o zf zs zd hV 0 (by omega)) (xcw F.2.2.2.2 ca_X8_wayMany tm_742 rfl rfl ⟨by decide, by decide⟩) (mr_X8 hW) hW rfl hl.1 rfl (Nat.le_of_ble_eq_true rfl) dX8_many_74 (fun r74 u74 H locs hp74 hW => ?_)
    obtain ⟨rfl, P74, L74, rfl⟩ := hp74
    have hW : mW G s s.heap H locs M P74 L74 N V := hW
    refine mre_i F hr hlk hW dX8_many_77 ?_
    exact ⟨by unfold zmany; (repeat first | rw [if_pos (by omega)] | rw [if_neg (by omega)]); try rfl, _, _, _, _, rfl⟩
  by_cases q1_4 : x.toInt = 4
  · skip
    refine lv_tableIn (tgt := 78) (off := 77) F.1 F.2.1 dX8_many_1 (by have := True.intro; omega) (by have := True.intro; omega) (by rw [show ((x).toInt - 0).toNat = 4 from by have := True.intro; omega]; rfl) (by decide) ?_
    refine lv_aload_n F.1 F.2.1 dX8_many_78 rfl (lv_at hl 0 rfl) ?_
    refine lv_iconst (v := nI 1) F.1 F.2.1 dX8_many_79 (by decide) ?_
    refine mca_i (b := (mga G 0)) (As := [.int (nI 1)]) (rest := []) F (c_X8_wayMany l G M P L N V n aa ac ra o zf zs zd hV 1 (by omega)) (xcw F.2.2.2.2 ca_X8_wayMany tm_742 rfl rfl ⟨by decide, by decide⟩) (mr_X8 hW) hW rfl hl.1 rfl (Nat.le_of_ble_eq_true rfl) dX8_many_80 (fun r80 u80 H locs hp80 hW => ?_)
    obtain ⟨rfl, P80, L80, rfl⟩ := hp80
    have hW : mW G s s.heap H locs M P80 L80 N V := hW
    refine mre_i F hr hlk hW dX8_many_83 ?_
    exact ⟨by unfold zmany; (repeat first | rw [if_pos (by omega)] | rw [if_neg (by omega)]); try rfl, _, _, _, _, rfl⟩
  by_cases q1_5 : x.toInt = 5
  · skip
    refine lv_tableIn (tgt := 84) (off := 83) F.1 F.2.1 dX8_many_1 (by have := True.intro; omega) (by have := True.intro; omega) (by rw [show ((x).toInt - 0).toNat = 5 from by have := True.intro; omega]; rfl) (by decide) ?_
    refine lv_aload_n F.1 F.2.1 dX8_many_84 rfl (lv_at hl 0 rfl) ?_
    refine lv_iconst (v := nI 0) F.1 F.2.1 dX8_many_85 (by decide) ?_
    refine mca_i (b := (mga G 0)) (As := [.int (nI 0)]) (rest := []) F (c_X8_jointMany_a l G M P L N V n aa ac ra o zf zs zd hV) (xcw F.2.2.2.2 ca_X8_jointMany tm_746 rfl rfl ⟨by decide, by decide⟩) (mr_X8 hW) hW rfl hl.1 rfl (Nat.le_of_ble_eq_true rfl) dX8_many_86 (fun r86 u86 H locs hp86 hW => ?_)
    obtain ⟨rfl, P86, L86, rfl⟩ := hp86
    have hW : mW G s s.heap H locs M P86 L86 N V := hW
    refine mre_i F hr hlk hW dX8_many_89 ?_
    exact ⟨by unfold zmany; (repeat first | rw [if_pos (by omega)] | rw [if_neg (by omega)]); try rfl, _, _, _, _, rfl⟩
  by_cases q1_6 : x.toInt = 6
  · skip
    refine lv_tableIn (tgt := 90) (off := 89) F.1 F.2.1 dX8_many_1 (by have := True.intro; omega) (by have := True.intro; omega) (by rw [show ((x).toInt - 0).toNat = 6 from by have := True.intro; omega]; rfl) (by decide) ?_
    refine lv_aload_n F.1 F.2.1 dX8_many_90 rfl (lv_at hl 0 rfl) ?_
    refine lv_iconst (v := nI 1) F.1 F.2.1 dX8_many_91 (by decide) ?_
    refine mca_i (b := (mga G 0)) (As := [.int (nI 1)]) (rest := []) F (c_X8_jointMany_f l G M P L N V n aa ac ra o zf zs zd hV) (xcw F.2.2.2.2 ca_X8_jointMany tm_746 rfl rfl ⟨by decide, by decide⟩) (mr_X8 hW) hW rfl hl.1 rfl (Nat.le_of_ble_eq_true rfl) dX8_many_92 (fun r92 u92 H locs hp92 hW => ?_)
    obtain ⟨rfl, P92, L92, rfl⟩ := hp92
    have hW : mW G s s.heap H locs M P92 L92 N V := hW
    refine mre_i F hr hlk hW dX8_many_95 ?_
    exact ⟨by unfold zmany; (repeat first | rw [if_pos (by omega)] | rw [if_neg (by omega)]); try rfl, _, _, _, _, rfl⟩
  by_cases q1_7 : x.toInt = 7
  · skip
    refine lv_tableIn (tgt := 96) (off := 95) F.1 F.2.1 dX8_many_1 (by have := True.intro; omega) (by have := True.intro; omega) (by rw [show ((x).toInt - 0).toNat = 7 from by have := True.intro; omega]; rfl) (by decide) ?_
    refine lv_aload_n F.1 F.2.1 dX8_many_96 rfl (lv_at hl 0 rfl) ?_
    refine mca_i (b := (mga G 0)) (As := []) (rest := []) F (c_X8_doubleMany l G M P L N V n aa ac ra o zf zs zd hV) (xcw F.2.2.2.2 ca_X8_doubleMany tm_750 rfl rfl ⟨by decide, by decide⟩) (mr_X8 hW) hW rfl hl.1 rfl (Nat.le_of_ble_eq_true rfl) dX8_many_97 (fun r97 u97 H locs hp97 hW => ?_)
    obtain ⟨rfl, P97, rfl⟩ := hp97
    have hW : mW G s s.heap H locs M P97 L N V := hW
    refine mre_i F hr hlk hW dX8_many_100 ?_
    exact ⟨by unfold zmany; (repeat first | rw [if_pos (by omega)] | rw [if_neg (by omega)]); try rfl, _, _, _, _, rfl⟩
  by_cases q1_8 : x.toInt = 8
  · skip
    refine lv_tableIn (tgt := 101) (off := 100) F.1 F.2.1 dX8_many_1 (by have := True.intro; omega) (by have := True.intro; omega) (by rw [show ((x).toInt - 0).toNat = 8 from by have := True.intro; omega]; rfl) (by decide) ?_
    refine lv_aload_n F.1 F.2.1 dX8_many_101 rfl (lv_at hl 0 rfl) ?_
    refine mg_written F hW tm_504 dX8_many_102 ?_
    refine mre_i F hr hlk hW dX8_many_105 ?_
    exact ⟨by unfold zmany; (repeat first | rw [if_pos (by omega)] | rw [if_neg (by omega)]); try rfl, _, _, _, _, rfl⟩
  have q1_9 : x.toInt = 9 := by omega
  refine lv_tableIn (tgt := 106) (off := 105) F.1 F.2.1 dX8_many_1 (by have := True.intro; omega) (by have := True.intro; omega) (by rw [show ((x).toInt - 0).toNat = 9 from by have := True.intro; omega]; rfl) (by decide) ?_
  refine lv_aload_n F.1 F.2.1 dX8_many_106 rfl (lv_at hl 0 rfl) ?_
  refine mg_arguments F hW tm_507 dX8_many_107 ?_
  refine ax_re (show nI M.2.2.2.2.2.2.2.1 = nI aa from congrArg nI ea) ?_
  refine mre_i F hr hlk hW dX8_many_110 ?_
  exact ⟨by unfold zmany; (repeat first | rw [if_pos (by omega)] | rw [if_neg (by omega)]); try rfl, _, _, _, _, rfl⟩
theorem dX8_near_0 : decode cX8_near 0 = .ok (.iconst 0, 1) := by decide +kernel
theorem dX8_near_1 : decode cX8_near 1 = .ok (.istore_n 2, 1) := by decide +kernel
theorem dX8_near_2 : decode cX8_near 2 = .ok (.iconst 0, 1) := by decide +kernel
theorem dX8_near_3 : decode cX8_near 3 = .ok (.istore_n 3, 1) := by decide +kernel
theorem dX8_near_4 : decode cX8_near 4 = .ok (.iload_n 3, 1) := by decide +kernel
theorem dX8_near_5 : decode cX8_near 5 = .ok (.sipush 1200, 3) := by decide +kernel
theorem dX8_near_8 : decode cX8_near 8 = .ok (.if_icmp .ge 112, 3) := by decide +kernel
theorem dX8_near_11 : decode cX8_near 11 = .ok (.aload_n 0, 1) := by decide +kernel
theorem dX8_near_12 : decode cX8_near 12 = .ok (.iload_n 3, 1) := by decide +kernel
theorem dX8_near_13 : decode cX8_near 13 = .ok (.invokevirtual 125, 3) := by decide +kernel
theorem dX8_near_16 : decode cX8_near 16 = .ok (.ifCond .eq 98, 3) := by decide +kernel
theorem dX8_near_19 : decode cX8_near 19 = .ok (.aload_n 0, 1) := by decide +kernel
theorem dX8_near_20 : decode cX8_near 20 = .ok (.iload_n 3, 1) := by decide +kernel
theorem dX8_near_21 : decode cX8_near 21 = .ok (.invokevirtual 146, 3) := by decide +kernel
theorem dX8_near_24 : decode cX8_near 24 = .ok (.iconst 2, 1) := by decide +kernel
theorem dX8_near_25 : decode cX8_near 25 = .ok (.if_icmp .ne 89, 3) := by decide +kernel
theorem dX8_near_28 : decode cX8_near 28 = .ok (.aload_n 0, 1) := by decide +kernel
theorem dX8_near_29 : decode cX8_near 29 = .ok (.getfield 137, 3) := by decide +kernel
theorem dX8_near_32 : decode cX8_near 32 = .ok (.istore 4, 2) := by decide +kernel
theorem dX8_near_34 : decode cX8_near 34 = .ok (.iload_n 2, 1) := by decide +kernel
theorem dX8_near_35 : decode cX8_near 35 = .ok (.istore 5, 2) := by decide +kernel
theorem dX8_near_37 : decode cX8_near 37 = .ok (.iload 5, 2) := by decide +kernel
theorem dX8_near_39 : decode cX8_near 39 = .ok (.ifCond .le 55, 3) := by decide +kernel
theorem dX8_near_42 : decode cX8_near 42 = .ok (.aload_n 0, 1) := by decide +kernel
theorem dX8_near_43 : decode cX8_near 43 = .ok (.getfield 45, 3) := by decide +kernel
theorem dX8_near_46 : decode cX8_near 46 = .ok (.iload 5, 2) := by decide +kernel
theorem dX8_near_48 : decode cX8_near 48 = .ok (.iconst 1, 1) := by decide +kernel
theorem dX8_near_49 : decode cX8_near 49 = .ok (.isub, 1) := by decide +kernel
theorem dX8_near_50 : decode cX8_near 50 = .ok (.iaload, 1) := by decide +kernel
theorem dX8_near_51 : decode cX8_near 51 = .ok (.iload 4, 2) := by decide +kernel
theorem dX8_near_53 : decode cX8_near 53 = .ok (.if_icmp .le 41, 3) := by decide +kernel
theorem dX8_near_56 : decode cX8_near 56 = .ok (.aload_n 0, 1) := by decide +kernel
theorem dX8_near_57 : decode cX8_near 57 = .ok (.getfield 42, 3) := by decide +kernel
theorem dX8_near_60 : decode cX8_near 60 = .ok (.iload 5, 2) := by decide +kernel
theorem dX8_near_62 : decode cX8_near 62 = .ok (.aload_n 0, 1) := by decide +kernel
theorem dX8_near_63 : decode cX8_near 63 = .ok (.getfield 42, 3) := by decide +kernel
theorem dX8_near_66 : decode cX8_near 66 = .ok (.iload 5, 2) := by decide +kernel
theorem dX8_near_68 : decode cX8_near 68 = .ok (.iconst 1, 1) := by decide +kernel
theorem dX8_near_69 : decode cX8_near 69 = .ok (.isub, 1) := by decide +kernel
theorem dX8_near_70 : decode cX8_near 70 = .ok (.iaload, 1) := by decide +kernel
theorem dX8_near_71 : decode cX8_near 71 = .ok (.iastore, 1) := by decide +kernel
theorem dX8_near_72 : decode cX8_near 72 = .ok (.aload_n 0, 1) := by decide +kernel
theorem dX8_near_73 : decode cX8_near 73 = .ok (.getfield 45, 3) := by decide +kernel
theorem dX8_near_76 : decode cX8_near 76 = .ok (.iload 5, 2) := by decide +kernel
theorem dX8_near_78 : decode cX8_near 78 = .ok (.aload_n 0, 1) := by decide +kernel
theorem dX8_near_79 : decode cX8_near 79 = .ok (.getfield 45, 3) := by decide +kernel
theorem dX8_near_82 : decode cX8_near 82 = .ok (.iload 5, 2) := by decide +kernel
theorem dX8_near_84 : decode cX8_near 84 = .ok (.iconst 1, 1) := by decide +kernel
theorem dX8_near_85 : decode cX8_near 85 = .ok (.isub, 1) := by decide +kernel
theorem dX8_near_86 : decode cX8_near 86 = .ok (.iaload, 1) := by decide +kernel
theorem dX8_near_87 : decode cX8_near 87 = .ok (.iastore, 1) := by decide +kernel
theorem dX8_near_88 : decode cX8_near 88 = .ok (.iinc 5 (-1), 3) := by decide +kernel
theorem dX8_near_91 : decode cX8_near 91 = .ok (.goto (-54), 3) := by decide +kernel
theorem dX8_near_94 : decode cX8_near 94 = .ok (.aload_n 0, 1) := by decide +kernel
theorem dX8_near_95 : decode cX8_near 95 = .ok (.getfield 42, 3) := by decide +kernel
theorem dX8_near_98 : decode cX8_near 98 = .ok (.iload 5, 2) := by decide +kernel
theorem dX8_near_100 : decode cX8_near 100 = .ok (.iload_n 3, 1) := by decide +kernel
theorem dX8_near_101 : decode cX8_near 101 = .ok (.iastore, 1) := by decide +kernel
theorem dX8_near_102 : decode cX8_near 102 = .ok (.aload_n 0, 1) := by decide +kernel
theorem dX8_near_103 : decode cX8_near 103 = .ok (.getfield 45, 3) := by decide +kernel
theorem dX8_near_106 : decode cX8_near 106 = .ok (.iload 5, 2) := by decide +kernel
theorem dX8_near_108 : decode cX8_near 108 = .ok (.iload 4, 2) := by decide +kernel
theorem dX8_near_110 : decode cX8_near 110 = .ok (.iastore, 1) := by decide +kernel
theorem dX8_near_111 : decode cX8_near 111 = .ok (.iinc 2 1, 3) := by decide +kernel
theorem dX8_near_114 : decode cX8_near 114 = .ok (.iinc 3 1, 3) := by decide +kernel
theorem dX8_near_117 : decode cX8_near 117 = .ok (.goto (-113), 3) := by decide +kernel
theorem dX8_near_120 : decode cX8_near 120 = .ok (.iload_n 1, 1) := by decide +kernel
theorem dX8_near_121 : decode cX8_near 121 = .ok (.iconst 0, 1) := by decide +kernel
theorem dX8_near_122 : decode cX8_near 122 = .ok (.iload_n 2, 1) := by decide +kernel
theorem dX8_near_123 : decode cX8_near 123 = .ok (.iconst 1, 1) := by decide +kernel
theorem dX8_near_124 : decode cX8_near 124 = .ok (.isub, 1) := by decide +kernel
theorem dX8_near_125 : decode cX8_near 125 = .ok (.invokestatic 60, 3) := by decide +kernel
theorem dX8_near_128 : decode cX8_near 128 = .ok (.ifCond .eq 12, 3) := by decide +kernel
theorem dX8_near_131 : decode cX8_near 131 = .ok (.aload_n 0, 1) := by decide +kernel
theorem dX8_near_132 : decode cX8_near 132 = .ok (.getfield 42, 3) := by decide +kernel
theorem dX8_near_135 : decode cX8_near 135 = .ok (.iload_n 1, 1) := by decide +kernel
theorem dX8_near_136 : decode cX8_near 136 = .ok (.iaload, 1) := by decide +kernel
theorem dX8_near_137 : decode cX8_near 137 = .ok (.goto 5, 3) := by decide +kernel
theorem dX8_near_140 : decode cX8_near 140 = .ok (.bipush (-3), 2) := by decide +kernel
theorem dX8_near_142 : decode cX8_near 142 = .ok (.ireturn, 1) := by decide +kernel
set_option maxHeartbeats 4000000 in
set_option maxRecDepth 100000 in
theorem c_X8_near (l : Launch) (G : MG) (M : MM) (P : MP) (L : ML) (nw nm : Nat → Nat) (V : MV) (n aa ac : Nat) (ra : Nat → Nat) (o : Nat → Int32 → Int32 → Int64) (zf zs : Nat → Int32) (zd : Nat → Int64) (hV : mV M n aa ac ra o zf zs zd) (k : Int32) : Met l yX8_near (wC yX8_near cX8_near 6 (some .int)) (rmD 7) (mPc G [.ref (mga G 0), .int k] M P L (nw, nm) V) (va_Qi (fun v u => v = zkth (znl (zwl n aa ra 1200) (zmi o zf zs zd ac) ac) k ∧ ∃ (P2 : MP) (L2 : ML) (N2 : MN) (V2 : MV), u = (M, P2, L2, N2, V2)) (mB G) (mA G)) 0 0 (mA G) := by
  refine mst "DoFinderModel" (by decide) rfl (Nat.le_of_ble_eq_true rfl) ?_
  intro p e s m args below meth c ls F hr hlk hW hl
  have hl : lv_has ls 6 [(0, .ref (mga G 0)), (1, .int k)] := hl
  have hW : mW G s s.heap s.heap [] M P L (nw, nm) V := hW
  have b_k := i32b k
  obtain ⟨en, ea, ec, era, eo, ef, es, ed, bn, ba, bc, bf, brc, bra, bd⟩ := id hV
  refine lv_iconst (v := nI 0) F.1 F.2.1 dX8_near_0 (by decide) ?_
  refine lv_istore_n (lv' := [(2, .int (nI 0)), (0, .ref (mga G 0)), (1, .int k)]) F.1 F.2.1 dX8_near_1 rfl hl (by decide) rfl (fun ls hl => ?_)
  refine lv_iconst (v := nI 0) F.1 F.2.1 dX8_near_2 (by decide) ?_
  refine lv_istore_n (lv' := [(3, .int (nI 0)), (2, .int (nI 0)), (0, .ref (mga G 0)), (1, .int k)]) F.1 F.2.1 dX8_near_3 rfl hl (by decide) rfl (fun ls hl => ?_)
  have lp4 : ∀ (k4 : Nat) (Pk : MP) (Lk : ML) (t : Nat) (w : Nat) (nw0 : Nat → Nat) (nm0 : Nat → Nat), 1200 - w = k4 → (w ≤ 1200) → (t = (znl (zwl n aa ra w) (zmi o zf zs zd ac) ac).length) → (zpre nw0 (znl (zwl n aa ra w) (zmi o zf zs zd ac) ac)) → (zprg nm0 (zmi o zf zs zd ac) (znl (zwl n aa ra w) (zmi o zf zs zd ac) ac)) → ∀ (H : Heap) (locs : List Loc) (ls : Array Slot), mW G s s.heap H locs M Pk Lk (nw0, nm0) V →  lv_has ls 6 [(0, .ref (mga G 0)), (1, .int k), (2, .int (nI t)), (3, .int (nI w))] → W p l e (rmD 7) s m args below meth c H locs 0 0 (MQ below (va_Qi (fun v u => v = zkth (znl (zwl n aa ra 1200) (zmi o zf zs zd ac) ac) k ∧ ∃ (P2 : MP) (L2 : ML) (N2 : MN) (V2 : MV), u = (M, P2, L2, N2, V2)) (mB G) (mA G)) args s 0 0 (mA G)) (F0 m 4 ls []) := by
    intro k4
    induction k4 using Nat.strongRecOn with
    | ind k4 ih4 =>
      intro Pk Lk t w nw0 nm0 hk4 h1 h2 h3 h4 H locs ls hW hl
      have u1 := znl_le (zwl n aa ra w) (zmi o zf zs zd ac) ac
      obtain ⟨ut, u2⟩ := zwl_pre (n := n) (aa := aa) (ra := ra) (k := w) 1200 h1
      have u3 := zwl_all_len (n := n) (aa := aa) (ra := ra) bn
      rw [u2, List.length_append] at u3
      refine lv_iload_n F.1 F.2.1 dX8_near_4 rfl (lv_at hl 3 rfl) ?_
      refine lv_sipush (v := nI 1200) F.1 F.2.1 dX8_near_5 (by decide) ?_
      refine lv_icmp_ge (tgt := 120) F.1 F.2.1 dX8_near_8 (by decide) (fun c8 => ?_) (fun c8 => ?_)
      · have c8 := ci_le (a := 1200) (b := ((w : Nat) : Int)) (by decide) (nI_toInt (by omega)) c8
        refine lv_iload_n F.1 F.2.1 dX8_near_120 rfl (lv_at hl 1 rfl) ?_
        refine lv_iconst (v := nI 0) F.1 F.2.1 dX8_near_121 (by decide) ?_
        refine lv_iload_n F.1 F.2.1 dX8_near_122 rfl (lv_at hl 2 rfl) ?_
        refine lv_iconst (v := nI 1) F.1 F.2.1 dX8_near_123 (by decide) ?_
        refine ax_sub F rfl dX8_near_124 ?_
        refine ax_nm (a := ((t : Nat) : Int) - 1) (ci_sub (nI_toInt (by omega)) (by decide) (by omega) (by omega)) (fun v1 hv1 => ?_)
        refine pca (As := [.int k, .int (nI 0), .int v1]) (rest := []) F (c_X8_in l k (nI 0) v1 k.toInt 0 (((t : Nat) : Int) - 1) rfl (by decide) hv1) (xcwS F.2.2.2.2 ca_X8_in tm_577 rfl rfl ⟨by decide, by decide⟩) rfl hl.1 rfl (Nat.le_of_ble_eq_true rfl) dX8_near_125 (fun r125 hr125 => ?_)
        rcases hr125 with ⟨rfl, y125⟩ | ⟨rfl, y125⟩
        · skip
          refine lv_if_eq (tgt := 140) F.1 F.2.1 dX8_near_128 (by decide) (fun q => absurd q (by decide)) (fun _ => ?_)
          refine lv_aload_n F.1 F.2.1 dX8_near_131 rfl (lv_at hl 0 rfl) ?_
          refine mg_nearWay F hW tm_517 dX8_near_132 ?_
          refine lv_iload_n F.1 F.2.1 dX8_near_135 rfl (lv_at hl 1 rfl) ?_
          refine ml_nw (i := k.toInt.toNat) F hW (ix_of (by omega)) (by omega) dX8_near_136 ?_
          refine lv_goto (tgt := 142) F.1 F.2.1 dX8_near_137 (by decide) ?_
          refine mre_i F hr hlk hW dX8_near_142 ?_
          rw [show w = 1200 by omega] at h2 h3
          first | exact ⟨zkth_1 h3 (by omega) (by omega), _, _, _, _, rfl⟩ | exact ⟨zkth_0 (by omega), _, _, _, _, rfl⟩
        · skip
          refine lv_if_eq (tgt := 140) F.1 F.2.1 dX8_near_128 (by decide) (fun _ => ?_) (fun q => absurd q (by decide))
          refine lv_bipush (v := (-3)) F.1 F.2.1 dX8_near_140 (by decide) ?_
          refine mre_i F hr hlk hW dX8_near_142 ?_
          rw [show w = 1200 by omega] at h2 h3
          first | exact ⟨zkth_1 h3 (by omega) (by omega), _, _, _, _, rfl⟩ | exact ⟨zkth_0 (by omega), _, _, _, _, rfl⟩
      · have c8 := ci_nle (a := 1200) (b := ((w : Nat) : Int)) (by decide) (nI_toInt (by omega)) c8
        refine lv_aload_n F.1 F.2.1 dX8_near_11 rfl (lv_at hl 0 rfl) ?_
        refine lv_iload_n F.1 F.2.1 dX8_near_12 rfl (lv_at hl 3 rfl) ?_
        refine mca_i (b := (mga G 0)) (As := [.int (nI w)]) (rest := []) F (c_X8_isWay l G M Pk Lk (nw0, nm0) V n aa ac ra o zf zs zd hV w (by omega)) (xcw F.2.2.2.2 ca_X8_isWay tm_675 rfl rfl ⟨by decide, by decide⟩) (mr_X8 hW) hW rfl hl.1 rfl (Nat.le_of_ble_eq_true rfl) dX8_near_13 (fun r13 u13 H locs hp13 hW => ?_)
        obtain ⟨hp13, rfl⟩ := hp13
        have hW : mW G s s.heap H locs M Pk Lk (nw0, nm0) V := hW
        rcases hp13 with ⟨rfl, y13⟩ | ⟨rfl, y13⟩
        · skip
          have hkk : zok n aa ra w = true := zok_of_way bn y13
          refine lv_if_eq (tgt := 114) F.1 F.2.1 dX8_near_16 (by decide) (fun q => absurd q (by decide)) (fun _ => ?_)
          refine lv_aload_n F.1 F.2.1 dX8_near_19 rfl (lv_at hl 0 rfl) ?_
          refine lv_iload_n F.1 F.2.1 dX8_near_20 rfl (lv_at hl 3 rfl) ?_
          refine mca_i (b := (mga G 0)) (As := [.int (nI w)]) (rest := []) F (c_X8_stateOf l G M Pk Lk (nw0, nm0) V n aa ac ra o zf zs zd hV w (by omega) hkk) (xcw F.2.2.2.2 ca_X8_stateOf tm_699 rfl rfl ⟨by decide, by decide⟩) (mr_X8 hW) hW rfl hl.1 rfl (Nat.le_of_ble_eq_true rfl) dX8_near_21 (fun r21 u21 H locs hp21 hW => ?_)
          obtain ⟨rfl, P21, rfl⟩ := hp21
          have hW : mW G s s.heap H locs M P21 (zmi o zf zs zd ac w, zdo o zf zs zd ac w) (nw0, nm0) V := hW
          have zs21 : (zst o zf zs zd ac w) ≤ 2 := zst_le _ _ _ _ _ _
          refine lv_iconst (v := nI 2) F.1 F.2.1 dX8_near_24 (by decide) ?_
          refine lv_icmp_ne (tgt := 114) F.1 F.2.1 dX8_near_25 (by decide) (fun c25 => ?_) (fun c25 => ?_)
          · have c25 := ci_ne (a := (((zst o zf zs zd ac w) : Nat) : Int)) (b := 2) (nI_toInt (by omega)) (by decide) c25
            have z0 : zmi o zf zs zd ac w = 0 := by
              rcases Nat.eq_zero_or_pos (zmi o zf zs zd ac w) with z | z
              · exact z
              · exact absurd (zst_2.mpr z) (by omega)
            refine lv_iinc (v := nI (w + 1)) (lv' := [(3, .int (nI (w + 1))), (0, .ref (mga G 0)), (1, .int k), (2, .int (nI t))]) F.1 F.2.1 dX8_near_114 hl (k := 3) rfl (nI_add _ 1) (by decide) rfl (fun ls hl => ?_)
            refine lv_goto (tgt := 4) F.1 F.2.1 dX8_near_117 (by decide) ?_
            exact ih4 (1200 - (w + 1)) (by omega) P21 (zmi o zf zs zd ac w, zdo o zf zs zd ac w) t (w + 1) nw0 nm0 rfl (by omega) (by rw [zwl_t y13, znl_out ac (Or.inl z0)]; exact h2) (by rw [zwl_t y13, znl_out ac (Or.inl z0)]; exact h3) (by rw [zwl_t y13, znl_out ac (Or.inl z0)]; exact h4) _ _ _ hW (lv_sub hl [1, 2, 3, 0] rfl)
          · have c25 := ci_eq (a := (((zst o zf zs zd ac w) : Nat) : Int)) (b := 2) (nI_toInt (by omega)) (by decide) c25
            have z1 : 0 < zmi o zf zs zd ac w := zst_2.mp (by omega)
            have z2 : zmi o zf zs zd ac w ≤ ac := zcnt_le _ _
            have eO : (znl (zwl n aa ra w) (zmi o zf zs zd ac) ac) = (znl (zwl n aa ra w) (zmi o zf zs zd ac) (zmi o zf zs zd ac w) ++ znr (zwl n aa ra w) (zmi o zf zs zd ac) (zmi o zf zs zd ac w) (ac - zmi o zf zs zd ac w)) := by
              have e7 := znl_split (zwl n aa ra w) (zmi o zf zs zd ac) (zmi o zf zs zd ac w) (ac - zmi o zf zs zd ac w)
              rw [show zmi o zf zs zd ac w + (ac - zmi o zf zs zd ac w) = ac by omega] at e7
              exact e7
            have u4 := (znl_le (zwl n aa ra (w + 1)) (zmi o zf zs zd ac) ac)
            rw [zwl_t y13, znl_in z1 z2, List.length_append, List.length_cons] at u4
            have u5 : (znl (zwl n aa ra w) (zmi o zf zs zd ac) ac).length = t := h2.symm
            rw [eO, List.length_append] at u5
            obtain ⟨ux, u6⟩ := zwl_pre (n := n) (aa := aa) (ra := ra) (k := w + 1) 1200 (by omega)
            have u7 := zwl_all_len (n := n) (aa := aa) (ra := ra) bn
            rw [u6, List.length_append, zwl_t y13] at u7
            refine lv_aload_n F.1 F.2.1 dX8_near_28 rfl (lv_at hl 0 rfl) ?_
            refine mg_missesOf F hW tm_515 dX8_near_29 ?_
            refine lv_istore (lv' := [(4, .int (nI (zmi o zf zs zd ac w))), (0, .ref (mga G 0)), (1, .int k), (2, .int (nI t)), (3, .int (nI w))]) F.1 F.2.1 dX8_near_32 hl (by decide) rfl (fun ls hl => ?_)
            refine lv_iload_n F.1 F.2.1 dX8_near_34 rfl (lv_at hl 3 rfl) ?_
            refine lv_istore (lv' := [(5, .int (nI t)), (4, .int (nI (zmi o zf zs zd ac w))), (0, .ref (mga G 0)), (1, .int k), (2, .int (nI t)), (3, .int (nI w))]) F.1 F.2.1 dX8_near_35 hl (by decide) rfl (fun ls hl => ?_)
            have lp37 : ∀ (k37 : Nat) (q : Nat) (nw1 : Nat → Nat) (nm1 : Nat → Nat), q = k37 → (q ≤ t) → (∀ i, i < q → nw1 i = (znl (zwl n aa ra w) (zmi o zf zs zd ac) (zmi o zf zs zd ac w) ++ znr (zwl n aa ra w) (zmi o zf zs zd ac) (zmi o zf zs zd ac w) (ac - zmi o zf zs zd ac w)).getD i 0 ∧ nm1 i = zmi o zf zs zd ac ((znl (zwl n aa ra w) (zmi o zf zs zd ac) (zmi o zf zs zd ac w) ++ znr (zwl n aa ra w) (zmi o zf zs zd ac) (zmi o zf zs zd ac w) (ac - zmi o zf zs zd ac w)).getD i 0)) → (∀ i, q < i → i ≤ (znl (zwl n aa ra w) (zmi o zf zs zd ac) (zmi o zf zs zd ac w) ++ znr (zwl n aa ra w) (zmi o zf zs zd ac) (zmi o zf zs zd ac w) (ac - zmi o zf zs zd ac w)).length → nw1 i = (znl (zwl n aa ra w) (zmi o zf zs zd ac) (zmi o zf zs zd ac w) ++ znr (zwl n aa ra w) (zmi o zf zs zd ac) (zmi o zf zs zd ac w) (ac - zmi o zf zs zd ac w)).getD (i - 1) 0 ∧ nm1 i = zmi o zf zs zd ac ((znl (zwl n aa ra w) (zmi o zf zs zd ac) (zmi o zf zs zd ac w) ++ znr (zwl n aa ra w) (zmi o zf zs zd ac) (zmi o zf zs zd ac w) (ac - zmi o zf zs zd ac w)).getD (i - 1) 0)) → (∀ i, q ≤ i → i < (znl (zwl n aa ra w) (zmi o zf zs zd ac) (zmi o zf zs zd ac w) ++ znr (zwl n aa ra w) (zmi o zf zs zd ac) (zmi o zf zs zd ac w) (ac - zmi o zf zs zd ac w)).length → zmi o zf zs zd ac w < zmi o zf zs zd ac ((znl (zwl n aa ra w) (zmi o zf zs zd ac) (zmi o zf zs zd ac w) ++ znr (zwl n aa ra w) (zmi o zf zs zd ac) (zmi o zf zs zd ac w) (ac - zmi o zf zs zd ac w)).getD i 0)) → ∀ (H : Heap) (locs : List Loc) (ls : Array Slot), mW G s s.heap H locs M P21 (zmi o zf zs zd ac w, zdo o zf zs zd ac w) (nw1, nm1) V →  lv_has ls 6 [(0, .ref (mga G 0)), (1, .int k), (2, .int (nI t)), (3, .int (nI w)), (4, .int (nI (zmi o zf zs zd ac w))), (5, .int (nI q))] → W p l e (rmD 7) s m args below meth c H locs 0 0 (MQ below (va_Qi (fun v u => v = zkth (znl (zwl n aa ra 1200) (zmi o zf zs zd ac) ac) k ∧ ∃ (P2 : MP) (L2 : ML) (N2 : MN) (V2 : MV), u = (M, P2, L2, N2, V2)) (mB G) (mA G)) args s 0 0 (mA G)) (F0 m 37 ls []) := by
              intro k37
              induction k37 using Nat.strongRecOn with
              | ind k37 ih37 =>
                intro q nw1 nm1 hk37 i0 i1 i2 i3 H locs ls hW hl
                refine lv_iload F.1 F.2.1 dX8_near_37 (lv_at hl 5 rfl) ?_
                refine lv_if_le (tgt := 94) F.1 F.2.1 dX8_near_39 (by decide) (fun c39 => ?_) (fun c39 => ?_)
                · have c39 := ci_le (a := ((q : Nat) : Int)) (b := 0) (nI_toInt (by omega)) ci_0 c39
                  skip
                  refine lv_aload_n F.1 F.2.1 dX8_near_94 rfl (lv_at hl 0 rfl) ?_
                  refine mg_nearWay F hW tm_517 dX8_near_95 ?_
                  refine lv_iload F.1 F.2.1 dX8_near_98 (lv_at hl 5 rfl) ?_
                  refine lv_iload_n F.1 F.2.1 dX8_near_100 rfl (lv_at hl 3 rfl) ?_
                  refine ms_nw (i := q) (k := w) F hW rfl (by omega) rfl dX8_near_101 (fun H locs hW => ?_)
                  have hW : mW G s s.heap H locs M P21 (zmi o zf zs zd ac w, zdo o zf zs zd ac w) (upN nw1 q w, nm1) V := hW
                  refine lv_aload_n F.1 F.2.1 dX8_near_102 rfl (lv_at hl 0 rfl) ?_
                  refine mg_nearMisses F hW tm_518 dX8_near_103 ?_
                  refine lv_iload F.1 F.2.1 dX8_near_106 (lv_at hl 5 rfl) ?_
                  refine lv_iload F.1 F.2.1 dX8_near_108 (lv_at hl 4 rfl) ?_
                  refine ms_nm (i := q) (k := (zmi o zf zs zd ac w)) F hW rfl (by omega) rfl dX8_near_110 (fun H locs hW => ?_)
                  have hW : mW G s s.heap H locs M P21 (zmi o zf zs zd ac w, zdo o zf zs zd ac w) (upN nw1 q w, upN nm1 q (zmi o zf zs zd ac w)) V := hW
                  refine lv_iinc (v := nI (t + 1)) (lv' := [(2, .int (nI (t + 1))), (0, .ref (mga G 0)), (1, .int k), (3, .int (nI w)), (4, .int (nI (zmi o zf zs zd ac w))), (5, .int (nI q))]) F.1 F.2.1 dX8_near_111 hl (k := 2) rfl (nI_add _ 1) (by decide) rfl (fun ls hl => ?_)
                  refine lv_iinc (v := nI (w + 1)) (lv' := [(3, .int (nI (w + 1))), (2, .int (nI (t + 1))), (0, .ref (mga G 0)), (1, .int k), (4, .int (nI (zmi o zf zs zd ac w))), (5, .int (nI q))]) F.1 F.2.1 dX8_near_114 hl (k := 3) rfl (nI_add _ 1) (by decide) rfl (fun ls hl => ?_)
                  refine lv_goto (tgt := 4) F.1 F.2.1 dX8_near_117 (by decide) ?_
                  exact ih4 (1200 - (w + 1)) (by omega) P21 (zmi o zf zs zd ac w, zdo o zf zs zd ac w) (t + 1) (w + 1) (upN nw1 q w) (upN nm1 q (zmi o zf zs zd ac w)) rfl (by omega) (by rw [zwl_t y13, znl_in z1 z2, List.length_append, List.length_cons]; rw [eO, List.length_append] at h2; omega) (by rw [zwl_t y13, znl_in z1 z2]; exact (zins (fun a ha => znl_le_mem _ a ha) (fun b hb => znr_gt_mem _ b hb) (by rw [← eO]; omega) i1 i2 i3 (Or.inl (by omega))).1) (by rw [zwl_t y13, znl_in z1 z2]; exact (zins (fun a ha => znl_le_mem _ a ha) (fun b hb => znr_gt_mem _ b hb) (by rw [← eO]; omega) i1 i2 i3 (Or.inl (by omega))).2) _ _ _ hW (lv_sub hl [2, 3, 1, 0] rfl)
                · have c39 := ci_nle (a := ((q : Nat) : Int)) (b := 0) (nI_toInt (by omega)) ci_0 c39
                  have j1 := i1 (q - 1) (by omega)
                  have j2 : zmi o zf zs zd ac ((znl (zwl n aa ra w) (zmi o zf zs zd ac) (zmi o zf zs zd ac w) ++ znr (zwl n aa ra w) (zmi o zf zs zd ac) (zmi o zf zs zd ac w) (ac - zmi o zf zs zd ac w)).getD (q - 1) 0) ≤ ac := zcnt_le _ _
                  refine lv_aload_n F.1 F.2.1 dX8_near_42 rfl (lv_at hl 0 rfl) ?_
                  refine mg_nearMisses F hW tm_518 dX8_near_43 ?_
                  refine lv_iload F.1 F.2.1 dX8_near_46 (lv_at hl 5 rfl) ?_
                  refine lv_iconst (v := nI 1) F.1 F.2.1 dX8_near_48 (by decide) ?_
                  refine ax_sub (z := nI (q - 1)) F (pk_sub (a := q) (b := 1) (by omega)) dX8_near_49 ?_
                  refine ml_nm (i := (q - 1)) F hW rfl (by omega) dX8_near_50 ?_
                  refine lv_iload F.1 F.2.1 dX8_near_51 (lv_at hl 4 rfl) ?_
                  refine lv_icmp_le (tgt := 94) F.1 F.2.1 dX8_near_53 (by decide) (fun c53 => ?_) (fun c53 => ?_)
                  · have c53 := ci_le (a := ((nm1 (q - 1) : Nat) : Int)) (b := ((zmi o zf zs zd ac w : Nat) : Int)) (nI_toInt (by omega)) (nI_toInt (by omega)) c53
                    skip
                    refine lv_aload_n F.1 F.2.1 dX8_near_94 rfl (lv_at hl 0 rfl) ?_
                    refine mg_nearWay F hW tm_517 dX8_near_95 ?_
                    refine lv_iload F.1 F.2.1 dX8_near_98 (lv_at hl 5 rfl) ?_
                    refine lv_iload_n F.1 F.2.1 dX8_near_100 rfl (lv_at hl 3 rfl) ?_
                    refine ms_nw (i := q) (k := w) F hW rfl (by omega) rfl dX8_near_101 (fun H locs hW => ?_)
                    have hW : mW G s s.heap H locs M P21 (zmi o zf zs zd ac w, zdo o zf zs zd ac w) (upN nw1 q w, nm1) V := hW
                    refine lv_aload_n F.1 F.2.1 dX8_near_102 rfl (lv_at hl 0 rfl) ?_
                    refine mg_nearMisses F hW tm_518 dX8_near_103 ?_
                    refine lv_iload F.1 F.2.1 dX8_near_106 (lv_at hl 5 rfl) ?_
                    refine lv_iload F.1 F.2.1 dX8_near_108 (lv_at hl 4 rfl) ?_
                    refine ms_nm (i := q) (k := (zmi o zf zs zd ac w)) F hW rfl (by omega) rfl dX8_near_110 (fun H locs hW => ?_)
                    have hW : mW G s s.heap H locs M P21 (zmi o zf zs zd ac w, zdo o zf zs zd ac w) (upN nw1 q w, upN nm1 q (zmi o zf zs zd ac w)) V := hW
                    refine lv_iinc (v := nI (t + 1)) (lv' := [(2, .int (nI (t + 1))), (0, .ref (mga G 0)), (1, .int k), (3, .int (nI w)), (4, .int (nI (zmi o zf zs zd ac w))), (5, .int (nI q))]) F.1 F.2.1 dX8_near_111 hl (k := 2) rfl (nI_add _ 1) (by decide) rfl (fun ls hl => ?_)
                    refine lv_iinc (v := nI (w + 1)) (lv' := [(3, .int (nI (w + 1))), (2, .int (nI (t + 1))), (0, .ref (mga G 0)), (1, .int k), (4, .int (nI (zmi o zf zs zd ac w))), (5, .int (nI q))]) F.1 F.2.1 dX8_near_114 hl (k := 3) rfl (nI_add _ 1) (by decide) rfl (fun ls hl => ?_)
                    refine lv_goto (tgt := 4) F.1 F.2.1 dX8_near_117 (by decide) ?_
                    exact ih4 (1200 - (w + 1)) (by omega) P21 (zmi o zf zs zd ac w, zdo o zf zs zd ac w) (t + 1) (w + 1) (upN nw1 q w) (upN nm1 q (zmi o zf zs zd ac w)) rfl (by omega) (by rw [zwl_t y13, znl_in z1 z2, List.length_append, List.length_cons]; rw [eO, List.length_append] at h2; omega) (by rw [zwl_t y13, znl_in z1 z2]; exact (zins (fun a ha => znl_le_mem _ a ha) (fun b hb => znr_gt_mem _ b hb) (by rw [← eO]; omega) i1 i2 i3 (Or.inr (by rw [← (i1 (q - 1) (by omega)).2]; omega))).1) (by rw [zwl_t y13, znl_in z1 z2]; exact (zins (fun a ha => znl_le_mem _ a ha) (fun b hb => znr_gt_mem _ b hb) (by rw [← eO]; omega) i1 i2 i3 (Or.inr (by rw [← (i1 (q - 1) (by omega)).2]; omega))).2) _ _ _ hW (lv_sub hl [2, 3, 1, 0] rfl)
                  · have c53 := ci_nle (a := ((nm1 (q - 1) : Nat) : Int)) (b := ((zmi o zf zs zd ac w : Nat) : Int)) (nI_toInt (by omega)) (nI_toInt (by omega)) c53
                    refine lv_aload_n F.1 F.2.1 dX8_near_56 rfl (lv_at hl 0 rfl) ?_
                    refine mg_nearWay F hW tm_517 dX8_near_57 ?_
                    refine lv_iload F.1 F.2.1 dX8_near_60 (lv_at hl 5 rfl) ?_
                    refine lv_aload_n F.1 F.2.1 dX8_near_62 rfl (lv_at hl 0 rfl) ?_
                    refine mg_nearWay F hW tm_517 dX8_near_63 ?_
                    refine lv_iload F.1 F.2.1 dX8_near_66 (lv_at hl 5 rfl) ?_
                    refine lv_iconst (v := nI 1) F.1 F.2.1 dX8_near_68 (by decide) ?_
                    refine ax_sub (z := nI (q - 1)) F (pk_sub (a := q) (b := 1) (by omega)) dX8_near_69 ?_
                    refine ml_nw (i := (q - 1)) F hW rfl (by omega) dX8_near_70 ?_
                    refine ms_nw (i := q) (k := (nw1 (q - 1))) F hW rfl (by omega) rfl dX8_near_71 (fun H locs hW => ?_)
                    have hW : mW G s s.heap H locs M P21 (zmi o zf zs zd ac w, zdo o zf zs zd ac w) (upN nw1 q (nw1 (q - 1)), nm1) V := hW
                    refine lv_aload_n F.1 F.2.1 dX8_near_72 rfl (lv_at hl 0 rfl) ?_
                    refine mg_nearMisses F hW tm_518 dX8_near_73 ?_
                    refine lv_iload F.1 F.2.1 dX8_near_76 (lv_at hl 5 rfl) ?_
                    refine lv_aload_n F.1 F.2.1 dX8_near_78 rfl (lv_at hl 0 rfl) ?_
                    refine mg_nearMisses F hW tm_518 dX8_near_79 ?_
                    refine lv_iload F.1 F.2.1 dX8_near_82 (lv_at hl 5 rfl) ?_
                    refine lv_iconst (v := nI 1) F.1 F.2.1 dX8_near_84 (by decide) ?_
                    refine ax_sub (z := nI (q - 1)) F (pk_sub (a := q) (b := 1) (by omega)) dX8_near_85 ?_
                    refine ml_nm (i := (q - 1)) F hW rfl (by omega) dX8_near_86 ?_
                    refine ms_nm (i := q) (k := (nm1 (q - 1))) F hW rfl (by omega) rfl dX8_near_87 (fun H locs hW => ?_)
                    have hW : mW G s s.heap H locs M P21 (zmi o zf zs zd ac w, zdo o zf zs zd ac w) (upN nw1 q (nw1 (q - 1)), upN nm1 q (nm1 (q - 1))) V := hW
                    refine lv_iinc (v := nI (q - 1)) (lv' := [(5, .int (nI (q - 1))), (0, .ref (mga G 0)), (1, .int k), (2, .int (nI t)), (3, .int (nI w)), (4, .int (nI (zmi o zf zs zd ac w)))]) F.1 F.2.1 dX8_near_88 hl (k := 5) rfl (nI_dec (by omega)) (by decide) rfl (fun ls hl => ?_)
                    refine lv_goto (tgt := 37) F.1 F.2.1 dX8_near_91 (by decide) ?_
                    exact ih37 (q - 1) (by omega) (q - 1) (upN nw1 q (nw1 (q - 1))) (upN nm1 q (nm1 (q - 1))) rfl (by omega) (fun i hi => by rw [upN_n (by omega), upN_n (by omega)]; exact i1 i (by omega)) (fun i hi hi2 => zsh (i1 (q - 1) (by omega)) (i2 i) hi hi2) (zsh3 (i1 (q - 1) (by omega)).2 (by omega) i3 (by omega)) _ _ _ hW (lv_sub hl [1, 2, 3, 4, 5, 0] rfl)
            exact lp37 t t nw0 nm0 rfl (Nat.le_refl _) (fun i hi => by rw [← eO]; exact ⟨h3 i (by omega), h4 i (by omega)⟩) (fun i hi hi2 => by rw [← eO] at hi2; omega) (fun i hi hi2 => by rw [← eO] at hi2; omega) _ _ _ hW (lv_sub hl [2, 3, 4, 5, 1, 0] rfl)
        · skip
          skip
          refine lv_if_eq (tgt := 114) F.1 F.2.1 dX8_near_16 (by decide) (fun _ => ?_) (fun q => absurd q (by decide))
          refine lv_iinc (v := nI (w + 1)) (lv' := [(3, .int (nI (w + 1))), (0, .ref (mga G 0)), (1, .int k), (2, .int (nI t))]) F.1 F.2.1 dX8_near_114 hl (k := 3) rfl (nI_add _ 1) (by decide) rfl (fun ls hl => ?_)
          refine lv_goto (tgt := 4) F.1 F.2.1 dX8_near_117 (by decide) ?_
          exact ih4 (1200 - (w + 1)) (by omega) Pk Lk t (w + 1) nw0 nm0 rfl (by omega) (by rw [zwl_f y13]; exact h2) (by rw [zwl_f y13]; exact h3) (by rw [zwl_f y13]; exact h4) _ _ _ hW (lv_sub hl [1, 2, 3, 0] rfl)
  exact lp4 (1200 - 0) P L 0 0 nw nm rfl (Nat.zero_le _) (by rw [zwl_0, znl_nil]; rfl) (by rw [zwl_0, znl_nil]; exact zpre_nil) (by rw [zwl_0, znl_nil]; exact lt_0) _ _ _ hW (lv_sub hl [2, 3, 1, 0] rfl)
