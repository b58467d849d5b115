theorem dX3_reckon_0 : decode cX3_reckon 0 = .ok (.aload_n 0, 1) := by decide +kernel
theorem dX3_reckon_1 : decode cX3_reckon 1 = .ok (.getfield 15, 3) := by decide +kernel
theorem dX3_reckon_4 : decode cX3_reckon 4 = .ok (.iconst 2, 1) := by decide +kernel
theorem dX3_reckon_5 : decode cX3_reckon 5 = .ok (.if_icmp .ge 5, 3) := by decide +kernel
theorem dX3_reckon_8 : decode cX3_reckon 8 = .ok (.iconst 0, 1) := by decide +kernel
theorem dX3_reckon_9 : decode cX3_reckon 9 = .ok (.ireturn, 1) := by decide +kernel
theorem dX3_reckon_10 : decode cX3_reckon 10 = .ok (.aload_n 0, 1) := by decide +kernel
theorem dX3_reckon_11 : decode cX3_reckon 11 = .ok (.getfield 9, 3) := by decide +kernel
theorem dX3_reckon_14 : decode cX3_reckon 14 = .ok (.aload_n 0, 1) := by decide +kernel
theorem dX3_reckon_15 : decode cX3_reckon 15 = .ok (.getfield 15, 3) := by decide +kernel
theorem dX3_reckon_18 : decode cX3_reckon 18 = .ok (.iconst 1, 1) := by decide +kernel
theorem dX3_reckon_19 : decode cX3_reckon 19 = .ok (.isub, 1) := by decide +kernel
theorem dX3_reckon_20 : decode cX3_reckon 20 = .ok (.iaload, 1) := by decide +kernel
theorem dX3_reckon_21 : decode cX3_reckon 21 = .ok (.istore_n 2, 1) := by decide +kernel
theorem dX3_reckon_22 : decode cX3_reckon 22 = .ok (.aload_n 0, 1) := by decide +kernel
theorem dX3_reckon_23 : decode cX3_reckon 23 = .ok (.getfield 9, 3) := by decide +kernel
theorem dX3_reckon_26 : decode cX3_reckon 26 = .ok (.aload_n 0, 1) := by decide +kernel
theorem dX3_reckon_27 : decode cX3_reckon 27 = .ok (.getfield 15, 3) := by decide +kernel
theorem dX3_reckon_30 : decode cX3_reckon 30 = .ok (.iconst 2, 1) := by decide +kernel
theorem dX3_reckon_31 : decode cX3_reckon 31 = .ok (.isub, 1) := by decide +kernel
theorem dX3_reckon_32 : decode cX3_reckon 32 = .ok (.iaload, 1) := by decide +kernel
theorem dX3_reckon_33 : decode cX3_reckon 33 = .ok (.istore_n 3, 1) := by decide +kernel
theorem dX3_reckon_34 : decode cX3_reckon 34 = .ok (.iload_n 1, 1) := by decide +kernel
theorem dX3_reckon_35 : decode cX3_reckon 35 = .ok (.bipush 12, 2) := by decide +kernel
theorem dX3_reckon_37 : decode cX3_reckon 37 = .ok (.if_icmp .ne 11, 3) := by decide +kernel
theorem dX3_reckon_40 : decode cX3_reckon 40 = .ok (.iload_n 3, 1) := by decide +kernel
theorem dX3_reckon_41 : decode cX3_reckon 41 = .ok (.iload_n 2, 1) := by decide +kernel
theorem dX3_reckon_42 : decode cX3_reckon 42 = .ok (.iadd, 1) := by decide +kernel
theorem dX3_reckon_43 : decode cX3_reckon 43 = .ok (.istore 4, 2) := by decide +kernel
theorem dX3_reckon_45 : decode cX3_reckon 45 = .ok (.goto 84, 3) := by decide +kernel
theorem dX3_reckon_48 : decode cX3_reckon 48 = .ok (.iload_n 1, 1) := by decide +kernel
theorem dX3_reckon_49 : decode cX3_reckon 49 = .ok (.bipush 13, 2) := by decide +kernel
theorem dX3_reckon_51 : decode cX3_reckon 51 = .ok (.if_icmp .ne 11, 3) := by decide +kernel
theorem dX3_reckon_54 : decode cX3_reckon 54 = .ok (.iload_n 3, 1) := by decide +kernel
theorem dX3_reckon_55 : decode cX3_reckon 55 = .ok (.iload_n 2, 1) := by decide +kernel
theorem dX3_reckon_56 : decode cX3_reckon 56 = .ok (.isub, 1) := by decide +kernel
theorem dX3_reckon_57 : decode cX3_reckon 57 = .ok (.istore 4, 2) := by decide +kernel
theorem dX3_reckon_59 : decode cX3_reckon 59 = .ok (.goto 70, 3) := by decide +kernel
theorem dX3_reckon_62 : decode cX3_reckon 62 = .ok (.iload_n 1, 1) := by decide +kernel
theorem dX3_reckon_63 : decode cX3_reckon 63 = .ok (.bipush 14, 2) := by decide +kernel
theorem dX3_reckon_65 : decode cX3_reckon 65 = .ok (.if_icmp .ne 11, 3) := by decide +kernel
theorem dX3_reckon_68 : decode cX3_reckon 68 = .ok (.iload_n 3, 1) := by decide +kernel
theorem dX3_reckon_69 : decode cX3_reckon 69 = .ok (.iload_n 2, 1) := by decide +kernel
theorem dX3_reckon_70 : decode cX3_reckon 70 = .ok (.imul, 1) := by decide +kernel
theorem dX3_reckon_71 : decode cX3_reckon 71 = .ok (.istore 4, 2) := by decide +kernel
theorem dX3_reckon_73 : decode cX3_reckon 73 = .ok (.goto 56, 3) := by decide +kernel
theorem dX3_reckon_76 : decode cX3_reckon 76 = .ok (.iload_n 1, 1) := by decide +kernel
theorem dX3_reckon_77 : decode cX3_reckon 77 = .ok (.bipush 15, 2) := by decide +kernel
theorem dX3_reckon_79 : decode cX3_reckon 79 = .ok (.if_icmp .ne 17, 3) := by decide +kernel
theorem dX3_reckon_82 : decode cX3_reckon 82 = .ok (.iload_n 2, 1) := by decide +kernel
theorem dX3_reckon_83 : decode cX3_reckon 83 = .ok (.ifCond .ne 5, 3) := by decide +kernel
theorem dX3_reckon_86 : decode cX3_reckon 86 = .ok (.iconst 0, 1) := by decide +kernel
theorem dX3_reckon_87 : decode cX3_reckon 87 = .ok (.ireturn, 1) := by decide +kernel
theorem dX3_reckon_88 : decode cX3_reckon 88 = .ok (.iload_n 3, 1) := by decide +kernel
theorem dX3_reckon_89 : decode cX3_reckon 89 = .ok (.iload_n 2, 1) := by decide +kernel
theorem dX3_reckon_90 : decode cX3_reckon 90 = .ok (.idiv, 1) := by decide +kernel
theorem dX3_reckon_91 : decode cX3_reckon 91 = .ok (.istore 4, 2) := by decide +kernel
theorem dX3_reckon_93 : decode cX3_reckon 93 = .ok (.goto 36, 3) := by decide +kernel
theorem dX3_reckon_96 : decode cX3_reckon 96 = .ok (.iload_n 1, 1) := by decide +kernel
theorem dX3_reckon_97 : decode cX3_reckon 97 = .ok (.bipush 16, 2) := by decide +kernel
theorem dX3_reckon_99 : decode cX3_reckon 99 = .ok (.if_icmp .ne 18, 3) := by decide +kernel
theorem dX3_reckon_102 : decode cX3_reckon 102 = .ok (.iload_n 3, 1) := by decide +kernel
theorem dX3_reckon_103 : decode cX3_reckon 103 = .ok (.iload_n 2, 1) := by decide +kernel
theorem dX3_reckon_104 : decode cX3_reckon 104 = .ok (.if_icmp .ge 7, 3) := by decide +kernel
theorem dX3_reckon_107 : decode cX3_reckon 107 = .ok (.iload_n 3, 1) := by decide +kernel
theorem dX3_reckon_108 : decode cX3_reckon 108 = .ok (.goto 4, 3) := by decide +kernel
theorem dX3_reckon_111 : decode cX3_reckon 111 = .ok (.iload_n 2, 1) := by decide +kernel
theorem dX3_reckon_112 : decode cX3_reckon 112 = .ok (.istore 4, 2) := by decide +kernel
theorem dX3_reckon_114 : decode cX3_reckon 114 = .ok (.goto 15, 3) := by decide +kernel
theorem dX3_reckon_117 : decode cX3_reckon 117 = .ok (.iload_n 3, 1) := by decide +kernel
theorem dX3_reckon_118 : decode cX3_reckon 118 = .ok (.iload_n 2, 1) := by decide +kernel
theorem dX3_reckon_119 : decode cX3_reckon 119 = .ok (.if_icmp .le 7, 3) := by decide +kernel
theorem dX3_reckon_122 : decode cX3_reckon 122 = .ok (.iload_n 3, 1) := by decide +kernel
theorem dX3_reckon_123 : decode cX3_reckon 123 = .ok (.goto 4, 3) := by decide +kernel
theorem dX3_reckon_126 : decode cX3_reckon 126 = .ok (.iload_n 2, 1) := by decide +kernel
theorem dX3_reckon_127 : decode cX3_reckon 127 = .ok (.istore 4, 2) := by decide +kernel
theorem dX3_reckon_129 : decode cX3_reckon 129 = .ok (.aload_n 0, 1) := by decide +kernel
theorem dX3_reckon_130 : decode cX3_reckon 130 = .ok (.dup, 1) := by decide +kernel
theorem dX3_reckon_131 : decode cX3_reckon 131 = .ok (.getfield 15, 3) := by decide +kernel
theorem dX3_reckon_134 : decode cX3_reckon 134 = .ok (.iconst 1, 1) := by decide +kernel
theorem dX3_reckon_135 : decode cX3_reckon 135 = .ok (.isub, 1) := by decide +kernel
theorem dX3_reckon_136 : decode cX3_reckon 136 = .ok (.putfield 15, 3) := by decide +kernel
theorem dX3_reckon_139 : decode cX3_reckon 139 = .ok (.aload_n 0, 1) := by decide +kernel
theorem dX3_reckon_140 : decode cX3_reckon 140 = .ok (.getfield 9, 3) := by decide +kernel
theorem dX3_reckon_143 : decode cX3_reckon 143 = .ok (.aload_n 0, 1) := by decide +kernel
theorem dX3_reckon_144 : decode cX3_reckon 144 = .ok (.getfield 15, 3) := by decide +kernel
theorem dX3_reckon_147 : decode cX3_reckon 147 = .ok (.iconst 1, 1) := by decide +kernel
theorem dX3_reckon_148 : decode cX3_reckon 148 = .ok (.isub, 1) := by decide +kernel
theorem dX3_reckon_149 : decode cX3_reckon 149 = .ok (.iload 4, 2) := by decide +kernel
theorem dX3_reckon_151 : decode cX3_reckon 151 = .ok (.iastore, 1) := by decide +kernel
theorem dX3_reckon_152 : decode cX3_reckon 152 = .ok (.iconst 1, 1) := by decide +kernel
theorem dX3_reckon_153 : decode cX3_reckon 153 = .ok (.ireturn, 1) := by decide +kernel
set_option maxHeartbeats 4000000 in
set_option maxRecDepth 100000 in
theorem c_X3_reckon (l : Launch) (G : XG) (M : XM) (dn h : Nat) (tk : Int32) (f : Nat → Int32) (S : XS) (V : XV) (hh : h ≤ 8) (x a b : Int32) (hx : 12 ≤ x.toInt) (hx2 : x.toInt < 18) : Met l yX3_reckon (wC yX3_reckon cX3_reckon 5 (some .boolean)) (rmD 0) (xPc G [.ref (xga G 5), .int x] M (dn, h, tk, f) S V) (va_Qi (fun r u => (sp_good x.toInt h f = true ∧ r = nI 1 ∧ u = (M, (dn, sp_h x.toInt h, tk, sp_f x a b h f), S, V)) ∨ (sp_good x.toInt h f = false ∧ r = nI 0 ∧ u = (M, (dn, h, tk, f), S, V))) (xB G) (xA G)) 0 0 (xA G) := by
  refine xst "DoFinder$Pile" (by decide) rfl (Nat.le_of_ble_eq_true rfl) ?_
  intro p e s m args below meth c ls F hr hlk hW hl
  have hl : lv_has ls 5 [(0, .ref (xga G 5)), (1, .int x)] := hl
  have hW : xW G s s.heap s.heap [] M (dn, h, tk, f) S V := hW
  have b_x := i32b x
  refine lv_aload_n F.1 F.2.1 dX3_reckon_0 rfl (lv_at hl 0 rfl) ?_
  refine xg_Pile_height F hW tm_57 dX3_reckon_1 ?_
  refine lv_iconst (v := nI 2) F.1 F.2.1 dX3_reckon_4 (by decide) ?_
  refine lv_icmp_ge (tgt := 10) F.1 F.2.1 dX3_reckon_5 (by decide) (fun c5 => ?_) (fun c5 => ?_)
  · have c5 := ci_le (a := 2) (b := ((h : Nat) : Int)) (by decide) (nI_toInt (by omega)) c5
    refine lv_aload_n F.1 F.2.1 dX3_reckon_10 rfl (lv_at hl 0 rfl) ?_
    refine xg_Pile_numbers F hW tm_56 dX3_reckon_11 ?_
    refine lv_aload_n F.1 F.2.1 dX3_reckon_14 rfl (lv_at hl 0 rfl) ?_
    refine xg_Pile_height F hW tm_57 dX3_reckon_15 ?_
    refine lv_iconst (v := nI 1) F.1 F.2.1 dX3_reckon_18 (by decide) ?_
    refine ax_sub (z := nI (h - 1)) F (pk_sub (a := h) (b := 1) (by omega)) dX3_reckon_19 ?_
    refine xl_nu (i := (h - 1)) F hW rfl (by omega) dX3_reckon_20 ?_
    have b20 := i32b (f (h - 1))
    refine lv_istore_n (lv' := [(2, .int (f (h - 1))), (0, .ref (xga G 5)), (1, .int x)]) F.1 F.2.1 dX3_reckon_21 rfl hl (by decide) rfl (fun ls hl => ?_)
    refine lv_aload_n F.1 F.2.1 dX3_reckon_22 rfl (lv_at hl 1 rfl) ?_
    refine xg_Pile_numbers F hW tm_56 dX3_reckon_23 ?_
    refine lv_aload_n F.1 F.2.1 dX3_reckon_26 rfl (lv_at hl 1 rfl) ?_
    refine xg_Pile_height F hW tm_57 dX3_reckon_27 ?_
    refine lv_iconst (v := nI 2) F.1 F.2.1 dX3_reckon_30 (by decide) ?_
    refine ax_sub (z := nI (h - 2)) F (pk_sub (a := h) (b := 2) (by omega)) dX3_reckon_31 ?_
    refine xl_nu (i := (h - 2)) F hW rfl (by omega) dX3_reckon_32 ?_
    have b32 := i32b (f (h - 2))
    refine lv_istore_n (lv' := [(3, .int (f (h - 2))), (2, .int (f (h - 1))), (0, .ref (xga G 5)), (1, .int x)]) F.1 F.2.1 dX3_reckon_33 rfl hl (by decide) rfl (fun ls hl => ?_)
    refine lv_iload_n F.1 F.2.1 dX3_reckon_34 rfl (lv_at hl 3 rfl) ?_
    refine lv_bipush (v := nI 12) F.1 F.2.1 dX3_reckon_35 (by decide) ?_
    refine lv_icmp_ne (tgt := 48) F.1 F.2.1 dX3_reckon_37 (by decide) (fun c37 => ?_) (fun c37 => ?_)
    · have c37 := ci_ne (a := x.toInt) (b := 12) rfl (by decide) c37
      refine lv_iload_n F.1 F.2.1 dX3_reckon_48 rfl (lv_at hl 3 rfl) ?_
      refine lv_bipush (v := nI 13) F.1 F.2.1 dX3_reckon_49 (by decide) ?_
      refine lv_icmp_ne (tgt := 62) F.1 F.2.1 dX3_reckon_51 (by decide) (fun c51 => ?_) (fun c51 => ?_)
      · have c51 := ci_ne (a := x.toInt) (b := 13) rfl (by decide) c51
        refine lv_iload_n F.1 F.2.1 dX3_reckon_62 rfl (lv_at hl 3 rfl) ?_
        refine lv_bipush (v := nI 14) F.1 F.2.1 dX3_reckon_63 (by decide) ?_
        refine lv_icmp_ne (tgt := 76) F.1 F.2.1 dX3_reckon_65 (by decide) (fun c65 => ?_) (fun c65 => ?_)
        · have c65 := ci_ne (a := x.toInt) (b := 14) rfl (by decide) c65
          refine lv_iload_n F.1 F.2.1 dX3_reckon_76 rfl (lv_at hl 3 rfl) ?_
          refine lv_bipush (v := nI 15) F.1 F.2.1 dX3_reckon_77 (by decide) ?_
          refine lv_icmp_ne (tgt := 96) F.1 F.2.1 dX3_reckon_79 (by decide) (fun c79 => ?_) (fun c79 => ?_)
          · have c79 := ci_ne (a := x.toInt) (b := 15) rfl (by decide) c79
            refine lv_iload_n F.1 F.2.1 dX3_reckon_96 rfl (lv_at hl 3 rfl) ?_
            refine lv_bipush (v := nI 16) F.1 F.2.1 dX3_reckon_97 (by decide) ?_
            refine lv_icmp_ne (tgt := 117) F.1 F.2.1 dX3_reckon_99 (by decide) (fun c99 => ?_) (fun c99 => ?_)
            · have c99 := ci_ne (a := x.toInt) (b := 16) rfl (by decide) c99
              refine lv_iload_n F.1 F.2.1 dX3_reckon_117 rfl (lv_at hl 0 rfl) ?_
              refine lv_iload_n F.1 F.2.1 dX3_reckon_118 rfl (lv_at hl 1 rfl) ?_
              refine lv_icmp_le (tgt := 126) F.1 F.2.1 dX3_reckon_119 (by decide) (fun c119 => ?_) (fun c119 => ?_)
              · have c119 := ci_le (a := (f (h - 2)).toInt) (b := (f (h - 1)).toInt) rfl rfl c119
                refine lv_iload_n F.1 F.2.1 dX3_reckon_126 rfl (lv_at hl 1 rfl) ?_
                refine lv_istore (lv' := [(4, .int (f (h - 1))), (3, .int (f (h - 2))), (2, .int (f (h - 1))), (0, .ref (xga G 5)), (1, .int x)]) F.1 F.2.1 dX3_reckon_127 hl (by decide) rfl (fun ls hl => ?_)
                refine lv_aload_n F.1 F.2.1 dX3_reckon_129 rfl (lv_at hl 3 rfl) ?_
                refine lv_dup F.1 F.2.1 dX3_reckon_130 rfl ?_
                refine xg_Pile_height F hW tm_57 dX3_reckon_131 ?_
                refine lv_iconst (v := nI 1) F.1 F.2.1 dX3_reckon_134 (by decide) ?_
                refine ax_sub (z := nI (h - 1)) F (pk_sub (a := h) (b := 1) (by omega)) dX3_reckon_135 ?_
                refine xp_Pile_height (k := (h - 1)) F hW tm_57 rfl dX3_reckon_136 (fun H locs hW => ?_)
                have hW : xW G s s.heap H locs M (dn, h - 1, tk, f) S V := hW
                refine lv_aload_n F.1 F.2.1 dX3_reckon_139 rfl (lv_at hl 3 rfl) ?_
                refine xg_Pile_numbers F hW tm_56 dX3_reckon_140 ?_
                refine lv_aload_n F.1 F.2.1 dX3_reckon_143 rfl (lv_at hl 3 rfl) ?_
                refine xg_Pile_height F hW tm_57 dX3_reckon_144 ?_
                refine lv_iconst (v := nI 1) F.1 F.2.1 dX3_reckon_147 (by decide) ?_
                refine ax_sub (z := nI ((h - 1) - 1)) F (pk_sub (a := h - 1) (b := 1) (by omega)) dX3_reckon_148 ?_
                refine lv_iload F.1 F.2.1 dX3_reckon_149 (lv_at hl 0 rfl) ?_
                refine xs_nu (i := ((h - 1) - 1)) F hW rfl (by omega) dX3_reckon_151 (fun H locs hW => ?_)
                have hW : xW G s s.heap H locs M (dn, h - 1, tk, upd f ((h - 1) - 1) (f (h - 1))) S V := hW
                refine lv_iconst (v := nI 1) F.1 F.2.1 dX3_reckon_152 (by decide) ?_
                refine xre_z F hr hlk hW (by decide) dX3_reckon_153 ?_
                first | (exfalso; omega) | exact Or.inr ⟨decide_eq_false (by omega), rfl, rfl⟩ | exact Or.inl ⟨decide_eq_true (by omega), rfl, by rw [show h - 1 - 1 = h - 2 by omega]; unfold sp_h sp_f sp_wk; repeat first | rw [if_pos (by omega)] | rw [if_neg (by omega)]⟩
              · have c119 := ci_nle (a := (f (h - 2)).toInt) (b := (f (h - 1)).toInt) rfl rfl c119
                refine lv_iload_n F.1 F.2.1 dX3_reckon_122 rfl (lv_at hl 0 rfl) ?_
                refine lv_goto (tgt := 127) F.1 F.2.1 dX3_reckon_123 (by decide) ?_
                refine lv_istore (lv' := [(4, .int (f (h - 2))), (3, .int (f (h - 2))), (2, .int (f (h - 1))), (0, .ref (xga G 5)), (1, .int x)]) F.1 F.2.1 dX3_reckon_127 hl (by decide) rfl (fun ls hl => ?_)
                refine lv_aload_n F.1 F.2.1 dX3_reckon_129 rfl (lv_at hl 3 rfl) ?_
                refine lv_dup F.1 F.2.1 dX3_reckon_130 rfl ?_
                refine xg_Pile_height F hW tm_57 dX3_reckon_131 ?_
                refine lv_iconst (v := nI 1) F.1 F.2.1 dX3_reckon_134 (by decide) ?_
                refine ax_sub (z := nI (h - 1)) F (pk_sub (a := h) (b := 1) (by omega)) dX3_reckon_135 ?_
                refine xp_Pile_height (k := (h - 1)) F hW tm_57 rfl dX3_reckon_136 (fun H locs hW => ?_)
                have hW : xW G s s.heap H locs M (dn, h - 1, tk, f) S V := hW
                refine lv_aload_n F.1 F.2.1 dX3_reckon_139 rfl (lv_at hl 3 rfl) ?_
                refine xg_Pile_numbers F hW tm_56 dX3_reckon_140 ?_
                refine lv_aload_n F.1 F.2.1 dX3_reckon_143 rfl (lv_at hl 3 rfl) ?_
                refine xg_Pile_height F hW tm_57 dX3_reckon_144 ?_
                refine lv_iconst (v := nI 1) F.1 F.2.1 dX3_reckon_147 (by decide) ?_
                refine ax_sub (z := nI ((h - 1) - 1)) F (pk_sub (a := h - 1) (b := 1) (by omega)) dX3_reckon_148 ?_
                refine lv_iload F.1 F.2.1 dX3_reckon_149 (lv_at hl 0 rfl) ?_
                refine xs_nu (i := ((h - 1) - 1)) F hW rfl (by omega) dX3_reckon_151 (fun H locs hW => ?_)
                have hW : xW G s s.heap H locs M (dn, h - 1, tk, upd f ((h - 1) - 1) (f (h - 2))) S V := hW
                refine lv_iconst (v := nI 1) F.1 F.2.1 dX3_reckon_152 (by decide) ?_
                refine xre_z F hr hlk hW (by decide) dX3_reckon_153 ?_
                first | (exfalso; omega) | exact Or.inr ⟨decide_eq_false (by omega), rfl, rfl⟩ | exact Or.inl ⟨decide_eq_true (by omega), rfl, by rw [show h - 1 - 1 = h - 2 by omega]; unfold sp_h sp_f sp_wk; repeat first | rw [if_pos (by omega)] | rw [if_neg (by omega)]⟩
            · have c99 := ci_eq (a := x.toInt) (b := 16) rfl (by decide) c99
              refine lv_iload_n F.1 F.2.1 dX3_reckon_102 rfl (lv_at hl 0 rfl) ?_
              refine lv_iload_n F.1 F.2.1 dX3_reckon_103 rfl (lv_at hl 1 rfl) ?_
              refine lv_icmp_ge (tgt := 111) F.1 F.2.1 dX3_reckon_104 (by decide) (fun c104 => ?_) (fun c104 => ?_)
              · have c104 := ci_le (a := (f (h - 1)).toInt) (b := (f (h - 2)).toInt) rfl rfl c104
                refine lv_iload_n F.1 F.2.1 dX3_reckon_111 rfl (lv_at hl 1 rfl) ?_
                refine lv_istore (lv' := [(4, .int (f (h - 1))), (3, .int (f (h - 2))), (2, .int (f (h - 1))), (0, .ref (xga G 5)), (1, .int x)]) F.1 F.2.1 dX3_reckon_112 hl (by decide) rfl (fun ls hl => ?_)
                refine lv_goto (tgt := 129) F.1 F.2.1 dX3_reckon_114 (by decide) ?_
                refine lv_aload_n F.1 F.2.1 dX3_reckon_129 rfl (lv_at hl 3 rfl) ?_
                refine lv_dup F.1 F.2.1 dX3_reckon_130 rfl ?_
                refine xg_Pile_height F hW tm_57 dX3_reckon_131 ?_
                refine lv_iconst (v := nI 1) F.1 F.2.1 dX3_reckon_134 (by decide) ?_
                refine ax_sub (z := nI (h - 1)) F (pk_sub (a := h) (b := 1) (by omega)) dX3_reckon_135 ?_
                refine xp_Pile_height (k := (h - 1)) F hW tm_57 rfl dX3_reckon_136 (fun H locs hW => ?_)
                have hW : xW G s s.heap H locs M (dn, h - 1, tk, f) S V := hW
                refine lv_aload_n F.1 F.2.1 dX3_reckon_139 rfl (lv_at hl 3 rfl) ?_
                refine xg_Pile_numbers F hW tm_56 dX3_reckon_140 ?_
                refine lv_aload_n F.1 F.2.1 dX3_reckon_143 rfl (lv_at hl 3 rfl) ?_
                refine xg_Pile_height F hW tm_57 dX3_reckon_144 ?_
                refine lv_iconst (v := nI 1) F.1 F.2.1 dX3_reckon_147 (by decide) ?_
                refine ax_sub (z := nI ((h - 1) - 1)) F (pk_sub (a := h - 1) (b := 1) (by omega)) dX3_reckon_148 ?_
                refine lv_iload F.1 F.2.1 dX3_reckon_149 (lv_at hl 0 rfl) ?_
                refine xs_nu (i := ((h - 1) - 1)) F hW rfl (by omega) dX3_reckon_151 (fun H locs hW => ?_)
                have hW : xW G s s.heap H locs M (dn, h - 1, tk, upd f ((h - 1) - 1) (f (h - 1))) S V := hW
                refine lv_iconst (v := nI 1) F.1 F.2.1 dX3_reckon_152 (by decide) ?_
                refine xre_z F hr hlk hW (by decide) dX3_reckon_153 ?_
                first | (exfalso; omega) | exact Or.inr ⟨decide_eq_false (by omega), rfl, rfl⟩ | exact Or.inl ⟨decide_eq_true (by omega), rfl, by rw [show h - 1 - 1 = h - 2 by omega]; unfold sp_h sp_f sp_wk; repeat first | rw [if_pos (by omega)] | rw [if_neg (by omega)]⟩
              · have c104 := ci_nle (a := (f (h - 1)).toInt) (b := (f (h - 2)).toInt) rfl rfl c104
                refine lv_iload_n F.1 F.2.1 dX3_reckon_107 rfl (lv_at hl 0 rfl) ?_
                refine lv_goto (tgt := 112) F.1 F.2.1 dX3_reckon_108 (by decide) ?_
                refine lv_istore (lv' := [(4, .int (f (h - 2))), (3, .int (f (h - 2))), (2, .int (f (h - 1))), (0, .ref (xga G 5)), (1, .int x)]) F.1 F.2.1 dX3_reckon_112 hl (by decide) rfl (fun ls hl => ?_)
                refine lv_goto (tgt := 129) F.1 F.2.1 dX3_reckon_114 (by decide) ?_
                refine lv_aload_n F.1 F.2.1 dX3_reckon_129 rfl (lv_at hl 3 rfl) ?_
                refine lv_dup F.1 F.2.1 dX3_reckon_130 rfl ?_
                refine xg_Pile_height F hW tm_57 dX3_reckon_131 ?_
                refine lv_iconst (v := nI 1) F.1 F.2.1 dX3_reckon_134 (by decide) ?_
                refine ax_sub (z := nI (h - 1)) F (pk_sub (a := h) (b := 1) (by omega)) dX3_reckon_135 ?_
                refine xp_Pile_height (k := (h - 1)) F hW tm_57 rfl dX3_reckon_136 (fun H locs hW => ?_)
                have hW : xW G s s.heap H locs M (dn, h - 1, tk, f) S V := hW
                refine lv_aload_n F.1 F.2.1 dX3_reckon_139 rfl (lv_at hl 3 rfl) ?_
                refine xg_Pile_numbers F hW tm_56 dX3_reckon_140 ?_
                refine lv_aload_n F.1 F.2.1 dX3_reckon_143 rfl (lv_at hl 3 rfl) ?_
                refine xg_Pile_height F hW tm_57 dX3_reckon_144 ?_
                refine lv_iconst (v := nI 1) F.1 F.2.1 dX3_reckon_147 (by decide) ?_
                refine ax_sub (z := nI ((h - 1) - 1)) F (pk_sub (a := h - 1) (b := 1) (by omega)) dX3_reckon_148 ?_
                refine lv_iload F.1 F.2.1 dX3_reckon_149 (lv_at hl 0 rfl) ?_
                refine xs_nu (i := ((h - 1) - 1)) F hW rfl (by omega) dX3_reckon_151 (fun H locs hW => ?_)
                have hW : xW G s s.heap H locs M (dn, h - 1, tk, upd f ((h - 1) - 1) (f (h - 2))) S V := hW
                refine lv_iconst (v := nI 1) F.1 F.2.1 dX3_reckon_152 (by decide) ?_
                refine xre_z F hr hlk hW (by decide) dX3_reckon_153 ?_
                first | (exfalso; omega) | exact Or.inr ⟨decide_eq_false (by omega), rfl, rfl⟩ | exact Or.inl ⟨decide_eq_true (by omega), rfl, by rw [show h - 1 - 1 = h - 2 by omega]; unfold sp_h sp_f sp_wk; repeat first | rw [if_pos (by omega)] | rw [if_neg (by omega)]⟩
          · have c79 := ci_eq (a := x.toInt) (b := 15) rfl (by decide) c79
            refine lv_iload_n F.1 F.2.1 dX3_reckon_82 rfl (lv_at hl 1 rfl) ?_
            refine lv_if_ne (tgt := 88) F.1 F.2.1 dX3_reckon_83 (by decide) (fun c83 => ?_) (fun c83 => ?_)
            · have c83 := ci_ne (a := (f (h - 1)).toInt) (b := 0) rfl ci_0 c83
              refine lv_iload_n F.1 F.2.1 dX3_reckon_88 rfl (lv_at hl 0 rfl) ?_
              refine lv_iload_n F.1 F.2.1 dX3_reckon_89 rfl (lv_at hl 1 rfl) ?_
              refine ax_div F (fun q => c83 (by rw [q]; decide)) rfl dX3_reckon_90 ?_
              refine lv_istore (lv' := [(4, .int ((f (h - 2)) / (f (h - 1)))), (3, .int (f (h - 2))), (2, .int (f (h - 1))), (0, .ref (xga G 5)), (1, .int x)]) F.1 F.2.1 dX3_reckon_91 hl (by decide) rfl (fun ls hl => ?_)
              refine lv_goto (tgt := 129) F.1 F.2.1 dX3_reckon_93 (by decide) ?_
              refine lv_aload_n F.1 F.2.1 dX3_reckon_129 rfl (lv_at hl 3 rfl) ?_
              refine lv_dup F.1 F.2.1 dX3_reckon_130 rfl ?_
              refine xg_Pile_height F hW tm_57 dX3_reckon_131 ?_
              refine lv_iconst (v := nI 1) F.1 F.2.1 dX3_reckon_134 (by decide) ?_
              refine ax_sub (z := nI (h - 1)) F (pk_sub (a := h) (b := 1) (by omega)) dX3_reckon_135 ?_
              refine xp_Pile_height (k := (h - 1)) F hW tm_57 rfl dX3_reckon_136 (fun H locs hW => ?_)
              have hW : xW G s s.heap H locs M (dn, h - 1, tk, f) S V := hW
              refine lv_aload_n F.1 F.2.1 dX3_reckon_139 rfl (lv_at hl 3 rfl) ?_
              refine xg_Pile_numbers F hW tm_56 dX3_reckon_140 ?_
              refine lv_aload_n F.1 F.2.1 dX3_reckon_143 rfl (lv_at hl 3 rfl) ?_
              refine xg_Pile_height F hW tm_57 dX3_reckon_144 ?_
              refine lv_iconst (v := nI 1) F.1 F.2.1 dX3_reckon_147 (by decide) ?_
              refine ax_sub (z := nI ((h - 1) - 1)) F (pk_sub (a := h - 1) (b := 1) (by omega)) dX3_reckon_148 ?_
              refine lv_iload F.1 F.2.1 dX3_reckon_149 (lv_at hl 0 rfl) ?_
              refine xs_nu (i := ((h - 1) - 1)) F hW rfl (by omega) dX3_reckon_151 (fun H locs hW => ?_)
              have hW : xW G s s.heap H locs M (dn, h - 1, tk, upd f ((h - 1) - 1) ((f (h - 2)) / (f (h - 1)))) S V := hW
              refine lv_iconst (v := nI 1) F.1 F.2.1 dX3_reckon_152 (by decide) ?_
              refine xre_z F hr hlk hW (by decide) dX3_reckon_153 ?_
              first | (exfalso; omega) | exact Or.inr ⟨decide_eq_false (by omega), rfl, rfl⟩ | exact Or.inl ⟨decide_eq_true (by omega), rfl, by rw [show h - 1 - 1 = h - 2 by omega]; unfold sp_h sp_f sp_wk; repeat first | rw [if_pos (by omega)] | rw [if_neg (by omega)]⟩
            · have c83 := ci_eq (a := (f (h - 1)).toInt) (b := 0) rfl ci_0 c83
              refine lv_iconst (v := nI 0) F.1 F.2.1 dX3_reckon_86 (by decide) ?_
              refine xre_z F hr hlk hW (by decide) dX3_reckon_87 ?_
              first | (exfalso; omega) | exact Or.inr ⟨decide_eq_false (by omega), rfl, rfl⟩ | exact Or.inl ⟨decide_eq_true (by omega), rfl, by rw [show h - 1 - 1 = h - 2 by omega]; unfold sp_h sp_f sp_wk; repeat first | rw [if_pos (by omega)] | rw [if_neg (by omega)]⟩
        · have c65 := ci_eq (a := x.toInt) (b := 14) rfl (by decide) c65
          refine lv_iload_n F.1 F.2.1 dX3_reckon_68 rfl (lv_at hl 0 rfl) ?_
          refine lv_iload_n F.1 F.2.1 dX3_reckon_69 rfl (lv_at hl 1 rfl) ?_
          refine ax_mul F rfl dX3_reckon_70 ?_
          refine lv_istore (lv' := [(4, .int ((f (h - 2)) * (f (h - 1)))), (3, .int (f (h - 2))), (2, .int (f (h - 1))), (0, .ref (xga G 5)), (1, .int x)]) F.1 F.2.1 dX3_reckon_71 hl (by decide) rfl (fun ls hl => ?_)
          refine lv_goto (tgt := 129) F.1 F.2.1 dX3_reckon_73 (by decide) ?_
          refine lv_aload_n F.1 F.2.1 dX3_reckon_129 rfl (lv_at hl 3 rfl) ?_
          refine lv_dup F.1 F.2.1 dX3_reckon_130 rfl ?_
          refine xg_Pile_height F hW tm_57 dX3_reckon_131 ?_
          refine lv_iconst (v := nI 1) F.1 F.2.1 dX3_reckon_134 (by decide) ?_
          refine ax_sub (z := nI (h - 1)) F (pk_sub (a := h) (b := 1) (by omega)) dX3_reckon_135 ?_
          refine xp_Pile_height (k := (h - 1)) F hW tm_57 rfl dX3_reckon_136 (fun H locs hW => ?_)
          have hW : xW G s s.heap H locs M (dn, h - 1, tk, f) S V := hW
          refine lv_aload_n F.1 F.2.1 dX3_reckon_139 rfl (lv_at hl 3 rfl) ?_
          refine xg_Pile_numbers F hW tm_56 dX3_reckon_140 ?_
          refine lv_aload_n F.1 F.2.1 dX3_reckon_143 rfl (lv_at hl 3 rfl) ?_
          refine xg_Pile_height F hW tm_57 dX3_reckon_144 ?_
          refine lv_iconst (v := nI 1) F.1 F.2.1 dX3_reckon_147 (by decide) ?_
          refine ax_sub (z := nI ((h - 1) - 1)) F (pk_sub (a := h - 1) (b := 1) (by omega)) dX3_reckon_148 ?_
          refine lv_iload F.1 F.2.1 dX3_reckon_149 (lv_at hl 0 rfl) ?_
          refine xs_nu (i := ((h - 1) - 1)) F hW rfl (by omega) dX3_reckon_151 (fun H locs hW => ?_)
          have hW : xW G s s.heap H locs M (dn, h - 1, tk, upd f ((h - 1) - 1) ((f (h - 2)) * (f (h - 1)))) S V := hW
          refine lv_iconst (v := nI 1) F.1 F.2.1 dX3_reckon_152 (by decide) ?_
          refine xre_z F hr hlk hW (by decide) dX3_reckon_153 ?_
          first | (exfalso; omega) | exact Or.inr ⟨decide_eq_false (by omega), rfl, rfl⟩ | exact Or.inl ⟨decide_eq_true (by omega), rfl, by rw [show h - 1 - 1 = h - 2 by omega]; unfold sp_h sp_f sp_wk; repeat first | rw [if_pos (by omega)] | rw [if_neg (by omega)]⟩
      · have c51 := ci_eq (a := x.toInt) (b := 13) rfl (by decide) c51
        refine lv_iload_n F.1 F.2.1 dX3_reckon_54 rfl (lv_at hl 0 rfl) ?_
        refine lv_iload_n F.1 F.2.1 dX3_reckon_55 rfl (lv_at hl 1 rfl) ?_
        refine ax_sub F rfl dX3_reckon_56 ?_
        refine lv_istore (lv' := [(4, .int ((f (h - 2)) - (f (h - 1)))), (3, .int (f (h - 2))), (2, .int (f (h - 1))), (0, .ref (xga G 5)), (1, .int x)]) F.1 F.2.1 dX3_reckon_57 hl (by decide) rfl (fun ls hl => ?_)
        refine lv_goto (tgt := 129) F.1 F.2.1 dX3_reckon_59 (by decide) ?_
        refine lv_aload_n F.1 F.2.1 dX3_reckon_129 rfl (lv_at hl 3 rfl) ?_
        refine lv_dup F.1 F.2.1 dX3_reckon_130 rfl ?_
        refine xg_Pile_height F hW tm_57 dX3_reckon_131 ?_
        refine lv_iconst (v := nI 1) F.1 F.2.1 dX3_reckon_134 (by decide) ?_
        refine ax_sub (z := nI (h - 1)) F (pk_sub (a := h) (b := 1) (by omega)) dX3_reckon_135 ?_
        refine xp_Pile_height (k := (h - 1)) F hW tm_57 rfl dX3_reckon_136 (fun H locs hW => ?_)
        have hW : xW G s s.heap H locs M (dn, h - 1, tk, f) S V := hW
        refine lv_aload_n F.1 F.2.1 dX3_reckon_139 rfl (lv_at hl 3 rfl) ?_
        refine xg_Pile_numbers F hW tm_56 dX3_reckon_140 ?_
        refine lv_aload_n F.1 F.2.1 dX3_reckon_143 rfl (lv_at hl 3 rfl) ?_
        refine xg_Pile_height F hW tm_57 dX3_reckon_144 ?_
        refine lv_iconst (v := nI 1) F.1 F.2.1 dX3_reckon_147 (by decide) ?_
        refine ax_sub (z := nI ((h - 1) - 1)) F (pk_sub (a := h - 1) (b := 1) (by omega)) dX3_reckon_148 ?_
        refine lv_iload F.1 F.2.1 dX3_reckon_149 (lv_at hl 0 rfl) ?_
        refine xs_nu (i := ((h - 1) - 1)) F hW rfl (by omega) dX3_reckon_151 (fun H locs hW => ?_)
        have hW : xW G s s.heap H locs M (dn, h - 1, tk, upd f ((h - 1) - 1) ((f (h - 2)) - (f (h - 1)))) S V := hW
        refine lv_iconst (v := nI 1) F.1 F.2.1 dX3_reckon_152 (by decide) ?_
        refine xre_z F hr hlk hW (by decide) dX3_reckon_153 ?_
        first | (exfalso; omega) | exact Or.inr ⟨decide_eq_false (by omega), rfl, rfl⟩ | exact Or.inl ⟨decide_eq_true (by omega), rfl, by rw [show h - 1 - 1 = h - 2 by omega]; unfold sp_h sp_f sp_wk; repeat first | rw [if_pos (by omega)] | rw [if_neg (by omega)]⟩
    · have c37 := ci_eq (a := x.toInt) (b := 12) rfl (by decide) c37
      refine lv_iload_n F.1 F.2.1 dX3_reckon_40 rfl (lv_at hl 0 rfl) ?_
      refine lv_iload_n F.1 F.2.1 dX3_reckon_41 rfl (lv_at hl 1 rfl) ?_
      refine ax_add F rfl dX3_reckon_42 ?_
      refine lv_istore (lv' := [(4, .int ((f (h - 2)) + (f (h - 1)))), (3, .int (f (h - 2))), (2, .int (f (h - 1))), (0, .ref (xga G 5)), (1, .int x)]) F.1 F.2.1 dX3_reckon_43 hl (by decide) rfl (fun ls hl => ?_)
      refine lv_goto (tgt := 129) F.1 F.2.1 dX3_reckon_45 (by decide) ?_
      refine lv_aload_n F.1 F.2.1 dX3_reckon_129 rfl (lv_at hl 3 rfl) ?_
      refine lv_dup F.1 F.2.1 dX3_reckon_130 rfl ?_
      refine xg_Pile_height F hW tm_57 dX3_reckon_131 ?_
      refine lv_iconst (v := nI 1) F.1 F.2.1 dX3_reckon_134 (by decide) ?_
      refine ax_sub (z := nI (h - 1)) F (pk_sub (a := h) (b := 1) (by omega)) dX3_reckon_135 ?_
      refine xp_Pile_height (k := (h - 1)) F hW tm_57 rfl dX3_reckon_136 (fun H locs hW => ?_)
      have hW : xW G s s.heap H locs M (dn, h - 1, tk, f) S V := hW
      refine lv_aload_n F.1 F.2.1 dX3_reckon_139 rfl (lv_at hl 3 rfl) ?_
      refine xg_Pile_numbers F hW tm_56 dX3_reckon_140 ?_
      refine lv_aload_n F.1 F.2.1 dX3_reckon_143 rfl (lv_at hl 3 rfl) ?_
      refine xg_Pile_height F hW tm_57 dX3_reckon_144 ?_
      refine lv_iconst (v := nI 1) F.1 F.2.1 dX3_reckon_147 (by decide) ?_
      refine ax_sub (z := nI ((h - 1) - 1)) F (pk_sub (a := h - 1) (b := 1) (by omega)) dX3_reckon_148 ?_
      refine lv_iload F.1 F.2.1 dX3_reckon_149 (lv_at hl 0 rfl) ?_
      refine xs_nu (i := ((h - 1) - 1)) F hW rfl (by omega) dX3_reckon_151 (fun H locs hW => ?_)
      have hW : xW G s s.heap H locs M (dn, h - 1, tk, upd f ((h - 1) - 1) ((f (h - 2)) + (f (h - 1)))) S V := hW
      refine lv_iconst (v := nI 1) F.1 F.2.1 dX3_reckon_152 (by decide) ?_
      refine xre_z F hr hlk hW (by decide) dX3_reckon_153 ?_
      first | (exfalso; omega) | exact Or.inr ⟨decide_eq_false (by omega), rfl, rfl⟩ | exact Or.inl ⟨decide_eq_true (by omega), rfl, by rw [show h - 1 - 1 = h - 2 by omega]; unfold sp_h sp_f sp_wk; repeat first | rw [if_pos (by omega)] | rw [if_neg (by omega)]⟩
  · have c5 := ci_nle (a := 2) (b := ((h : Nat) : Int)) (by decide) (nI_toInt (by omega)) c5
    refine lv_iconst (v := nI 0) F.1 F.2.1 dX3_reckon_8 (by decide) ?_
    refine xre_z F hr hlk hW (by decide) dX3_reckon_9 ?_
    first | (exfalso; omega) | exact Or.inr ⟨decide_eq_false (by omega), rfl, rfl⟩ | exact Or.inl ⟨decide_eq_true (by omega), rfl, by rw [show h - 1 - 1 = h - 2 by omega]; unfold sp_h sp_f sp_wk; repeat first | rw [if_pos (by omega)] | rw [if_neg (by omega)]⟩
theorem dX3_arrange_0 : decode cX3_arrange 0 = .ok (.iload_n 1, 1) := by decide +kernel
theorem dX3_arrange_1 : decode cX3_arrange 1 = .ok (.bipush 19, 2) := by decide +kernel
theorem dX3_arrange_3 : decode cX3_arrange 3 = .ok (.if_icmp .ne 7, 3) := by decide +kernel
theorem dX3_arrange_6 : decode cX3_arrange 6 = .ok (.iconst 2, 1) := by decide +kernel
theorem dX3_arrange_7 : decode cX3_arrange 7 = .ok (.goto 4, 3) := by decide +kernel
theorem dX3_arrange_10 : decode cX3_arrange 10 = .ok (.iconst 1, 1) := by decide +kernel
theorem dX3_arrange_11 : decode cX3_arrange 11 = .ok (.istore_n 2, 1) := by decide +kernel
theorem dX3_arrange_12 : decode cX3_arrange 12 = .ok (.aload_n 0, 1) := by decide +kernel
theorem dX3_arrange_13 : decode cX3_arrange 13 = .ok (.getfield 15, 3) := by decide +kernel
theorem dX3_arrange_16 : decode cX3_arrange 16 = .ok (.iload_n 2, 1) := by decide +kernel
theorem dX3_arrange_17 : decode cX3_arrange 17 = .ok (.if_icmp .lt 18, 3) := by decide +kernel
theorem dX3_arrange_20 : decode cX3_arrange 20 = .ok (.iload_n 1, 1) := by decide +kernel
theorem dX3_arrange_21 : decode cX3_arrange 21 = .ok (.bipush 18, 2) := by decide +kernel
theorem dX3_arrange_23 : decode cX3_arrange 23 = .ok (.if_icmp .ne 14, 3) := by decide +kernel
theorem dX3_arrange_26 : decode cX3_arrange 26 = .ok (.aload_n 0, 1) := by decide +kernel
theorem dX3_arrange_27 : decode cX3_arrange 27 = .ok (.getfield 15, 3) := by decide +kernel
theorem dX3_arrange_30 : decode cX3_arrange 30 = .ok (.bipush 8, 2) := by decide +kernel
theorem dX3_arrange_32 : decode cX3_arrange 32 = .ok (.if_icmp .lt 5, 3) := by decide +kernel
theorem dX3_arrange_35 : decode cX3_arrange 35 = .ok (.iconst 0, 1) := by decide +kernel
theorem dX3_arrange_36 : decode cX3_arrange 36 = .ok (.ireturn, 1) := by decide +kernel
theorem dX3_arrange_37 : decode cX3_arrange 37 = .ok (.aload_n 0, 1) := by decide +kernel
theorem dX3_arrange_38 : decode cX3_arrange 38 = .ok (.getfield 9, 3) := by decide +kernel
theorem dX3_arrange_41 : decode cX3_arrange 41 = .ok (.aload_n 0, 1) := by decide +kernel
theorem dX3_arrange_42 : decode cX3_arrange 42 = .ok (.getfield 15, 3) := by decide +kernel
theorem dX3_arrange_45 : decode cX3_arrange 45 = .ok (.iconst 1, 1) := by decide +kernel
theorem dX3_arrange_46 : decode cX3_arrange 46 = .ok (.isub, 1) := by decide +kernel
theorem dX3_arrange_47 : decode cX3_arrange 47 = .ok (.iaload, 1) := by decide +kernel
theorem dX3_arrange_48 : decode cX3_arrange 48 = .ok (.istore_n 3, 1) := by decide +kernel
theorem dX3_arrange_49 : decode cX3_arrange 49 = .ok (.iload_n 1, 1) := by decide +kernel
theorem dX3_arrange_50 : decode cX3_arrange 50 = .ok (.bipush 18, 2) := by decide +kernel
theorem dX3_arrange_52 : decode cX3_arrange 52 = .ok (.if_icmp .ne 26, 3) := by decide +kernel
theorem dX3_arrange_55 : decode cX3_arrange 55 = .ok (.aload_n 0, 1) := by decide +kernel
theorem dX3_arrange_56 : decode cX3_arrange 56 = .ok (.getfield 9, 3) := by decide +kernel
theorem dX3_arrange_59 : decode cX3_arrange 59 = .ok (.aload_n 0, 1) := by decide +kernel
theorem dX3_arrange_60 : decode cX3_arrange 60 = .ok (.getfield 15, 3) := by decide +kernel
theorem dX3_arrange_63 : decode cX3_arrange 63 = .ok (.iload_n 3, 1) := by decide +kernel
theorem dX3_arrange_64 : decode cX3_arrange 64 = .ok (.iastore, 1) := by decide +kernel
theorem dX3_arrange_65 : decode cX3_arrange 65 = .ok (.aload_n 0, 1) := by decide +kernel
theorem dX3_arrange_66 : decode cX3_arrange 66 = .ok (.dup, 1) := by decide +kernel
theorem dX3_arrange_67 : decode cX3_arrange 67 = .ok (.getfield 15, 3) := by decide +kernel
theorem dX3_arrange_70 : decode cX3_arrange 70 = .ok (.iconst 1, 1) := by decide +kernel
theorem dX3_arrange_71 : decode cX3_arrange 71 = .ok (.iadd, 1) := by decide +kernel
theorem dX3_arrange_72 : decode cX3_arrange 72 = .ok (.putfield 15, 3) := by decide +kernel
theorem dX3_arrange_75 : decode cX3_arrange 75 = .ok (.goto 61, 3) := by decide +kernel
theorem dX3_arrange_78 : decode cX3_arrange 78 = .ok (.iload_n 1, 1) := by decide +kernel
theorem dX3_arrange_79 : decode cX3_arrange 79 = .ok (.bipush 19, 2) := by decide +kernel
theorem dX3_arrange_81 : decode cX3_arrange 81 = .ok (.if_icmp .ne 40, 3) := by decide +kernel
theorem dX3_arrange_84 : decode cX3_arrange 84 = .ok (.aload_n 0, 1) := by decide +kernel
theorem dX3_arrange_85 : decode cX3_arrange 85 = .ok (.getfield 9, 3) := by decide +kernel
theorem dX3_arrange_88 : decode cX3_arrange 88 = .ok (.aload_n 0, 1) := by decide +kernel
theorem dX3_arrange_89 : decode cX3_arrange 89 = .ok (.getfield 15, 3) := by decide +kernel
theorem dX3_arrange_92 : decode cX3_arrange 92 = .ok (.iconst 1, 1) := by decide +kernel
theorem dX3_arrange_93 : decode cX3_arrange 93 = .ok (.isub, 1) := by decide +kernel
theorem dX3_arrange_94 : decode cX3_arrange 94 = .ok (.aload_n 0, 1) := by decide +kernel
theorem dX3_arrange_95 : decode cX3_arrange 95 = .ok (.getfield 9, 3) := by decide +kernel
theorem dX3_arrange_98 : decode cX3_arrange 98 = .ok (.aload_n 0, 1) := by decide +kernel
theorem dX3_arrange_99 : decode cX3_arrange 99 = .ok (.getfield 15, 3) := by decide +kernel
theorem dX3_arrange_102 : decode cX3_arrange 102 = .ok (.iconst 2, 1) := by decide +kernel
theorem dX3_arrange_103 : decode cX3_arrange 103 = .ok (.isub, 1) := by decide +kernel
theorem dX3_arrange_104 : decode cX3_arrange 104 = .ok (.iaload, 1) := by decide +kernel
theorem dX3_arrange_105 : decode cX3_arrange 105 = .ok (.iastore, 1) := by decide +kernel
theorem dX3_arrange_106 : decode cX3_arrange 106 = .ok (.aload_n 0, 1) := by decide +kernel
theorem dX3_arrange_107 : decode cX3_arrange 107 = .ok (.getfield 9, 3) := by decide +kernel
theorem dX3_arrange_110 : decode cX3_arrange 110 = .ok (.aload_n 0, 1) := by decide +kernel
theorem dX3_arrange_111 : decode cX3_arrange 111 = .ok (.getfield 15, 3) := by decide +kernel
theorem dX3_arrange_114 : decode cX3_arrange 114 = .ok (.iconst 2, 1) := by decide +kernel
theorem dX3_arrange_115 : decode cX3_arrange 115 = .ok (.isub, 1) := by decide +kernel
theorem dX3_arrange_116 : decode cX3_arrange 116 = .ok (.iload_n 3, 1) := by decide +kernel
theorem dX3_arrange_117 : decode cX3_arrange 117 = .ok (.iastore, 1) := by decide +kernel
theorem dX3_arrange_118 : decode cX3_arrange 118 = .ok (.goto 18, 3) := by decide +kernel
theorem dX3_arrange_121 : decode cX3_arrange 121 = .ok (.aload_n 0, 1) := by decide +kernel
theorem dX3_arrange_122 : decode cX3_arrange 122 = .ok (.dup, 1) := by decide +kernel
theorem dX3_arrange_123 : decode cX3_arrange 123 = .ok (.getfield 15, 3) := by decide +kernel
theorem dX3_arrange_126 : decode cX3_arrange 126 = .ok (.iconst 1, 1) := by decide +kernel
theorem dX3_arrange_127 : decode cX3_arrange 127 = .ok (.isub, 1) := by decide +kernel
theorem dX3_arrange_128 : decode cX3_arrange 128 = .ok (.putfield 15, 3) := by decide +kernel
theorem dX3_arrange_131 : decode cX3_arrange 131 = .ok (.aload_n 0, 1) := by decide +kernel
theorem dX3_arrange_132 : decode cX3_arrange 132 = .ok (.iload_n 3, 1) := by decide +kernel
theorem dX3_arrange_133 : decode cX3_arrange 133 = .ok (.putfield 19, 3) := by decide +kernel
theorem dX3_arrange_136 : decode cX3_arrange 136 = .ok (.iconst 1, 1) := by decide +kernel
theorem dX3_arrange_137 : decode cX3_arrange 137 = .ok (.ireturn, 1) := by decide +kernel
set_option maxHeartbeats 4000000 in
set_option maxRecDepth 100000 in
theorem c_X3_arrange (l : Launch) (G : XG) (M : XM) (dn h : Nat) (tk : Int32) (f : Nat → Int32) (S : XS) (V : XV) (hh : h ≤ 8) (x a b : Int32) (hx : 18 ≤ x.toInt) : Met l yX3_arrange (wC yX3_arrange cX3_arrange 4 (some .boolean)) (rmD 0) (xPc G [.ref (xga G 5), .int x] M (dn, h, tk, f) S V) (va_Qi (fun r u => (sp_good x.toInt h f = true ∧ r = nI 1 ∧ u = (M, (dn, sp_h x.toInt h, (if x.toInt < 20 then tk else f (h - 1)), sp_f x a b h f), S, V)) ∨ (sp_good x.toInt h f = false ∧ r = nI 0 ∧ u = (M, (dn, h, tk, f), S, V))) (xB G) (xA G)) 0 0 (xA G) := by
  refine xst "DoFinder$Pile" (by decide) rfl (Nat.le_of_ble_eq_true rfl) ?_
  intro p e s m args below meth c ls F hr hlk hW hl
  have hl : lv_has ls 4 [(0, .ref (xga G 5)), (1, .int x)] := hl
  have hW : xW G s s.heap s.heap [] M (dn, h, tk, f) S V := hW
  have b_x := i32b x
  refine lv_iload_n F.1 F.2.1 dX3_arrange_0 rfl (lv_at hl 1 rfl) ?_
  refine lv_bipush (v := nI 19) F.1 F.2.1 dX3_arrange_1 (by decide) ?_
  refine lv_icmp_ne (tgt := 10) F.1 F.2.1 dX3_arrange_3 (by decide) (fun c3 => ?_) (fun c3 => ?_)
  · have c3 := ci_ne (a := x.toInt) (b := 19) rfl (by decide) c3
    refine lv_iconst (v := nI 1) F.1 F.2.1 dX3_arrange_10 (by decide) ?_
    refine lv_istore_n (lv' := [(2, .int (nI 1)), (0, .ref (xga G 5)), (1, .int x)]) F.1 F.2.1 dX3_arrange_11 rfl hl (by decide) rfl (fun ls hl => ?_)
    refine lv_aload_n F.1 F.2.1 dX3_arrange_12 rfl (lv_at hl 1 rfl) ?_
    refine xg_Pile_height F hW tm_57 dX3_arrange_13 ?_
    refine lv_iload_n F.1 F.2.1 dX3_arrange_16 rfl (lv_at hl 0 rfl) ?_
    refine lv_icmp_lt (tgt := 35) F.1 F.2.1 dX3_arrange_17 (by decide) (fun c17 => ?_) (fun c17 => ?_)
    · have c17 := ci_lt (a := ((h : Nat) : Int)) (b := 1) (nI_toInt (by omega)) (by decide) c17
      refine lv_iconst (v := nI 0) F.1 F.2.1 dX3_arrange_35 (by decide) ?_
      refine xre_z F hr hlk hW (by decide) dX3_arrange_36 ?_
      first | (exfalso; omega) | exact Or.inr ⟨decide_eq_false (by omega), rfl, rfl⟩ | exact Or.inl ⟨decide_eq_true (by omega), rfl, by unfold sp_h sp_f; repeat first | rw [if_pos (by omega)] | rw [if_neg (by omega)]⟩
    · have c17 := ci_nlt (a := ((h : Nat) : Int)) (b := 1) (nI_toInt (by omega)) (by decide) c17
      refine lv_iload_n F.1 F.2.1 dX3_arrange_20 rfl (lv_at hl 2 rfl) ?_
      refine lv_bipush (v := nI 18) F.1 F.2.1 dX3_arrange_21 (by decide) ?_
      refine lv_icmp_ne (tgt := 37) F.1 F.2.1 dX3_arrange_23 (by decide) (fun c23 => ?_) (fun c23 => ?_)
      · have c23 := ci_ne (a := x.toInt) (b := 18) rfl (by decide) c23
        refine lv_aload_n F.1 F.2.1 dX3_arrange_37 rfl (lv_at hl 1 rfl) ?_
        refine xg_Pile_numbers F hW tm_56 dX3_arrange_38 ?_
        refine lv_aload_n F.1 F.2.1 dX3_arrange_41 rfl (lv_at hl 1 rfl) ?_
        refine xg_Pile_height F hW tm_57 dX3_arrange_42 ?_
        refine lv_iconst (v := nI 1) F.1 F.2.1 dX3_arrange_45 (by decide) ?_
        refine ax_sub (z := nI (h - 1)) F (pk_sub (a := h) (b := 1) (by omega)) dX3_arrange_46 ?_
        refine xl_nu (i := (h - 1)) F hW rfl (by omega) dX3_arrange_47 ?_
        have b47 := i32b (f (h - 1))
        refine lv_istore_n (lv' := [(3, .int (f (h - 1))), (2, .int (nI 1)), (0, .ref (xga G 5)), (1, .int x)]) F.1 F.2.1 dX3_arrange_48 rfl hl (by decide) rfl (fun ls hl => ?_)
        refine lv_iload_n F.1 F.2.1 dX3_arrange_49 rfl (lv_at hl 3 rfl) ?_
        refine lv_bipush (v := nI 18) F.1 F.2.1 dX3_arrange_50 (by decide) ?_
        refine lv_icmp_ne (tgt := 78) F.1 F.2.1 dX3_arrange_52 (by decide) (fun c52 => ?_) (fun c52 => ?_)
        · have c52 := ci_ne (a := x.toInt) (b := 18) rfl (by decide) c52
          refine lv_iload_n F.1 F.2.1 dX3_arrange_78 rfl (lv_at hl 3 rfl) ?_
          refine lv_bipush (v := nI 19) F.1 F.2.1 dX3_arrange_79 (by decide) ?_
          refine lv_icmp_ne (tgt := 121) F.1 F.2.1 dX3_arrange_81 (by decide) (fun c81 => ?_) (fun c81 => ?_)
          · have c81 := ci_ne (a := x.toInt) (b := 19) rfl (by decide) c81
            refine lv_aload_n F.1 F.2.1 dX3_arrange_121 rfl (lv_at hl 2 rfl) ?_
            refine lv_dup F.1 F.2.1 dX3_arrange_122 rfl ?_
            refine xg_Pile_height F hW tm_57 dX3_arrange_123 ?_
            refine lv_iconst (v := nI 1) F.1 F.2.1 dX3_arrange_126 (by decide) ?_
            refine ax_sub (z := nI (h - 1)) F (pk_sub (a := h) (b := 1) (by omega)) dX3_arrange_127 ?_
            refine xp_Pile_height (k := (h - 1)) F hW tm_57 rfl dX3_arrange_128 (fun H locs hW => ?_)
            have hW : xW G s s.heap H locs M (dn, h - 1, tk, f) S V := hW
            refine lv_aload_n F.1 F.2.1 dX3_arrange_131 rfl (lv_at hl 2 rfl) ?_
            refine lv_iload_n F.1 F.2.1 dX3_arrange_132 rfl (lv_at hl 0 rfl) ?_
            refine xp_Pile_taken F hW tm_58 dX3_arrange_133 (fun H locs hW => ?_)
            have hW : xW G s s.heap H locs M (dn, h - 1, (f (h - 1)), f) S V := hW
            refine lv_iconst (v := nI 1) F.1 F.2.1 dX3_arrange_136 (by decide) ?_
            refine xre_z F hr hlk hW (by decide) dX3_arrange_137 ?_
            first | (exfalso; omega) | exact Or.inr ⟨decide_eq_false (by omega), rfl, rfl⟩ | exact Or.inl ⟨decide_eq_true (by omega), rfl, by unfold sp_h sp_f; repeat first | rw [if_pos (by omega)] | rw [if_neg (by omega)]⟩
          · have c81 := ci_eq (a := x.toInt) (b := 19) rfl (by decide) c81
            refine lv_aload_n F.1 F.2.1 dX3_arrange_84 rfl (lv_at hl 2 rfl) ?_
            refine xg_Pile_numbers F hW tm_56 dX3_arrange_85 ?_
            refine lv_aload_n F.1 F.2.1 dX3_arrange_88 rfl (lv_at hl 2 rfl) ?_
            refine xg_Pile_height F hW tm_57 dX3_arrange_89 ?_
            refine lv_iconst (v := nI 1) F.1 F.2.1 dX3_arrange_92 (by decide) ?_
            refine ax_sub (z := nI (h - 1)) F (pk_sub (a := h) (b := 1) (by omega)) dX3_arrange_93 ?_
            refine lv_aload_n F.1 F.2.1 dX3_arrange_94 rfl (lv_at hl 2 rfl) ?_
            refine xg_Pile_numbers F hW tm_56 dX3_arrange_95 ?_
            refine lv_aload_n F.1 F.2.1 dX3_arrange_98 rfl (lv_at hl 2 rfl) ?_
            refine xg_Pile_height F hW tm_57 dX3_arrange_99 ?_
            refine lv_iconst (v := nI 2) F.1 F.2.1 dX3_arrange_102 (by decide) ?_
            refine ax_sub (z := nI (h - 2)) F (pk_sub (a := h) (b := 2) (by omega)) dX3_arrange_103 ?_
            refine xl_nu (i := (h - 2)) F hW rfl (by omega) dX3_arrange_104 ?_
            have b104 := i32b (f (h - 2))
            refine xs_nu (i := (h - 1)) F hW rfl (by omega) dX3_arrange_105 (fun H locs hW => ?_)
            have hW : xW G s s.heap H locs M (dn, h, tk, upd f (h - 1) (f (h - 2))) S V := hW
            refine lv_aload_n F.1 F.2.1 dX3_arrange_106 rfl (lv_at hl 2 rfl) ?_
            refine xg_Pile_numbers F hW tm_56 dX3_arrange_107 ?_
            refine lv_aload_n F.1 F.2.1 dX3_arrange_110 rfl (lv_at hl 2 rfl) ?_
            refine xg_Pile_height F hW tm_57 dX3_arrange_111 ?_
            refine lv_iconst (v := nI 2) F.1 F.2.1 dX3_arrange_114 (by decide) ?_
            refine ax_sub (z := nI (h - 2)) F (pk_sub (a := h) (b := 2) (by omega)) dX3_arrange_115 ?_
            refine lv_iload_n F.1 F.2.1 dX3_arrange_116 rfl (lv_at hl 0 rfl) ?_
            refine xs_nu (i := (h - 2)) F hW rfl (by omega) dX3_arrange_117 (fun H locs hW => ?_)
            have hW : xW G s s.heap H locs M (dn, h, tk, upd (upd f (h - 1) (f (h - 2))) (h - 2) (f (h - 1))) S V := hW
            refine lv_goto (tgt := 136) F.1 F.2.1 dX3_arrange_118 (by decide) ?_
            refine lv_iconst (v := nI 1) F.1 F.2.1 dX3_arrange_136 (by decide) ?_
            refine xre_z F hr hlk hW (by decide) dX3_arrange_137 ?_
            first | (exfalso; omega) | exact Or.inr ⟨decide_eq_false (by omega), rfl, rfl⟩ | exact Or.inl ⟨decide_eq_true (by omega), rfl, by unfold sp_h sp_f; repeat first | rw [if_pos (by omega)] | rw [if_neg (by omega)]⟩
        · have c52 := ci_eq (a := x.toInt) (b := 18) rfl (by decide) c52
          refine lv_aload_n F.1 F.2.1 dX3_arrange_55 rfl (lv_at hl 2 rfl) ?_
          refine xg_Pile_numbers F hW tm_56 dX3_arrange_56 ?_
          refine lv_aload_n F.1 F.2.1 dX3_arrange_59 rfl (lv_at hl 2 rfl) ?_
          refine xg_Pile_height F hW tm_57 dX3_arrange_60 ?_
          refine lv_iload_n F.1 F.2.1 dX3_arrange_63 rfl (lv_at hl 0 rfl) ?_
          refine xs_nu (i := h) F hW rfl (by omega) dX3_arrange_64 (fun H locs hW => ?_)
          have hW : xW G s s.heap H locs M (dn, h, tk, upd f h (f (h - 1))) S V := hW
          refine lv_aload_n F.1 F.2.1 dX3_arrange_65 rfl (lv_at hl 2 rfl) ?_
          refine lv_dup F.1 F.2.1 dX3_arrange_66 rfl ?_
          refine xg_Pile_height F hW tm_57 dX3_arrange_67 ?_
          refine lv_iconst (v := nI 1) F.1 F.2.1 dX3_arrange_70 (by decide) ?_
          refine ax_add (z := nI (h + 1)) F (nI_add _ _) dX3_arrange_71 ?_
          refine xp_Pile_height (k := (h + 1)) F hW tm_57 rfl dX3_arrange_72 (fun H locs hW => ?_)
          have hW : xW G s s.heap H locs M (dn, h + 1, tk, upd f h (f (h - 1))) S V := hW
          refine lv_goto (tgt := 136) F.1 F.2.1 dX3_arrange_75 (by decide) ?_
          refine lv_iconst (v := nI 1) F.1 F.2.1 dX3_arrange_136 (by decide) ?_
          refine xre_z F hr hlk hW (by decide) dX3_arrange_137 ?_
          first | (exfalso; omega) | exact Or.inr ⟨decide_eq_false (by omega), rfl, rfl⟩ | exact Or.inl ⟨decide_eq_true (by omega), rfl, by unfold sp_h sp_f; repeat first | rw [if_pos (by omega)] | rw [if_neg (by omega)]⟩
      · have c23 := ci_eq (a := x.toInt) (b := 18) rfl (by decide) c23
        refine lv_aload_n F.1 F.2.1 dX3_arrange_26 rfl (lv_at hl 1 rfl) ?_
        refine xg_Pile_height F hW tm_57 dX3_arrange_27 ?_
        refine lv_bipush (v := nI 8) F.1 F.2.1 dX3_arrange_30 (by decide) ?_
        refine lv_icmp_lt (tgt := 37) F.1 F.2.1 dX3_arrange_32 (by decide) (fun c32 => ?_) (fun c32 => ?_)
        · have c32 := ci_lt (a := ((h : Nat) : Int)) (b := 8) (nI_toInt (by omega)) (by decide) c32
          refine lv_aload_n F.1 F.2.1 dX3_arrange_37 rfl (lv_at hl 1 rfl) ?_
          refine xg_Pile_numbers F hW tm_56 dX3_arrange_38 ?_
          refine lv_aload_n F.1 F.2.1 dX3_arrange_41 rfl (lv_at hl 1 rfl) ?_
          refine xg_Pile_height F hW tm_57 dX3_arrange_42 ?_
          refine lv_iconst (v := nI 1) F.1 F.2.1 dX3_arrange_45 (by decide) ?_
          refine ax_sub (z := nI (h - 1)) F (pk_sub (a := h) (b := 1) (by omega)) dX3_arrange_46 ?_
          refine xl_nu (i := (h - 1)) F hW rfl (by omega) dX3_arrange_47 ?_
          have b47 := i32b (f (h - 1))
          refine lv_istore_n (lv' := [(3, .int (f (h - 1))), (2, .int (nI 1)), (0, .ref (xga G 5)), (1, .int x)]) F.1 F.2.1 dX3_arrange_48 rfl hl (by decide) rfl (fun ls hl => ?_)
          refine lv_iload_n F.1 F.2.1 dX3_arrange_49 rfl (lv_at hl 3 rfl) ?_
          refine lv_bipush (v := nI 18) F.1 F.2.1 dX3_arrange_50 (by decide) ?_
          refine lv_icmp_ne (tgt := 78) F.1 F.2.1 dX3_arrange_52 (by decide) (fun c52 => ?_) (fun c52 => ?_)
          · have c52 := ci_ne (a := x.toInt) (b := 18) rfl (by decide) c52
            refine lv_iload_n F.1 F.2.1 dX3_arrange_78 rfl (lv_at hl 3 rfl) ?_
            refine lv_bipush (v := nI 19) F.1 F.2.1 dX3_arrange_79 (by decide) ?_
            refine lv_icmp_ne (tgt := 121) F.1 F.2.1 dX3_arrange_81 (by decide) (fun c81 => ?_) (fun c81 => ?_)
            · have c81 := ci_ne (a := x.toInt) (b := 19) rfl (by decide) c81
              refine lv_aload_n F.1 F.2.1 dX3_arrange_121 rfl (lv_at hl 2 rfl) ?_
              refine lv_dup F.1 F.2.1 dX3_arrange_122 rfl ?_
              refine xg_Pile_height F hW tm_57 dX3_arrange_123 ?_
              refine lv_iconst (v := nI 1) F.1 F.2.1 dX3_arrange_126 (by decide) ?_
              refine ax_sub (z := nI (h - 1)) F (pk_sub (a := h) (b := 1) (by omega)) dX3_arrange_127 ?_
              refine xp_Pile_height (k := (h - 1)) F hW tm_57 rfl dX3_arrange_128 (fun H locs hW => ?_)
              have hW : xW G s s.heap H locs M (dn, h - 1, tk, f) S V := hW
              refine lv_aload_n F.1 F.2.1 dX3_arrange_131 rfl (lv_at hl 2 rfl) ?_
              refine lv_iload_n F.1 F.2.1 dX3_arrange_132 rfl (lv_at hl 0 rfl) ?_
              refine xp_Pile_taken F hW tm_58 dX3_arrange_133 (fun H locs hW => ?_)
              have hW : xW G s s.heap H locs M (dn, h - 1, (f (h - 1)), f) S V := hW
              refine lv_iconst (v := nI 1) F.1 F.2.1 dX3_arrange_136 (by decide) ?_
              refine xre_z F hr hlk hW (by decide) dX3_arrange_137 ?_
              first | (exfalso; omega) | exact Or.inr ⟨decide_eq_false (by omega), rfl, rfl⟩ | exact Or.inl ⟨decide_eq_true (by omega), rfl, by unfold sp_h sp_f; repeat first | rw [if_pos (by omega)] | rw [if_neg (by omega)]⟩
            · have c81 := ci_eq (a := x.toInt) (b := 19) rfl (by decide) c81
              refine lv_aload_n F.1 F.2.1 dX3_arrange_84 rfl (lv_at hl 2 rfl) ?_
              refine xg_Pile_numbers F hW tm_56 dX3_arrange_85 ?_
              refine lv_aload_n F.1 F.2.1 dX3_arrange_88 rfl (lv_at hl 2 rfl) ?_
              refine xg_Pile_height F hW tm_57 dX3_arrange_89 ?_
              refine lv_iconst (v := nI 1) F.1 F.2.1 dX3_arrange_92 (by decide) ?_
              refine ax_sub (z := nI (h - 1)) F (pk_sub (a := h) (b := 1) (by omega)) dX3_arrange_93 ?_
              refine lv_aload_n F.1 F.2.1 dX3_arrange_94 rfl (lv_at hl 2 rfl) ?_
              refine xg_Pile_numbers F hW tm_56 dX3_arrange_95 ?_
              refine lv_aload_n F.1 F.2.1 dX3_arrange_98 rfl (lv_at hl 2 rfl) ?_
              refine xg_Pile_height F hW tm_57 dX3_arrange_99 ?_
              refine lv_iconst (v := nI 2) F.1 F.2.1 dX3_arrange_102 (by decide) ?_
              refine ax_sub (z := nI (h - 2)) F (pk_sub (a := h) (b := 2) (by omega)) dX3_arrange_103 ?_
              refine xl_nu (i := (h - 2)) F hW rfl (by omega) dX3_arrange_104 ?_
              have b104 := i32b (f (h - 2))
              refine xs_nu (i := (h - 1)) F hW rfl (by omega) dX3_arrange_105 (fun H locs hW => ?_)
              have hW : xW G s s.heap H locs M (dn, h, tk, upd f (h - 1) (f (h - 2))) S V := hW
              refine lv_aload_n F.1 F.2.1 dX3_arrange_106 rfl (lv_at hl 2 rfl) ?_
              refine xg_Pile_numbers F hW tm_56 dX3_arrange_107 ?_
              refine lv_aload_n F.1 F.2.1 dX3_arrange_110 rfl (lv_at hl 2 rfl) ?_
              refine xg_Pile_height F hW tm_57 dX3_arrange_111 ?_
              refine lv_iconst (v := nI 2) F.1 F.2.1 dX3_arrange_114 (by decide) ?_
              refine ax_sub (z := nI (h - 2)) F (pk_sub (a := h) (b := 2) (by omega)) dX3_arrange_115 ?_
              refine lv_iload_n F.1 F.2.1 dX3_arrange_116 rfl (lv_at hl 0 rfl) ?_
              refine xs_nu (i := (h - 2)) F hW rfl (by omega) dX3_arrange_117 (fun H locs hW => ?_)
              have hW : xW G s s.heap H locs M (dn, h, tk, upd (upd f (h - 1) (f (h - 2))) (h - 2) (f (h - 1))) S V := hW
              refine lv_goto (tgt := 136) F.1 F.2.1 dX3_arrange_118 (by decide) ?_
              refine lv_iconst (v := nI 1) F.1 F.2.1 dX3_arrange_136 (by decide) ?_
              refine xre_z F hr hlk hW (by decide) dX3_arrange_137 ?_
              first | (exfalso; omega) | exact Or.inr ⟨decide_eq_false (by omega), rfl, rfl⟩ | exact Or.inl ⟨decide_eq_true (by omega), rfl, by unfold sp_h sp_f; repeat first | rw [if_pos (by omega)] | rw [if_neg (by omega)]⟩
          · have c52 := ci_eq (a := x.toInt) (b := 18) rfl (by decide) c52
            refine lv_aload_n F.1 F.2.1 dX3_arrange_55 rfl (lv_at hl 2 rfl) ?_
            refine xg_Pile_numbers F hW tm_56 dX3_arrange_56 ?_
            refine lv_aload_n F.1 F.2.1 dX3_arrange_59 rfl (lv_at hl 2 rfl) ?_
            refine xg_Pile_height F hW tm_57 dX3_arrange_60 ?_
            refine lv_iload_n F.1 F.2.1 dX3_arrange_63 rfl (lv_at hl 0 rfl) ?_
            refine xs_nu (i := h) F hW rfl (by omega) dX3_arrange_64 (fun H locs hW => ?_)
            have hW : xW G s s.heap H locs M (dn, h, tk, upd f h (f (h - 1))) S V := hW
            refine lv_aload_n F.1 F.2.1 dX3_arrange_65 rfl (lv_at hl 2 rfl) ?_
            refine lv_dup F.1 F.2.1 dX3_arrange_66 rfl ?_
            refine xg_Pile_height F hW tm_57 dX3_arrange_67 ?_
            refine lv_iconst (v := nI 1) F.1 F.2.1 dX3_arrange_70 (by decide) ?_
            refine ax_add (z := nI (h + 1)) F (nI_add _ _) dX3_arrange_71 ?_
            refine xp_Pile_height (k := (h + 1)) F hW tm_57 rfl dX3_arrange_72 (fun H locs hW => ?_)
            have hW : xW G s s.heap H locs M (dn, h + 1, tk, upd f h (f (h - 1))) S V := hW
            refine lv_goto (tgt := 136) F.1 F.2.1 dX3_arrange_75 (by decide) ?_
            refine lv_iconst (v := nI 1) F.1 F.2.1 dX3_arrange_136 (by decide) ?_
            refine xre_z F hr hlk hW (by decide) dX3_arrange_137 ?_
            first | (exfalso; omega) | exact Or.inr ⟨decide_eq_false (by omega), rfl, rfl⟩ | exact Or.inl ⟨decide_eq_true (by omega), rfl, by unfold sp_h sp_f; repeat first | rw [if_pos (by omega)] | rw [if_neg (by omega)]⟩
        · have c32 := ci_nlt (a := ((h : Nat) : Int)) (b := 8) (nI_toInt (by omega)) (by decide) c32
          refine lv_iconst (v := nI 0) F.1 F.2.1 dX3_arrange_35 (by decide) ?_
          refine xre_z F hr hlk hW (by decide) dX3_arrange_36 ?_
          first | (exfalso; omega) | exact Or.inr ⟨decide_eq_false (by omega), rfl, rfl⟩ | exact Or.inl ⟨decide_eq_true (by omega), rfl, by unfold sp_h sp_f; repeat first | rw [if_pos (by omega)] | rw [if_neg (by omega)]⟩
  · have c3 := ci_eq (a := x.toInt) (b := 19) rfl (by decide) c3
    refine lv_iconst (v := nI 2) F.1 F.2.1 dX3_arrange_6 (by decide) ?_
    refine lv_goto (tgt := 11) F.1 F.2.1 dX3_arrange_7 (by decide) ?_
    refine lv_istore_n (lv' := [(2, .int (nI 2)), (0, .ref (xga G 5)), (1, .int x)]) F.1 F.2.1 dX3_arrange_11 rfl hl (by decide) rfl (fun ls hl => ?_)
    refine lv_aload_n F.1 F.2.1 dX3_arrange_12 rfl (lv_at hl 1 rfl) ?_
    refine xg_Pile_height F hW tm_57 dX3_arrange_13 ?_
    refine lv_iload_n F.1 F.2.1 dX3_arrange_16 rfl (lv_at hl 0 rfl) ?_
    refine lv_icmp_lt (tgt := 35) F.1 F.2.1 dX3_arrange_17 (by decide) (fun c17 => ?_) (fun c17 => ?_)
    · have c17 := ci_lt (a := ((h : Nat) : Int)) (b := 2) (nI_toInt (by omega)) (by decide) c17
      refine lv_iconst (v := nI 0) F.1 F.2.1 dX3_arrange_35 (by decide) ?_
      refine xre_z F hr hlk hW (by decide) dX3_arrange_36 ?_
      first | (exfalso; omega) | exact Or.inr ⟨decide_eq_false (by omega), rfl, rfl⟩ | exact Or.inl ⟨decide_eq_true (by omega), rfl, by unfold sp_h sp_f; repeat first | rw [if_pos (by omega)] | rw [if_neg (by omega)]⟩
    · have c17 := ci_nlt (a := ((h : Nat) : Int)) (b := 2) (nI_toInt (by omega)) (by decide) c17
      refine lv_iload_n F.1 F.2.1 dX3_arrange_20 rfl (lv_at hl 2 rfl) ?_
      refine lv_bipush (v := nI 18) F.1 F.2.1 dX3_arrange_21 (by decide) ?_
      refine lv_icmp_ne (tgt := 37) F.1 F.2.1 dX3_arrange_23 (by decide) (fun c23 => ?_) (fun c23 => ?_)
      · have c23 := ci_ne (a := x.toInt) (b := 18) rfl (by decide) c23
        refine lv_aload_n F.1 F.2.1 dX3_arrange_37 rfl (lv_at hl 1 rfl) ?_
        refine xg_Pile_numbers F hW tm_56 dX3_arrange_38 ?_
        refine lv_aload_n F.1 F.2.1 dX3_arrange_41 rfl (lv_at hl 1 rfl) ?_
        refine xg_Pile_height F hW tm_57 dX3_arrange_42 ?_
        refine lv_iconst (v := nI 1) F.1 F.2.1 dX3_arrange_45 (by decide) ?_
        refine ax_sub (z := nI (h - 1)) F (pk_sub (a := h) (b := 1) (by omega)) dX3_arrange_46 ?_
        refine xl_nu (i := (h - 1)) F hW rfl (by omega) dX3_arrange_47 ?_
        have b47 := i32b (f (h - 1))
        refine lv_istore_n (lv' := [(3, .int (f (h - 1))), (2, .int (nI 2)), (0, .ref (xga G 5)), (1, .int x)]) F.1 F.2.1 dX3_arrange_48 rfl hl (by decide) rfl (fun ls hl => ?_)
        refine lv_iload_n F.1 F.2.1 dX3_arrange_49 rfl (lv_at hl 3 rfl) ?_
        refine lv_bipush (v := nI 18) F.1 F.2.1 dX3_arrange_50 (by decide) ?_
        refine lv_icmp_ne (tgt := 78) F.1 F.2.1 dX3_arrange_52 (by decide) (fun c52 => ?_) (fun c52 => ?_)
        · have c52 := ci_ne (a := x.toInt) (b := 18) rfl (by decide) c52
          refine lv_iload_n F.1 F.2.1 dX3_arrange_78 rfl (lv_at hl 3 rfl) ?_
          refine lv_bipush (v := nI 19) F.1 F.2.1 dX3_arrange_79 (by decide) ?_
          refine lv_icmp_ne (tgt := 121) F.1 F.2.1 dX3_arrange_81 (by decide) (fun c81 => ?_) (fun c81 => ?_)
          · have c81 := ci_ne (a := x.toInt) (b := 19) rfl (by decide) c81
            refine lv_aload_n F.1 F.2.1 dX3_arrange_121 rfl (lv_at hl 2 rfl) ?_
            refine lv_dup F.1 F.2.1 dX3_arrange_122 rfl ?_
            refine xg_Pile_height F hW tm_57 dX3_arrange_123 ?_
            refine lv_iconst (v := nI 1) F.1 F.2.1 dX3_arrange_126 (by decide) ?_
            refine ax_sub (z := nI (h - 1)) F (pk_sub (a := h) (b := 1) (by omega)) dX3_arrange_127 ?_
            refine xp_Pile_height (k := (h - 1)) F hW tm_57 rfl dX3_arrange_128 (fun H locs hW => ?_)
            have hW : xW G s s.heap H locs M (dn, h - 1, tk, f) S V := hW
            refine lv_aload_n F.1 F.2.1 dX3_arrange_131 rfl (lv_at hl 2 rfl) ?_
            refine lv_iload_n F.1 F.2.1 dX3_arrange_132 rfl (lv_at hl 0 rfl) ?_
            refine xp_Pile_taken F hW tm_58 dX3_arrange_133 (fun H locs hW => ?_)
            have hW : xW G s s.heap H locs M (dn, h - 1, (f (h - 1)), f) S V := hW
            refine lv_iconst (v := nI 1) F.1 F.2.1 dX3_arrange_136 (by decide) ?_
            refine xre_z F hr hlk hW (by decide) dX3_arrange_137 ?_
            first | (exfalso; omega) | exact Or.inr ⟨decide_eq_false (by omega), rfl, rfl⟩ | exact Or.inl ⟨decide_eq_true (by omega), rfl, by unfold sp_h sp_f; repeat first | rw [if_pos (by omega)] | rw [if_neg (by omega)]⟩
          · have c81 := ci_eq (a := x.toInt) (b := 19) rfl (by decide) c81
            refine lv_aload_n F.1 F.2.1 dX3_arrange_84 rfl (lv_at hl 2 rfl) ?_
            refine xg_Pile_numbers F hW tm_56 dX3_arrange_85 ?_
            refine lv_aload_n F.1 F.2.1 dX3_arrange_88 rfl (lv_at hl 2 rfl) ?_
            refine xg_Pile_height F hW tm_57 dX3_arrange_89 ?_
            refine lv_iconst (v := nI 1) F.1 F.2.1 dX3_arrange_92 (by decide) ?_
            refine ax_sub (z := nI (h - 1)) F (pk_sub (a := h) (b := 1) (by omega)) dX3_arrange_93 ?_
            refine lv_aload_n F.1 F.2.1 dX3_arrange_94 rfl (lv_at hl 2 rfl) ?_
            refine xg_Pile_numbers F hW tm_56 dX3_arrange_95 ?_
            refine lv_aload_n F.1 F.2.1 dX3_arrange_98 rfl (lv_at hl 2 rfl) ?_
            refine xg_Pile_height F hW tm_57 dX3_arrange_99 ?_
            refine lv_iconst (v := nI 2) F.1 F.2.1 dX3_arrange_102 (by decide) ?_
            refine ax_sub (z := nI (h - 2)) F (pk_sub (a := h) (b := 2) (by omega)) dX3_arrange_103 ?_
            refine xl_nu (i := (h - 2)) F hW rfl (by omega) dX3_arrange_104 ?_
            have b104 := i32b (f (h - 2))
            refine xs_nu (i := (h - 1)) F hW rfl (by omega) dX3_arrange_105 (fun H locs hW => ?_)
            have hW : xW G s s.heap H locs M (dn, h, tk, upd f (h - 1) (f (h - 2))) S V := hW
            refine lv_aload_n F.1 F.2.1 dX3_arrange_106 rfl (lv_at hl 2 rfl) ?_
            refine xg_Pile_numbers F hW tm_56 dX3_arrange_107 ?_
            refine lv_aload_n F.1 F.2.1 dX3_arrange_110 rfl (lv_at hl 2 rfl) ?_
            refine xg_Pile_height F hW tm_57 dX3_arrange_111 ?_
            refine lv_iconst (v := nI 2) F.1 F.2.1 dX3_arrange_114 (by decide) ?_
            refine ax_sub (z := nI (h - 2)) F (pk_sub (a := h) (b := 2) (by omega)) dX3_arrange_115 ?_
            refine lv_iload_n F.1 F.2.1 dX3_arrange_116 rfl (lv_at hl 0 rfl) ?_
            refine xs_nu (i := (h - 2)) F hW rfl (by omega) dX3_arrange_117 (fun H locs hW => ?_)
            have hW : xW G s s.heap H locs M (dn, h, tk, upd (upd f (h - 1) (f (h - 2))) (h - 2) (f (h - 1))) S V := hW
            refine lv_goto (tgt := 136) F.1 F.2.1 dX3_arrange_118 (by decide) ?_
            refine lv_iconst (v := nI 1) F.1 F.2.1 dX3_arrange_136 (by decide) ?_
            refine xre_z F hr hlk hW (by decide) dX3_arrange_137 ?_
            first | (exfalso; omega) | exact Or.inr ⟨decide_eq_false (by omega), rfl, rfl⟩ | exact Or.inl ⟨decide_eq_true (by omega), rfl, by unfold sp_h sp_f; repeat first | rw [if_pos (by omega)] | rw [if_neg (by omega)]⟩
        · have c52 := ci_eq (a := x.toInt) (b := 18) rfl (by decide) c52
          refine lv_aload_n F.1 F.2.1 dX3_arrange_55 rfl (lv_at hl 2 rfl) ?_
          refine xg_Pile_numbers F hW tm_56 dX3_arrange_56 ?_
          refine lv_aload_n F.1 F.2.1 dX3_arrange_59 rfl (lv_at hl 2 rfl) ?_
          refine xg_Pile_height F hW tm_57 dX3_arrange_60 ?_
          refine lv_iload_n F.1 F.2.1 dX3_arrange_63 rfl (lv_at hl 0 rfl) ?_
          refine xs_nu (i := h) F hW rfl (by omega) dX3_arrange_64 (fun H locs hW => ?_)
          have hW : xW G s s.heap H locs M (dn, h, tk, upd f h (f (h - 1))) S V := hW
          refine lv_aload_n F.1 F.2.1 dX3_arrange_65 rfl (lv_at hl 2 rfl) ?_
          refine lv_dup F.1 F.2.1 dX3_arrange_66 rfl ?_
          refine xg_Pile_height F hW tm_57 dX3_arrange_67 ?_
          refine lv_iconst (v := nI 1) F.1 F.2.1 dX3_arrange_70 (by decide) ?_
          refine ax_add (z := nI (h + 1)) F (nI_add _ _) dX3_arrange_71 ?_
          refine xp_Pile_height (k := (h + 1)) F hW tm_57 rfl dX3_arrange_72 (fun H locs hW => ?_)
          have hW : xW G s s.heap H locs M (dn, h + 1, tk, upd f h (f (h - 1))) S V := hW
          refine lv_goto (tgt := 136) F.1 F.2.1 dX3_arrange_75 (by decide) ?_
          refine lv_iconst (v := nI 1) F.1 F.2.1 dX3_arrange_136 (by decide) ?_
          refine xre_z F hr hlk hW (by decide) dX3_arrange_137 ?_
          first | (exfalso; omega) | exact Or.inr ⟨decide_eq_false (by omega), rfl, rfl⟩ | exact Or.inl ⟨decide_eq_true (by omega), rfl, by unfold sp_h sp_f; repeat first | rw [if_pos (by omega)] | rw [if_neg (by omega)]⟩
      · have c23 := ci_eq (a := x.toInt) (b := 18) rfl (by decide) c23
        refine lv_aload_n F.1 F.2.1 dX3_arrange_26 rfl (lv_at hl 1 rfl) ?_
        refine xg_Pile_height F hW tm_57 dX3_arrange_27 ?_
        refine lv_bipush (v := nI 8) F.1 F.2.1 dX3_arrange_30 (by decide) ?_
        refine lv_icmp_lt (tgt := 37) F.1 F.2.1 dX3_arrange_32 (by decide) (fun c32 => ?_) (fun c32 => ?_)
        · have c32 := ci_lt (a := ((h : Nat) : Int)) (b := 8) (nI_toInt (by omega)) (by decide) c32
          refine lv_aload_n F.1 F.2.1 dX3_arrange_37 rfl (lv_at hl 1 rfl) ?_
          refine xg_Pile_numbers F hW tm_56 dX3_arrange_38 ?_
          refine lv_aload_n F.1 F.2.1 dX3_arrange_41 rfl (lv_at hl 1 rfl) ?_
          refine xg_Pile_height F hW tm_57 dX3_arrange_42 ?_
          refine lv_iconst (v := nI 1) F.1 F.2.1 dX3_arrange_45 (by decide) ?_
          refine ax_sub (z := nI (h - 1)) F (pk_sub (a := h) (b := 1) (by omega)) dX3_arrange_46 ?_
          refine xl_nu (i := (h - 1)) F hW rfl (by omega) dX3_arrange_47 ?_
          have b47 := i32b (f (h - 1))
          refine lv_istore_n (lv' := [(3, .int (f (h - 1))), (2, .int (nI 2)), (0, .ref (xga G 5)), (1, .int x)]) F.1 F.2.1 dX3_arrange_48 rfl hl (by decide) rfl (fun ls hl => ?_)
          refine lv_iload_n F.1 F.2.1 dX3_arrange_49 rfl (lv_at hl 3 rfl) ?_
          refine lv_bipush (v := nI 18) F.1 F.2.1 dX3_arrange_50 (by decide) ?_
          refine lv_icmp_ne (tgt := 78) F.1 F.2.1 dX3_arrange_52 (by decide) (fun c52 => ?_) (fun c52 => ?_)
          · have c52 := ci_ne (a := x.toInt) (b := 18) rfl (by decide) c52
            refine lv_iload_n F.1 F.2.1 dX3_arrange_78 rfl (lv_at hl 3 rfl) ?_
            refine lv_bipush (v := nI 19) F.1 F.2.1 dX3_arrange_79 (by decide) ?_
            refine lv_icmp_ne (tgt := 121) F.1 F.2.1 dX3_arrange_81 (by decide) (fun c81 => ?_) (fun c81 => ?_)
            · have c81 := ci_ne (a := x.toInt) (b := 19) rfl (by decide) c81
              refine lv_aload_n F.1 F.2.1 dX3_arrange_121 rfl (lv_at hl 2 rfl) ?_
              refine lv_dup F.1 F.2.1 dX3_arrange_122 rfl ?_
              refine xg_Pile_height F hW tm_57 dX3_arrange_123 ?_
              refine lv_iconst (v := nI 1) F.1 F.2.1 dX3_arrange_126 (by decide) ?_
              refine ax_sub (z := nI (h - 1)) F (pk_sub (a := h) (b := 1) (by omega)) dX3_arrange_127 ?_
              refine xp_Pile_height (k := (h - 1)) F hW tm_57 rfl dX3_arrange_128 (fun H locs hW => ?_)
              have hW : xW G s s.heap H locs M (dn, h - 1, tk, f) S V := hW
              refine lv_aload_n F.1 F.2.1 dX3_arrange_131 rfl (lv_at hl 2 rfl) ?_
              refine lv_iload_n F.1 F.2.1 dX3_arrange_132 rfl (lv_at hl 0 rfl) ?_
              refine xp_Pile_taken F hW tm_58 dX3_arrange_133 (fun H locs hW => ?_)
              have hW : xW G s s.heap H locs M (dn, h - 1, (f (h - 1)), f) S V := hW
              refine lv_iconst (v := nI 1) F.1 F.2.1 dX3_arrange_136 (by decide) ?_
              refine xre_z F hr hlk hW (by decide) dX3_arrange_137 ?_
              first | (exfalso; omega) | exact Or.inr ⟨decide_eq_false (by omega), rfl, rfl⟩ | exact Or.inl ⟨decide_eq_true (by omega), rfl, by unfold sp_h sp_f; repeat first | rw [if_pos (by omega)] | rw [if_neg (by omega)]⟩
            · have c81 := ci_eq (a := x.toInt) (b := 19) rfl (by decide) c81
              refine lv_aload_n F.1 F.2.1 dX3_arrange_84 rfl (lv_at hl 2 rfl) ?_
              refine xg_Pile_numbers F hW tm_56 dX3_arrange_85 ?_
              refine lv_aload_n F.1 F.2.1 dX3_arrange_88 rfl (lv_at hl 2 rfl) ?_
              refine xg_Pile_height F hW tm_57 dX3_arrange_89 ?_
              refine lv_iconst (v := nI 1) F.1 F.2.1 dX3_arrange_92 (by decide) ?_
              refine ax_sub (z := nI (h - 1)) F (pk_sub (a := h) (b := 1) (by omega)) dX3_arrange_93 ?_
              refine lv_aload_n F.1 F.2.1 dX3_arrange_94 rfl (lv_at hl 2 rfl) ?_
              refine xg_Pile_numbers F hW tm_56 dX3_arrange_95 ?_
              refine lv_aload_n F.1 F.2.1 dX3_arrange_98 rfl (lv_at hl 2 rfl) ?_
              refine xg_Pile_height F hW tm_57 dX3_arrange_99 ?_
              refine lv_iconst (v := nI 2) F.1 F.2.1 dX3_arrange_102 (by decide) ?_
              refine ax_sub (z := nI (h - 2)) F (pk_sub (a := h) (b := 2) (by omega)) dX3_arrange_103 ?_
              refine xl_nu (i := (h - 2)) F hW rfl (by omega) dX3_arrange_104 ?_
              have b104 := i32b (f (h - 2))
              refine xs_nu (i := (h - 1)) F hW rfl (by omega) dX3_arrange_105 (fun H locs hW => ?_)
              have hW : xW G s s.heap H locs M (dn, h, tk, upd f (h - 1) (f (h - 2))) S V := hW
              refine lv_aload_n F.1 F.2.1 dX3_arrange_106 rfl (lv_at hl 2 rfl) ?_
              refine xg_Pile_numbers F hW tm_56 dX3_arrange_107 ?_
              refine lv_aload_n F.1 F.2.1 dX3_arrange_110 rfl (lv_at hl 2 rfl) ?_
              refine xg_Pile_height F hW tm_57 dX3_arrange_111 ?_
              refine lv_iconst (v := nI 2) F.1 F.2.1 dX3_arrange_114 (by decide) ?_
              refine ax_sub (z := nI (h - 2)) F (pk_sub (a := h) (b := 2) (by omega)) dX3_arrange_115 ?_
              refine lv_iload_n F.1 F.2.1 dX3_arrange_116 rfl (lv_at hl 0 rfl) ?_
              refine xs_nu (i := (h - 2)) F hW rfl (by omega) dX3_arrange_117 (fun H locs hW => ?_)
              have hW : xW G s s.heap H locs M (dn, h, tk, upd (upd f (h - 1) (f (h - 2))) (h - 2) (f (h - 1))) S V := hW
              refine lv_goto (tgt := 136) F.1 F.2.1 dX3_arrange_118 (by decide) ?_
              refine lv_iconst (v := nI 1) F.1 F.2.1 dX3_arrange_136 (by decide) ?_
              refine xre_z F hr hlk hW (by decide) dX3_arrange_137 ?_
              first | (exfalso; omega) | exact Or.inr ⟨decide_eq_false (by omega), rfl, rfl⟩ | exact Or.inl ⟨decide_eq_true (by omega), rfl, by unfold sp_h sp_f; repeat first | rw [if_pos (by omega)] | rw [if_neg (by omega)]⟩
          · have c52 := ci_eq (a := x.toInt) (b := 18) rfl (by decide) c52
            refine lv_aload_n F.1 F.2.1 dX3_arrange_55 rfl (lv_at hl 2 rfl) ?_
            refine xg_Pile_numbers F hW tm_56 dX3_arrange_56 ?_
            refine lv_aload_n F.1 F.2.1 dX3_arrange_59 rfl (lv_at hl 2 rfl) ?_
            refine xg_Pile_height F hW tm_57 dX3_arrange_60 ?_
            refine lv_iload_n F.1 F.2.1 dX3_arrange_63 rfl (lv_at hl 0 rfl) ?_
            refine xs_nu (i := h) F hW rfl (by omega) dX3_arrange_64 (fun H locs hW => ?_)
            have hW : xW G s s.heap H locs M (dn, h, tk, upd f h (f (h - 1))) S V := hW
            refine lv_aload_n F.1 F.2.1 dX3_arrange_65 rfl (lv_at hl 2 rfl) ?_
            refine lv_dup F.1 F.2.1 dX3_arrange_66 rfl ?_
            refine xg_Pile_height F hW tm_57 dX3_arrange_67 ?_
            refine lv_iconst (v := nI 1) F.1 F.2.1 dX3_arrange_70 (by decide) ?_
            refine ax_add (z := nI (h + 1)) F (nI_add _ _) dX3_arrange_71 ?_
            refine xp_Pile_height (k := (h + 1)) F hW tm_57 rfl dX3_arrange_72 (fun H locs hW => ?_)
            have hW : xW G s s.heap H locs M (dn, h + 1, tk, upd f h (f (h - 1))) S V := hW
            refine lv_goto (tgt := 136) F.1 F.2.1 dX3_arrange_75 (by decide) ?_
            refine lv_iconst (v := nI 1) F.1 F.2.1 dX3_arrange_136 (by decide) ?_
            refine xre_z F hr hlk hW (by decide) dX3_arrange_137 ?_
            first | (exfalso; omega) | exact Or.inr ⟨decide_eq_false (by omega), rfl, rfl⟩ | exact Or.inl ⟨decide_eq_true (by omega), rfl, by unfold sp_h sp_f; repeat first | rw [if_pos (by omega)] | rw [if_neg (by omega)]⟩
        · have c32 := ci_nlt (a := ((h : Nat) : Int)) (b := 8) (nI_toInt (by omega)) (by decide) c32
          refine lv_iconst (v := nI 0) F.1 F.2.1 dX3_arrange_35 (by decide) ?_
          refine xre_z F hr hlk hW (by decide) dX3_arrange_36 ?_
          first | (exfalso; omega) | exact Or.inr ⟨decide_eq_false (by omega), rfl, rfl⟩ | exact Or.inl ⟨decide_eq_true (by omega), rfl, by unfold sp_h sp_f; repeat first | rw [if_pos (by omega)] | rw [if_neg (by omega)]⟩
theorem dX4_isWhole_0 : decode cX4_isWhole 0 = .ok (.iconst 0, 1) := by decide +kernel
theorem dX4_isWhole_1 : decode cX4_isWhole 1 = .ok (.istore_n 2, 1) := by decide +kernel
theorem dX4_isWhole_2 : decode cX4_isWhole 2 = .ok (.iload_n 2, 1) := by decide +kernel
theorem dX4_isWhole_3 : decode cX4_isWhole 3 = .ok (.aload_n 0, 1) := by decide +kernel
theorem dX4_isWhole_4 : decode cX4_isWhole 4 = .ok (.getfield 15, 3) := by decide +kernel
theorem dX4_isWhole_7 : decode cX4_isWhole 7 = .ok (.if_icmp .ge 25, 3) := by decide +kernel
theorem dX4_isWhole_10 : decode cX4_isWhole 10 = .ok (.aload_n 0, 1) := by decide +kernel
theorem dX4_isWhole_11 : decode cX4_isWhole 11 = .ok (.aload_n 0, 1) := by decide +kernel
theorem dX4_isWhole_12 : decode cX4_isWhole 12 = .ok (.getfield 9, 3) := by decide +kernel
theorem dX4_isWhole_15 : decode cX4_isWhole 15 = .ok (.iload_n 2, 1) := by decide +kernel
theorem dX4_isWhole_16 : decode cX4_isWhole 16 = .ok (.iaload, 1) := by decide +kernel
theorem dX4_isWhole_17 : decode cX4_isWhole 17 = .ok (.iload_n 1, 1) := by decide +kernel
theorem dX4_isWhole_18 : decode cX4_isWhole 18 = .ok (.invokevirtual 26, 3) := by decide +kernel
theorem dX4_isWhole_21 : decode cX4_isWhole 21 = .ok (.ifCond .ne 5, 3) := by decide +kernel
theorem dX4_isWhole_24 : decode cX4_isWhole 24 = .ok (.iconst 0, 1) := by decide +kernel
theorem dX4_isWhole_25 : decode cX4_isWhole 25 = .ok (.ireturn, 1) := by decide +kernel
theorem dX4_isWhole_26 : decode cX4_isWhole 26 = .ok (.iinc 2 1, 3) := by decide +kernel
theorem dX4_isWhole_29 : decode cX4_isWhole 29 = .ok (.goto (-27), 3) := by decide +kernel
theorem dX4_isWhole_32 : decode cX4_isWhole 32 = .ok (.iconst 1, 1) := by decide +kernel
theorem dX4_isWhole_33 : decode cX4_isWhole 33 = .ok (.ireturn, 1) := by decide +kernel
set_option maxHeartbeats 4000000 in
set_option maxRecDepth 100000 in
theorem c_X4_isWhole (l : Launch) (G : XG) (M : XM) (P : XP) (S : XS) (V : XV) (j : Nat) (hj : j < 13) (hc : M.2.2.1 j ≤ 12) (t : Nat) (ht : t < 1000) : Met l yX4_isWhole (wC yX4_isWhole cX4_isWhole 3 (some .boolean)) (rmD 2) (xPc G [.ref (xgo G j), .int (nI t)] M P S V) (va_Qi (fun r u => yn r (∀ k, k < M.2.2.1 j → sp_may (M.2.2.2.2.1 j k).toInt t (M.2.2.1 j)) ∧ u = (M, P, S, V)) (xB G) (xA G)) 0 0 (xA G) := by
  refine xst "DoFinder$Routine" (by decide) rfl (Nat.le_of_ble_eq_true rfl) ?_
  intro p e s m args below meth c ls F hr hlk hW hl
  have hl : lv_has ls 3 [(0, .ref (xgo G j)), (1, .int (nI t))] := hl
  have hW : xW G s s.heap s.heap [] M P S V := hW
  refine lv_iconst (v := nI 0) F.1 F.2.1 dX4_isWhole_0 (by decide) ?_
  refine lv_istore_n (lv' := [(2, .int (nI 0)), (0, .ref (xgo G j)), (1, .int (nI t))]) F.1 F.2.1 dX4_isWhole_1 rfl hl (by decide) rfl (fun ls hl => ?_)
  have lp2 : ∀ (k2 : Nat) (i : Nat), M.2.2.1 j - i = k2 → (i ≤ M.2.2.1 j) → (∀ k, k < i → sp_may (M.2.2.2.2.1 j k).toInt t (M.2.2.1 j)) → ∀ (H : Heap) (locs : List Loc) (ls : Array Slot), xW G s s.heap H locs M P S V →  lv_has ls 3 [(0, .ref (xgo G j)), (1, .int (nI t)), (2, .int (nI i))] → W p l e (rmD 2) s m args below meth c H locs 0 0 (MQ below (va_Qi (fun r u => yn r (∀ k, k < M.2.2.1 j → sp_may (M.2.2.2.2.1 j k).toInt t (M.2.2.1 j)) ∧ u = (M, P, S, V)) (xB G) (xA G)) args s 0 0 (xA G)) (F0 m 2 ls []) := by
    intro k2
    induction k2 using Nat.strongRecOn with
    | ind k2 ih2 =>
      intro i hk2 hi1 hi2 H locs ls hW hl
      refine lv_iload_n F.1 F.2.1 dX4_isWhole_2 rfl (lv_at hl 2 rfl) ?_
      refine lv_aload_n F.1 F.2.1 dX4_isWhole_3 rfl (lv_at hl 0 rfl) ?_
      refine xg_Routine_count F hW (j := j) (by omega) tm_28 dX4_isWhole_4 ?_
      refine lv_icmp_ge (tgt := 32) F.1 F.2.1 dX4_isWhole_7 (by decide) (fun c7 => ?_) (fun c7 => ?_)
      · have c7 := ci_le (a := ((M.2.2.1 j : Nat) : Int)) (b := ((i : Nat) : Int)) (nI_toInt (by omega)) (nI_toInt (by omega)) c7
        refine lv_iconst (v := nI 1) F.1 F.2.1 dX4_isWhole_32 (by decide) ?_
        refine xre_z F hr hlk hW (by decide) dX4_isWhole_33 ?_
        exact ⟨yn_1 (fun k hk => hi2 k (by omega)), rfl⟩
      · have c7 := ci_nle (a := ((M.2.2.1 j : Nat) : Int)) (b := ((i : Nat) : Int)) (nI_toInt (by omega)) (nI_toInt (by omega)) c7
        refine lv_aload_n F.1 F.2.1 dX4_isWhole_10 rfl (lv_at hl 0 rfl) ?_
        refine lv_aload_n F.1 F.2.1 dX4_isWhole_11 rfl (lv_at hl 0 rfl) ?_
        refine xg_Routine_steps F hW (j := j) (by omega) tm_25 dX4_isWhole_12 ?_
        refine lv_iload_n F.1 F.2.1 dX4_isWhole_15 rfl (lv_at hl 2 rfl) ?_
        refine xl_rs (j := j) (i := i) F hW (by omega) rfl (by omega) dX4_isWhole_16 ?_
        have b16 := i32b (M.2.2.2.2.1 j i)
        refine lv_iload_n F.1 F.2.1 dX4_isWhole_17 rfl (lv_at hl 1 rfl) ?_
        refine xca_i (b := (xgo G j)) (As := [.int (M.2.2.2.2.1 j i), .int (nI t)]) (rest := []) F (c_X4_mayHold l G M P S V j (by omega) (by omega) (M.2.2.2.2.1 j i) t (by omega)) (xcw F.2.2.2.2 ca_X4_mayHold tm_221 rfl rfl ⟨by decide, by decide⟩) (xr_X4 hW (j := j) (by omega)) hW rfl hl.1 rfl (Nat.le_of_ble_eq_true rfl) dX4_isWhole_18 (fun r18 u18 H locs hp18 hW => ?_)
        obtain ⟨hp18, rfl⟩ := hp18
        have hW : xW G s s.heap H locs M P S V := hW
        rcases hp18 with ⟨rfl, y18⟩ | ⟨rfl, y18⟩
        · skip
          refine lv_if_ne (tgt := 26) F.1 F.2.1 dX4_isWhole_21 (by decide) (fun _ => ?_) (fun q => absurd q (by decide))
          refine lv_iinc (v := nI (i + 1)) (lv' := [(2, .int (nI (i + 1))), (0, .ref (xgo G j)), (1, .int (nI t))]) F.1 F.2.1 dX4_isWhole_26 hl (k := 2) rfl (nI_add _ 1) (by decide) rfl (fun ls hl => ?_)
          refine lv_goto (tgt := 2) F.1 F.2.1 dX4_isWhole_29 (by decide) ?_
          exact ih2 (M.2.2.1 j - (i + 1)) (by omega) (i + 1) rfl (by omega) (lt_s hi2 y18) _ _ _ hW (lv_sub hl [1, 2, 0] rfl)
        · skip
          refine lv_if_ne (tgt := 26) F.1 F.2.1 dX4_isWhole_21 (by decide) (fun q => absurd q (by decide)) (fun _ => ?_)
          refine lv_iconst (v := nI 0) F.1 F.2.1 dX4_isWhole_24 (by decide) ?_
          refine xre_z F hr hlk hW (by decide) dX4_isWhole_25 ?_
          exact ⟨yn_0 (fun q => y18 (q i (by omega))), rfl⟩
  exact lp2 (M.2.2.1 j - 0) 0 rfl (Nat.zero_le _) (lt_0) _ _ _ hW (lv_sub hl [1, 2, 0] rfl)
theorem dX4_append_0 : decode cX4_append 0 = .ok (.aload_n 0, 1) := by decide +kernel
theorem dX4_append_1 : decode cX4_append 1 = .ok (.getfield 15, 3) := by decide +kernel
theorem dX4_append_4 : decode cX4_append 4 = .ok (.bipush 12, 2) := by decide +kernel
theorem dX4_append_6 : decode cX4_append 6 = .ok (.if_icmp .lt 5, 3) := by decide +kernel
theorem dX4_append_9 : decode cX4_append 9 = .ok (.iconst 0, 1) := by decide +kernel
theorem dX4_append_10 : decode cX4_append 10 = .ok (.ireturn, 1) := by decide +kernel
theorem dX4_append_11 : decode cX4_append 11 = .ok (.aload_n 0, 1) := by decide +kernel
theorem dX4_append_12 : decode cX4_append 12 = .ok (.getfield 9, 3) := by decide +kernel
theorem dX4_append_15 : decode cX4_append 15 = .ok (.aload_n 0, 1) := by decide +kernel
theorem dX4_append_16 : decode cX4_append 16 = .ok (.getfield 15, 3) := by decide +kernel
theorem dX4_append_19 : decode cX4_append 19 = .ok (.iload_n 1, 1) := by decide +kernel
theorem dX4_append_20 : decode cX4_append 20 = .ok (.iastore, 1) := by decide +kernel
theorem dX4_append_21 : decode cX4_append 21 = .ok (.aload_n 0, 1) := by decide +kernel
theorem dX4_append_22 : decode cX4_append 22 = .ok (.dup, 1) := by decide +kernel
theorem dX4_append_23 : decode cX4_append 23 = .ok (.getfield 15, 3) := by decide +kernel
theorem dX4_append_26 : decode cX4_append 26 = .ok (.iconst 1, 1) := by decide +kernel
theorem dX4_append_27 : decode cX4_append 27 = .ok (.iadd, 1) := by decide +kernel
theorem dX4_append_28 : decode cX4_append 28 = .ok (.putfield 15, 3) := by decide +kernel
theorem dX4_append_31 : decode cX4_append 31 = .ok (.iconst 1, 1) := by decide +kernel
theorem dX4_append_32 : decode cX4_append 32 = .ok (.ireturn, 1) := by decide +kernel
set_option maxHeartbeats 4000000 in
set_option maxRecDepth 100000 in
theorem c_X4_append (l : Launch) (G : XG) (M : XM) (P : XP) (S : XS) (V : XV) (j : Nat) (hj : j < 13) (hc : M.2.2.1 j ≤ 12) (x : Int32) : Met l yX4_append (wC yX4_append cX4_append 2 (some .boolean)) (rmD 0) (xPc G [.ref (xgo G j), .int x] M P S V) (va_Qi (fun r u => (M.2.2.1 j < 12 ∧ r = nI 1 ∧ u = ((M.1, M.2.1, upN M.2.2.1 j (M.2.2.1 j + 1), M.2.2.2.1, upF M.2.2.2.2.1 j (upd (M.2.2.2.2.1 j) (M.2.2.1 j) x), M.2.2.2.2.2), P, S, V)) ∨ (¬ M.2.2.1 j < 12 ∧ r = nI 0 ∧ u = (M, P, S, V))) (xB G) (xA G)) 0 0 (xA G) := by
  refine xst "DoFinder$Routine" (by decide) rfl (Nat.le_of_ble_eq_true rfl) ?_
  intro p e s m args below meth c ls F hr hlk hW hl
  have hl : lv_has ls 2 [(0, .ref (xgo G j)), (1, .int x)] := hl
  have hW : xW G s s.heap s.heap [] M P S V := hW
  have b_x := i32b x
  refine lv_aload_n F.1 F.2.1 dX4_append_0 rfl (lv_at hl 0 rfl) ?_
  refine xg_Routine_count F hW (j := j) (by omega) tm_28 dX4_append_1 ?_
  refine lv_bipush (v := nI 12) F.1 F.2.1 dX4_append_4 (by decide) ?_
  refine lv_icmp_lt (tgt := 11) F.1 F.2.1 dX4_append_6 (by decide) (fun c6 => ?_) (fun c6 => ?_)
  · have c6 := ci_lt (a := ((M.2.2.1 j : Nat) : Int)) (b := 12) (nI_toInt (by omega)) (by decide) c6
    refine lv_aload_n F.1 F.2.1 dX4_append_11 rfl (lv_at hl 0 rfl) ?_
    refine xg_Routine_steps F hW (j := j) (by omega) tm_25 dX4_append_12 ?_
    refine lv_aload_n F.1 F.2.1 dX4_append_15 rfl (lv_at hl 0 rfl) ?_
    refine xg_Routine_count F hW (j := j) (by omega) tm_28 dX4_append_16 ?_
    refine lv_iload_n F.1 F.2.1 dX4_append_19 rfl (lv_at hl 1 rfl) ?_
    refine xs_rs (j := j) (i := (M.2.2.1 j)) F hW (by omega) rfl (by omega) dX4_append_20 (fun H locs hW => ?_)
    have hW : xW G s s.heap H locs (M.1, M.2.1, M.2.2.1, M.2.2.2.1, upF M.2.2.2.2.1 j (upd (M.2.2.2.2.1 j) (M.2.2.1 j) x), M.2.2.2.2.2.1, M.2.2.2.2.2.2.1, M.2.2.2.2.2.2.2.1, M.2.2.2.2.2.2.2.2.1, M.2.2.2.2.2.2.2.2.2) P S V := hW
    refine lv_aload_n F.1 F.2.1 dX4_append_21 rfl (lv_at hl 0 rfl) ?_
    refine lv_dup F.1 F.2.1 dX4_append_22 rfl ?_
    refine xg_Routine_count F hW (j := j) (by omega) tm_28 dX4_append_23 ?_
    refine lv_iconst (v := nI 1) F.1 F.2.1 dX4_append_26 (by decide) ?_
    refine ax_add (z := nI ((M.2.2.1 j) + 1)) F (nI_add _ _) dX4_append_27 ?_
    refine xp_Routine_count (j := j) (k := ((M.2.2.1 j) + 1)) F hW (by omega) tm_28 rfl dX4_append_28 (fun H locs hW => ?_)
    have hW : xW G s s.heap H locs (M.1, M.2.1, upN M.2.2.1 j ((M.2.2.1 j) + 1), M.2.2.2.1, upF M.2.2.2.2.1 j (upd (M.2.2.2.2.1 j) (M.2.2.1 j) x), M.2.2.2.2.2.1, M.2.2.2.2.2.2.1, M.2.2.2.2.2.2.2.1, M.2.2.2.2.2.2.2.2.1, M.2.2.2.2.2.2.2.2.2) P S V := hW
    refine lv_iconst (v := nI 1) F.1 F.2.1 dX4_append_31 (by decide) ?_
    refine xre_z F hr hlk hW (by decide) dX4_append_32 ?_
    first | exact Or.inl ⟨by omega, rfl, rfl⟩ | exact Or.inr ⟨by omega, rfl, rfl⟩
  · have c6 := ci_nlt (a := ((M.2.2.1 j : Nat) : Int)) (b := 12) (nI_toInt (by omega)) (by decide) c6
    refine lv_iconst (v := nI 0) F.1 F.2.1 dX4_append_9 (by decide) ?_
    refine xre_z F hr hlk hW (by decide) dX4_append_10 ?_
    first | exact Or.inl ⟨by omega, rfl, rfl⟩ | exact Or.inr ⟨by omega, rfl, rfl⟩
theorem dX1_has_0 : decode cX1_has 0 = .ok (.iload_n 1, 1) := by decide +kernel
theorem dX1_has_1 : decode cX1_has 1 = .ok (.ifCond .lt 15, 3) := by decide +kernel
theorem dX1_has_4 : decode cX1_has 4 = .ok (.iload_n 1, 1) := by decide +kernel
theorem dX1_has_5 : decode cX1_has 5 = .ok (.aload_n 0, 1) := by decide +kernel
theorem dX1_has_6 : decode cX1_has 6 = .ok (.getfield 24, 3) := by decide +kernel
theorem dX1_has_9 : decode cX1_has 9 = .ok (.if_icmp .ge 7, 3) := by decide +kernel
theorem dX1_has_12 : decode cX1_has 12 = .ok (.iconst 1, 1) := by decide +kernel
theorem dX1_has_13 : decode cX1_has 13 = .ok (.goto 4, 3) := by decide +kernel
theorem dX1_has_16 : decode cX1_has 16 = .ok (.iconst 0, 1) := by decide +kernel
theorem dX1_has_17 : decode cX1_has 17 = .ok (.ireturn, 1) := by decide +kernel
set_option maxHeartbeats 4000000 in
set_option maxRecDepth 100000 in
theorem c_X1_has (l : Launch) (G : XG) (M : XM) (P : XP) (S : XS) (V : XV) (hn : M.1 ≤ 12) (x : Int32) : Met l yX1_has (wC yX1_has cX1_has 2 (some .boolean)) (rmD 0) (xPc G [.ref (xga G 1), .int x] M P S V) (va_Qi (fun r u => yn r (0 ≤ x.toInt ∧ x.toInt < (M.1 : Int)) ∧ u = (M, P, S, V)) (xB G) (xA G)) 0 0 (xA G) := by
  refine xst "DoFinder$Library" (by decide) rfl (Nat.le_of_ble_eq_true rfl) ?_
  intro p e s m args below meth c ls F hr hlk hW hl
  have hl : lv_has ls 2 [(0, .ref (xga G 1)), (1, .int x)] := hl
  have hW : xW G s s.heap s.heap [] M P S V := hW
  have b_x := i32b x
  refine lv_iload_n F.1 F.2.1 dX1_has_0 rfl (lv_at hl 1 rfl) ?_
  refine lv_if_lt (tgt := 16) F.1 F.2.1 dX1_has_1 (by decide) (fun c1 => ?_) (fun c1 => ?_)
  · have c1 := ci_lt (a := x.toInt) (b := 0) rfl ci_0 c1
    refine lv_iconst (v := nI 0) F.1 F.2.1 dX1_has_16 (by decide) ?_
    refine xre_z F hr hlk hW (by decide) dX1_has_17 ?_
    exact ⟨by first | exact yn_1 (by omega) | exact yn_0 (by omega), rfl⟩
  · have c1 := ci_nlt (a := x.toInt) (b := 0) rfl ci_0 c1
    refine lv_iload_n F.1 F.2.1 dX1_has_4 rfl (lv_at hl 1 rfl) ?_
    refine lv_aload_n F.1 F.2.1 dX1_has_5 rfl (lv_at hl 0 rfl) ?_
    refine xg_Library_count F hW tm_72 dX1_has_6 ?_
    refine lv_icmp_ge (tgt := 16) F.1 F.2.1 dX1_has_9 (by decide) (fun c9 => ?_) (fun c9 => ?_)
    · have c9 := ci_le (a := ((M.1 : Nat) : Int)) (b := x.toInt) (nI_toInt (by omega)) rfl c9
      refine lv_iconst (v := nI 0) F.1 F.2.1 dX1_has_16 (by decide) ?_
      refine xre_z F hr hlk hW (by decide) dX1_has_17 ?_
      exact ⟨by first | exact yn_1 (by omega) | exact yn_0 (by omega), rfl⟩
    · have c9 := ci_nle (a := ((M.1 : Nat) : Int)) (b := x.toInt) (nI_toInt (by omega)) rfl c9
      refine lv_iconst (v := nI 1) F.1 F.2.1 dX1_has_12 (by decide) ?_
      refine lv_goto (tgt := 17) F.1 F.2.1 dX1_has_13 (by decide) ?_
      refine xre_z F hr hlk hW (by decide) dX1_has_17 ?_
      exact ⟨by first | exact yn_1 (by omega) | exact yn_0 (by omega), rfl⟩
theorem dX1_numberLaid_0 : decode cX1_numberLaid 0 = .ok (.iload_n 0, 1) := by decide +kernel
theorem dX1_numberLaid_1 : decode cX1_numberLaid 1 = .ok (.bipush 10, 2) := by decide +kernel
theorem dX1_numberLaid_3 : decode cX1_numberLaid 3 = .ok (.if_icmp .ne 5, 3) := by decide +kernel
theorem dX1_numberLaid_6 : decode cX1_numberLaid 6 = .ok (.iload_n 1, 1) := by decide +kernel
theorem dX1_numberLaid_7 : decode cX1_numberLaid 7 = .ok (.ireturn, 1) := by decide +kernel
theorem dX1_numberLaid_8 : decode cX1_numberLaid 8 = .ok (.iload_n 0, 1) := by decide +kernel
theorem dX1_numberLaid_9 : decode cX1_numberLaid 9 = .ok (.bipush 11, 2) := by decide +kernel
theorem dX1_numberLaid_11 : decode cX1_numberLaid 11 = .ok (.if_icmp .ne 7, 3) := by decide +kernel
theorem dX1_numberLaid_14 : decode cX1_numberLaid 14 = .ok (.iload_n 2, 1) := by decide +kernel
theorem dX1_numberLaid_15 : decode cX1_numberLaid 15 = .ok (.goto 4, 3) := by decide +kernel
theorem dX1_numberLaid_18 : decode cX1_numberLaid 18 = .ok (.iload_n 0, 1) := by decide +kernel
theorem dX1_numberLaid_19 : decode cX1_numberLaid 19 = .ok (.ireturn, 1) := by decide +kernel
set_option maxHeartbeats 4000000 in
set_option maxRecDepth 100000 in
theorem c_X1_numberLaid (l : Launch) (x a b : Int32) : Met l yX1_numberLaid (wC yX1_numberLaid cX1_numberLaid 3 (some .int)) (rmD 0) (pPc [.int x, .int a, .int b]) (pQi (fun r => r = sp_lay x a b)) 0 0 (fun _ => False) := by
  refine pst "DoFinder$Library" (by decide) rfl (Nat.le_of_ble_eq_true rfl) ?_
  intro p e s m args below meth c ls F hr hlk hl
  have hl : lv_has ls 3 [(0, .int x), (1, .int a), (2, .int b)] := hl
  have b_x := i32b x
  have b_a := i32b a
  have b_b := i32b b
  refine lv_iload_n F.1 F.2.1 dX1_numberLaid_0 rfl (lv_at hl 0 rfl) ?_
  refine lv_bipush (v := nI 10) F.1 F.2.1 dX1_numberLaid_1 (by decide) ?_
  refine lv_icmp_ne (tgt := 8) F.1 F.2.1 dX1_numberLaid_3 (by decide) (fun c3 => ?_) (fun c3 => ?_)
  · have c3 := ci_ne (a := x.toInt) (b := 10) rfl (by decide) c3
    refine lv_iload_n F.1 F.2.1 dX1_numberLaid_8 rfl (lv_at hl 0 rfl) ?_
    refine lv_bipush (v := nI 11) F.1 F.2.1 dX1_numberLaid_9 (by decide) ?_
    refine lv_icmp_ne (tgt := 18) F.1 F.2.1 dX1_numberLaid_11 (by decide) (fun c11 => ?_) (fun c11 => ?_)
    · have c11 := ci_ne (a := x.toInt) (b := 11) rfl (by decide) c11
      refine lv_iload_n F.1 F.2.1 dX1_numberLaid_18 rfl (lv_at hl 0 rfl) ?_
      refine pre_i F hr hlk dX1_numberLaid_19 ?_
      unfold sp_lay; repeat first | rw [if_pos (by omega)] | rw [if_neg (by omega)]
    · have c11 := ci_eq (a := x.toInt) (b := 11) rfl (by decide) c11
      refine lv_iload_n F.1 F.2.1 dX1_numberLaid_14 rfl (lv_at hl 2 rfl) ?_
      refine lv_goto (tgt := 19) F.1 F.2.1 dX1_numberLaid_15 (by decide) ?_
      refine pre_i F hr hlk dX1_numberLaid_19 ?_
      unfold sp_lay; repeat first | rw [if_pos (by omega)] | rw [if_neg (by omega)]
  · have c3 := ci_eq (a := x.toInt) (b := 10) rfl (by decide) c3
    refine lv_iload_n F.1 F.2.1 dX1_numberLaid_6 rfl (lv_at hl 1 rfl) ?_
    refine pre_i F hr hlk dX1_numberLaid_7 ?_
    unfold sp_lay; repeat first | rw [if_pos (by omega)] | rw [if_neg (by omega)]
theorem dX1_outcome_0 : decode cX1_outcome 0 = .ok (.aload_n 0, 1) := by decide +kernel
theorem dX1_outcome_1 : decode cX1_outcome 1 = .ok (.iload_n 1, 1) := by decide +kernel
theorem dX1_outcome_2 : decode cX1_outcome 2 = .ok (.invokevirtual 39, 3) := by decide +kernel
theorem dX1_outcome_5 : decode cX1_outcome 5 = .ok (.ifCond .ne 7, 3) := by decide +kernel
theorem dX1_outcome_8 : decode cX1_outcome 8 = .ok (.ldc2_w 43, 3) := by decide +kernel
theorem dX1_outcome_11 : decode cX1_outcome 11 = .ok (.lreturn, 1) := by decide +kernel
theorem dX1_outcome_12 : decode cX1_outcome 12 = .ok (.aload_n 0, 1) := by decide +kernel
theorem dX1_outcome_13 : decode cX1_outcome 13 = .ok (.getfield 11, 3) := by decide +kernel
theorem dX1_outcome_16 : decode cX1_outcome 16 = .ok (.iload_n 1, 1) := by decide +kernel
theorem dX1_outcome_17 : decode cX1_outcome 17 = .ok (.aaload, 1) := by decide +kernel
theorem dX1_outcome_18 : decode cX1_outcome 18 = .ok (.astore 4, 2) := by decide +kernel
theorem dX1_outcome_20 : decode cX1_outcome 20 = .ok (.iconst 0, 1) := by decide +kernel
theorem dX1_outcome_21 : decode cX1_outcome 21 = .ok (.istore 5, 2) := by decide +kernel
theorem dX1_outcome_23 : decode cX1_outcome 23 = .ok (.aload_n 0, 1) := by decide +kernel
theorem dX1_outcome_24 : decode cX1_outcome 24 = .ok (.getfield 20, 3) := by decide +kernel
theorem dX1_outcome_27 : decode cX1_outcome 27 = .ok (.invokevirtual 45, 3) := by decide +kernel
theorem dX1_outcome_30 : decode cX1_outcome 30 = .ok (.aload_n 0, 1) := by decide +kernel
theorem dX1_outcome_31 : decode cX1_outcome 31 = .ok (.iconst 0, 1) := by decide +kernel
theorem dX1_outcome_32 : decode cX1_outcome 32 = .ok (.putfield 31, 3) := by decide +kernel
theorem dX1_outcome_35 : decode cX1_outcome 35 = .ok (.iconst 0, 1) := by decide +kernel
theorem dX1_outcome_36 : decode cX1_outcome 36 = .ok (.istore 6, 2) := by decide +kernel
theorem dX1_outcome_38 : decode cX1_outcome 38 = .ok (.iload 6, 2) := by decide +kernel
theorem dX1_outcome_40 : decode cX1_outcome 40 = .ok (.aload_n 0, 1) := by decide +kernel
theorem dX1_outcome_41 : decode cX1_outcome 41 = .ok (.getfield 28, 3) := by decide +kernel
theorem dX1_outcome_44 : decode cX1_outcome 44 = .ok (.if_icmp .ge 133, 3) := by decide +kernel
theorem dX1_outcome_47 : decode cX1_outcome 47 = .ok (.aload 4, 2) := by decide +kernel
theorem dX1_outcome_49 : decode cX1_outcome 49 = .ok (.iload 5, 2) := by decide +kernel
theorem dX1_outcome_51 : decode cX1_outcome 51 = .ok (.invokevirtual 48, 3) := by decide +kernel
theorem dX1_outcome_54 : decode cX1_outcome 54 = .ok (.ifCond .eq 123, 3) := by decide +kernel
theorem dX1_outcome_57 : decode cX1_outcome 57 = .ok (.aload_n 0, 1) := by decide +kernel
theorem dX1_outcome_58 : decode cX1_outcome 58 = .ok (.iload 6, 2) := by decide +kernel
theorem dX1_outcome_60 : decode cX1_outcome 60 = .ok (.iconst 1, 1) := by decide +kernel
theorem dX1_outcome_61 : decode cX1_outcome 61 = .ok (.iadd, 1) := by decide +kernel
theorem dX1_outcome_62 : decode cX1_outcome 62 = .ok (.putfield 31, 3) := by decide +kernel
theorem dX1_outcome_65 : decode cX1_outcome 65 = .ok (.aload 4, 2) := by decide +kernel
theorem dX1_outcome_67 : decode cX1_outcome 67 = .ok (.getfield 51, 3) := by decide +kernel
theorem dX1_outcome_70 : decode cX1_outcome 70 = .ok (.iload 5, 2) := by decide +kernel
theorem dX1_outcome_72 : decode cX1_outcome 72 = .ok (.iaload, 1) := by decide +kernel
theorem dX1_outcome_73 : decode cX1_outcome 73 = .ok (.istore 7, 2) := by decide +kernel
theorem dX1_outcome_75 : decode cX1_outcome 75 = .ok (.iload 7, 2) := by decide +kernel
theorem dX1_outcome_77 : decode cX1_outcome 77 = .ok (.bipush 12, 2) := by decide +kernel
theorem dX1_outcome_79 : decode cX1_outcome 79 = .ok (.if_icmp .ge 22, 3) := by decide +kernel
theorem dX1_outcome_82 : decode cX1_outcome 82 = .ok (.aload_n 0, 1) := by decide +kernel
theorem dX1_outcome_83 : decode cX1_outcome 83 = .ok (.getfield 20, 3) := by decide +kernel
theorem dX1_outcome_86 : decode cX1_outcome 86 = .ok (.iload 7, 2) := by decide +kernel
theorem dX1_outcome_88 : decode cX1_outcome 88 = .ok (.iload_n 2, 1) := by decide +kernel
theorem dX1_outcome_89 : decode cX1_outcome 89 = .ok (.iload_n 3, 1) := by decide +kernel
theorem dX1_outcome_90 : decode cX1_outcome 90 = .ok (.invokestatic 55, 3) := by decide +kernel
theorem dX1_outcome_93 : decode cX1_outcome 93 = .ok (.invokevirtual 59, 3) := by decide +kernel
theorem dX1_outcome_96 : decode cX1_outcome 96 = .ok (.istore 8, 2) := by decide +kernel
theorem dX1_outcome_98 : decode cX1_outcome 98 = .ok (.goto 33, 3) := by decide +kernel
theorem dX1_outcome_101 : decode cX1_outcome 101 = .ok (.iload 7, 2) := by decide +kernel
theorem dX1_outcome_103 : decode cX1_outcome 103 = .ok (.bipush 18, 2) := by decide +kernel
theorem dX1_outcome_105 : decode cX1_outcome 105 = .ok (.if_icmp .ge 15, 3) := by decide +kernel
theorem dX1_outcome_108 : decode cX1_outcome 108 = .ok (.aload_n 0, 1) := by decide +kernel
theorem dX1_outcome_109 : decode cX1_outcome 109 = .ok (.getfield 20, 3) := by decide +kernel
theorem dX1_outcome_112 : decode cX1_outcome 112 = .ok (.iload 7, 2) := by decide +kernel
theorem dX1_outcome_114 : decode cX1_outcome 114 = .ok (.invokevirtual 62, 3) := by decide +kernel
theorem dX1_outcome_117 : decode cX1_outcome 117 = .ok (.goto 12, 3) := by decide +kernel
theorem dX1_outcome_120 : decode cX1_outcome 120 = .ok (.aload_n 0, 1) := by decide +kernel
theorem dX1_outcome_121 : decode cX1_outcome 121 = .ok (.getfield 20, 3) := by decide +kernel
theorem dX1_outcome_124 : decode cX1_outcome 124 = .ok (.iload 7, 2) := by decide +kernel
theorem dX1_outcome_126 : decode cX1_outcome 126 = .ok (.invokevirtual 65, 3) := by decide +kernel
theorem dX1_outcome_129 : decode cX1_outcome 129 = .ok (.istore 8, 2) := by decide +kernel
theorem dX1_outcome_131 : decode cX1_outcome 131 = .ok (.iload 8, 2) := by decide +kernel
theorem dX1_outcome_133 : decode cX1_outcome 133 = .ok (.ifCond .ne 7, 3) := by decide +kernel
theorem dX1_outcome_136 : decode cX1_outcome 136 = .ok (.ldc2_w 68, 3) := by decide +kernel
theorem dX1_outcome_139 : decode cX1_outcome 139 = .ok (.lreturn, 1) := by decide +kernel
theorem dX1_outcome_140 : decode cX1_outcome 140 = .ok (.iload 7, 2) := by decide +kernel
theorem dX1_outcome_142 : decode cX1_outcome 142 = .ok (.bipush 21, 2) := by decide +kernel
theorem dX1_outcome_144 : decode cX1_outcome 144 = .ok (.if_icmp .lt 21, 3) := by decide +kernel
theorem dX1_outcome_147 : decode cX1_outcome 147 = .ok (.aload_n 0, 1) := by decide +kernel
theorem dX1_outcome_148 : decode cX1_outcome 148 = .ok (.getfield 20, 3) := by decide +kernel
theorem dX1_outcome_151 : decode cX1_outcome 151 = .ok (.getfield 70, 3) := by decide +kernel
theorem dX1_outcome_154 : decode cX1_outcome 154 = .ok (.ifCond .eq 11, 3) := by decide +kernel
theorem dX1_outcome_157 : decode cX1_outcome 157 = .ok (.iload 7, 2) := by decide +kernel
theorem dX1_outcome_159 : decode cX1_outcome 159 = .ok (.bipush 21, 2) := by decide +kernel
theorem dX1_outcome_161 : decode cX1_outcome 161 = .ok (.isub, 1) := by decide +kernel
theorem dX1_outcome_162 : decode cX1_outcome 162 = .ok (.goto 7, 3) := by decide +kernel
theorem dX1_outcome_165 : decode cX1_outcome 165 = .ok (.iload 5, 2) := by decide +kernel
theorem dX1_outcome_167 : decode cX1_outcome 167 = .ok (.iconst 1, 1) := by decide +kernel
theorem dX1_outcome_168 : decode cX1_outcome 168 = .ok (.iadd, 1) := by decide +kernel
theorem dX1_outcome_169 : decode cX1_outcome 169 = .ok (.istore 5, 2) := by decide +kernel
theorem dX1_outcome_171 : decode cX1_outcome 171 = .ok (.iinc 6 1, 3) := by decide +kernel
theorem dX1_outcome_174 : decode cX1_outcome 174 = .ok (.goto (-136), 3) := by decide +kernel
theorem dX1_outcome_177 : decode cX1_outcome 177 = .ok (.aload 4, 2) := by decide +kernel
theorem dX1_outcome_179 : decode cX1_outcome 179 = .ok (.iload 5, 2) := by decide +kernel
theorem dX1_outcome_181 : decode cX1_outcome 181 = .ok (.invokevirtual 48, 3) := by decide +kernel
theorem dX1_outcome_184 : decode cX1_outcome 184 = .ok (.ifCond .eq 7, 3) := by decide +kernel
theorem dX1_outcome_187 : decode cX1_outcome 187 = .ok (.ldc2_w 73, 3) := by decide +kernel
theorem dX1_outcome_190 : decode cX1_outcome 190 = .ok (.lreturn, 1) := by decide +kernel
theorem dX1_outcome_191 : decode cX1_outcome 191 = .ok (.aload_n 0, 1) := by decide +kernel
theorem dX1_outcome_192 : decode cX1_outcome 192 = .ok (.getfield 20, 3) := by decide +kernel
theorem dX1_outcome_195 : decode cX1_outcome 195 = .ok (.invokevirtual 75, 3) := by decide +kernel
theorem dX1_outcome_198 : decode cX1_outcome 198 = .ok (.ifCond .eq 9, 3) := by decide +kernel
theorem dX1_outcome_201 : decode cX1_outcome 201 = .ok (.ldc2_w 68, 3) := by decide +kernel
theorem dX1_outcome_204 : decode cX1_outcome 204 = .ok (.goto 11, 3) := by decide +kernel
theorem dX1_outcome_207 : decode cX1_outcome 207 = .ok (.aload_n 0, 1) := by decide +kernel
theorem dX1_outcome_208 : decode cX1_outcome 208 = .ok (.getfield 20, 3) := by decide +kernel
theorem dX1_outcome_211 : decode cX1_outcome 211 = .ok (.invokevirtual 79, 3) := by decide +kernel
theorem dX1_outcome_214 : decode cX1_outcome 214 = .ok (.i2l, 1) := by decide +kernel
theorem dX1_outcome_215 : decode cX1_outcome 215 = .ok (.lreturn, 1) := by decide +kernel
set_option maxHeartbeats 4000000 in
set_option maxRecDepth 100000 in
theorem c_X1_outcome (l : Launch) (G : XG) (M : XM) (P : XP) (S : XS) (V : XV) (hn : M.1 ≤ 12) (r : Nat) (hr0 : r < M.1) (hc : M.2.2.1 r ≤ 12) (hf : M.2.1 ≤ 200) (a b : Int32) : Met l yX1_outcome (wC yX1_outcome cX1_outcome 9 (some .long)) (rmD 1) (xPc G [.ref (xga G 1), .int (nI r), .int a, .int b] M P S V) (va_Ql (fun v u => v = zout M.2.1 (M.2.2.1 r) (M.2.2.2.2.1 r) a b ∧ ∃ P2 : XP, u = (M, P2, S, V) ∧ P2.1 = zuse M.2.1 (M.2.2.1 r) (M.2.2.2.2.1 r) a b) (xB G) (xA G)) 0 0 (xA G) := by
  refine xst "DoFinder$Library" (by decide) rfl (Nat.le_of_ble_eq_true rfl) ?_
  intro p e s m args below meth c ls F hr hlk hW hl
  have hl : lv_has ls 9 [(0, .ref (xga G 1)), (1, .int (nI r)), (2, .int a), (3, .int b)] := hl
  have hW : xW G s s.heap s.heap [] M P S V := hW
  have b_a := i32b a
  have b_b := i32b b
  refine lv_aload_n F.1 F.2.1 dX1_outcome_0 rfl (lv_at hl 0 rfl) ?_
  refine lv_iload_n F.1 F.2.1 dX1_outcome_1 rfl (lv_at hl 1 rfl) ?_
  refine xca_i (b := (xga G 1)) (As := [.int (nI r)]) (rest := []) F (c_X1_has l G M P S V (by omega) (nI r)) (xcw F.2.2.2.2 ca_X1_has tm_262 rfl rfl ⟨by decide, by decide⟩) (xr_X1 hW) hW rfl hl.1 rfl (Nat.le_of_ble_eq_true rfl) dX1_outcome_2 (fun r2 u2 H locs hp2 hW => ?_)
  obtain ⟨hp2, rfl⟩ := hp2
  have hW : xW G s s.heap H locs M P S V := hW
  rcases hp2 with ⟨rfl, y2⟩ | ⟨rfl, y2⟩
  · skip
    rw [show (nI r).toInt = ((r : Nat) : Int) from nI_toInt (by omega)] at y2
    refine lv_if_ne (tgt := 12) F.1 F.2.1 dX1_outcome_5 (by decide) (fun _ => ?_) (fun q => absurd q (by decide))
    refine lv_aload_n F.1 F.2.1 dX1_outcome_12 rfl (lv_at hl 0 rfl) ?_
    refine xg_Library_routines F hW tm_68 dX1_outcome_13 ?_
    refine lv_iload_n F.1 F.2.1 dX1_outcome_16 rfl (lv_at hl 1 rfl) ?_
    refine xl_ro (j := r) F hW rfl (by omega) dX1_outcome_17 ?_
    refine lv_astore (lv' := [(4, .ref (xgo G r)), (0, .ref (xga G 1)), (1, .int (nI r)), (2, .int a), (3, .int b)]) F.1 F.2.1 dX1_outcome_18 hl (by decide) rfl (fun ls hl => ?_)
    refine lv_iconst (v := nI 0) F.1 F.2.1 dX1_outcome_20 (by decide) ?_
    refine lv_istore (lv' := [(5, .int (nI 0)), (4, .ref (xgo G r)), (0, .ref (xga G 1)), (1, .int (nI r)), (2, .int a), (3, .int b)]) F.1 F.2.1 dX1_outcome_21 hl (by decide) rfl (fun ls hl => ?_)
    refine lv_aload_n F.1 F.2.1 dX1_outcome_23 rfl (lv_at hl 2 rfl) ?_
    refine xg_Library_pile F hW tm_71 dX1_outcome_24 ?_
    refine xca_v (b := (xga G 5)) (As := []) (rest := []) F (c_X3_clear l G M P.1 P.2.1 P.2.2.1 P.2.2.2 S V) (xcw F.2.2.2.2 ca_X3_clear tm_264 rfl rfl ⟨by decide, by decide⟩) (xr_X3 hW) hW rfl hl.1 rfl (Nat.le_of_ble_eq_true rfl) dX1_outcome_27 (fun u27 H locs hp27 hW => ?_)
    obtain rfl := hp27
    have hW : xW G s s.heap H locs M (P.1, 0, P.2.2.1, P.2.2.2) S V := hW
    refine lv_aload_n F.1 F.2.1 dX1_outcome_30 rfl (lv_at hl 2 rfl) ?_
    refine lv_iconst (v := nI 0) F.1 F.2.1 dX1_outcome_31 (by decide) ?_
    refine xp_Library_done (k := 0) F hW tm_77 rfl dX1_outcome_32 (fun H locs hW => ?_)
    have hW : xW G s s.heap H locs M (0, 0, P.2.2.1, P.2.2.2) S V := hW
    refine lv_iconst (v := nI 0) F.1 F.2.1 dX1_outcome_35 (by decide) ?_
    refine lv_istore (lv' := [(6, .int (nI 0)), (5, .int (nI 0)), (4, .ref (xgo G r)), (0, .ref (xga G 1)), (1, .int (nI r)), (2, .int a), (3, .int b)]) F.1 F.2.1 dX1_outcome_36 hl (by decide) rfl (fun ls hl => ?_)
    have lp38 : ∀ (k38 : Nat) (q : Nat) (i : Nat) (h : Nat) (tk : Int32) (f : Nat → Int32), M.2.1 - i = k38 → (q < 2147483648) → (i ≤ M.2.1) → (h ≤ 8) → ((zout M.2.1 (M.2.2.1 r) (M.2.2.2.2.1 r) a b, zuse M.2.1 (M.2.2.1 r) (M.2.2.2.2.1 r) a b) = ((sp_run (M.2.2.1 r) (M.2.2.2.2.1 r) a b (M.2.1 - i) q h f).1, (sp_run (M.2.2.1 r) (M.2.2.2.2.1 r) a b (M.2.1 - i) q h f).2 + i)) → ∀ (H : Heap) (locs : List Loc) (ls : Array Slot), xW G s s.heap H locs M (i, h, tk, f) S V →  lv_has ls 9 [(0, .ref (xga G 1)), (1, .int (nI r)), (2, .int a), (3, .int b), (4, .ref (xgo G r)), (5, .int (nI q)), (6, .int (nI i))] → W p l e (rmD 1) s m args below meth c H locs 0 0 (MQ below (va_Ql (fun v u => v = zout M.2.1 (M.2.2.1 r) (M.2.2.2.2.1 r) a b ∧ ∃ P2 : XP, u = (M, P2, S, V) ∧ P2.1 = zuse M.2.1 (M.2.2.1 r) (M.2.2.2.2.1 r) a b) (xB G) (xA G)) args s 0 0 (xA G)) (F0 m 38 ls []) := by
      intro k38
      induction k38 using Nat.strongRecOn with
      | ind k38 ih38 =>
        intro q i h tk f hk38 hq hi hh hR H locs ls hW hl
        refine lv_iload F.1 F.2.1 dX1_outcome_38 (lv_at hl 6 rfl) ?_
        refine lv_aload_n F.1 F.2.1 dX1_outcome_40 rfl (lv_at hl 0 rfl) ?_
        refine xg_Library_fuel F hW tm_75 dX1_outcome_41 ?_
        refine lv_icmp_ge (tgt := 177) F.1 F.2.1 dX1_outcome_44 (by decide) (fun c44 => ?_) (fun c44 => ?_)
        · have c44 := ci_le (a := ((M.2.1 : Nat) : Int)) (b := ((i : Nat) : Int)) (nI_toInt (by omega)) (nI_toInt (by omega)) c44
          refine lv_aload F.1 F.2.1 dX1_outcome_177 (lv_at hl 4 rfl) ?_
          refine lv_iload F.1 F.2.1 dX1_outcome_179 (lv_at hl 5 rfl) ?_
          refine xca_i (b := (xgo G r)) (As := [.int (nI q)]) (rest := []) F (c_X4_hasStep l G M (i, h, tk, f) S V r (by omega) (by omega) (nI q)) (xcw F.2.2.2.2 ca_X4_hasStep tm_268 rfl rfl ⟨by decide, by decide⟩) (xr_X4 hW (j := r) (by omega)) hW rfl hl.1 rfl (Nat.le_of_ble_eq_true rfl) dX1_outcome_181 (fun r181 u181 H locs hp181 hW => ?_)
          obtain ⟨hp181, rfl⟩ := hp181
          have hW : xW G s s.heap H locs M (i, h, tk, f) S V := hW
          rcases hp181 with ⟨rfl, y181⟩ | ⟨rfl, y181⟩
          · skip
            rw [show (nI q).toInt = ((q : Nat) : Int) from nI_toInt (by omega)] at y181
            refine lv_if_eq (tgt := 191) F.1 F.2.1 dX1_outcome_184 (by decide) (fun q => absurd q (by decide)) (fun _ => ?_)
            refine lv_ldc2 (v := zUNK) F.1 F.2.1 F.2.2.2.1 (F.2.2.2.2 _ tm_285) dX1_outcome_187 ?_
            refine xre_l F hr hlk hW dX1_outcome_190 ?_
            rw [show M.2.1 - i = 0 by omega, sp_run_zero (by omega)] at hR
            exact ⟨(congrArg Prod.fst hR).symm, _, rfl, by have := congrArg Prod.snd hR; simp only at this ⊢; omega⟩
          · skip
            rw [show (nI q).toInt = ((q : Nat) : Int) from nI_toInt (by omega)] at y181
            refine lv_if_eq (tgt := 191) F.1 F.2.1 dX1_outcome_184 (by decide) (fun _ => ?_) (fun q => absurd q (by decide))
            refine lv_aload_n F.1 F.2.1 dX1_outcome_191 rfl (lv_at hl 0 rfl) ?_
            refine xg_Library_pile F hW tm_71 dX1_outcome_192 ?_
            refine xca_i (b := (xga G 5)) (As := []) (rest := []) F (c_X3_isEmpty l G M i h tk f S V (by omega)) (xcw F.2.2.2.2 ca_X3_isEmpty tm_286 rfl rfl ⟨by decide, by decide⟩) (xr_X3 hW) hW rfl hl.1 rfl (Nat.le_of_ble_eq_true rfl) dX1_outcome_195 (fun r195 u195 H locs hp195 hW => ?_)
            obtain ⟨hp195, rfl⟩ := hp195
            have hW : xW G s s.heap H locs M (i, h, tk, f) S V := hW
            rcases hp195 with ⟨rfl, y195⟩ | ⟨rfl, y195⟩
            · skip
              refine lv_if_eq (tgt := 207) F.1 F.2.1 dX1_outcome_198 (by decide) (fun q => absurd q (by decide)) (fun _ => ?_)
              refine lv_ldc2 (v := zBAD) F.1 F.2.1 F.2.2.2.1 (F.2.2.2.2 _ tm_284) dX1_outcome_201 ?_
              refine lv_goto (tgt := 215) F.1 F.2.1 dX1_outcome_204 (by decide) ?_
              refine xre_l F hr hlk hW dX1_outcome_215 ?_
              rw [sp_run_end (by omega)] at hR
              have h1 := congrArg Prod.fst hR
              have h2 := congrArg Prod.snd hR
              simp only at h1 h2
              refine ⟨?_, _, rfl, by simp only; omega⟩
              rw [h1]; unfold sp_fin; first | rw [if_pos (by omega)] | (rw [if_pos (by omega)]; rfl) | rw [if_neg (by omega)]
            · skip
              refine lv_if_eq (tgt := 207) F.1 F.2.1 dX1_outcome_198 (by decide) (fun _ => ?_) (fun q => absurd q (by decide))
              refine lv_aload_n F.1 F.2.1 dX1_outcome_207 rfl (lv_at hl 0 rfl) ?_
              refine xg_Library_pile F hW tm_71 dX1_outcome_208 ?_
              refine xca_i (b := (xga G 5)) (As := []) (rest := []) F (c_X3_top l G M i h tk f S V (by omega) (by omega)) (xcw F.2.2.2.2 ca_X3_top tm_290 rfl rfl ⟨by decide, by decide⟩) (xr_X3 hW) hW rfl hl.1 rfl (Nat.le_of_ble_eq_true rfl) dX1_outcome_211 (fun r211 u211 H locs hp211 hW => ?_)
              obtain ⟨rfl, rfl⟩ := hp211
              have hW : xW G s s.heap H locs M (i, h, tk, f) S V := hW
              refine lv_i2l F.1 F.2.1 dX1_outcome_214 rfl ?_
              refine xre_l F hr hlk hW dX1_outcome_215 ?_
              rw [sp_run_end (by omega)] at hR
              have h1 := congrArg Prod.fst hR
              have h2 := congrArg Prod.snd hR
              simp only at h1 h2
              refine ⟨?_, _, rfl, by simp only; omega⟩
              rw [h1]; unfold sp_fin; first | rw [if_pos (by omega)] | (rw [if_pos (by omega)]; rfl) | rw [if_neg (by omega)]
        · have c44 := ci_nle (a := ((M.2.1 : Nat) : Int)) (b := ((i : Nat) : Int)) (nI_toInt (by omega)) (nI_toInt (by omega)) c44
          refine lv_aload F.1 F.2.1 dX1_outcome_47 (lv_at hl 4 rfl) ?_
          refine lv_iload F.1 F.2.1 dX1_outcome_49 (lv_at hl 5 rfl) ?_
          refine xca_i (b := (xgo G r)) (As := [.int (nI q)]) (rest := []) F (c_X4_hasStep l G M (i, h, tk, f) S V r (by omega) (by omega) (nI q)) (xcw F.2.2.2.2 ca_X4_hasStep tm_268 rfl rfl ⟨by decide, by decide⟩) (xr_X4 hW (j := r) (by omega)) hW rfl hl.1 rfl (Nat.le_of_ble_eq_true rfl) dX1_outcome_51 (fun r51 u51 H locs hp51 hW => ?_)
          obtain ⟨hp51, rfl⟩ := hp51
          have hW : xW G s s.heap H locs M (i, h, tk, f) S V := hW
          rcases hp51 with ⟨rfl, y51⟩ | ⟨rfl, y51⟩
          · skip
            rw [show (nI q).toInt = ((q : Nat) : Int) from nI_toInt (by omega)] at y51
            refine lv_if_eq (tgt := 177) F.1 F.2.1 dX1_outcome_54 (by decide) (fun q => absurd q (by decide)) (fun _ => ?_)
            refine lv_aload_n F.1 F.2.1 dX1_outcome_57 rfl (lv_at hl 0 rfl) ?_
            refine lv_iload F.1 F.2.1 dX1_outcome_58 (lv_at hl 6 rfl) ?_
            refine lv_iconst (v := nI 1) F.1 F.2.1 dX1_outcome_60 (by decide) ?_
            refine ax_add (z := nI (i + 1)) F (nI_add _ _) dX1_outcome_61 ?_
            refine xp_Library_done (k := (i + 1)) F hW tm_77 rfl dX1_outcome_62 (fun H locs hW => ?_)
            have hW : xW G s s.heap H locs M (i + 1, h, tk, f) S V := hW
            refine lv_aload F.1 F.2.1 dX1_outcome_65 (lv_at hl 4 rfl) ?_
            refine xg_Routine_steps F hW (j := r) (by omega) tm_26 dX1_outcome_67 ?_
            refine lv_iload F.1 F.2.1 dX1_outcome_70 (lv_at hl 5 rfl) ?_
            refine xl_rs (j := r) (i := q) F hW (by omega) rfl (by omega) dX1_outcome_72 ?_
            have b72 := i32b (M.2.2.2.2.1 r q)
            refine lv_istore (lv' := [(7, .int (M.2.2.2.2.1 r q)), (0, .ref (xga G 1)), (1, .int (nI r)), (2, .int a), (3, .int b), (4, .ref (xgo G r)), (5, .int (nI q)), (6, .int (nI i))]) F.1 F.2.1 dX1_outcome_73 hl (by decide) rfl (fun ls hl => ?_)
            refine lv_iload F.1 F.2.1 dX1_outcome_75 (lv_at hl 0 rfl) ?_
            refine lv_bipush (v := nI 12) F.1 F.2.1 dX1_outcome_77 (by decide) ?_
            refine lv_icmp_ge (tgt := 101) F.1 F.2.1 dX1_outcome_79 (by decide) (fun c79 => ?_) (fun c79 => ?_)
            · have c79 := ci_le (a := 12) (b := (M.2.2.2.2.1 r q).toInt) (by decide) rfl c79
              refine lv_iload F.1 F.2.1 dX1_outcome_101 (lv_at hl 0 rfl) ?_
              refine lv_bipush (v := nI 18) F.1 F.2.1 dX1_outcome_103 (by decide) ?_
              refine lv_icmp_ge (tgt := 120) F.1 F.2.1 dX1_outcome_105 (by decide) (fun c105 => ?_) (fun c105 => ?_)
              · have c105 := ci_le (a := 18) (b := (M.2.2.2.2.1 r q).toInt) (by decide) rfl c105
                refine lv_aload_n F.1 F.2.1 dX1_outcome_120 rfl (lv_at hl 1 rfl) ?_
                refine xg_Library_pile F hW tm_71 dX1_outcome_121 ?_
                refine lv_iload F.1 F.2.1 dX1_outcome_124 (lv_at hl 0 rfl) ?_
                refine xca_i (b := (xga G 5)) (As := [.int (M.2.2.2.2.1 r q)]) (rest := []) F (c_X3_arrange l G M (i + 1) h tk f S V (by omega) (M.2.2.2.2.1 r q) a b (by omega)) (xcw F.2.2.2.2 ca_X3_arrange tm_280 rfl rfl ⟨by decide, by decide⟩) (xr_X3 hW) hW rfl hl.1 rfl (Nat.le_of_ble_eq_true rfl) dX1_outcome_126 (fun r126 u126 H locs hp126 hW => ?_)
                rcases hp126 with ⟨y126, rfl, rfl⟩ | ⟨y126, rfl, rfl⟩
                · skip
                  have g126 := y126
                  have hW : xW G s s.heap H locs M (i + 1, sp_h (M.2.2.2.2.1 r q).toInt h, (if (M.2.2.2.2.1 r q).toInt < 20 then tk else f (h - 1)), sp_f (M.2.2.2.2.1 r q) a b h f) S V := hW
                  refine lv_istore (lv' := [(8, .int (nI 1)), (7, .int (M.2.2.2.2.1 r q)), (0, .ref (xga G 1)), (1, .int (nI r)), (2, .int a), (3, .int b), (4, .ref (xgo G r)), (5, .int (nI q)), (6, .int (nI i))]) F.1 F.2.1 dX1_outcome_129 hl (by decide) rfl (fun ls hl => ?_)
                  refine lv_iload F.1 F.2.1 dX1_outcome_131 (lv_at hl 0 rfl) ?_
                  refine lv_if_ne (tgt := 140) F.1 F.2.1 dX1_outcome_133 (by decide) (fun _ => ?_) (fun q => absurd q (by decide))
                  refine lv_iload F.1 F.2.1 dX1_outcome_140 (lv_at hl 1 rfl) ?_
                  refine lv_bipush (v := nI 21) F.1 F.2.1 dX1_outcome_142 (by decide) ?_
                  refine lv_icmp_lt (tgt := 165) F.1 F.2.1 dX1_outcome_144 (by decide) (fun c144 => ?_) (fun c144 => ?_)
                  · have c144 := ci_lt (a := (M.2.2.2.2.1 r q).toInt) (b := 21) rfl (by decide) c144
                    refine lv_iload F.1 F.2.1 dX1_outcome_165 (lv_at hl 7 rfl) ?_
                    refine lv_iconst (v := nI 1) F.1 F.2.1 dX1_outcome_167 (by decide) ?_
                    refine ax_add (z := nI (q + 1)) F (nI_add _ _) dX1_outcome_168 ?_
                    have e169 : nI (q + 1) = nI (sp_at (M.2.2.2.2.1 r q).toInt q h f) := congrArg nI (by unfold sp_at; first | rw [if_neg (by omega)] | (rw [if_neg (show ¬ (M.2.2.2.2.1 r q).toInt < 20 by omega)] at c154; rw [if_neg (by omega)]))
                    refine ax_re e169 ?_
                    refine lv_istore (lv' := [(5, .int (nI (sp_at (M.2.2.2.2.1 r q).toInt q h f))), (8, .int (nI 1)), (7, .int (M.2.2.2.2.1 r q)), (0, .ref (xga G 1)), (1, .int (nI r)), (2, .int a), (3, .int b), (4, .ref (xgo G r)), (6, .int (nI i))]) F.1 F.2.1 dX1_outcome_169 hl (by decide) rfl (fun ls hl => ?_)
                    refine lv_iinc (v := nI (i + 1)) (lv' := [(6, .int (nI (i + 1))), (5, .int (nI (sp_at (M.2.2.2.2.1 r q).toInt q h f))), (8, .int (nI 1)), (7, .int (M.2.2.2.2.1 r q)), (0, .ref (xga G 1)), (1, .int (nI r)), (2, .int a), (3, .int b), (4, .ref (xgo G r))]) F.1 F.2.1 dX1_outcome_171 hl (k := 8) rfl (nI_add _ 1) (by decide) rfl (fun ls hl => ?_)
                    refine lv_goto (tgt := 38) F.1 F.2.1 dX1_outcome_174 (by decide) ?_
                    exact ih38 (M.2.1 - (i + 1)) (by omega) (sp_at (M.2.2.2.2.1 r q).toInt q h f) (i + 1) (sp_h (M.2.2.2.2.1 r q).toInt h) (if (M.2.2.2.2.1 r q).toInt < 20 then tk else f (h - 1)) (sp_f (M.2.2.2.2.1 r q) a b h f) rfl (by have := i32b (M.2.2.2.2.1 r q); unfold sp_at; split <;> omega) (by omega) (sp_h_le hh g126) (by rw [hR, sp_run_step (by omega) (by omega) g126, show M.2.1 - (i + 1) = M.2.1 - i - 1 by omega]; simp only [Prod.mk.injEq, true_and]; omega) _ _ _ hW (lv_sub hl [4, 5, 6, 7, 8, 1, 0] rfl)
                  · have c144 := ci_nlt (a := (M.2.2.2.2.1 r q).toInt) (b := 21) rfl (by decide) c144
                    refine lv_aload_n F.1 F.2.1 dX1_outcome_147 rfl (lv_at hl 2 rfl) ?_
                    refine xg_Library_pile F hW tm_71 dX1_outcome_148 ?_
                    refine xg_Pile_taken F hW tm_59 dX1_outcome_151 ?_
                    refine lv_if_eq (tgt := 165) F.1 F.2.1 dX1_outcome_154 (by decide) (fun c154 => ?_) (fun c154 => ?_)
                    · have c154 := ci_eq (a := (if (M.2.2.2.2.1 r q).toInt < 20 then tk else f (h - 1)).toInt) (b := 0) rfl ci_0 c154
                      refine lv_iload F.1 F.2.1 dX1_outcome_165 (lv_at hl 7 rfl) ?_
                      refine lv_iconst (v := nI 1) F.1 F.2.1 dX1_outcome_167 (by decide) ?_
                      refine ax_add (z := nI (q + 1)) F (nI_add _ _) dX1_outcome_168 ?_
                      have e169 : nI (q + 1) = nI (sp_at (M.2.2.2.2.1 r q).toInt q h f) := congrArg nI (by unfold sp_at; first | rw [if_neg (by omega)] | (rw [if_neg (show ¬ (M.2.2.2.2.1 r q).toInt < 20 by omega)] at c154; rw [if_neg (by omega)]))
                      refine ax_re e169 ?_
                      refine lv_istore (lv' := [(5, .int (nI (sp_at (M.2.2.2.2.1 r q).toInt q h f))), (8, .int (nI 1)), (7, .int (M.2.2.2.2.1 r q)), (0, .ref (xga G 1)), (1, .int (nI r)), (2, .int a), (3, .int b), (4, .ref (xgo G r)), (6, .int (nI i))]) F.1 F.2.1 dX1_outcome_169 hl (by decide) rfl (fun ls hl => ?_)
                      refine lv_iinc (v := nI (i + 1)) (lv' := [(6, .int (nI (i + 1))), (5, .int (nI (sp_at (M.2.2.2.2.1 r q).toInt q h f))), (8, .int (nI 1)), (7, .int (M.2.2.2.2.1 r q)), (0, .ref (xga G 1)), (1, .int (nI r)), (2, .int a), (3, .int b), (4, .ref (xgo G r))]) F.1 F.2.1 dX1_outcome_171 hl (k := 8) rfl (nI_add _ 1) (by decide) rfl (fun ls hl => ?_)
                      refine lv_goto (tgt := 38) F.1 F.2.1 dX1_outcome_174 (by decide) ?_
                      exact ih38 (M.2.1 - (i + 1)) (by omega) (sp_at (M.2.2.2.2.1 r q).toInt q h f) (i + 1) (sp_h (M.2.2.2.2.1 r q).toInt h) (if (M.2.2.2.2.1 r q).toInt < 20 then tk else f (h - 1)) (sp_f (M.2.2.2.2.1 r q) a b h f) rfl (by have := i32b (M.2.2.2.2.1 r q); unfold sp_at; split <;> omega) (by omega) (sp_h_le hh g126) (by rw [hR, sp_run_step (by omega) (by omega) g126, show M.2.1 - (i + 1) = M.2.1 - i - 1 by omega]; simp only [Prod.mk.injEq, true_and]; omega) _ _ _ hW (lv_sub hl [4, 5, 6, 7, 8, 1, 0] rfl)
                    · have c154 := ci_ne (a := (if (M.2.2.2.2.1 r q).toInt < 20 then tk else f (h - 1)).toInt) (b := 0) rfl ci_0 c154
                      refine lv_iload F.1 F.2.1 dX1_outcome_157 (lv_at hl 1 rfl) ?_
                      refine lv_bipush (v := nI 21) F.1 F.2.1 dX1_outcome_159 (by decide) ?_
                      refine ax_sub F rfl dX1_outcome_161 ?_
                      refine ax_nm (a := (M.2.2.2.2.1 r q).toInt - 21) (ci_sub rfl (by decide) (by omega) (by omega)) (fun v1 hv1 => ?_)
                      refine lv_goto (tgt := 169) F.1 F.2.1 dX1_outcome_162 (by decide) ?_
                      have d154 : (f (h - 1)).toInt ≠ 0 := by rw [if_neg (by omega)] at c154; exact c154
                      have e169 : v1 = nI (sp_at (M.2.2.2.2.1 r q).toInt q h f) := ix_of (by unfold sp_at; rw [if_pos ⟨by omega, d154⟩]; omega)
                      refine ax_re e169 ?_
                      refine lv_istore (lv' := [(5, .int (nI (sp_at (M.2.2.2.2.1 r q).toInt q h f))), (8, .int (nI 1)), (7, .int (M.2.2.2.2.1 r q)), (0, .ref (xga G 1)), (1, .int (nI r)), (2, .int a), (3, .int b), (4, .ref (xgo G r)), (6, .int (nI i))]) F.1 F.2.1 dX1_outcome_169 hl (by decide) rfl (fun ls hl => ?_)
                      refine lv_iinc (v := nI (i + 1)) (lv' := [(6, .int (nI (i + 1))), (5, .int (nI (sp_at (M.2.2.2.2.1 r q).toInt q h f))), (8, .int (nI 1)), (7, .int (M.2.2.2.2.1 r q)), (0, .ref (xga G 1)), (1, .int (nI r)), (2, .int a), (3, .int b), (4, .ref (xgo G r))]) F.1 F.2.1 dX1_outcome_171 hl (k := 8) rfl (nI_add _ 1) (by decide) rfl (fun ls hl => ?_)
                      refine lv_goto (tgt := 38) F.1 F.2.1 dX1_outcome_174 (by decide) ?_
                      exact ih38 (M.2.1 - (i + 1)) (by omega) (sp_at (M.2.2.2.2.1 r q).toInt q h f) (i + 1) (sp_h (M.2.2.2.2.1 r q).toInt h) (if (M.2.2.2.2.1 r q).toInt < 20 then tk else f (h - 1)) (sp_f (M.2.2.2.2.1 r q) a b h f) rfl (by have := i32b (M.2.2.2.2.1 r q); unfold sp_at; split <;> omega) (by omega) (sp_h_le hh g126) (by rw [hR, sp_run_step (by omega) (by omega) g126, show M.2.1 - (i + 1) = M.2.1 - i - 1 by omega]; simp only [Prod.mk.injEq, true_and]; omega) _ _ _ hW (lv_sub hl [4, 5, 6, 7, 8, 1, 0] rfl)
                · skip
                  have hW : xW G s s.heap H locs M (i + 1, h, tk, f) S V := hW
                  have g126 := y126
                  refine lv_istore (lv' := [(8, .int (nI 0)), (7, .int (M.2.2.2.2.1 r q)), (0, .ref (xga G 1)), (1, .int (nI r)), (2, .int a), (3, .int b), (4, .ref (xgo G r)), (5, .int (nI q)), (6, .int (nI i))]) F.1 F.2.1 dX1_outcome_129 hl (by decide) rfl (fun ls hl => ?_)
                  refine lv_iload F.1 F.2.1 dX1_outcome_131 (lv_at hl 0 rfl) ?_
                  refine lv_if_ne (tgt := 140) F.1 F.2.1 dX1_outcome_133 (by decide) (fun q => absurd q (by decide)) (fun _ => ?_)
                  refine lv_ldc2 (v := zBAD) F.1 F.2.1 F.2.2.2.1 (F.2.2.2.2 _ tm_284) dX1_outcome_136 ?_
                  refine xre_l F hr hlk hW dX1_outcome_139 ?_
                  rw [sp_run_bad (by omega) (by omega) g126] at hR
                  exact ⟨(congrArg Prod.fst hR).symm, _, rfl, by have := congrArg Prod.snd hR; simp only at this ⊢; omega⟩
              · have c105 := ci_nle (a := 18) (b := (M.2.2.2.2.1 r q).toInt) (by decide) rfl c105
                refine lv_aload_n F.1 F.2.1 dX1_outcome_108 rfl (lv_at hl 1 rfl) ?_
                refine xg_Library_pile F hW tm_71 dX1_outcome_109 ?_
                refine lv_iload F.1 F.2.1 dX1_outcome_112 (lv_at hl 0 rfl) ?_
                refine xca_i (b := (xga G 5)) (As := [.int (M.2.2.2.2.1 r q)]) (rest := []) F (c_X3_reckon l G M (i + 1) h tk f S V (by omega) (M.2.2.2.2.1 r q) a b (by omega) (by omega)) (xcw F.2.2.2.2 ca_X3_reckon tm_276 rfl rfl ⟨by decide, by decide⟩) (xr_X3 hW) hW rfl hl.1 rfl (Nat.le_of_ble_eq_true rfl) dX1_outcome_114 (fun r114 u114 H locs hp114 hW => ?_)
                rcases hp114 with ⟨y114, rfl, rfl⟩ | ⟨y114, rfl, rfl⟩
                · skip
                  have g114 := y114
                  have hW : xW G s s.heap H locs M (i + 1, sp_h (M.2.2.2.2.1 r q).toInt h, tk, sp_f (M.2.2.2.2.1 r q) a b h f) S V := hW
                  refine lv_goto (tgt := 129) F.1 F.2.1 dX1_outcome_117 (by decide) ?_
                  refine lv_istore (lv' := [(8, .int (nI 1)), (7, .int (M.2.2.2.2.1 r q)), (0, .ref (xga G 1)), (1, .int (nI r)), (2, .int a), (3, .int b), (4, .ref (xgo G r)), (5, .int (nI q)), (6, .int (nI i))]) F.1 F.2.1 dX1_outcome_129 hl (by decide) rfl (fun ls hl => ?_)
                  refine lv_iload F.1 F.2.1 dX1_outcome_131 (lv_at hl 0 rfl) ?_
                  refine lv_if_ne (tgt := 140) F.1 F.2.1 dX1_outcome_133 (by decide) (fun _ => ?_) (fun q => absurd q (by decide))
                  refine lv_iload F.1 F.2.1 dX1_outcome_140 (lv_at hl 1 rfl) ?_
                  refine lv_bipush (v := nI 21) F.1 F.2.1 dX1_outcome_142 (by decide) ?_
                  refine lv_icmp_lt (tgt := 165) F.1 F.2.1 dX1_outcome_144 (by decide) (fun c144 => ?_) (fun c144 => ?_)
                  rotate_left
                  · exfalso
                    have c144 := ci_nlt (a := (M.2.2.2.2.1 r q).toInt) (b := 21) rfl (by decide) c144
                    omega
                  have c144 := ci_lt (a := (M.2.2.2.2.1 r q).toInt) (b := 21) rfl (by decide) c144
                  refine lv_iload F.1 F.2.1 dX1_outcome_165 (lv_at hl 7 rfl) ?_
                  refine lv_iconst (v := nI 1) F.1 F.2.1 dX1_outcome_167 (by decide) ?_
                  refine ax_add (z := nI (q + 1)) F (nI_add _ _) dX1_outcome_168 ?_
                  have e169 : nI (q + 1) = nI (sp_at (M.2.2.2.2.1 r q).toInt q h f) := congrArg nI (by unfold sp_at; first | rw [if_neg (by omega)] | (rw [if_neg (show ¬ (M.2.2.2.2.1 r q).toInt < 20 by omega)] at c154; rw [if_neg (by omega)]))
                  refine ax_re e169 ?_
                  refine lv_istore (lv' := [(5, .int (nI (sp_at (M.2.2.2.2.1 r q).toInt q h f))), (8, .int (nI 1)), (7, .int (M.2.2.2.2.1 r q)), (0, .ref (xga G 1)), (1, .int (nI r)), (2, .int a), (3, .int b), (4, .ref (xgo G r)), (6, .int (nI i))]) F.1 F.2.1 dX1_outcome_169 hl (by decide) rfl (fun ls hl => ?_)
                  refine lv_iinc (v := nI (i + 1)) (lv' := [(6, .int (nI (i + 1))), (5, .int (nI (sp_at (M.2.2.2.2.1 r q).toInt q h f))), (8, .int (nI 1)), (7, .int (M.2.2.2.2.1 r q)), (0, .ref (xga G 1)), (1, .int (nI r)), (2, .int a), (3, .int b), (4, .ref (xgo G r))]) F.1 F.2.1 dX1_outcome_171 hl (k := 8) rfl (nI_add _ 1) (by decide) rfl (fun ls hl => ?_)
                  refine lv_goto (tgt := 38) F.1 F.2.1 dX1_outcome_174 (by decide) ?_
                  exact ih38 (M.2.1 - (i + 1)) (by omega) (sp_at (M.2.2.2.2.1 r q).toInt q h f) (i + 1) (sp_h (M.2.2.2.2.1 r q).toInt h) tk (sp_f (M.2.2.2.2.1 r q) a b h f) rfl (by have := i32b (M.2.2.2.2.1 r q); unfold sp_at; split <;> omega) (by omega) (sp_h_le hh g114) (by rw [hR, sp_run_step (by omega) (by omega) g114, show M.2.1 - (i + 1) = M.2.1 - i - 1 by omega]; simp only [Prod.mk.injEq, true_and]; omega) _ _ _ hW (lv_sub hl [4, 5, 6, 7, 8, 1, 0] rfl)
                · skip
                  have hW : xW G s s.heap H locs M (i + 1, h, tk, f) S V := hW
                  have g114 := y114
                  refine lv_goto (tgt := 129) F.1 F.2.1 dX1_outcome_117 (by decide) ?_
                  refine lv_istore (lv' := [(8, .int (nI 0)), (7, .int (M.2.2.2.2.1 r q)), (0, .ref (xga G 1)), (1, .int (nI r)), (2, .int a), (3, .int b), (4, .ref (xgo G r)), (5, .int (nI q)), (6, .int (nI i))]) F.1 F.2.1 dX1_outcome_129 hl (by decide) rfl (fun ls hl => ?_)
                  refine lv_iload F.1 F.2.1 dX1_outcome_131 (lv_at hl 0 rfl) ?_
                  refine lv_if_ne (tgt := 140) F.1 F.2.1 dX1_outcome_133 (by decide) (fun q => absurd q (by decide)) (fun _ => ?_)
                  refine lv_ldc2 (v := zBAD) F.1 F.2.1 F.2.2.2.1 (F.2.2.2.2 _ tm_284) dX1_outcome_136 ?_
                  refine xre_l F hr hlk hW dX1_outcome_139 ?_
                  rw [sp_run_bad (by omega) (by omega) g114] at hR
                  exact ⟨(congrArg Prod.fst hR).symm, _, rfl, by have := congrArg Prod.snd hR; simp only at this ⊢; omega⟩
            · have c79 := ci_nle (a := 12) (b := (M.2.2.2.2.1 r q).toInt) (by decide) rfl c79
              refine lv_aload_n F.1 F.2.1 dX1_outcome_82 rfl (lv_at hl 1 rfl) ?_
              refine xg_Library_pile F hW tm_71 dX1_outcome_83 ?_
              refine lv_iload F.1 F.2.1 dX1_outcome_86 (lv_at hl 0 rfl) ?_
              refine lv_iload_n F.1 F.2.1 dX1_outcome_88 rfl (lv_at hl 3 rfl) ?_
              refine lv_iload_n F.1 F.2.1 dX1_outcome_89 rfl (lv_at hl 4 rfl) ?_
              refine pca (As := [.int (M.2.2.2.2.1 r q), .int a, .int b]) (rest := [.ref (xga G 5)]) F (c_X1_numberLaid l (M.2.2.2.2.1 r q) a b) (xcwS F.2.2.2.2 ca_X1_numberLaid tm_269 rfl rfl ⟨by decide, by decide⟩) rfl hl.1 rfl (Nat.le_of_ble_eq_true rfl) dX1_outcome_90 (fun r90 hr90 => ?_)
              subst hr90
              refine xca_i (b := (xga G 5)) (As := [.int (sp_lay (M.2.2.2.2.1 r q) a b)]) (rest := []) F (c_X3_lay l G M (i + 1) h tk f S V (by omega) (sp_lay (M.2.2.2.2.1 r q) a b)) (xcw F.2.2.2.2 ca_X3_lay tm_272 rfl rfl ⟨by decide, by decide⟩) (xr_X3 hW) hW rfl hl.1 rfl (Nat.le_of_ble_eq_true rfl) dX1_outcome_93 (fun r93 u93 H locs hp93 hW => ?_)
              rcases hp93 with ⟨y93, rfl, rfl⟩ | ⟨y93, rfl, rfl⟩
              · skip
                have hW : xW G s s.heap H locs M (i + 1, h + 1, tk, upd f h (sp_lay (M.2.2.2.2.1 r q) a b)) S V := hW
                have g93 : sp_good (M.2.2.2.2.1 r q).toInt h f = true := decide_eq_true (by omega)
                have hW : xW G s s.heap H locs M (i + 1, sp_h (M.2.2.2.2.1 r q).toInt h, tk, sp_f (M.2.2.2.2.1 r q) a b h f) S V := by rw [sp_h_lay (t := (M.2.2.2.2.1 r q).toInt) (h := h) (by omega), sp_f_lay (x := (M.2.2.2.2.1 r q)) (a := a) (b := b) (h := h) (f := f) (by omega)]; exact hW
                have hW : xW G s s.heap H locs M (i + 1, sp_h (M.2.2.2.2.1 r q).toInt h, tk, sp_f (M.2.2.2.2.1 r q) a b h f) S V := hW
                refine lv_istore (lv' := [(8, .int (nI 1)), (7, .int (M.2.2.2.2.1 r q)), (0, .ref (xga G 1)), (1, .int (nI r)), (2, .int a), (3, .int b), (4, .ref (xgo G r)), (5, .int (nI q)), (6, .int (nI i))]) F.1 F.2.1 dX1_outcome_96 hl (by decide) rfl (fun ls hl => ?_)
                refine lv_goto (tgt := 131) F.1 F.2.1 dX1_outcome_98 (by decide) ?_
                refine lv_iload F.1 F.2.1 dX1_outcome_131 (lv_at hl 0 rfl) ?_
                refine lv_if_ne (tgt := 140) F.1 F.2.1 dX1_outcome_133 (by decide) (fun _ => ?_) (fun q => absurd q (by decide))
                refine lv_iload F.1 F.2.1 dX1_outcome_140 (lv_at hl 1 rfl) ?_
                refine lv_bipush (v := nI 21) F.1 F.2.1 dX1_outcome_142 (by decide) ?_
                refine lv_icmp_lt (tgt := 165) F.1 F.2.1 dX1_outcome_144 (by decide) (fun c144 => ?_) (fun c144 => ?_)
                rotate_left
                · exfalso
                  have c144 := ci_nlt (a := (M.2.2.2.2.1 r q).toInt) (b := 21) rfl (by decide) c144
                  omega
                have c144 := ci_lt (a := (M.2.2.2.2.1 r q).toInt) (b := 21) rfl (by decide) c144
                refine lv_iload F.1 F.2.1 dX1_outcome_165 (lv_at hl 7 rfl) ?_
                refine lv_iconst (v := nI 1) F.1 F.2.1 dX1_outcome_167 (by decide) ?_
                refine ax_add (z := nI (q + 1)) F (nI_add _ _) dX1_outcome_168 ?_
                have e169 : nI (q + 1) = nI (sp_at (M.2.2.2.2.1 r q).toInt q h f) := congrArg nI (by unfold sp_at; first | rw [if_neg (by omega)] | (rw [if_neg (show ¬ (M.2.2.2.2.1 r q).toInt < 20 by omega)] at c154; rw [if_neg (by omega)]))
                refine ax_re e169 ?_
                refine lv_istore (lv' := [(5, .int (nI (sp_at (M.2.2.2.2.1 r q).toInt q h f))), (8, .int (nI 1)), (7, .int (M.2.2.2.2.1 r q)), (0, .ref (xga G 1)), (1, .int (nI r)), (2, .int a), (3, .int b), (4, .ref (xgo G r)), (6, .int (nI i))]) F.1 F.2.1 dX1_outcome_169 hl (by decide) rfl (fun ls hl => ?_)
                refine lv_iinc (v := nI (i + 1)) (lv' := [(6, .int (nI (i + 1))), (5, .int (nI (sp_at (M.2.2.2.2.1 r q).toInt q h f))), (8, .int (nI 1)), (7, .int (M.2.2.2.2.1 r q)), (0, .ref (xga G 1)), (1, .int (nI r)), (2, .int a), (3, .int b), (4, .ref (xgo G r))]) F.1 F.2.1 dX1_outcome_171 hl (k := 8) rfl (nI_add _ 1) (by decide) rfl (fun ls hl => ?_)
                refine lv_goto (tgt := 38) F.1 F.2.1 dX1_outcome_174 (by decide) ?_
                exact ih38 (M.2.1 - (i + 1)) (by omega) (sp_at (M.2.2.2.2.1 r q).toInt q h f) (i + 1) (sp_h (M.2.2.2.2.1 r q).toInt h) tk (sp_f (M.2.2.2.2.1 r q) a b h f) rfl (by have := i32b (M.2.2.2.2.1 r q); unfold sp_at; split <;> omega) (by omega) (sp_h_le hh g93) (by rw [hR, sp_run_step (by omega) (by omega) g93, show M.2.1 - (i + 1) = M.2.1 - i - 1 by omega]; simp only [Prod.mk.injEq, true_and]; omega) _ _ _ hW (lv_sub hl [4, 5, 6, 7, 8, 1, 0] rfl)
              · skip
                have hW : xW G s s.heap H locs M (i + 1, h, tk, f) S V := hW
                have g93 : sp_good (M.2.2.2.2.1 r q).toInt h f = false := decide_eq_false (by omega)
                refine lv_istore (lv' := [(8, .int (nI 0)), (7, .int (M.2.2.2.2.1 r q)), (0, .ref (xga G 1)), (1, .int (nI r)), (2, .int a), (3, .int b), (4, .ref (xgo G r)), (5, .int (nI q)), (6, .int (nI i))]) F.1 F.2.1 dX1_outcome_96 hl (by decide) rfl (fun ls hl => ?_)
                refine lv_goto (tgt := 131) F.1 F.2.1 dX1_outcome_98 (by decide) ?_
                refine lv_iload F.1 F.2.1 dX1_outcome_131 (lv_at hl 0 rfl) ?_
                refine lv_if_ne (tgt := 140) F.1 F.2.1 dX1_outcome_133 (by decide) (fun q => absurd q (by decide)) (fun _ => ?_)
                refine lv_ldc2 (v := zBAD) F.1 F.2.1 F.2.2.2.1 (F.2.2.2.2 _ tm_284) dX1_outcome_136 ?_
                refine xre_l F hr hlk hW dX1_outcome_139 ?_
                rw [sp_run_bad (by omega) (by omega) g93] at hR
                exact ⟨(congrArg Prod.fst hR).symm, _, rfl, by have := congrArg Prod.snd hR; simp only at this ⊢; omega⟩
          · skip
            rw [show (nI q).toInt = ((q : Nat) : Int) from nI_toInt (by omega)] at y51
            refine lv_if_eq (tgt := 177) F.1 F.2.1 dX1_outcome_54 (by decide) (fun _ => ?_) (fun q => absurd q (by decide))
            refine lv_aload F.1 F.2.1 dX1_outcome_177 (lv_at hl 4 rfl) ?_
            refine lv_iload F.1 F.2.1 dX1_outcome_179 (lv_at hl 5 rfl) ?_
            refine xca_i (b := (xgo G r)) (As := [.int (nI q)]) (rest := []) F (c_X4_hasStep l G M (i, h, tk, f) S V r (by omega) (by omega) (nI q)) (xcw F.2.2.2.2 ca_X4_hasStep tm_268 rfl rfl ⟨by decide, by decide⟩) (xr_X4 hW (j := r) (by omega)) hW rfl hl.1 rfl (Nat.le_of_ble_eq_true rfl) dX1_outcome_181 (fun r181 u181 H locs hp181 hW => ?_)
            obtain ⟨hp181, rfl⟩ := hp181
            have hW : xW G s s.heap H locs M (i, h, tk, f) S V := hW
            rcases hp181 with ⟨rfl, y181⟩ | ⟨rfl, y181⟩
            · skip
              rw [show (nI q).toInt = ((q : Nat) : Int) from nI_toInt (by omega)] at y181
              refine lv_if_eq (tgt := 191) F.1 F.2.1 dX1_outcome_184 (by decide) (fun q => absurd q (by decide)) (fun _ => ?_)
              refine lv_ldc2 (v := zUNK) F.1 F.2.1 F.2.2.2.1 (F.2.2.2.2 _ tm_285) dX1_outcome_187 ?_
              refine xre_l F hr hlk hW dX1_outcome_190 ?_
              rw [show M.2.1 - i = 0 by omega, sp_run_zero (by omega)] at hR
              exact ⟨(congrArg Prod.fst hR).symm, _, rfl, by have := congrArg Prod.snd hR; simp only at this ⊢; omega⟩
            · skip
              rw [show (nI q).toInt = ((q : Nat) : Int) from nI_toInt (by omega)] at y181
              refine lv_if_eq (tgt := 191) F.1 F.2.1 dX1_outcome_184 (by decide) (fun _ => ?_) (fun q => absurd q (by decide))
              refine lv_aload_n F.1 F.2.1 dX1_outcome_191 rfl (lv_at hl 0 rfl) ?_
              refine xg_Library_pile F hW tm_71 dX1_outcome_192 ?_
              refine xca_i (b := (xga G 5)) (As := []) (rest := []) F (c_X3_isEmpty l G M i h tk f S V (by omega)) (xcw F.2.2.2.2 ca_X3_isEmpty tm_286 rfl rfl ⟨by decide, by decide⟩) (xr_X3 hW) hW rfl hl.1 rfl (Nat.le_of_ble_eq_true rfl) dX1_outcome_195 (fun r195 u195 H locs hp195 hW => ?_)
              obtain ⟨hp195, rfl⟩ := hp195
              have hW : xW G s s.heap H locs M (i, h, tk, f) S V := hW
              rcases hp195 with ⟨rfl, y195⟩ | ⟨rfl, y195⟩
              · skip
                refine lv_if_eq (tgt := 207) F.1 F.2.1 dX1_outcome_198 (by decide) (fun q => absurd q (by decide)) (fun _ => ?_)
                refine lv_ldc2 (v := zBAD) F.1 F.2.1 F.2.2.2.1 (F.2.2.2.2 _ tm_284) dX1_outcome_201 ?_
                refine lv_goto (tgt := 215) F.1 F.2.1 dX1_outcome_204 (by decide) ?_
                refine xre_l F hr hlk hW dX1_outcome_215 ?_
                rw [sp_run_end (by omega)] at hR
                have h1 := congrArg Prod.fst hR
                have h2 := congrArg Prod.snd hR
                simp only at h1 h2
                refine ⟨?_, _, rfl, by simp only; omega⟩
                rw [h1]; unfold sp_fin; first | rw [if_pos (by omega)] | (rw [if_pos (by omega)]; rfl) | rw [if_neg (by omega)]
              · skip
                refine lv_if_eq (tgt := 207) F.1 F.2.1 dX1_outcome_198 (by decide) (fun _ => ?_) (fun q => absurd q (by decide))
                refine lv_aload_n F.1 F.2.1 dX1_outcome_207 rfl (lv_at hl 0 rfl) ?_
                refine xg_Library_pile F hW tm_71 dX1_outcome_208 ?_
                refine xca_i (b := (xga G 5)) (As := []) (rest := []) F (c_X3_top l G M i h tk f S V (by omega) (by omega)) (xcw F.2.2.2.2 ca_X3_top tm_290 rfl rfl ⟨by decide, by decide⟩) (xr_X3 hW) hW rfl hl.1 rfl (Nat.le_of_ble_eq_true rfl) dX1_outcome_211 (fun r211 u211 H locs hp211 hW => ?_)
                obtain ⟨rfl, rfl⟩ := hp211
                have hW : xW G s s.heap H locs M (i, h, tk, f) S V := hW
                refine lv_i2l F.1 F.2.1 dX1_outcome_214 rfl ?_
                refine xre_l F hr hlk hW dX1_outcome_215 ?_
                rw [sp_run_end (by omega)] at hR
                have h1 := congrArg Prod.fst hR
                have h2 := congrArg Prod.snd hR
                simp only at h1 h2
                refine ⟨?_, _, rfl, by simp only; omega⟩
                rw [h1]; unfold sp_fin; first | rw [if_pos (by omega)] | (rw [if_pos (by omega)]; rfl) | rw [if_neg (by omega)]
    exact lp38 (M.2.1 - 0) 0 0 0 P.2.2.1 P.2.2.2 rfl (by omega) (Nat.zero_le _) (Nat.zero_le _) ((zrun_of _ _ _ _ _ P.2.2.2).symm) _ _ _ hW (lv_sub hl [3, 4, 5, 6, 2, 1, 0] rfl)
  · skip
    rw [show (nI r).toInt = ((r : Nat) : Int) from nI_toInt (by omega)] at y2
    exfalso; omega
