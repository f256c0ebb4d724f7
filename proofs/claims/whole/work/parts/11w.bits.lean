set_option maxHeartbeats 4000000 in
set_option maxRecDepth 100000 in
theorem metX5_bits (l : Launch) (G : GG) (x : UInt32) (ox : okF x) : Met l yX5_bits wsX5_bits ({ frames := 1, cells := 0, slots := 0, locals := 30 }) (pR G ([]) [.float x]) (vp_Si (fun r => r = cBits x)) 0 0 (fun _ => False) := by
  refine Met.ofW (cc := cX5_bits) (maxL := 3) (ret := (some .int)) (by decide) rfl ?_
  intro p e s m args below meth c s₁ B hml hv
  obtain ⟨rfl, hK, hP⟩ := hv
  have hx := B.exec
  have hb := B.bytes
  have hr := B.returns
  have hlocks := B.notSynchronized
  have hts := atoms_spec (ws := wsX5_bits) B.pre
  have hown : s.vm.findClass RX5 = some m.cls := findClass_of_methodNamed B.named
  have hl := lv_entry ([.float x]) (n := 3) (Nat.le_of_ble_eq_true rfl)
  rw [lg_entry_eq]
  generalize (lg_sl ([.float x]) ++ List.replicate (3 - (lg_sl ([.float x])).length) Slot.unset).toArray = ls at hl ⊢
  have hl : lv_has ls 3 [(0, .float x)] := hl
  refine lv_fload_n hx hb dX5_bits_0 rfl (lv_at hl 0 rfl) ?_
  refine cr_i (va_runS (As := [.float x]) (rest := []) ⟨hx, hb, hml, hown, hts⟩ (metX5_isNan l G x) (va_cwS 1 hts gX5_bits_X5_isNan rfl rfl rfl (by decide +kernel) ⟨Nat.le_of_ble_eq_true rfl, Nat.le_of_ble_eq_true rfl⟩) (pR_S hK (va_P_nil _ _ _)) rfl rfl hl.1 rfl (lv_room (Nat.le_of_ble_eq_true rfl)) dX5_bits_1 ⟨Nat.zero_le _, Nat.zero_le _⟩) (fun r_1 hr_2 => ?_)
  subst hr_2
  refine nb_if_eq (B := cNeg x) (tgt := 10) hx hb dX5_bits_4 (by decide) (fun c_3 => ?_) (fun c_3 => ?_)
  · refine lv_fload_n hx hb dX5_bits_10 rfl (lv_at hl 0 rfl) ?_
    refine cr_i (va_runS (As := [.float x]) (rest := []) ⟨hx, hb, hml, hown, hts⟩ (metX5_isInfinite l G x) (va_cwS 1 hts gX5_bits_X5_isInfinite rfl rfl rfl (by decide +kernel) ⟨Nat.le_of_ble_eq_true rfl, Nat.le_of_ble_eq_true rfl⟩) (pR_S hK (va_P_nil _ _ _)) rfl rfl hl.1 rfl (lv_room (Nat.le_of_ble_eq_true rfl)) dX5_bits_11 ⟨Nat.zero_le _, Nat.zero_le _⟩) (fun r_4 hr_5 => ?_)
    subst hr_5
    refine nb_if_eq (B := cInf x) (tgt := 20) hx hb dX5_bits_14 (by decide) (fun c_6 => ?_) (fun c_6 => ?_)
    · obtain ⟨c9, j9, hcn, rfl⟩ := fl_ex (fin_of ox c_3 c_6)
      have hl : lv_has ls 3 [(0, .float (fl c9 j9))] := hl
      refine lv_fload_n hx hb dX5_bits_20 rfl (lv_at hl 0 rfl) ?_
      refine lv_fstore_n (lv' := [(1, .float (fl c9 j9)), (0, .float (fl c9 j9))]) hx hb dX5_bits_21 rfl hl (by decide) rfl (fun ls hl => ?_)
      refine lv_iconst (v := nI 0) hx hb dX5_bits_22 (by decide) ?_
      refine lv_istore_n (lv' := [(2, .int (nI 0)), (1, .float (fl c9 j9)), (0, .float (fl c9 j9))]) hx hb dX5_bits_23 rfl hl (by decide) rfl (fun ls hl => ?_)
      refine lpR (S := Unit) (127) (fun i u => i + 126 ≤ j9 ∨ i = 0) (fun i u => [(0, .float (fl c9 j9)), (1, .float (fl c9 (j9 - i))), (2, .int (nI i))]) (fun u ls hI_8 hl => ?_) (fun i u ls hi_9 hI_8 hl ih_7 => ?_) (0) () (by omega) (Or.inr rfl) (lv_sub hl [2, 1, 0] rfl)
      · have hl : lv_has ls 3 [(0, .float (fl c9 j9)), (1, .float (fl c9 (j9 - 127))), (2, .int (nI 127))] := hl
        have hcj := cn_sub hcn hI_8
        have hpj := fl_pos hcj
        have hnj := fl_nat hcj
        have h253 := hcn.2.1
        have hc24 := hcn.1
        have hc23 := hcn.2.2
        refine lv_iload_n hx hb dX5_bits_24 rfl (lv_at hl 2 rfl) ?_
        refine lv_bipush (v := nI 127) hx hb dX5_bits_25 (by decide) ?_
        refine n_icmp_ge (x := 127) (y := 127) (tgt := 46) hx hb (by omega) (by omega) dX5_bits_27 (by decide) (fun c_10 => ?_) (fun c_10 => ?_)
        · refine lv_iload_n hx hb dX5_bits_46 rfl (lv_at hl 2 rfl) ?_
          refine lv_bipush (v := (-126)) hx hb dX5_bits_47 (by decide) ?_
          refine lv_icmp_le (tgt := 68) hx hb dX5_bits_49 (by decide) (fun c_11 => ?_) (fun c_11 => ?_)
          · exact absurd c_11 (nI_n126 (by omega))
          · refine lv_fload_n hx hb dX5_bits_52 rfl (lv_at hl 1 rfl) ?_
            refine lv_fconst1 hx hb dX5_bits_53 ?_
            refine lv_fcmp hx hb dX5_bits_54 ?_
            refine nf_g_ge (tgt := 68) hx hb dX5_bits_55 (by decide) (fun c_12 => ?_) (fun c_12 => ?_)
            · refine lv_iload_n hx hb dX5_bits_68 rfl (lv_at hl 2 rfl) ?_
              refine lv_bipush (v := (-126)) hx hb dX5_bits_69 (by decide) ?_
              refine lv_isub hx hb dX5_bits_71 ?_
              refine lv_bipush (v := nI 23) hx hb dX5_bits_72 (by decide) ?_
              refine lv_ishl hx hb dX5_bits_74 ?_
              refine lv_fload_n hx hb dX5_bits_75 rfl (lv_at hl 1 rfl) ?_
              refine lv_ldcf hx hb hown (hts (.constantFloat RX5 26 (1258291200)) (by decide +kernel)) dX5_bits_76 ?_
              refine lv_fmul hx hb dX5_bits_78 (hn_dbl hpj posF_8 (by decide +kernel) (by decide +kernel)) ?_
              refine lv_f2i hx hb dX5_bits_79 ?_
              refine lv_iadd hx hb dX5_bits_80 ?_
              exact W.iret (v := (((nI 127) - (-126)) <<< ((nI 23) &&& 31)) + (FP.f2i (FP.fmul (fl c9 (j9 - 127)) (1258291200 : UInt32)))) hx hb hr (fun t ht hW => ⟨_, rfl, (end1 hcn (by omega) (by omega)), ht⟩) (fun q hq => absurd hq List.not_mem_nil) dX5_bits_81
            · exact absurd ((key_lt hpj posF_1).mp c_12) (by rw [tw1, hnj]; omega)
        · exact absurd c_10 (by omega)
      · have hl : lv_has ls 3 [(0, .float (fl c9 j9)), (1, .float (fl c9 (j9 - i))), (2, .int (nI i))] := hl
        have hcj := cn_sub hcn hI_8
        have hpj := fl_pos hcj
        have hnj := fl_nat hcj
        have h253 := hcn.2.1
        have hc24 := hcn.1
        have hc23 := hcn.2.2
        refine lv_iload_n hx hb dX5_bits_24 rfl (lv_at hl 2 rfl) ?_
        refine lv_bipush (v := nI 127) hx hb dX5_bits_25 (by decide) ?_
        refine n_icmp_ge (x := i) (y := 127) (tgt := 46) hx hb (by omega) (by omega) dX5_bits_27 (by decide) (fun c_13 => ?_) (fun c_13 => ?_)
        · exact absurd c_13 (by omega)
        · refine lv_fload_n hx hb dX5_bits_30 rfl (lv_at hl 1 rfl) ?_
          refine lv_fconst2 hx hb dX5_bits_31 ?_
          refine lv_fcmp hx hb dX5_bits_32 ?_
          refine nf_l_lt (tgt := 46) hx hb dX5_bits_33 (by decide) (fun c_14 => ?_) (fun c_14 => ?_)
          · have hlt := key_lt2 hpj posF_2 c_14
            rw [tw2, hnj] at hlt
            by_cases hk0 : i = 0
            · subst hk0
              have hl : lv_has ls 3 [(2, .int (eN 0)), (1, .float (fl c9 j9)), (0, .float (fl c9 j9))] := by rw [← eN_0]; exact lv_sub hl [2, 1, 0] rfl
              refine lpR (S := Nat × Nat) (126) (fun i2 u => bL c9 j9 i2 (u.1, u.2) ∧ u.2 ≤ 126) (fun i2 u => [(0, .float (fl c9 j9)), (1, .float (fl u.1 u.2)), (2, .int (eN i2))]) (fun u ls hI_16 hl => ?_) (fun i2 u ls hi_17 hI_16 hl ih_15 => ?_) (0) (c9, j9) (by omega) (⟨bL_0 hcn, by omega⟩) (lv_sub hl [2, 1, 0] rfl)
              · obtain ⟨c8, j8⟩ := u
                have hl : lv_has ls 3 [(0, .float (fl c9 j9)), (1, .float (fl c8 j8)), (2, .int (eN 126))] := hl
                have hp8 := fl_pos hI_16.1.1
                refine lv_iload_n hx hb dX5_bits_46 rfl (lv_at hl 2 rfl) ?_
                refine lv_bipush (v := (-126)) hx hb dX5_bits_47 (by decide) ?_
                refine lv_icmp_le (tgt := 68) hx hb dX5_bits_49 (by decide) (fun c_18 => ?_) (fun c_18 => ?_)
                · refine lv_iload_n hx hb dX5_bits_68 rfl (lv_at hl 2 rfl) ?_
                  refine lv_bipush (v := (-126)) hx hb dX5_bits_69 (by decide) ?_
                  refine lv_isub hx hb dX5_bits_71 ?_
                  refine lv_bipush (v := nI 23) hx hb dX5_bits_72 (by decide) ?_
                  refine lv_ishl hx hb dX5_bits_74 ?_
                  refine lv_fload_n hx hb dX5_bits_75 rfl (lv_at hl 1 rfl) ?_
                  refine lv_ldcf hx hb hown (hts (.constantFloat RX5 26 (1258291200)) (by decide +kernel)) dX5_bits_76 ?_
                  refine lv_fmul hx hb dX5_bits_78 (hn_dbl hp8 posF_8 (by decide +kernel) (by decide +kernel)) ?_
                  refine lv_f2i hx hb dX5_bits_79 ?_
                  refine lv_iadd hx hb dX5_bits_80 ?_
                  exact W.iret (v := (((eN 126) - (-126)) <<< ((nI 23) &&& 31)) + (FP.f2i (FP.fmul (fl c8 j8) (1258291200 : UInt32)))) hx hb hr (fun t ht hW => ⟨_, rfl, (end2 (u := (c8, j8)) (i := 126) hcn (by omega) (by omega) hI_16.1 hI_16.2 (Or.inl rfl)), ht⟩) (fun q hq => absurd hq List.not_mem_nil) dX5_bits_81
                · exact absurd eN_126 c_18
              · obtain ⟨c8, j8⟩ := u
                have hl : lv_has ls 3 [(0, .float (fl c9 j9)), (1, .float (fl c8 j8)), (2, .int (eN i2))] := hl
                have hp8 := fl_pos hI_16.1.1
                refine lv_iload_n hx hb dX5_bits_46 rfl (lv_at hl 2 rfl) ?_
                refine lv_bipush (v := (-126)) hx hb dX5_bits_47 (by decide) ?_
                refine lv_icmp_le (tgt := 68) hx hb dX5_bits_49 (by decide) (fun c_19 => ?_) (fun c_19 => ?_)
                · exact absurd c_19 (eN_nle (by omega))
                · refine lv_fload_n hx hb dX5_bits_52 rfl (lv_at hl 1 rfl) ?_
                  refine lv_fconst1 hx hb dX5_bits_53 ?_
                  refine lv_fcmp hx hb dX5_bits_54 ?_
                  refine nf_g_ge (tgt := 68) hx hb dX5_bits_55 (by decide) (fun c_20 => ?_) (fun c_20 => ?_)
                  · refine lv_iload_n hx hb dX5_bits_68 rfl (lv_at hl 2 rfl) ?_
                    refine lv_bipush (v := (-126)) hx hb dX5_bits_69 (by decide) ?_
                    refine lv_isub hx hb dX5_bits_71 ?_
                    refine lv_bipush (v := nI 23) hx hb dX5_bits_72 (by decide) ?_
                    refine lv_ishl hx hb dX5_bits_74 ?_
                    refine lv_fload_n hx hb dX5_bits_75 rfl (lv_at hl 1 rfl) ?_
                    refine lv_ldcf hx hb hown (hts (.constantFloat RX5 26 (1258291200)) (by decide +kernel)) dX5_bits_76 ?_
                    refine lv_fmul hx hb dX5_bits_78 (hn_dbl hp8 posF_8 (by decide +kernel) (by decide +kernel)) ?_
                    refine lv_f2i hx hb dX5_bits_79 ?_
                    refine lv_iadd hx hb dX5_bits_80 ?_
                    exact W.iret (v := (((eN i2) - (-126)) <<< ((nI 23) &&& 31)) + (FP.f2i (FP.fmul (fl c8 j8) (1258291200 : UInt32)))) hx hb hr (fun t ht hW => ⟨_, rfl, (end2 (u := (c8, j8)) (i := i2) hcn (by omega) (by omega) hI_16.1 hI_16.2 (Or.inr (by have h9 := key_nlt hp8 posF_1 c_20; rw [tw1] at h9; exact h9))), ht⟩) (fun q hq => absurd hq List.not_mem_nil) dX5_bits_81
                  · have hlt8 := (key_lt hp8 posF_1).mp c_20
                    rw [tw1] at hlt8
                    refine lv_fload_n hx hb dX5_bits_58 rfl (lv_at hl 1 rfl) ?_
                    refine lv_fconst2 hx hb dX5_bits_59 ?_
                    refine lv_fmul hx hb dX5_bits_60 (hn_dbl hp8 posF_2 (by decide +kernel) (by decide +kernel)) ?_
                    refine eq_f (y := fl (dblC c8) (dblJ c8 j8)) (fl_dbl hI_16.1.1 (by omega)) ?_
                    refine lv_fstore_n (lv' := [(1, .float (fl (dblC c8) (dblJ c8 j8))), (0, .float (fl c9 j9)), (2, .int (eN i2))]) hx hb dX5_bits_61 rfl hl (by decide) rfl (fun ls hl => ?_)
                    refine lv_iinc (v := eN (i2 + 1)) (lv' := [(2, .int (eN (i2 + 1))), (1, .float (fl (dblC c8) (dblJ c8 j8))), (0, .float (fl c9 j9))]) hx hb dX5_bits_62 hl (k := 2) rfl (eN_s _) (by decide) rfl (fun ls hl => ?_)
                    refine lv_goto (tgt := 46) hx hb dX5_bits_65 (by decide) ?_
                    exact ih_15 (dblC c8, dblJ c8 j8) _ (⟨bL_step hI_16.1 hcn (by omega) (by omega), bL_u hI_16.1 hlt8⟩) (lv_sub hl [2, 1, 0] rfl)
            · refine lv_iload_n hx hb dX5_bits_46 rfl (lv_at hl 2 rfl) ?_
              refine lv_bipush (v := (-126)) hx hb dX5_bits_47 (by decide) ?_
              refine lv_icmp_le (tgt := 68) hx hb dX5_bits_49 (by decide) (fun c_21 => ?_) (fun c_21 => ?_)
              · exact absurd c_21 (nI_n126 (by omega))
              · refine lv_fload_n hx hb dX5_bits_52 rfl (lv_at hl 1 rfl) ?_
                refine lv_fconst1 hx hb dX5_bits_53 ?_
                refine lv_fcmp hx hb dX5_bits_54 ?_
                refine nf_g_ge (tgt := 68) hx hb dX5_bits_55 (by decide) (fun c_22 => ?_) (fun c_22 => ?_)
                · refine lv_iload_n hx hb dX5_bits_68 rfl (lv_at hl 2 rfl) ?_
                  refine lv_bipush (v := (-126)) hx hb dX5_bits_69 (by decide) ?_
                  refine lv_isub hx hb dX5_bits_71 ?_
                  refine lv_bipush (v := nI 23) hx hb dX5_bits_72 (by decide) ?_
                  refine lv_ishl hx hb dX5_bits_74 ?_
                  refine lv_fload_n hx hb dX5_bits_75 rfl (lv_at hl 1 rfl) ?_
                  refine lv_ldcf hx hb hown (hts (.constantFloat RX5 26 (1258291200)) (by decide +kernel)) dX5_bits_76 ?_
                  refine lv_fmul hx hb dX5_bits_78 (hn_dbl hpj posF_8 (by decide +kernel) (by decide +kernel)) ?_
                  refine lv_f2i hx hb dX5_bits_79 ?_
                  refine lv_iadd hx hb dX5_bits_80 ?_
                  exact W.iret (v := (((nI i) - (-126)) <<< ((nI 23) &&& 31)) + (FP.f2i (FP.fmul (fl c9 (j9 - i)) (1258291200 : UInt32)))) hx hb hr (fun t ht hW => ⟨_, rfl, (end1 hcn (by omega) (by omega)), ht⟩) (fun q hq => absurd hq List.not_mem_nil) dX5_bits_81
                · exact absurd ((key_lt hpj posF_1).mp c_22) (by rw [tw1, hnj]; omega)
          · have hge := key_ge hpj posF_2 c_14
            rw [tw2, hnj] at hge
            refine lv_fload_n hx hb dX5_bits_36 rfl (lv_at hl 1 rfl) ?_
            refine lv_fconst2 hx hb dX5_bits_37 ?_
            refine lv_fdiv hx hb dX5_bits_38 (hn_half hpj) ?_
            refine eq_f (y := fl c9 (j9 - (i + 1))) ((fl_half hcj (by omega)).trans (by rw [Nat.sub_sub])) ?_
            refine lv_fstore_n (lv' := [(1, .float (fl c9 (j9 - (i + 1)))), (0, .float (fl c9 j9)), (2, .int (nI i))]) hx hb dX5_bits_39 rfl hl (by decide) rfl (fun ls hl => ?_)
            refine lv_iinc (v := nI (i + 1)) (lv' := [(2, .int (nI (i + 1))), (1, .float (fl c9 (j9 - (i + 1)))), (0, .float (fl c9 j9))]) hx hb dX5_bits_40 hl (k := 2) rfl (by exact nI_add _ _) (by decide) rfl (fun ls hl => ?_)
            refine lv_goto (tgt := 24) hx hb dX5_bits_43 (by decide) ?_
            exact ih_7 () _ (Or.inl (by omega)) (lv_sub hl [2, 1, 0] rfl)
    · refine lv_ldc (v := nI 2139095040) hx hb hown (hts (.constant RX5 25 (2139095040)) (by decide +kernel)) dX5_bits_17 ?_
      exact W.iret (v := nI 2139095040) hx hb hr (fun t ht hW => ⟨_, rfl, (cBits_inf ox c_3 c_6), ht⟩) (fun q hq => absurd hq List.not_mem_nil) dX5_bits_19
  · refine lv_ldc (v := nI 2143289344) hx hb hown (hts (.constant RX5 24 (2143289344)) (by decide +kernel)) dX5_bits_7 ?_
    exact W.iret (v := nI 2143289344) hx hb hr (fun t ht hW => ⟨_, rfl, (by rw [cBits, if_pos c_3]), ht⟩) (fun q hq => absurd hq List.not_mem_nil) dX5_bits_9
