set_option maxHeartbeats 4000000 in
set_option maxRecDepth 100000 in
theorem cm_work (l : Launch) (D : va_G) (cI : ClassId) (g : Nat → Nat) (μ : mT) (w d t k q z : Nat) (hw : w < 2) (hd : d < 8) (ht : t < 8) (hq : q ≤ 5) (hw0 : μ.2 0 = nI w) (hd0 : μ.2 1 = nI (d + 1)) (hat : μ.1 8 d = nI t) (hgd : μ.1 11 d = nI q) (hx0 : μ.1 10 d = nI k) (hsz : μ.1 2 t = nI z) (hkz : k ≤ z) (hz : z ≤ 5) (hqk : q ≤ k) : m_Mv l yX1_work (.code yX1_work cX1_work 4 none :: lw_g) { frames := 2, cells := 0, slots := 0, locals := 46 } D cI g μ [.int (nI d)] (m_work w d t k q μ) := by
  refine m_bodyv rfl rfl (Nat.le_of_ble_eq_true rfl) ?_
  intro p e s m below meth c hx hb hml hr hlk hown hts hC hp ls hl
  have hl : lv_has ls 4 [(0, .ref (g 0)), (1, .int (nI d))] := hl
  refine lv_aload_n hx hb dX1_work_0 rfl (lv_at hl 0 rfl) ?_
  refine m_get 10 (by decide) hx hb hts hown hC hp m_l40 dX1_work_1 ?_
  refine lv_iload_n hx hb dX1_work_4 rfl (lv_at hl 1 rfl) ?_
  refine m_ild (μ := μ) 10 d (nI k) (by decide) (rfl) (by show d < 9; omega) (hx0) hx hb hC hp dX1_work_5 ?_
  refine lv_aload_n hx hb dX1_work_6 rfl (lv_at hl 0 rfl) ?_
  refine m_get 2 (by decide) hx hb hts hown hC hp m_l16 dX1_work_7 ?_
  refine lv_aload_n hx hb dX1_work_10 rfl (lv_at hl 0 rfl) ?_
  refine m_get 8 (by decide) hx hb hts hown hC hp m_l34 dX1_work_11 ?_
  refine lv_iload_n hx hb dX1_work_14 rfl (lv_at hl 1 rfl) ?_
  refine m_ild (μ := μ) 8 d (nI t) (by decide) (rfl) (by show d < 9; omega) (hat) hx hb hC hp dX1_work_15 ?_
  refine m_ild (μ := μ) 2 t (nI z) (by decide) (rfl) (by show t < 8; omega) (hsz) hx hb hC hp dX1_work_16 ?_
  refine lv_icmp_ne (tgt := 27) hx hb dX1_work_17 (by decide) (fun c_1 => ?_) (fun c_1 => ?_)
  · have hkz' : k ≠ z := fun h => c_1 (by rw [h])
    have hk5 : k < 5 := by omega
    refine lv_iconst (v := 5) hx hb dX1_work_27 (by decide) ?_
    refine lv_aload_n hx hb dX1_work_28 rfl (lv_at hl 0 rfl) ?_
    refine m_get 8 (by decide) hx hb hts hown hC hp m_l34 dX1_work_29 ?_
    refine lv_iload_n hx hb dX1_work_32 rfl (lv_at hl 1 rfl) ?_
    refine m_ild (μ := μ) 8 d (nI t) (by decide) (rfl) (by show d < 9; omega) (hat) hx hb hC hp dX1_work_33 ?_
    refine lv_imul hx hb dX1_work_34 ?_
    refine lv_aload_n hx hb dX1_work_35 rfl (lv_at hl 0 rfl) ?_
    refine m_get 10 (by decide) hx hb hts hown hC hp m_l40 dX1_work_36 ?_
    refine lv_iload_n hx hb dX1_work_39 rfl (lv_at hl 1 rfl) ?_
    refine m_ild (μ := μ) 10 d (nI k) (by decide) (rfl) (by show d < 9; omega) (hx0) hx hb hC hp dX1_work_40 ?_
    refine lv_iadd hx hb dX1_work_41 ?_
    refine lv_istore_n (lv' := [(2, .int (5 * nI t + nI k)), (0, .ref (g 0)), (1, .int (nI d))]) hx hb dX1_work_42 rfl hl (by decide) rfl (fun ls hl => ?_)
    refine lv_aload_n hx hb dX1_work_43 rfl (lv_at hl 1 rfl) ?_
    refine m_get 1 (by decide) hx hb hts hown hC hp m_l13 dX1_work_44 ?_
    refine lv_iload_n hx hb dX1_work_47 rfl (lv_at hl 0 rfl) ?_
    refine m_ild (μ := μ) 1 (5 * t + k) (μ.1 1 (5 * t + k)) (by decide) ((m_ia (a := 5 * t) (b := k) (m_im (a := 5) (b := t) rfl rfl) rfl)) (by show (5 * t + k) < 40; omega) (rfl) hx hb hC hp dX1_work_48 ?_
    refine lv_istore_n (lv' := [(3, .int (μ.1 1 (5 * t + k))), (2, .int (5 * nI t + nI k)), (0, .ref (g 0)), (1, .int (nI d))]) hx hb dX1_work_49 rfl hl (by decide) rfl (fun ls hl => ?_)
    refine lv_aload_n hx hb dX1_work_50 rfl (lv_at hl 2 rfl) ?_
    refine m_get 10 (by decide) hx hb hts hown hC hp m_l40 dX1_work_51 ?_
    refine lv_iload_n hx hb dX1_work_54 rfl (lv_at hl 3 rfl) ?_
    refine lv_dup2_11 hx hb dX1_work_55 rfl rfl ?_
    refine m_ild (μ := μ) 10 d (nI k) (by decide) (rfl) (by show d < 9; omega) (hx0) hx hb hC hp dX1_work_56 ?_
    refine lv_iconst (v := 1) hx hb dX1_work_57 (by decide) ?_
    refine lv_iadd hx hb dX1_work_58 ?_
    rw [nI_1 k]
    refine m_ist 10 d (by decide) (rfl) (by show d < 9; omega) hx hb hC hp dX1_work_59 (fun H locs hp => ?_)
    refine lv_aload_n hx hb dX1_work_60 rfl (lv_at hl 2 rfl) ?_
    refine m_get 0 (by decide) hx hb hts hown hC hp m_l7 dX1_work_61 ?_
    refine lv_iload_n hx hb dX1_work_64 rfl (lv_at hl 1 rfl) ?_
    refine m_ild (μ := (m_sA μ 10 d (nI ((k + 1))))) 0 (5 * t + k) (μ.1 0 (5 * t + k)) (by decide) ((m_ia (a := 5 * t) (b := k) (m_im (a := 5) (b := t) rfl rfl) rfl)) (by show (5 * t + k) < 40; omega) (rfl) hx hb hC hp dX1_work_65 ?_
    by_cases h_0 : (μ.1 0 (5 * t + k)) = 0
    · skip
      refine lv_tableIn (off := 34) (tgt := 100) hx hb dX1_work_66 (by rw [h_0]; decide) (by rw [h_0]; decide) (by rw [h_0]; decide +kernel) (by decide) ?_
      refine lv_aload_n hx hb dX1_work_100 rfl (lv_at hl 2 rfl) ?_
      refine lv_iload_n hx hb dX1_work_101 rfl (lv_at hl 0 rfl) ?_
      refine m_callV (n := 1) [.int (μ.1 1 (5 * t + k))] hx hb hml hown hts hC hp (cm_note l D cI g (m_sA μ 10 d (nI ((k + 1)))) w (μ.1 1 (5 * t + k)) hw (hw0)) gVX1_66 (by decide +kernel) ⟨rfl, rfl, by show 0 + 1 ≤ 2; omega, by show 8 + (3 + 11) + 0 ≤ 46; omega⟩ rfl hl.1 rfl (Nat.le_of_ble_eq_true rfl) ⟨Nat.zero_le _, Nat.zero_le _⟩ dX1_work_102 (fun H locs hp => ?_)
      refine lv_goto (tgt := 184) hx hb dX1_work_105 (by decide) ?_
      exact m_vret hx hb hr hlk hp (by unfold m_work; rw [if_neg (by rw [hsz]; exact c_1), if_pos h_0]) dX1_work_184
    · skip
      by_cases h_1 : (μ.1 0 (5 * t + k)) = 1
      · skip
        refine lv_tableIn (off := 42) (tgt := 108) hx hb dX1_work_66 (by rw [h_1]; decide) (by rw [h_1]; decide) (by rw [h_1]; decide +kernel) (by decide) ?_
        refine lv_aload_n hx hb dX1_work_108 rfl (lv_at hl 2 rfl) ?_
        refine m_get 9 (by decide) hx hb hts hown hC hp m_l37 dX1_work_109 ?_
        refine lv_iload_n hx hb dX1_work_112 rfl (lv_at hl 3 rfl) ?_
        refine lv_aload_n hx hb dX1_work_113 rfl (lv_at hl 2 rfl) ?_
        refine m_get 0 (by decide) hx hb hts hown hC hp m_l7 dX1_work_114 ?_
        refine lv_iload_n hx hb dX1_work_117 rfl (lv_at hl 1 rfl) ?_
        refine m_ild (μ := (m_sA μ 10 d (nI ((k + 1))))) 0 (5 * t + k) (μ.1 0 (5 * t + k)) (by decide) ((m_ia (a := 5 * t) (b := k) (m_im (a := 5) (b := t) rfl rfl) rfl)) (by show (5 * t + k) < 40; omega) (rfl) hx hb hC hp dX1_work_118 ?_
        refine lv_iconst (v := 1) hx hb dX1_work_119 (by decide) ?_
        refine lv_icmp_ne (tgt := 127) hx hb dX1_work_120 (by decide) (fun c_2 => absurd c_2 (fun h => h h_1)) (fun c_2 => ?_)
        refine lv_iconst (v := 2) hx hb dX1_work_123 (by decide) ?_
        refine lv_goto (tgt := 128) hx hb dX1_work_124 (by decide) ?_
        refine m_ist 9 d (by decide) (rfl) (by show d < 9; omega) hx hb hC hp dX1_work_128 (fun H locs hp => ?_)
        refine lv_aload_n hx hb dX1_work_129 rfl (lv_at hl 2 rfl) ?_
        refine lv_iload_n hx hb dX1_work_130 rfl (lv_at hl 0 rfl) ?_
        refine lv_bipush (v := 7) hx hb dX1_work_131 (by decide) ?_
        refine lv_iand hx hb dX1_work_133 ?_
        refine m_callV (n := 1) [.int ((μ.1 1 (5 * t + k)) &&& 7)] hx hb hml hown hts hC hp (cm_begin l D cI g (m_sA (m_sA μ 10 d (nI ((k + 1)))) 9 d 2) w (d + 1) (((μ.1 1 (5 * t + k)) &&& 7).toNatClampNeg) _ hw (by omega) (x_m7 (μ.1 1 (5 * t + k))).2 hw0 hd0 (x_m7 (μ.1 1 (5 * t + k))).1) gVX1_83 (by decide +kernel) ⟨rfl, rfl, by show 0 + 1 ≤ 2; omega, by show 8 + (3 + 11) + 0 ≤ 46; omega⟩ rfl hl.1 rfl (Nat.le_of_ble_eq_true rfl) ⟨Nat.zero_le _, Nat.zero_le _⟩ dX1_work_134 (fun H locs hp => ?_)
        refine lv_goto (tgt := 184) hx hb dX1_work_137 (by decide) ?_
        exact m_vret hx hb hr hlk hp (by unfold m_work; rw [if_neg (by rw [hsz]; exact c_1), if_neg h_0, if_pos h_1]) dX1_work_184
      · skip
        by_cases h_2 : (μ.1 0 (5 * t + k)) = 2
        · skip
          refine lv_tableIn (off := 74) (tgt := 140) hx hb dX1_work_66 (by rw [h_2]; decide) (by rw [h_2]; decide) (by rw [h_2]; decide +kernel) (by decide) ?_
          refine lv_aload_n hx hb dX1_work_140 rfl (lv_at hl 2 rfl) ?_
          refine lv_iconst (v := 1) hx hb dX1_work_141 (by decide) ?_
          refine lv_iload_n hx hb dX1_work_142 rfl (lv_at hl 0 rfl) ?_
          refine m_callV (n := 2) [.int 1, .int (μ.1 1 (5 * t + k))] hx hb hml hown hts hC hp (cm_end l D cI g (m_sA μ 10 d (nI ((k + 1)))) w d t q 1 (μ.1 1 (5 * t + k)) hw (by omega) ht hq hw0 hd0 hat hgd) gVX1_79 (by decide +kernel) ⟨rfl, rfl, by show 1 + 1 ≤ 2; omega, by show 8 + (5 + 11) + 22 ≤ 46; omega⟩ rfl hl.1 rfl (Nat.le_of_ble_eq_true rfl) ⟨Nat.zero_le _, Nat.zero_le _⟩ dX1_work_143 (fun H locs hp => ?_)
          refine lv_goto (tgt := 184) hx hb dX1_work_146 (by decide) ?_
          exact m_vret hx hb hr hlk hp (by unfold m_work; rw [if_neg (by rw [hsz]; exact c_1), if_neg h_0, if_neg h_1, if_pos h_2]) dX1_work_184
        · skip
          by_cases h_3 : (μ.1 0 (5 * t + k)) = 3
          · skip
            refine lv_tableIn (off := 83) (tgt := 149) hx hb dX1_work_66 (by rw [h_3]; decide) (by rw [h_3]; decide) (by rw [h_3]; decide +kernel) (by decide) ?_
            refine lv_aload_n hx hb dX1_work_149 rfl (lv_at hl 2 rfl) ?_
            refine lv_iconst (v := 2) hx hb dX1_work_150 (by decide) ?_
            refine lv_iload_n hx hb dX1_work_151 rfl (lv_at hl 0 rfl) ?_
            refine m_callV (n := 2) [.int 2, .int (μ.1 1 (5 * t + k))] hx hb hml hown hts hC hp (cm_end l D cI g (m_sA μ 10 d (nI ((k + 1)))) w d t q 2 (μ.1 1 (5 * t + k)) hw (by omega) ht hq hw0 hd0 hat hgd) gVX1_79 (by decide +kernel) ⟨rfl, rfl, by show 1 + 1 ≤ 2; omega, by show 8 + (5 + 11) + 22 ≤ 46; omega⟩ rfl hl.1 rfl (Nat.le_of_ble_eq_true rfl) ⟨Nat.zero_le _, Nat.zero_le _⟩ dX1_work_152 (fun H locs hp => ?_)
            refine lv_goto (tgt := 184) hx hb dX1_work_155 (by decide) ?_
            exact m_vret hx hb hr hlk hp (by unfold m_work; rw [if_neg (by rw [hsz]; exact c_1), if_neg h_0, if_neg h_1, if_neg h_2, if_pos h_3]) dX1_work_184
          · skip
            by_cases h_4 : (μ.1 0 (5 * t + k)) = 4
            · skip
              refine lv_tableIn (off := 42) (tgt := 108) hx hb dX1_work_66 (by rw [h_4]; decide) (by rw [h_4]; decide) (by rw [h_4]; decide +kernel) (by decide) ?_
              refine lv_aload_n hx hb dX1_work_108 rfl (lv_at hl 2 rfl) ?_
              refine m_get 9 (by decide) hx hb hts hown hC hp m_l37 dX1_work_109 ?_
              refine lv_iload_n hx hb dX1_work_112 rfl (lv_at hl 3 rfl) ?_
              refine lv_aload_n hx hb dX1_work_113 rfl (lv_at hl 2 rfl) ?_
              refine m_get 0 (by decide) hx hb hts hown hC hp m_l7 dX1_work_114 ?_
              refine lv_iload_n hx hb dX1_work_117 rfl (lv_at hl 1 rfl) ?_
              refine m_ild (μ := (m_sA μ 10 d (nI ((k + 1))))) 0 (5 * t + k) (μ.1 0 (5 * t + k)) (by decide) ((m_ia (a := 5 * t) (b := k) (m_im (a := 5) (b := t) rfl rfl) rfl)) (by show (5 * t + k) < 40; omega) (rfl) hx hb hC hp dX1_work_118 ?_
              refine lv_iconst (v := 1) hx hb dX1_work_119 (by decide) ?_
              refine lv_icmp_ne (tgt := 127) hx hb dX1_work_120 (by decide) (fun c_3 => ?_) (fun c_3 => absurd c_3 (by rw [h_4]; decide))
              refine lv_iconst (v := 3) hx hb dX1_work_127 (by decide) ?_
              refine m_ist 9 d (by decide) (rfl) (by show d < 9; omega) hx hb hC hp dX1_work_128 (fun H locs hp => ?_)
              refine lv_aload_n hx hb dX1_work_129 rfl (lv_at hl 2 rfl) ?_
              refine lv_iload_n hx hb dX1_work_130 rfl (lv_at hl 0 rfl) ?_
              refine lv_bipush (v := 7) hx hb dX1_work_131 (by decide) ?_
              refine lv_iand hx hb dX1_work_133 ?_
              refine m_callV (n := 1) [.int ((μ.1 1 (5 * t + k)) &&& 7)] hx hb hml hown hts hC hp (cm_begin l D cI g (m_sA (m_sA μ 10 d (nI ((k + 1)))) 9 d 3) w (d + 1) (((μ.1 1 (5 * t + k)) &&& 7).toNatClampNeg) _ hw (by omega) (x_m7 (μ.1 1 (5 * t + k))).2 hw0 hd0 (x_m7 (μ.1 1 (5 * t + k))).1) gVX1_83 (by decide +kernel) ⟨rfl, rfl, by show 0 + 1 ≤ 2; omega, by show 8 + (3 + 11) + 0 ≤ 46; omega⟩ rfl hl.1 rfl (Nat.le_of_ble_eq_true rfl) ⟨Nat.zero_le _, Nat.zero_le _⟩ dX1_work_134 (fun H locs hp => ?_)
              refine lv_goto (tgt := 184) hx hb dX1_work_137 (by decide) ?_
              exact m_vret hx hb hr hlk hp (by unfold m_work; rw [if_neg (by rw [hsz]; exact c_1), if_neg h_0, if_neg h_1, if_neg h_2, if_neg h_3, if_pos h_4]) dX1_work_184
            · skip
              refine lv_tableOut (tgt := 158) hx hb dX1_work_66 (x_out4 h_0 h_1 h_2 h_3 h_4) (by decide) ?_
              refine lv_aload_n hx hb dX1_work_158 rfl (lv_at hl 2 rfl) ?_
              refine m_get 12 (by decide) hx hb hts hown hC hp m_l46 dX1_work_159 ?_
              refine lv_iconst (v := 5) hx hb dX1_work_162 (by decide) ?_
              refine lv_iload_n hx hb dX1_work_163 rfl (lv_at hl 3 rfl) ?_
              refine lv_imul hx hb dX1_work_164 ?_
              refine lv_aload_n hx hb dX1_work_165 rfl (lv_at hl 2 rfl) ?_
              refine m_get 11 (by decide) hx hb hts hown hC hp m_l43 dX1_work_166 ?_
              refine lv_iload_n hx hb dX1_work_169 rfl (lv_at hl 3 rfl) ?_
              refine m_ild (μ := (m_sA μ 10 d (nI ((k + 1))))) 11 d (nI q) (by decide) (rfl) (by show d < 9; omega) (hgd) hx hb hC hp dX1_work_170 ?_
              refine lv_iadd hx hb dX1_work_171 ?_
              refine lv_iload_n hx hb dX1_work_172 rfl (lv_at hl 0 rfl) ?_
              refine m_ist 12 ((5 * d) + q) (by decide) ((m_ia (a := (5 * d)) (b := q) (m_im (a := 5) (b := d) rfl rfl) rfl)) (by show ((5 * d) + q) < 45; omega) hx hb hC hp dX1_work_173 (fun H locs hp => ?_)
              refine lv_aload_n hx hb dX1_work_174 rfl (lv_at hl 2 rfl) ?_
              refine m_get 11 (by decide) hx hb hts hown hC hp m_l43 dX1_work_175 ?_
              refine lv_iload_n hx hb dX1_work_178 rfl (lv_at hl 3 rfl) ?_
              refine lv_dup2_11 hx hb dX1_work_179 rfl rfl ?_
              refine m_ild (μ := (m_sA (m_sA μ 10 d (nI ((k + 1)))) 12 ((5 * d) + q) (μ.1 1 (5 * t + k)))) 11 d (nI q) (by decide) (rfl) (by show d < 9; omega) (hgd) hx hb hC hp dX1_work_180 ?_
              refine lv_iconst (v := 1) hx hb dX1_work_181 (by decide) ?_
              refine lv_iadd hx hb dX1_work_182 ?_
              rw [nI_1 q]
              refine m_ist 11 d (by decide) (rfl) (by show d < 9; omega) hx hb hC hp dX1_work_183 (fun H locs hp => ?_)
              exact m_vret hx hb hr hlk hp (by unfold m_work; rw [if_neg (by rw [hsz]; exact c_1), if_neg h_0, if_neg h_1, if_neg h_2, if_neg h_3, if_neg h_4]) dX1_work_184
  · refine lv_aload_n hx hb dX1_work_20 rfl (lv_at hl 0 rfl) ?_
    refine lv_iconst (v := 0) hx hb dX1_work_21 (by decide) ?_
    refine lv_iconst (v := 0) hx hb dX1_work_22 (by decide) ?_
    refine m_callV (n := 2) [.int 0, .int 0] hx hb hml hown hts hC hp (cm_end l D cI g μ w d t q 0 0 hw (by omega) ht hq hw0 hd0 hat hgd) gVX1_79 (by decide +kernel) ⟨rfl, rfl, by show 1 + 1 ≤ 2; omega, by show 8 + (5 + 11) + 22 ≤ 46; omega⟩ rfl hl.1 rfl (Nat.le_of_ble_eq_true rfl) ⟨Nat.zero_le _, Nat.zero_le _⟩ dX1_work_23 (fun H locs hp => ?_)
    exact m_vret hx hb hr hlk hp (by unfold m_work; rw [if_pos (by rw [hsz]; exact c_1)]) dX1_work_26

set_option maxHeartbeats 4000000 in
set_option maxRecDepth 100000 in
theorem cm_answered (l : Launch) (D : va_G) (cI : ClassId) (g : Nat → Nat) (μ : mT) (w d t k q : Nat) (hw : w < 2) (hd : d < 8) (ht : t < 8) (hq : q ≤ 5) (hw0 : μ.2 0 = nI w) (hd0 : μ.2 1 = nI (d + 1)) (hat : μ.1 8 d = nI t) (hgd : μ.1 11 d = nI q) (hx0 : μ.1 10 d = nI (k + 1)) (hk5 : k < 5) : m_Mv l yX1_answered (.code yX1_answered cX1_answered 3 none :: lw_g) { frames := 2, cells := 0, slots := 0, locals := 46 } D cI g μ [.int (nI d)] (m_ans w d t k q μ) := by
  refine m_bodyv rfl rfl (Nat.le_of_ble_eq_true rfl) ?_
  intro p e s m below meth c hx hb hml hr hlk hown hts hC hp ls hl
  have hl : lv_has ls 3 [(0, .ref (g 0)), (1, .int (nI d))] := hl
  refine lv_aload_n hx hb dX1_answered_0 rfl (lv_at hl 0 rfl) ?_
  refine m_get 1 (by decide) hx hb hts hown hC hp m_l13 dX1_answered_1 ?_
  refine lv_iconst (v := 5) hx hb dX1_answered_4 (by decide) ?_
  refine lv_aload_n hx hb dX1_answered_5 rfl (lv_at hl 0 rfl) ?_
  refine m_get 8 (by decide) hx hb hts hown hC hp m_l34 dX1_answered_6 ?_
  refine lv_iload_n hx hb dX1_answered_9 rfl (lv_at hl 1 rfl) ?_
  refine m_ild (μ := μ) 8 d (nI t) (by decide) (rfl) (by show d < 9; omega) (hat) hx hb hC hp dX1_answered_10 ?_
  refine lv_imul hx hb dX1_answered_11 ?_
  refine lv_aload_n hx hb dX1_answered_12 rfl (lv_at hl 0 rfl) ?_
  refine m_get 10 (by decide) hx hb hts hown hC hp m_l40 dX1_answered_13 ?_
  refine lv_iload_n hx hb dX1_answered_16 rfl (lv_at hl 1 rfl) ?_
  refine m_ild (μ := μ) 10 d (nI ((k + 1))) (by decide) (rfl) (by show d < 9; omega) (hx0) hx hb hC hp dX1_answered_17 ?_
  refine lv_iadd hx hb dX1_answered_18 ?_
  refine lv_iconst (v := 1) hx hb dX1_answered_19 (by decide) ?_
  refine lv_isub hx hb dX1_answered_20 ?_
  refine m_ild (μ := μ) 1 (5 * t + k) (μ.1 1 (5 * t + k)) (by decide) ((m_is (a := 5 * t + k) (m_ia (a := (5 * t)) (b := (k + 1)) (m_im (a := 5) (b := t) rfl rfl) rfl))) (by show (5 * t + k) < 40; omega) (rfl) hx hb hC hp dX1_answered_21 ?_
  refine lv_istore_n (lv' := [(2, .int (μ.1 1 (5 * t + k))), (0, .ref (g 0)), (1, .int (nI d))]) hx hb dX1_answered_22 rfl hl (by decide) rfl (fun ls hl => ?_)
  refine lv_aload_n hx hb dX1_answered_23 rfl (lv_at hl 1 rfl) ?_
  refine m_geti (μ := μ) 2 (μ.2 2) (by decide) (rfl) hx hb hts hown hC hp m_l57 dX1_answered_24 ?_
  refine lv_if_eq (tgt := 53) hx hb dX1_answered_27 (by decide) (fun c_1 => ?_) (fun c_1 => ?_)
  · refine lv_aload_n hx hb dX1_answered_53 rfl (lv_at hl 1 rfl) ?_
    refine lv_aload_n hx hb dX1_answered_54 rfl (lv_at hl 1 rfl) ?_
    refine m_geti (μ := μ) 2 (μ.2 2) (by decide) (rfl) hx hb hts hown hC hp m_l57 dX1_answered_55 ?_
    refine lv_if_eq (tgt := 83) hx hb dX1_answered_58 (by decide) (fun c_2 => ?_) (fun c_2 => ?_)
    · refine lv_aload_n hx hb dX1_answered_83 rfl (lv_at hl 1 rfl) ?_
      refine m_get 4 (by decide) hx hb hts hown hC hp m_l22 dX1_answered_84 ?_
      refine lv_bipush (v := 8) hx hb dX1_answered_87 (by decide) ?_
      refine lv_aload_n hx hb dX1_answered_89 rfl (lv_at hl 1 rfl) ?_
      refine m_geti (μ := μ) 0 (nI w) (by decide) (hw0) hx hb hts hown hC hp m_l53 dX1_answered_90 ?_
      refine lv_imul hx hb dX1_answered_93 ?_
      refine lv_iload_n hx hb dX1_answered_94 rfl (lv_at hl 0 rfl) ?_
      refine lv_bipush (v := 7) hx hb dX1_answered_95 (by decide) ?_
      refine lv_iand hx hb dX1_answered_97 ?_
      refine lv_iadd hx hb dX1_answered_98 ?_
      have h8 := (x_m7 (μ.1 1 (5 * t + k))).2
      refine m_ild (μ := μ) 4 (8 * w + ((μ.1 1 (5 * t + k)) &&& 7).toNatClampNeg) (μ.1 4 (8 * w + ((μ.1 1 (5 * t + k)) &&& 7).toNatClampNeg)) (by decide) ((m_ia (a := 8 * w) (m_im (a := 8) (b := w) rfl rfl) (x_m7 (μ.1 1 (5 * t + k))).1)) (by show (8 * w + ((μ.1 1 (5 * t + k)) &&& 7).toNatClampNeg) < 16; omega) (rfl) hx hb hC hp dX1_answered_99 ?_
      refine m_callV (n := 1) [.int (μ.1 4 (8 * w + ((μ.1 1 (5 * t + k)) &&& 7).toNatClampNeg))] hx hb hml hown hts hC hp (cm_note l D cI g μ w (μ.1 4 (8 * w + ((μ.1 1 (5 * t + k)) &&& 7).toNatClampNeg)) hw (hw0)) gVX1_66 (by decide +kernel) ⟨rfl, rfl, by show 0 + 1 ≤ 2; omega, by show 8 + (3 + 11) + 0 ≤ 46; omega⟩ rfl hl.1 rfl (Nat.le_of_ble_eq_true rfl) ⟨Nat.zero_le _, Nat.zero_le _⟩ dX1_answered_100 (fun H locs hp => ?_)
      refine lv_aload_n hx hb dX1_answered_103 rfl (lv_at hl 1 rfl) ?_
      refine m_get 9 (by decide) hx hb hts hown hC hp m_l37 dX1_answered_104 ?_
      refine lv_iload_n hx hb dX1_answered_107 rfl (lv_at hl 2 rfl) ?_
      refine lv_iconst (v := 1) hx hb dX1_answered_108 (by decide) ?_
      refine m_ist 9 d (by decide) (rfl) (by show d < 9; omega) hx hb hC hp dX1_answered_109 (fun H locs hp => ?_)
      exact m_vret hx hb hr hlk hp (by unfold m_ans; rw [if_neg (fun h => h.1 c_1), if_pos c_1]) dX1_answered_110
    · refine lv_sipush (v := 1000) hx hb dX1_answered_61 (by decide) ?_
      refine lv_bipush (v := 100) hx hb dX1_answered_64 (by decide) ?_
      refine lv_aload_n hx hb dX1_answered_66 rfl (lv_at hl 1 rfl) ?_
      refine m_geti (μ := μ) 2 (μ.2 2) (by decide) (rfl) hx hb hts hown hC hp m_l57 dX1_answered_67 ?_
      refine lv_imul hx hb dX1_answered_70 ?_
      refine lv_iadd hx hb dX1_answered_71 ?_
      refine lv_aload_n hx hb dX1_answered_72 rfl (lv_at hl 1 rfl) ?_
      refine m_geti (μ := μ) 3 (μ.2 3) (by decide) (rfl) hx hb hts hown hC hp m_l60 dX1_answered_73 ?_
      refine lv_bipush (v := 63) hx hb dX1_answered_76 (by decide) ?_
      refine lv_iand hx hb dX1_answered_78 ?_
      refine lv_iadd hx hb dX1_answered_79 ?_
      refine lv_goto (tgt := 100) hx hb dX1_answered_80 (by decide) ?_
      refine m_callV (n := 1) [.int ((1000 + (100 * (μ.2 2))) + ((μ.2 3) &&& 63))] hx hb hml hown hts hC hp (cm_note l D cI g μ w ((1000 + (100 * (μ.2 2))) + ((μ.2 3) &&& 63)) hw (hw0)) gVX1_66 (by decide +kernel) ⟨rfl, rfl, by show 0 + 1 ≤ 2; omega, by show 8 + (3 + 11) + 0 ≤ 46; omega⟩ rfl hl.1 rfl (Nat.le_of_ble_eq_true rfl) ⟨Nat.zero_le _, Nat.zero_le _⟩ dX1_answered_100 (fun H locs hp => ?_)
      refine lv_aload_n hx hb dX1_answered_103 rfl (lv_at hl 1 rfl) ?_
      refine m_get 9 (by decide) hx hb hts hown hC hp m_l37 dX1_answered_104 ?_
      refine lv_iload_n hx hb dX1_answered_107 rfl (lv_at hl 2 rfl) ?_
      refine lv_iconst (v := 1) hx hb dX1_answered_108 (by decide) ?_
      refine m_ist 9 d (by decide) (rfl) (by show d < 9; omega) hx hb hC hp dX1_answered_109 (fun H locs hp => ?_)
      exact m_vret hx hb hr hlk hp (absurd c_1 c_2) dX1_answered_110
  · refine lv_aload_n hx hb dX1_answered_30 rfl (lv_at hl 1 rfl) ?_
    refine m_get 9 (by decide) hx hb hts hown hC hp m_l37 dX1_answered_31 ?_
    refine lv_iload_n hx hb dX1_answered_34 rfl (lv_at hl 2 rfl) ?_
    refine m_ild (μ := μ) 9 d (μ.1 9 d) (by decide) (rfl) (by show d < 9; omega) (rfl) hx hb hC hp dX1_answered_35 ?_
    refine lv_iconst (v := 2) hx hb dX1_answered_36 (by decide) ?_
    refine lv_icmp_ne (tgt := 53) hx hb dX1_answered_37 (by decide) (fun c_3 => ?_) (fun c_3 => ?_)
    · refine lv_aload_n hx hb dX1_answered_53 rfl (lv_at hl 1 rfl) ?_
      refine lv_aload_n hx hb dX1_answered_54 rfl (lv_at hl 1 rfl) ?_
      refine m_geti (μ := μ) 2 (μ.2 2) (by decide) (rfl) hx hb hts hown hC hp m_l57 dX1_answered_55 ?_
      refine lv_if_eq (tgt := 83) hx hb dX1_answered_58 (by decide) (fun c_4 => ?_) (fun c_4 => ?_)
      · refine lv_aload_n hx hb dX1_answered_83 rfl (lv_at hl 1 rfl) ?_
        refine m_get 4 (by decide) hx hb hts hown hC hp m_l22 dX1_answered_84 ?_
        refine lv_bipush (v := 8) hx hb dX1_answered_87 (by decide) ?_
        refine lv_aload_n hx hb dX1_answered_89 rfl (lv_at hl 1 rfl) ?_
        refine m_geti (μ := μ) 0 (nI w) (by decide) (hw0) hx hb hts hown hC hp m_l53 dX1_answered_90 ?_
        refine lv_imul hx hb dX1_answered_93 ?_
        refine lv_iload_n hx hb dX1_answered_94 rfl (lv_at hl 0 rfl) ?_
        refine lv_bipush (v := 7) hx hb dX1_answered_95 (by decide) ?_
        refine lv_iand hx hb dX1_answered_97 ?_
        refine lv_iadd hx hb dX1_answered_98 ?_
        have h8 := (x_m7 (μ.1 1 (5 * t + k))).2
        refine m_ild (μ := μ) 4 (8 * w + ((μ.1 1 (5 * t + k)) &&& 7).toNatClampNeg) (μ.1 4 (8 * w + ((μ.1 1 (5 * t + k)) &&& 7).toNatClampNeg)) (by decide) ((m_ia (a := 8 * w) (m_im (a := 8) (b := w) rfl rfl) (x_m7 (μ.1 1 (5 * t + k))).1)) (by show (8 * w + ((μ.1 1 (5 * t + k)) &&& 7).toNatClampNeg) < 16; omega) (rfl) hx hb hC hp dX1_answered_99 ?_
        refine m_callV (n := 1) [.int (μ.1 4 (8 * w + ((μ.1 1 (5 * t + k)) &&& 7).toNatClampNeg))] hx hb hml hown hts hC hp (cm_note l D cI g μ w (μ.1 4 (8 * w + ((μ.1 1 (5 * t + k)) &&& 7).toNatClampNeg)) hw (hw0)) gVX1_66 (by decide +kernel) ⟨rfl, rfl, by show 0 + 1 ≤ 2; omega, by show 8 + (3 + 11) + 0 ≤ 46; omega⟩ rfl hl.1 rfl (Nat.le_of_ble_eq_true rfl) ⟨Nat.zero_le _, Nat.zero_le _⟩ dX1_answered_100 (fun H locs hp => ?_)
        refine lv_aload_n hx hb dX1_answered_103 rfl (lv_at hl 1 rfl) ?_
        refine m_get 9 (by decide) hx hb hts hown hC hp m_l37 dX1_answered_104 ?_
        refine lv_iload_n hx hb dX1_answered_107 rfl (lv_at hl 2 rfl) ?_
        refine lv_iconst (v := 1) hx hb dX1_answered_108 (by decide) ?_
        refine m_ist 9 d (by decide) (rfl) (by show d < 9; omega) hx hb hC hp dX1_answered_109 (fun H locs hp => ?_)
        exact m_vret hx hb hr hlk hp (absurd c_4 c_1) dX1_answered_110
      · refine lv_sipush (v := 1000) hx hb dX1_answered_61 (by decide) ?_
        refine lv_bipush (v := 100) hx hb dX1_answered_64 (by decide) ?_
        refine lv_aload_n hx hb dX1_answered_66 rfl (lv_at hl 1 rfl) ?_
        refine m_geti (μ := μ) 2 (μ.2 2) (by decide) (rfl) hx hb hts hown hC hp m_l57 dX1_answered_67 ?_
        refine lv_imul hx hb dX1_answered_70 ?_
        refine lv_iadd hx hb dX1_answered_71 ?_
        refine lv_aload_n hx hb dX1_answered_72 rfl (lv_at hl 1 rfl) ?_
        refine m_geti (μ := μ) 3 (μ.2 3) (by decide) (rfl) hx hb hts hown hC hp m_l60 dX1_answered_73 ?_
        refine lv_bipush (v := 63) hx hb dX1_answered_76 (by decide) ?_
        refine lv_iand hx hb dX1_answered_78 ?_
        refine lv_iadd hx hb dX1_answered_79 ?_
        refine lv_goto (tgt := 100) hx hb dX1_answered_80 (by decide) ?_
        refine m_callV (n := 1) [.int ((1000 + (100 * (μ.2 2))) + ((μ.2 3) &&& 63))] hx hb hml hown hts hC hp (cm_note l D cI g μ w ((1000 + (100 * (μ.2 2))) + ((μ.2 3) &&& 63)) hw (hw0)) gVX1_66 (by decide +kernel) ⟨rfl, rfl, by show 0 + 1 ≤ 2; omega, by show 8 + (3 + 11) + 0 ≤ 46; omega⟩ rfl hl.1 rfl (Nat.le_of_ble_eq_true rfl) ⟨Nat.zero_le _, Nat.zero_le _⟩ dX1_answered_100 (fun H locs hp => ?_)
        refine lv_aload_n hx hb dX1_answered_103 rfl (lv_at hl 1 rfl) ?_
        refine m_get 9 (by decide) hx hb hts hown hC hp m_l37 dX1_answered_104 ?_
        refine lv_iload_n hx hb dX1_answered_107 rfl (lv_at hl 2 rfl) ?_
        refine lv_iconst (v := 1) hx hb dX1_answered_108 (by decide) ?_
        refine m_ist 9 d (by decide) (rfl) (by show d < 9; omega) hx hb hC hp dX1_answered_109 (fun H locs hp => ?_)
        exact m_vret hx hb hr hlk hp (by unfold m_ans; rw [if_neg (fun h => c_3 h.2), if_neg c_1]) dX1_answered_110
    · refine lv_aload_n hx hb dX1_answered_40 rfl (lv_at hl 1 rfl) ?_
      refine lv_aload_n hx hb dX1_answered_41 rfl (lv_at hl 1 rfl) ?_
      refine m_geti (μ := μ) 2 (μ.2 2) (by decide) (rfl) hx hb hts hown hC hp m_l57 dX1_answered_42 ?_
      refine lv_aload_n hx hb dX1_answered_45 rfl (lv_at hl 1 rfl) ?_
      refine m_geti (μ := μ) 3 (μ.2 3) (by decide) (rfl) hx hb hts hown hC hp m_l60 dX1_answered_46 ?_
      refine m_callV (n := 2) [.int (μ.2 2), .int (μ.2 3)] hx hb hml hown hts hC hp (cm_end l D cI g μ w d t q (μ.2 2) (μ.2 3) hw (by omega) ht hq hw0 hd0 hat hgd) gVX1_79 (by decide +kernel) ⟨rfl, rfl, by show 1 + 1 ≤ 2; omega, by show 8 + (5 + 11) + 22 ≤ 46; omega⟩ rfl hl.1 rfl (Nat.le_of_ble_eq_true rfl) ⟨Nat.zero_le _, Nat.zero_le _⟩ dX1_answered_49 (fun H locs hp => ?_)
      exact m_vret hx hb hr hlk hp (by unfold m_ans; rw [if_pos ⟨c_1, c_3⟩]) dX1_answered_52

set_option maxHeartbeats 4000000 in
set_option maxRecDepth 100000 in
theorem lm_run {p : Program} {l : Launch} {e : Env} {s : State} {m : MethodId} {args : Array Value} {below : List Frame} {meth : Method} {c : Code} {D : va_G} {cI : ClassId} {g : Nat → Nat} (hb : c.code = cX1_run) (hml : c.maxLocals = 2) (hr : meth.sig.returnType = none) (hx : p.tables.exec = Jvm.exec) (hown : s.vm.findClass RX1 = some m.cls) (hlk : meth.locks = false) (hts : ∀ w ∈ lw_g, w.before args s = true) (hC : m_C D cI g s) {F : mT} (hdep : F.2 1 = nI 0) :
    ∀ (n : Nat) (μ : mT), m_Runs n μ F → ∀ (H : Heap) (locs : List Loc), m_P D cI g s H locs μ → ∀ (ls : Array Slot), lv_has ls 2 [(0, .ref (g 0))] →
      W p l e { frames := 3, cells := 0, slots := 0, locals := 70 } s m args below meth c H locs 0 0 (MQ below (va_Qv (fun ν => ν = F) (fun ν t => va_P D vwCl (fw 14 g (m_E cI g ν)) t.heap) (fw_A 14 g)) args s 0 0 (fw_A 14 g)) (F0 m 0 ls []) := by
  intro n
  induction n with
  | zero =>
    intro μ hrun H locs hp ls hl
    have hrun : F = μ := hrun
    subst hrun
    refine lv_aload_n hx hb dX1_run_0 rfl (lv_at hl 0 rfl) ?_
    refine m_geti (μ := F) 1 (nI 0) (by decide) (hdep) hx hb hts hown hC hp m_l63 dX1_run_1 ?_
    refine lv_if_le (tgt := 57) hx hb dX1_run_4 (by decide) (fun c_1 => ?_) (fun c_1 => absurd (by decide) c_1)
    exact m_vret hx hb hr hlk hp (rfl) dX1_run_57
  | succ n ih =>
    intro μ hrun H locs hp ls hl
    obtain ⟨ρ, ⟨w, d, t, x, q, ⟨hw0, hd0, hat, hx0, hgd, hw, hd, ht, hq⟩, h⟩, hrest⟩ := hrun
    have hne : ¬ nI (d + 1) ≤ 0 := nI_nle (by omega) (by omega)
    rcases h with ⟨h9, hx2, hbf, rfl⟩ | ⟨h9, hqx, ⟨z, hz, hsz, hxz⟩, rfl⟩ | ⟨h90, h91, k, rfl, hk5, rfl⟩
    · have h9 : μ.1 9 d = nI 0 := h9
      refine lv_aload_n hx hb dX1_run_0 rfl (lv_at hl 0 rfl) ?_
      refine m_geti (μ := μ) 1 (nI ((d + 1))) (by decide) (hd0) hx hb hts hown hC hp m_l63 dX1_run_1 ?_
      refine lv_if_le (tgt := 57) hx hb dX1_run_4 (by decide) (fun c_1 => absurd c_1 hne) (fun c_1 => ?_)
      refine lv_aload_n hx hb dX1_run_7 rfl (lv_at hl 0 rfl) ?_
      refine m_geti (μ := μ) 1 (nI ((d + 1))) (by decide) (hd0) hx hb hts hown hC hp m_l63 dX1_run_8 ?_
      refine lv_iconst (v := 1) hx hb dX1_run_11 (by decide) ?_
      refine lv_isub hx hb dX1_run_12 ?_
      rw [nI_pred d]
      refine lv_istore_n (lv' := [(1, .int (nI d)), (0, .ref (g 0))]) hx hb dX1_run_13 rfl hl (by decide) rfl (fun ls hl => ?_)
      refine lv_aload_n hx hb dX1_run_14 rfl (lv_at hl 1 rfl) ?_
      refine m_get 9 (by decide) hx hb hts hown hC hp m_l37 dX1_run_15 ?_
      refine lv_iload_n hx hb dX1_run_18 rfl (lv_at hl 0 rfl) ?_
      refine m_ild (μ := μ) 9 d (nI 0) (by decide) (rfl) (by show d < 9; omega) (h9) hx hb hC hp dX1_run_19 ?_
      refine lv_if_ne (tgt := 31) hx hb dX1_run_20 (by decide) (fun c_2 => absurd c_2 (fun h => h rfl)) (fun c_2 => ?_)
      refine lv_aload_n hx hb dX1_run_23 rfl (lv_at hl 1 rfl) ?_
      refine lv_iload_n hx hb dX1_run_24 rfl (lv_at hl 0 rfl) ?_
      refine m_callV (n := 1) [.int (nI d)] hx hb hml hown hts hC hp (cm_first l D cI g μ w d t x q hw hd ht hq hw0 hd0 hat hgd hbf hx0 hx2) gVX1_70 (by decide +kernel) ⟨rfl, rfl, by show 2 + 1 ≤ 3; omega, by show 8 + (3 + 11) + 46 ≤ 70; omega⟩ rfl hl.1 rfl (Nat.le_of_ble_eq_true rfl) ⟨Nat.zero_le _, Nat.zero_le _⟩ dX1_run_25 (fun H locs hp => ?_)
      refine lv_goto (tgt := 54) hx hb dX1_run_28 (by decide) ?_
      refine lv_goto (tgt := 0) hx hb dX1_run_54 (by decide) ?_
      exact ih (m_first w d t x q μ) hrest H locs hp ls (lv_sub hl [1] rfl)
    · skip
      refine lv_aload_n hx hb dX1_run_0 rfl (lv_at hl 0 rfl) ?_
      refine m_geti (μ := μ) 1 (nI ((d + 1))) (by decide) (hd0) hx hb hts hown hC hp m_l63 dX1_run_1 ?_
      refine lv_if_le (tgt := 57) hx hb dX1_run_4 (by decide) (fun c_1 => absurd c_1 hne) (fun c_1 => ?_)
      refine lv_aload_n hx hb dX1_run_7 rfl (lv_at hl 0 rfl) ?_
      refine m_geti (μ := μ) 1 (nI ((d + 1))) (by decide) (hd0) hx hb hts hown hC hp m_l63 dX1_run_8 ?_
      refine lv_iconst (v := 1) hx hb dX1_run_11 (by decide) ?_
      refine lv_isub hx hb dX1_run_12 ?_
      rw [nI_pred d]
      refine lv_istore_n (lv' := [(1, .int (nI d)), (0, .ref (g 0))]) hx hb dX1_run_13 rfl hl (by decide) rfl (fun ls hl => ?_)
      refine lv_aload_n hx hb dX1_run_14 rfl (lv_at hl 1 rfl) ?_
      refine m_get 9 (by decide) hx hb hts hown hC hp m_l37 dX1_run_15 ?_
      refine lv_iload_n hx hb dX1_run_18 rfl (lv_at hl 0 rfl) ?_
      refine m_ild (μ := μ) 9 d 1 (by decide) (rfl) (by show d < 9; omega) (h9) hx hb hC hp dX1_run_19 ?_
      refine lv_if_ne (tgt := 31) hx hb dX1_run_20 (by decide) (fun c_2 => ?_) (fun c_2 => absurd c_2 (by decide))
      refine lv_aload_n hx hb dX1_run_31 rfl (lv_at hl 1 rfl) ?_
      refine m_get 9 (by decide) hx hb hts hown hC hp m_l37 dX1_run_32 ?_
      refine lv_iload_n hx hb dX1_run_35 rfl (lv_at hl 0 rfl) ?_
      refine m_ild (μ := μ) 9 d 1 (by decide) (rfl) (by show d < 9; omega) (h9) hx hb hC hp dX1_run_36 ?_
      refine lv_iconst (v := 1) hx hb dX1_run_37 (by decide) ?_
      refine lv_icmp_ne (tgt := 49) hx hb dX1_run_38 (by decide) (fun c_3 => absurd c_3 (fun h => h rfl)) (fun c_3 => ?_)
      refine lv_aload_n hx hb dX1_run_41 rfl (lv_at hl 1 rfl) ?_
      refine lv_iload_n hx hb dX1_run_42 rfl (lv_at hl 0 rfl) ?_
      refine m_callV (n := 1) [.int (nI d)] hx hb hml hown hts hC hp (cm_work l D cI g μ w d t x q z hw hd ht hq hw0 hd0 hat hgd hx0 hsz hxz hz hqx) gVX1_73 (by decide +kernel) ⟨rfl, rfl, by show 2 + 1 ≤ 3; omega, by show 8 + (4 + 11) + 46 ≤ 70; omega⟩ rfl hl.1 rfl (Nat.le_of_ble_eq_true rfl) ⟨Nat.zero_le _, Nat.zero_le _⟩ dX1_run_43 (fun H locs hp => ?_)
      refine lv_goto (tgt := 54) hx hb dX1_run_46 (by decide) ?_
      refine lv_goto (tgt := 0) hx hb dX1_run_54 (by decide) ?_
      exact ih (m_work w d t x q μ) hrest H locs hp ls (lv_sub hl [1] rfl)
    · skip
      refine lv_aload_n hx hb dX1_run_0 rfl (lv_at hl 0 rfl) ?_
      refine m_geti (μ := μ) 1 (nI ((d + 1))) (by decide) (hd0) hx hb hts hown hC hp m_l63 dX1_run_1 ?_
      refine lv_if_le (tgt := 57) hx hb dX1_run_4 (by decide) (fun c_1 => absurd c_1 hne) (fun c_1 => ?_)
      refine lv_aload_n hx hb dX1_run_7 rfl (lv_at hl 0 rfl) ?_
      refine m_geti (μ := μ) 1 (nI ((d + 1))) (by decide) (hd0) hx hb hts hown hC hp m_l63 dX1_run_8 ?_
      refine lv_iconst (v := 1) hx hb dX1_run_11 (by decide) ?_
      refine lv_isub hx hb dX1_run_12 ?_
      rw [nI_pred d]
      refine lv_istore_n (lv' := [(1, .int (nI d)), (0, .ref (g 0))]) hx hb dX1_run_13 rfl hl (by decide) rfl (fun ls hl => ?_)
      refine lv_aload_n hx hb dX1_run_14 rfl (lv_at hl 1 rfl) ?_
      refine m_get 9 (by decide) hx hb hts hown hC hp m_l37 dX1_run_15 ?_
      refine lv_iload_n hx hb dX1_run_18 rfl (lv_at hl 0 rfl) ?_
      refine m_ild (μ := μ) 9 d (μ.1 9 d) (by decide) (rfl) (by show d < 9; omega) (rfl) hx hb hC hp dX1_run_19 ?_
      refine lv_if_ne (tgt := 31) hx hb dX1_run_20 (by decide) (fun c_2 => ?_) (fun c_2 => absurd c_2 h90)
      refine lv_aload_n hx hb dX1_run_31 rfl (lv_at hl 1 rfl) ?_
      refine m_get 9 (by decide) hx hb hts hown hC hp m_l37 dX1_run_32 ?_
      refine lv_iload_n hx hb dX1_run_35 rfl (lv_at hl 0 rfl) ?_
      refine m_ild (μ := μ) 9 d (μ.1 9 d) (by decide) (rfl) (by show d < 9; omega) (rfl) hx hb hC hp dX1_run_36 ?_
      refine lv_iconst (v := 1) hx hb dX1_run_37 (by decide) ?_
      refine lv_icmp_ne (tgt := 49) hx hb dX1_run_38 (by decide) (fun c_3 => ?_) (fun c_3 => absurd c_3 h91)
      refine lv_aload_n hx hb dX1_run_49 rfl (lv_at hl 1 rfl) ?_
      refine lv_iload_n hx hb dX1_run_50 rfl (lv_at hl 0 rfl) ?_
      refine m_callV (n := 1) [.int (nI d)] hx hb hml hown hts hC hp (cm_answered l D cI g μ w d t k q hw hd ht hq hw0 hd0 hat hgd hx0 hk5) gVX1_76 (by decide +kernel) ⟨rfl, rfl, by show 2 + 1 ≤ 3; omega, by show 8 + (3 + 11) + 46 ≤ 70; omega⟩ rfl hl.1 rfl (Nat.le_of_ble_eq_true rfl) ⟨Nat.zero_le _, Nat.zero_le _⟩ dX1_run_51 (fun H locs hp => ?_)
      refine lv_goto (tgt := 0) hx hb dX1_run_54 (by decide) ?_
      exact ih (m_ans w d t k q μ) hrest H locs hp ls (lv_sub hl [1] rfl)

set_option maxHeartbeats 4000000 in
set_option maxRecDepth 100000 in
theorem cm_run (l : Launch) (D : va_G) (cI : ClassId) (g : Nat → Nat) (μ : mT) (ν : mT) (hrun : m_Rs μ ν) (hdep : ν.2 1 = nI 0) : m_Mv l yX1_run (.code yX1_run cX1_run 2 none :: lw_g) { frames := 3, cells := 0, slots := 0, locals := 70 } D cI g μ [] (ν) := by
  refine m_bodyv rfl rfl (Nat.le_of_ble_eq_true rfl) ?_
  intro p e s m below meth c hx hb hml hr hlk hown hts hC hp ls hl
  have hl : lv_has ls 2 [(0, .ref (g 0))] := hl
  obtain ⟨n, hn⟩ := hrun
  exact lm_run hb hml hr hx hown hlk hts hC hdep n μ hn _ _ hp ls hl
