set_option maxHeartbeats 4000000 in
set_option maxRecDepth 100000 in
theorem cm_first0n (l : Launch) (D : va_G) (cI : ClassId) (g : Nat → Nat) (μ : mT) (w d t q : Nat) (hw : w < 2) (hd : d < 8) (ht : t < 8) (hq : q ≤ 5) (hw0 : μ.2 0 = nI w) (hd0 : μ.2 1 = nI (d + 1)) (hat : μ.1 8 d = nI t) (hgd : μ.1 11 d = nI q) (hbf : m_bef μ) (hx0 : μ.1 10 d = nI 0) (hs : x_sup t = none) : m_Mv l yX1_first (.code yX1_first cX1_first 3 none :: lw_g) { frames := 2, cells := 0, slots := 0, locals := 46 } D cI g μ [.int (nI d)] (m_first w d t 0 q μ) := by
  refine m_bodyv rfl rfl (Nat.le_of_ble_eq_true rfl) ?_
  intro p e s m below meth c hx hb hml hr hlk hown hts hC hp ls hl
  have hl : lv_has ls 3 [(0, .ref (g 0)), (1, .int (nI d))] := hl
  refine lv_aload_n hx hb dX1_first_0 rfl (lv_at hl 0 rfl) ?_
  refine m_get 10 (by decide) hx hb hts hown hC hp m_l40 dX1_first_1 ?_
  refine lv_iload_n hx hb dX1_first_4 rfl (lv_at hl 1 rfl) ?_
  refine m_ild (μ := μ) 10 d (nI 0) (by decide) (rfl) (by show d < 9; omega) (hx0) hx hb hC hp dX1_first_5 ?_
  refine lv_if_le (tgt := 29) hx hb dX1_first_6 (by decide) (fun c_1 => ?_) (fun c_1 => absurd (by decide) c_1)
  refine lv_aload_n hx hb dX1_first_29 rfl (lv_at hl 0 rfl) ?_
  refine m_get 10 (by decide) hx hb hts hown hC hp m_l40 dX1_first_30 ?_
  refine lv_iload_n hx hb dX1_first_33 rfl (lv_at hl 1 rfl) ?_
  refine m_ild (μ := μ) 10 d (nI 0) (by decide) (rfl) (by show d < 9; omega) (hx0) hx hb hC hp dX1_first_34 ?_
  refine lv_iconst (v := 2) hx hb dX1_first_35 (by decide) ?_
  refine lv_icmp_ge (tgt := 62) hx hb dX1_first_36 (by decide) (fun c_2 => absurd c_2 (by decide)) (fun c_2 => ?_)
  refine lv_aload_n hx hb dX1_first_39 rfl (lv_at hl 0 rfl) ?_
  refine m_get 7 (by decide) hx hb hts hown hC hp m_l31 dX1_first_40 ?_
  refine lv_iconst (v := 2) hx hb dX1_first_43 (by decide) ?_
  refine lv_aload_n hx hb dX1_first_44 rfl (lv_at hl 0 rfl) ?_
  refine m_get 8 (by decide) hx hb hts hown hC hp m_l34 dX1_first_45 ?_
  refine lv_iload_n hx hb dX1_first_48 rfl (lv_at hl 1 rfl) ?_
  refine m_ild (μ := μ) 8 d (nI t) (by decide) (rfl) (by show d < 9; omega) (hat) hx hb hC hp dX1_first_49 ?_
  refine lv_imul hx hb dX1_first_50 ?_
  refine lv_aload_n hx hb dX1_first_51 rfl (lv_at hl 0 rfl) ?_
  refine m_get 10 (by decide) hx hb hts hown hC hp m_l40 dX1_first_52 ?_
  refine lv_iload_n hx hb dX1_first_55 rfl (lv_at hl 1 rfl) ?_
  refine m_ild (μ := μ) 10 d (nI 0) (by decide) (rfl) (by show d < 9; omega) (hx0) hx hb hC hp dX1_first_56 ?_
  refine lv_iadd hx hb dX1_first_57 ?_
  refine m_ild (μ := μ) 7 ((2 * t) + 0) (nI 0) (by decide) ((m_ia (a := (2 * t)) (b := 0) (m_im (a := 2) (b := t) rfl rfl) rfl)) (by show ((2 * t) + 0) < 16; omega) ((by rw [Nat.add_zero, (hbf t ht).1, hs]; rfl)) hx hb hC hp dX1_first_58 ?_
  refine lv_goto (tgt := 63) hx hb dX1_first_59 (by decide) ?_
  refine lv_istore_n (lv' := [(2, .int (nI 0)), (0, .ref (g 0)), (1, .int (nI d))]) hx hb dX1_first_63 rfl hl (by decide) rfl (fun ls hl => ?_)
  refine lv_aload_n hx hb dX1_first_64 rfl (lv_at hl 1 rfl) ?_
  refine m_get 10 (by decide) hx hb hts hown hC hp m_l40 dX1_first_65 ?_
  refine lv_iload_n hx hb dX1_first_68 rfl (lv_at hl 2 rfl) ?_
  refine lv_dup2_11 hx hb dX1_first_69 rfl rfl ?_
  refine m_ild (μ := μ) 10 d (nI 0) (by decide) (rfl) (by show d < 9; omega) (hx0) hx hb hC hp dX1_first_70 ?_
  refine lv_iconst (v := 1) hx hb dX1_first_71 (by decide) ?_
  refine lv_iadd hx hb dX1_first_72 ?_
  rw [nI_1 0]
  refine m_ist 10 d (by decide) (rfl) (by show d < 9; omega) hx hb hC hp dX1_first_73 (fun H locs hp => ?_)
  refine lv_iload_n hx hb dX1_first_74 rfl (lv_at hl 0 rfl) ?_
  refine lv_if_le (tgt := 88) hx hb dX1_first_75 (by decide) (fun c_3 => ?_) (fun c_3 => absurd (by decide) c_3)
  refine lv_aload_n hx hb dX1_first_88 rfl (lv_at hl 1 rfl) ?_
  refine m_get 10 (by decide) hx hb hts hown hC hp m_l40 dX1_first_89 ?_
  refine lv_iload_n hx hb dX1_first_92 rfl (lv_at hl 2 rfl) ?_
  refine m_ild (μ := (m_sA μ 10 d (nI ((0 + 1))))) 10 d (nI ((0 + 1))) (by decide) (rfl) (by show d < 9; omega) (m_sA_at _ _ _ _) hx hb hC hp dX1_first_93 ?_
  refine lv_iconst (v := 2) hx hb dX1_first_94 (by decide) ?_
  refine lv_icmp_gt (tgt := 114) hx hb dX1_first_95 (by decide) (fun c_4 => absurd c_4 (by decide)) (fun c_4 => ?_)
  refine lv_aload_n hx hb dX1_first_98 rfl (lv_at hl 1 rfl) ?_
  refine m_get 7 (by decide) hx hb hts hown hC hp m_l31 dX1_first_99 ?_
  refine lv_iconst (v := 2) hx hb dX1_first_102 (by decide) ?_
  refine lv_aload_n hx hb dX1_first_103 rfl (lv_at hl 1 rfl) ?_
  refine m_get 8 (by decide) hx hb hts hown hC hp m_l34 dX1_first_104 ?_
  refine lv_iload_n hx hb dX1_first_107 rfl (lv_at hl 2 rfl) ?_
  refine m_ild (μ := (m_sA μ 10 d (nI ((0 + 1))))) 8 d (nI t) (by decide) (rfl) (by show d < 9; omega) (hat) hx hb hC hp dX1_first_108 ?_
  refine lv_imul hx hb dX1_first_109 ?_
  refine m_ild (μ := (m_sA μ 10 d (nI ((0 + 1))))) 7 (2 * t) (nI 0) (by decide) ((m_im (a := 2) (b := t) rfl rfl)) (by show (2 * t) < 16; omega) ((by rw [m_sA_na _ _ _ (show 7 ≠ 10 by decide), (hbf t ht).1, hs]; rfl)) hx hb hC hp dX1_first_110 ?_
  refine lv_if_ne (tgt := 144) hx hb dX1_first_111 (by decide) (fun c_5 => absurd c_5 (fun h => h rfl)) (fun c_5 => ?_)
  refine lv_aload_n hx hb dX1_first_114 rfl (lv_at hl 1 rfl) ?_
  refine m_get 9 (by decide) hx hb hts hown hC hp m_l37 dX1_first_115 ?_
  refine lv_iload_n hx hb dX1_first_118 rfl (lv_at hl 2 rfl) ?_
  refine lv_iconst (v := 1) hx hb dX1_first_119 (by decide) ?_
  refine m_ist 9 d (by decide) (rfl) (by show d < 9; omega) hx hb hC hp dX1_first_120 (fun H locs hp => ?_)
  refine lv_aload_n hx hb dX1_first_121 rfl (lv_at hl 1 rfl) ?_
  refine m_get 10 (by decide) hx hb hts hown hC hp m_l40 dX1_first_122 ?_
  refine lv_iload_n hx hb dX1_first_125 rfl (lv_at hl 2 rfl) ?_
  refine lv_iconst (v := 0) hx hb dX1_first_126 (by decide) ?_
  refine m_ist 10 d (by decide) (rfl) (by show d < 9; omega) hx hb hC hp dX1_first_127 (fun H locs hp => ?_)
  refine lv_aload_n hx hb dX1_first_128 rfl (lv_at hl 1 rfl) ?_
  refine lv_bipush (v := 100) hx hb dX1_first_129 (by decide) ?_
  refine lv_aload_n hx hb dX1_first_131 rfl (lv_at hl 1 rfl) ?_
  refine m_get 8 (by decide) hx hb hts hown hC hp m_l34 dX1_first_132 ?_
  refine lv_iload_n hx hb dX1_first_135 rfl (lv_at hl 2 rfl) ?_
  refine m_ild (μ := (m_sA (m_sA (m_sA μ 10 d (nI ((0 + 1)))) 9 d 1) 10 d 0)) 8 d (nI t) (by decide) (rfl) (by show d < 9; omega) (hat) hx hb hC hp dX1_first_136 ?_
  refine lv_iadd hx hb dX1_first_137 ?_
  refine m_callV (n := 1) [.int (100 + nI t)] hx hb hml hown hts hC hp (cm_note l D cI g (m_sA (m_sA (m_sA μ 10 d (nI ((0 + 1)))) 9 d 1) 10 d 0) w (100 + nI t) hw (hw0)) gVX1_66 (by decide +kernel) ⟨rfl, rfl, by show 0 + 1 ≤ 2; omega, by show 8 + (3 + 11) + 0 ≤ 46; omega⟩ rfl hl.1 rfl (Nat.le_of_ble_eq_true rfl) ⟨Nat.zero_le _, Nat.zero_le _⟩ dX1_first_138 (fun H locs hp => ?_)
  refine lv_goto (tgt := 149) hx hb dX1_first_141 (by decide) ?_
  exact m_vret hx hb hr hlk hp (by unfold m_first; rw [if_neg (fun h => h.1 rfl)]; unfold m_nx; rw [if_pos rfl, hs]; show _ = (if 0 = 2 ∨ x_sup t = none then m_go w d t (m_sA μ 10 d (nI (0 + 1))) else m_sI (m_sA μ 10 d (nI (0 + 1))) 2 0); rw [if_pos (Or.inr hs)]; rfl) dX1_first_149

set_option maxHeartbeats 4000000 in
set_option maxRecDepth 100000 in
theorem cm_first0s (l : Launch) (D : va_G) (cI : ClassId) (g : Nat → Nat) (μ : mT) (w d t q : Nat) (hw : w < 2) (hd : d < 8) (ht : t < 8) (hq : q ≤ 5) (hw0 : μ.2 0 = nI w) (hd0 : μ.2 1 = nI (d + 1)) (hat : μ.1 8 d = nI t) (hgd : μ.1 11 d = nI q) (hbf : m_bef μ) (hx0 : μ.1 10 d = nI 0) {i : Nat} (hs : x_sup t = some i) (hj : i < 8) : m_Mv l yX1_first (.code yX1_first cX1_first 3 none :: lw_g) { frames := 2, cells := 0, slots := 0, locals := 46 } D cI g μ [.int (nI d)] (m_first w d t 0 q μ) := by
  refine m_bodyv rfl rfl (Nat.le_of_ble_eq_true rfl) ?_
  intro p e s m below meth c hx hb hml hr hlk hown hts hC hp ls hl
  have hl : lv_has ls 3 [(0, .ref (g 0)), (1, .int (nI d))] := hl
  refine lv_aload_n hx hb dX1_first_0 rfl (lv_at hl 0 rfl) ?_
  refine m_get 10 (by decide) hx hb hts hown hC hp m_l40 dX1_first_1 ?_
  refine lv_iload_n hx hb dX1_first_4 rfl (lv_at hl 1 rfl) ?_
  refine m_ild (μ := μ) 10 d (nI 0) (by decide) (rfl) (by show d < 9; omega) (hx0) hx hb hC hp dX1_first_5 ?_
  refine lv_if_le (tgt := 29) hx hb dX1_first_6 (by decide) (fun c_1 => ?_) (fun c_1 => absurd (by decide) c_1)
  refine lv_aload_n hx hb dX1_first_29 rfl (lv_at hl 0 rfl) ?_
  refine m_get 10 (by decide) hx hb hts hown hC hp m_l40 dX1_first_30 ?_
  refine lv_iload_n hx hb dX1_first_33 rfl (lv_at hl 1 rfl) ?_
  refine m_ild (μ := μ) 10 d (nI 0) (by decide) (rfl) (by show d < 9; omega) (hx0) hx hb hC hp dX1_first_34 ?_
  refine lv_iconst (v := 2) hx hb dX1_first_35 (by decide) ?_
  refine lv_icmp_ge (tgt := 62) hx hb dX1_first_36 (by decide) (fun c_2 => absurd c_2 (by decide)) (fun c_2 => ?_)
  refine lv_aload_n hx hb dX1_first_39 rfl (lv_at hl 0 rfl) ?_
  refine m_get 7 (by decide) hx hb hts hown hC hp m_l31 dX1_first_40 ?_
  refine lv_iconst (v := 2) hx hb dX1_first_43 (by decide) ?_
  refine lv_aload_n hx hb dX1_first_44 rfl (lv_at hl 0 rfl) ?_
  refine m_get 8 (by decide) hx hb hts hown hC hp m_l34 dX1_first_45 ?_
  refine lv_iload_n hx hb dX1_first_48 rfl (lv_at hl 1 rfl) ?_
  refine m_ild (μ := μ) 8 d (nI t) (by decide) (rfl) (by show d < 9; omega) (hat) hx hb hC hp dX1_first_49 ?_
  refine lv_imul hx hb dX1_first_50 ?_
  refine lv_aload_n hx hb dX1_first_51 rfl (lv_at hl 0 rfl) ?_
  refine m_get 10 (by decide) hx hb hts hown hC hp m_l40 dX1_first_52 ?_
  refine lv_iload_n hx hb dX1_first_55 rfl (lv_at hl 1 rfl) ?_
  refine m_ild (μ := μ) 10 d (nI 0) (by decide) (rfl) (by show d < 9; omega) (hx0) hx hb hC hp dX1_first_56 ?_
  refine lv_iadd hx hb dX1_first_57 ?_
  refine m_ild (μ := μ) 7 ((2 * t) + 0) (nI ((i + 1))) (by decide) ((m_ia (a := (2 * t)) (b := 0) (m_im (a := 2) (b := t) rfl rfl) rfl)) (by show ((2 * t) + 0) < 16; omega) ((by rw [Nat.add_zero, (hbf t ht).1, hs]; rfl)) hx hb hC hp dX1_first_58 ?_
  refine lv_goto (tgt := 63) hx hb dX1_first_59 (by decide) ?_
  refine lv_istore_n (lv' := [(2, .int (nI (i + 1))), (0, .ref (g 0)), (1, .int (nI d))]) hx hb dX1_first_63 rfl hl (by decide) rfl (fun ls hl => ?_)
  refine lv_aload_n hx hb dX1_first_64 rfl (lv_at hl 1 rfl) ?_
  refine m_get 10 (by decide) hx hb hts hown hC hp m_l40 dX1_first_65 ?_
  refine lv_iload_n hx hb dX1_first_68 rfl (lv_at hl 2 rfl) ?_
  refine lv_dup2_11 hx hb dX1_first_69 rfl rfl ?_
  refine m_ild (μ := μ) 10 d (nI 0) (by decide) (rfl) (by show d < 9; omega) (hx0) hx hb hC hp dX1_first_70 ?_
  refine lv_iconst (v := 1) hx hb dX1_first_71 (by decide) ?_
  refine lv_iadd hx hb dX1_first_72 ?_
  rw [nI_1 0]
  refine m_ist 10 d (by decide) (rfl) (by show d < 9; omega) hx hb hC hp dX1_first_73 (fun H locs hp => ?_)
  refine lv_iload_n hx hb dX1_first_74 rfl (lv_at hl 0 rfl) ?_
  refine lv_if_le (tgt := 88) hx hb dX1_first_75 (by decide) (fun c_3 => absurd c_3 (nI_nle (by omega) (by omega))) (fun c_3 => ?_)
  refine lv_aload_n hx hb dX1_first_78 rfl (lv_at hl 1 rfl) ?_
  refine lv_iload_n hx hb dX1_first_79 rfl (lv_at hl 0 rfl) ?_
  refine lv_iconst (v := 1) hx hb dX1_first_80 (by decide) ?_
  refine lv_isub hx hb dX1_first_81 ?_
  rw [nI_pred i]
  refine m_callV (n := 1) [.int (nI i)] hx hb hml hown hts hC hp (cm_begin l D cI g (m_sA μ 10 d (nI ((0 + 1)))) w (d + 1) i _ hw (by omega) hj hw0 hd0 rfl) gVX1_83 (by decide +kernel) ⟨rfl, rfl, by show 0 + 1 ≤ 2; omega, by show 8 + (3 + 11) + 0 ≤ 46; omega⟩ rfl hl.1 rfl (Nat.le_of_ble_eq_true rfl) ⟨Nat.zero_le _, Nat.zero_le _⟩ dX1_first_82 (fun H locs hp => ?_)
  refine lv_goto (tgt := 149) hx hb dX1_first_85 (by decide) ?_
  exact m_vret hx hb hr hlk hp (by unfold m_first; rw [if_neg (fun h => h.1 rfl)]; unfold m_nx; rw [if_pos rfl, hs]; rfl) dX1_first_149

set_option maxHeartbeats 4000000 in
set_option maxRecDepth 100000 in
theorem cm_first1nn (l : Launch) (D : va_G) (cI : ClassId) (g : Nat → Nat) (μ : mT) (w d t q : Nat) (hw : w < 2) (hd : d < 8) (ht : t < 8) (hq : q ≤ 5) (hw0 : μ.2 0 = nI w) (hd0 : μ.2 1 = nI (d + 1)) (hat : μ.1 8 d = nI t) (hgd : μ.1 11 d = nI q) (hbf : m_bef μ) (hx0 : μ.1 10 d = nI 1) (hs : x_sup t = none) (hi : x_ifc t = none) : m_Mv l yX1_first (.code yX1_first cX1_first 3 none :: lw_g) { frames := 2, cells := 0, slots := 0, locals := 46 } D cI g μ [.int (nI d)] (m_first w d t 1 q μ) := by
  refine m_bodyv rfl rfl (Nat.le_of_ble_eq_true rfl) ?_
  intro p e s m below meth c hx hb hml hr hlk hown hts hC hp ls hl
  have hl : lv_has ls 3 [(0, .ref (g 0)), (1, .int (nI d))] := hl
  refine lv_aload_n hx hb dX1_first_0 rfl (lv_at hl 0 rfl) ?_
  refine m_get 10 (by decide) hx hb hts hown hC hp m_l40 dX1_first_1 ?_
  refine lv_iload_n hx hb dX1_first_4 rfl (lv_at hl 1 rfl) ?_
  refine m_ild (μ := μ) 10 d (nI 1) (by decide) (rfl) (by show d < 9; omega) (hx0) hx hb hC hp dX1_first_5 ?_
  refine lv_if_le (tgt := 29) hx hb dX1_first_6 (by decide) (fun c_1 => absurd c_1 (by decide)) (fun c_1 => ?_)
  refine lv_aload_n hx hb dX1_first_9 rfl (lv_at hl 0 rfl) ?_
  refine m_geti (μ := μ) 2 (μ.2 2) (by decide) (rfl) hx hb hts hown hC hp m_l57 dX1_first_10 ?_
  refine lv_if_eq (tgt := 29) hx hb dX1_first_13 (by decide) (fun c_2 => ?_) (fun c_2 => ?_)
  · refine lv_aload_n hx hb dX1_first_29 rfl (lv_at hl 0 rfl) ?_
    refine m_get 10 (by decide) hx hb hts hown hC hp m_l40 dX1_first_30 ?_
    refine lv_iload_n hx hb dX1_first_33 rfl (lv_at hl 1 rfl) ?_
    refine m_ild (μ := μ) 10 d (nI 1) (by decide) (rfl) (by show d < 9; omega) (hx0) hx hb hC hp dX1_first_34 ?_
    refine lv_iconst (v := 2) hx hb dX1_first_35 (by decide) ?_
    refine lv_icmp_ge (tgt := 62) hx hb dX1_first_36 (by decide) (fun c_3 => absurd c_3 (by decide)) (fun c_3 => ?_)
    refine lv_aload_n hx hb dX1_first_39 rfl (lv_at hl 0 rfl) ?_
    refine m_get 7 (by decide) hx hb hts hown hC hp m_l31 dX1_first_40 ?_
    refine lv_iconst (v := 2) hx hb dX1_first_43 (by decide) ?_
    refine lv_aload_n hx hb dX1_first_44 rfl (lv_at hl 0 rfl) ?_
    refine m_get 8 (by decide) hx hb hts hown hC hp m_l34 dX1_first_45 ?_
    refine lv_iload_n hx hb dX1_first_48 rfl (lv_at hl 1 rfl) ?_
    refine m_ild (μ := μ) 8 d (nI t) (by decide) (rfl) (by show d < 9; omega) (hat) hx hb hC hp dX1_first_49 ?_
    refine lv_imul hx hb dX1_first_50 ?_
    refine lv_aload_n hx hb dX1_first_51 rfl (lv_at hl 0 rfl) ?_
    refine m_get 10 (by decide) hx hb hts hown hC hp m_l40 dX1_first_52 ?_
    refine lv_iload_n hx hb dX1_first_55 rfl (lv_at hl 1 rfl) ?_
    refine m_ild (μ := μ) 10 d (nI 1) (by decide) (rfl) (by show d < 9; omega) (hx0) hx hb hC hp dX1_first_56 ?_
    refine lv_iadd hx hb dX1_first_57 ?_
    refine m_ild (μ := μ) 7 ((2 * t) + 1) (nI 0) (by decide) ((m_ia (a := (2 * t)) (b := 1) (m_im (a := 2) (b := t) rfl rfl) rfl)) (by show ((2 * t) + 1) < 16; omega) ((by rw [(hbf t ht).2, hi]; rfl)) hx hb hC hp dX1_first_58 ?_
    refine lv_goto (tgt := 63) hx hb dX1_first_59 (by decide) ?_
    refine lv_istore_n (lv' := [(2, .int (nI 0)), (0, .ref (g 0)), (1, .int (nI d))]) hx hb dX1_first_63 rfl hl (by decide) rfl (fun ls hl => ?_)
    refine lv_aload_n hx hb dX1_first_64 rfl (lv_at hl 1 rfl) ?_
    refine m_get 10 (by decide) hx hb hts hown hC hp m_l40 dX1_first_65 ?_
    refine lv_iload_n hx hb dX1_first_68 rfl (lv_at hl 2 rfl) ?_
    refine lv_dup2_11 hx hb dX1_first_69 rfl rfl ?_
    refine m_ild (μ := μ) 10 d (nI 1) (by decide) (rfl) (by show d < 9; omega) (hx0) hx hb hC hp dX1_first_70 ?_
    refine lv_iconst (v := 1) hx hb dX1_first_71 (by decide) ?_
    refine lv_iadd hx hb dX1_first_72 ?_
    rw [nI_1 1]
    refine m_ist 10 d (by decide) (rfl) (by show d < 9; omega) hx hb hC hp dX1_first_73 (fun H locs hp => ?_)
    refine lv_iload_n hx hb dX1_first_74 rfl (lv_at hl 0 rfl) ?_
    refine lv_if_le (tgt := 88) hx hb dX1_first_75 (by decide) (fun c_4 => ?_) (fun c_4 => absurd (by decide) c_4)
    refine lv_aload_n hx hb dX1_first_88 rfl (lv_at hl 1 rfl) ?_
    refine m_get 10 (by decide) hx hb hts hown hC hp m_l40 dX1_first_89 ?_
    refine lv_iload_n hx hb dX1_first_92 rfl (lv_at hl 2 rfl) ?_
    refine m_ild (μ := (m_sA μ 10 d (nI ((1 + 1))))) 10 d (nI ((1 + 1))) (by decide) (rfl) (by show d < 9; omega) (m_sA_at _ _ _ _) hx hb hC hp dX1_first_93 ?_
    refine lv_iconst (v := 2) hx hb dX1_first_94 (by decide) ?_
    refine lv_icmp_gt (tgt := 114) hx hb dX1_first_95 (by decide) (fun c_5 => absurd c_5 (by decide)) (fun c_5 => ?_)
    refine lv_aload_n hx hb dX1_first_98 rfl (lv_at hl 1 rfl) ?_
    refine m_get 7 (by decide) hx hb hts hown hC hp m_l31 dX1_first_99 ?_
    refine lv_iconst (v := 2) hx hb dX1_first_102 (by decide) ?_
    refine lv_aload_n hx hb dX1_first_103 rfl (lv_at hl 1 rfl) ?_
    refine m_get 8 (by decide) hx hb hts hown hC hp m_l34 dX1_first_104 ?_
    refine lv_iload_n hx hb dX1_first_107 rfl (lv_at hl 2 rfl) ?_
    refine m_ild (μ := (m_sA μ 10 d (nI ((1 + 1))))) 8 d (nI t) (by decide) (rfl) (by show d < 9; omega) (hat) hx hb hC hp dX1_first_108 ?_
    refine lv_imul hx hb dX1_first_109 ?_
    refine m_ild (μ := (m_sA μ 10 d (nI ((1 + 1))))) 7 (2 * t) (nI 0) (by decide) ((m_im (a := 2) (b := t) rfl rfl)) (by show (2 * t) < 16; omega) ((by rw [m_sA_na _ _ _ (show 7 ≠ 10 by decide), (hbf t ht).1, hs]; rfl)) hx hb hC hp dX1_first_110 ?_
    refine lv_if_ne (tgt := 144) hx hb dX1_first_111 (by decide) (fun c_6 => absurd c_6 (fun h => h rfl)) (fun c_6 => ?_)
    refine lv_aload_n hx hb dX1_first_114 rfl (lv_at hl 1 rfl) ?_
    refine m_get 9 (by decide) hx hb hts hown hC hp m_l37 dX1_first_115 ?_
    refine lv_iload_n hx hb dX1_first_118 rfl (lv_at hl 2 rfl) ?_
    refine lv_iconst (v := 1) hx hb dX1_first_119 (by decide) ?_
    refine m_ist 9 d (by decide) (rfl) (by show d < 9; omega) hx hb hC hp dX1_first_120 (fun H locs hp => ?_)
    refine lv_aload_n hx hb dX1_first_121 rfl (lv_at hl 1 rfl) ?_
    refine m_get 10 (by decide) hx hb hts hown hC hp m_l40 dX1_first_122 ?_
    refine lv_iload_n hx hb dX1_first_125 rfl (lv_at hl 2 rfl) ?_
    refine lv_iconst (v := 0) hx hb dX1_first_126 (by decide) ?_
    refine m_ist 10 d (by decide) (rfl) (by show d < 9; omega) hx hb hC hp dX1_first_127 (fun H locs hp => ?_)
    refine lv_aload_n hx hb dX1_first_128 rfl (lv_at hl 1 rfl) ?_
    refine lv_bipush (v := 100) hx hb dX1_first_129 (by decide) ?_
    refine lv_aload_n hx hb dX1_first_131 rfl (lv_at hl 1 rfl) ?_
    refine m_get 8 (by decide) hx hb hts hown hC hp m_l34 dX1_first_132 ?_
    refine lv_iload_n hx hb dX1_first_135 rfl (lv_at hl 2 rfl) ?_
    refine m_ild (μ := (m_sA (m_sA (m_sA μ 10 d (nI ((1 + 1)))) 9 d 1) 10 d 0)) 8 d (nI t) (by decide) (rfl) (by show d < 9; omega) (hat) hx hb hC hp dX1_first_136 ?_
    refine lv_iadd hx hb dX1_first_137 ?_
    refine m_callV (n := 1) [.int (100 + nI t)] hx hb hml hown hts hC hp (cm_note l D cI g (m_sA (m_sA (m_sA μ 10 d (nI ((1 + 1)))) 9 d 1) 10 d 0) w (100 + nI t) hw (hw0)) gVX1_66 (by decide +kernel) ⟨rfl, rfl, by show 0 + 1 ≤ 2; omega, by show 8 + (3 + 11) + 0 ≤ 46; omega⟩ rfl hl.1 rfl (Nat.le_of_ble_eq_true rfl) ⟨Nat.zero_le _, Nat.zero_le _⟩ dX1_first_138 (fun H locs hp => ?_)
    refine lv_goto (tgt := 149) hx hb dX1_first_141 (by decide) ?_
    exact m_vret hx hb hr hlk hp (by unfold m_first; rw [if_neg (fun h => h.2 c_2)]; unfold m_nx; rw [if_neg (by decide), if_pos rfl, hi]; show _ = (if 1 = 2 ∨ x_sup t = none then m_go w d t (m_sA μ 10 d (nI (1 + 1))) else m_sI (m_sA μ 10 d (nI (1 + 1))) 2 0); rw [if_pos (Or.inr hs)]; rfl) dX1_first_149
  · refine lv_aload_n hx hb dX1_first_16 rfl (lv_at hl 0 rfl) ?_
    refine lv_aload_n hx hb dX1_first_17 rfl (lv_at hl 0 rfl) ?_
    refine m_geti (μ := μ) 2 (μ.2 2) (by decide) (rfl) hx hb hts hown hC hp m_l57 dX1_first_18 ?_
    refine lv_aload_n hx hb dX1_first_21 rfl (lv_at hl 0 rfl) ?_
    refine m_geti (μ := μ) 3 (μ.2 3) (by decide) (rfl) hx hb hts hown hC hp m_l60 dX1_first_22 ?_
    refine m_callV (n := 2) [.int (μ.2 2), .int (μ.2 3)] hx hb hml hown hts hC hp (cm_end l D cI g μ w d t q (μ.2 2) (μ.2 3) hw (by omega) ht hq hw0 hd0 hat hgd) gVX1_79 (by decide +kernel) ⟨rfl, rfl, by show 1 + 1 ≤ 2; omega, by show 8 + (5 + 11) + 22 ≤ 46; omega⟩ rfl hl.1 rfl (Nat.le_of_ble_eq_true rfl) ⟨Nat.zero_le _, Nat.zero_le _⟩ dX1_first_25 (fun H locs hp => ?_)
    exact m_vret hx hb hr hlk hp (by unfold m_first; rw [if_pos ⟨by decide, c_2⟩]) dX1_first_28

set_option maxHeartbeats 4000000 in
set_option maxRecDepth 100000 in
theorem cm_first1sn (l : Launch) (D : va_G) (cI : ClassId) (g : Nat → Nat) (μ : mT) (w d t q : Nat) (hw : w < 2) (hd : d < 8) (ht : t < 8) (hq : q ≤ 5) (hw0 : μ.2 0 = nI w) (hd0 : μ.2 1 = nI (d + 1)) (hat : μ.1 8 d = nI t) (hgd : μ.1 11 d = nI q) (hbf : m_bef μ) (hx0 : μ.1 10 d = nI 1) {i : Nat} (hs : x_sup t = some i) (hii : i < 8) (hi : x_ifc t = none) : m_Mv l yX1_first (.code yX1_first cX1_first 3 none :: lw_g) { frames := 2, cells := 0, slots := 0, locals := 46 } D cI g μ [.int (nI d)] (m_first w d t 1 q μ) := by
  refine m_bodyv rfl rfl (Nat.le_of_ble_eq_true rfl) ?_
  intro p e s m below meth c hx hb hml hr hlk hown hts hC hp ls hl
  have hl : lv_has ls 3 [(0, .ref (g 0)), (1, .int (nI d))] := hl
  refine lv_aload_n hx hb dX1_first_0 rfl (lv_at hl 0 rfl) ?_
  refine m_get 10 (by decide) hx hb hts hown hC hp m_l40 dX1_first_1 ?_
  refine lv_iload_n hx hb dX1_first_4 rfl (lv_at hl 1 rfl) ?_
  refine m_ild (μ := μ) 10 d (nI 1) (by decide) (rfl) (by show d < 9; omega) (hx0) hx hb hC hp dX1_first_5 ?_
  refine lv_if_le (tgt := 29) hx hb dX1_first_6 (by decide) (fun c_1 => absurd c_1 (by decide)) (fun c_1 => ?_)
  refine lv_aload_n hx hb dX1_first_9 rfl (lv_at hl 0 rfl) ?_
  refine m_geti (μ := μ) 2 (μ.2 2) (by decide) (rfl) hx hb hts hown hC hp m_l57 dX1_first_10 ?_
  refine lv_if_eq (tgt := 29) hx hb dX1_first_13 (by decide) (fun c_2 => ?_) (fun c_2 => ?_)
  · refine lv_aload_n hx hb dX1_first_29 rfl (lv_at hl 0 rfl) ?_
    refine m_get 10 (by decide) hx hb hts hown hC hp m_l40 dX1_first_30 ?_
    refine lv_iload_n hx hb dX1_first_33 rfl (lv_at hl 1 rfl) ?_
    refine m_ild (μ := μ) 10 d (nI 1) (by decide) (rfl) (by show d < 9; omega) (hx0) hx hb hC hp dX1_first_34 ?_
    refine lv_iconst (v := 2) hx hb dX1_first_35 (by decide) ?_
    refine lv_icmp_ge (tgt := 62) hx hb dX1_first_36 (by decide) (fun c_3 => absurd c_3 (by decide)) (fun c_3 => ?_)
    refine lv_aload_n hx hb dX1_first_39 rfl (lv_at hl 0 rfl) ?_
    refine m_get 7 (by decide) hx hb hts hown hC hp m_l31 dX1_first_40 ?_
    refine lv_iconst (v := 2) hx hb dX1_first_43 (by decide) ?_
    refine lv_aload_n hx hb dX1_first_44 rfl (lv_at hl 0 rfl) ?_
    refine m_get 8 (by decide) hx hb hts hown hC hp m_l34 dX1_first_45 ?_
    refine lv_iload_n hx hb dX1_first_48 rfl (lv_at hl 1 rfl) ?_
    refine m_ild (μ := μ) 8 d (nI t) (by decide) (rfl) (by show d < 9; omega) (hat) hx hb hC hp dX1_first_49 ?_
    refine lv_imul hx hb dX1_first_50 ?_
    refine lv_aload_n hx hb dX1_first_51 rfl (lv_at hl 0 rfl) ?_
    refine m_get 10 (by decide) hx hb hts hown hC hp m_l40 dX1_first_52 ?_
    refine lv_iload_n hx hb dX1_first_55 rfl (lv_at hl 1 rfl) ?_
    refine m_ild (μ := μ) 10 d (nI 1) (by decide) (rfl) (by show d < 9; omega) (hx0) hx hb hC hp dX1_first_56 ?_
    refine lv_iadd hx hb dX1_first_57 ?_
    refine m_ild (μ := μ) 7 ((2 * t) + 1) (nI 0) (by decide) ((m_ia (a := (2 * t)) (b := 1) (m_im (a := 2) (b := t) rfl rfl) rfl)) (by show ((2 * t) + 1) < 16; omega) ((by rw [(hbf t ht).2, hi]; rfl)) hx hb hC hp dX1_first_58 ?_
    refine lv_goto (tgt := 63) hx hb dX1_first_59 (by decide) ?_
    refine lv_istore_n (lv' := [(2, .int (nI 0)), (0, .ref (g 0)), (1, .int (nI d))]) hx hb dX1_first_63 rfl hl (by decide) rfl (fun ls hl => ?_)
    refine lv_aload_n hx hb dX1_first_64 rfl (lv_at hl 1 rfl) ?_
    refine m_get 10 (by decide) hx hb hts hown hC hp m_l40 dX1_first_65 ?_
    refine lv_iload_n hx hb dX1_first_68 rfl (lv_at hl 2 rfl) ?_
    refine lv_dup2_11 hx hb dX1_first_69 rfl rfl ?_
    refine m_ild (μ := μ) 10 d (nI 1) (by decide) (rfl) (by show d < 9; omega) (hx0) hx hb hC hp dX1_first_70 ?_
    refine lv_iconst (v := 1) hx hb dX1_first_71 (by decide) ?_
    refine lv_iadd hx hb dX1_first_72 ?_
    rw [nI_1 1]
    refine m_ist 10 d (by decide) (rfl) (by show d < 9; omega) hx hb hC hp dX1_first_73 (fun H locs hp => ?_)
    refine lv_iload_n hx hb dX1_first_74 rfl (lv_at hl 0 rfl) ?_
    refine lv_if_le (tgt := 88) hx hb dX1_first_75 (by decide) (fun c_4 => ?_) (fun c_4 => absurd (by decide) c_4)
    refine lv_aload_n hx hb dX1_first_88 rfl (lv_at hl 1 rfl) ?_
    refine m_get 10 (by decide) hx hb hts hown hC hp m_l40 dX1_first_89 ?_
    refine lv_iload_n hx hb dX1_first_92 rfl (lv_at hl 2 rfl) ?_
    refine m_ild (μ := (m_sA μ 10 d (nI ((1 + 1))))) 10 d (nI ((1 + 1))) (by decide) (rfl) (by show d < 9; omega) (m_sA_at _ _ _ _) hx hb hC hp dX1_first_93 ?_
    refine lv_iconst (v := 2) hx hb dX1_first_94 (by decide) ?_
    refine lv_icmp_gt (tgt := 114) hx hb dX1_first_95 (by decide) (fun c_5 => absurd c_5 (by decide)) (fun c_5 => ?_)
    refine lv_aload_n hx hb dX1_first_98 rfl (lv_at hl 1 rfl) ?_
    refine m_get 7 (by decide) hx hb hts hown hC hp m_l31 dX1_first_99 ?_
    refine lv_iconst (v := 2) hx hb dX1_first_102 (by decide) ?_
    refine lv_aload_n hx hb dX1_first_103 rfl (lv_at hl 1 rfl) ?_
    refine m_get 8 (by decide) hx hb hts hown hC hp m_l34 dX1_first_104 ?_
    refine lv_iload_n hx hb dX1_first_107 rfl (lv_at hl 2 rfl) ?_
    refine m_ild (μ := (m_sA μ 10 d (nI ((1 + 1))))) 8 d (nI t) (by decide) (rfl) (by show d < 9; omega) (hat) hx hb hC hp dX1_first_108 ?_
    refine lv_imul hx hb dX1_first_109 ?_
    refine m_ild (μ := (m_sA μ 10 d (nI ((1 + 1))))) 7 (2 * t) (nI ((i + 1))) (by decide) ((m_im (a := 2) (b := t) rfl rfl)) (by show (2 * t) < 16; omega) ((by rw [m_sA_na _ _ _ (show 7 ≠ 10 by decide), (hbf t ht).1, hs]; rfl)) hx hb hC hp dX1_first_110 ?_
    refine lv_if_ne (tgt := 144) hx hb dX1_first_111 (by decide) (fun c_6 => ?_) (fun c_6 => absurd c_6 (nI_ne0 (by omega) (by omega)))
    refine lv_aload_n hx hb dX1_first_144 rfl (lv_at hl 1 rfl) ?_
    refine lv_iconst (v := 0) hx hb dX1_first_145 (by decide) ?_
    refine m_puti 2 (by decide) hx hb hts hown hC hp m_l57 dX1_first_146 (fun H locs hp => ?_)
    exact m_vret hx hb hr hlk hp (by unfold m_first; rw [if_neg (fun h => h.2 c_2)]; unfold m_nx; rw [if_neg (by decide), if_pos rfl, hi]; show _ = (if 1 = 2 ∨ x_sup t = none then m_go w d t (m_sA μ 10 d (nI (1 + 1))) else m_sI (m_sA μ 10 d (nI (1 + 1))) 2 0); rw [if_neg (fun h => h.elim (by decide) (fun h => by rw [hs] at h; cases h))]) dX1_first_149
  · refine lv_aload_n hx hb dX1_first_16 rfl (lv_at hl 0 rfl) ?_
    refine lv_aload_n hx hb dX1_first_17 rfl (lv_at hl 0 rfl) ?_
    refine m_geti (μ := μ) 2 (μ.2 2) (by decide) (rfl) hx hb hts hown hC hp m_l57 dX1_first_18 ?_
    refine lv_aload_n hx hb dX1_first_21 rfl (lv_at hl 0 rfl) ?_
    refine m_geti (μ := μ) 3 (μ.2 3) (by decide) (rfl) hx hb hts hown hC hp m_l60 dX1_first_22 ?_
    refine m_callV (n := 2) [.int (μ.2 2), .int (μ.2 3)] hx hb hml hown hts hC hp (cm_end l D cI g μ w d t q (μ.2 2) (μ.2 3) hw (by omega) ht hq hw0 hd0 hat hgd) gVX1_79 (by decide +kernel) ⟨rfl, rfl, by show 1 + 1 ≤ 2; omega, by show 8 + (5 + 11) + 22 ≤ 46; omega⟩ rfl hl.1 rfl (Nat.le_of_ble_eq_true rfl) ⟨Nat.zero_le _, Nat.zero_le _⟩ dX1_first_25 (fun H locs hp => ?_)
    exact m_vret hx hb hr hlk hp (by unfold m_first; rw [if_pos ⟨by decide, c_2⟩]) dX1_first_28

set_option maxHeartbeats 4000000 in
set_option maxRecDepth 100000 in
theorem cm_first1s (l : Launch) (D : va_G) (cI : ClassId) (g : Nat → Nat) (μ : mT) (w d t q : Nat) (hw : w < 2) (hd : d < 8) (ht : t < 8) (hq : q ≤ 5) (hw0 : μ.2 0 = nI w) (hd0 : μ.2 1 = nI (d + 1)) (hat : μ.1 8 d = nI t) (hgd : μ.1 11 d = nI q) (hbf : m_bef μ) (hx0 : μ.1 10 d = nI 1) {j : Nat} (hi : x_ifc t = some j) (hj : j < 8) : m_Mv l yX1_first (.code yX1_first cX1_first 3 none :: lw_g) { frames := 2, cells := 0, slots := 0, locals := 46 } D cI g μ [.int (nI d)] (m_first w d t 1 q μ) := by
  refine m_bodyv rfl rfl (Nat.le_of_ble_eq_true rfl) ?_
  intro p e s m below meth c hx hb hml hr hlk hown hts hC hp ls hl
  have hl : lv_has ls 3 [(0, .ref (g 0)), (1, .int (nI d))] := hl
  refine lv_aload_n hx hb dX1_first_0 rfl (lv_at hl 0 rfl) ?_
  refine m_get 10 (by decide) hx hb hts hown hC hp m_l40 dX1_first_1 ?_
  refine lv_iload_n hx hb dX1_first_4 rfl (lv_at hl 1 rfl) ?_
  refine m_ild (μ := μ) 10 d (nI 1) (by decide) (rfl) (by show d < 9; omega) (hx0) hx hb hC hp dX1_first_5 ?_
  refine lv_if_le (tgt := 29) hx hb dX1_first_6 (by decide) (fun c_1 => absurd c_1 (by decide)) (fun c_1 => ?_)
  refine lv_aload_n hx hb dX1_first_9 rfl (lv_at hl 0 rfl) ?_
  refine m_geti (μ := μ) 2 (μ.2 2) (by decide) (rfl) hx hb hts hown hC hp m_l57 dX1_first_10 ?_
  refine lv_if_eq (tgt := 29) hx hb dX1_first_13 (by decide) (fun c_2 => ?_) (fun c_2 => ?_)
  · refine lv_aload_n hx hb dX1_first_29 rfl (lv_at hl 0 rfl) ?_
    refine m_get 10 (by decide) hx hb hts hown hC hp m_l40 dX1_first_30 ?_
    refine lv_iload_n hx hb dX1_first_33 rfl (lv_at hl 1 rfl) ?_
    refine m_ild (μ := μ) 10 d (nI 1) (by decide) (rfl) (by show d < 9; omega) (hx0) hx hb hC hp dX1_first_34 ?_
    refine lv_iconst (v := 2) hx hb dX1_first_35 (by decide) ?_
    refine lv_icmp_ge (tgt := 62) hx hb dX1_first_36 (by decide) (fun c_3 => absurd c_3 (by decide)) (fun c_3 => ?_)
    refine lv_aload_n hx hb dX1_first_39 rfl (lv_at hl 0 rfl) ?_
    refine m_get 7 (by decide) hx hb hts hown hC hp m_l31 dX1_first_40 ?_
    refine lv_iconst (v := 2) hx hb dX1_first_43 (by decide) ?_
    refine lv_aload_n hx hb dX1_first_44 rfl (lv_at hl 0 rfl) ?_
    refine m_get 8 (by decide) hx hb hts hown hC hp m_l34 dX1_first_45 ?_
    refine lv_iload_n hx hb dX1_first_48 rfl (lv_at hl 1 rfl) ?_
    refine m_ild (μ := μ) 8 d (nI t) (by decide) (rfl) (by show d < 9; omega) (hat) hx hb hC hp dX1_first_49 ?_
    refine lv_imul hx hb dX1_first_50 ?_
    refine lv_aload_n hx hb dX1_first_51 rfl (lv_at hl 0 rfl) ?_
    refine m_get 10 (by decide) hx hb hts hown hC hp m_l40 dX1_first_52 ?_
    refine lv_iload_n hx hb dX1_first_55 rfl (lv_at hl 1 rfl) ?_
    refine m_ild (μ := μ) 10 d (nI 1) (by decide) (rfl) (by show d < 9; omega) (hx0) hx hb hC hp dX1_first_56 ?_
    refine lv_iadd hx hb dX1_first_57 ?_
    refine m_ild (μ := μ) 7 ((2 * t) + 1) (nI ((j + 1))) (by decide) ((m_ia (a := (2 * t)) (b := 1) (m_im (a := 2) (b := t) rfl rfl) rfl)) (by show ((2 * t) + 1) < 16; omega) ((by rw [(hbf t ht).2, hi]; rfl)) hx hb hC hp dX1_first_58 ?_
    refine lv_goto (tgt := 63) hx hb dX1_first_59 (by decide) ?_
    refine lv_istore_n (lv' := [(2, .int (nI (j + 1))), (0, .ref (g 0)), (1, .int (nI d))]) hx hb dX1_first_63 rfl hl (by decide) rfl (fun ls hl => ?_)
    refine lv_aload_n hx hb dX1_first_64 rfl (lv_at hl 1 rfl) ?_
    refine m_get 10 (by decide) hx hb hts hown hC hp m_l40 dX1_first_65 ?_
    refine lv_iload_n hx hb dX1_first_68 rfl (lv_at hl 2 rfl) ?_
    refine lv_dup2_11 hx hb dX1_first_69 rfl rfl ?_
    refine m_ild (μ := μ) 10 d (nI 1) (by decide) (rfl) (by show d < 9; omega) (hx0) hx hb hC hp dX1_first_70 ?_
    refine lv_iconst (v := 1) hx hb dX1_first_71 (by decide) ?_
    refine lv_iadd hx hb dX1_first_72 ?_
    rw [nI_1 1]
    refine m_ist 10 d (by decide) (rfl) (by show d < 9; omega) hx hb hC hp dX1_first_73 (fun H locs hp => ?_)
    refine lv_iload_n hx hb dX1_first_74 rfl (lv_at hl 0 rfl) ?_
    refine lv_if_le (tgt := 88) hx hb dX1_first_75 (by decide) (fun c_4 => absurd c_4 (nI_nle (by omega) (by omega))) (fun c_4 => ?_)
    refine lv_aload_n hx hb dX1_first_78 rfl (lv_at hl 1 rfl) ?_
    refine lv_iload_n hx hb dX1_first_79 rfl (lv_at hl 0 rfl) ?_
    refine lv_iconst (v := 1) hx hb dX1_first_80 (by decide) ?_
    refine lv_isub hx hb dX1_first_81 ?_
    rw [nI_pred j]
    refine m_callV (n := 1) [.int (nI j)] hx hb hml hown hts hC hp (cm_begin l D cI g (m_sA μ 10 d (nI ((1 + 1)))) w (d + 1) j _ hw (by omega) hj hw0 hd0 rfl) gVX1_83 (by decide +kernel) ⟨rfl, rfl, by show 0 + 1 ≤ 2; omega, by show 8 + (3 + 11) + 0 ≤ 46; omega⟩ rfl hl.1 rfl (Nat.le_of_ble_eq_true rfl) ⟨Nat.zero_le _, Nat.zero_le _⟩ dX1_first_82 (fun H locs hp => ?_)
    refine lv_goto (tgt := 149) hx hb dX1_first_85 (by decide) ?_
    exact m_vret hx hb hr hlk hp (by unfold m_first; rw [if_neg (fun h => h.2 c_2)]; unfold m_nx; rw [if_neg (by decide), if_pos rfl, hi]; rfl) dX1_first_149
  · refine lv_aload_n hx hb dX1_first_16 rfl (lv_at hl 0 rfl) ?_
    refine lv_aload_n hx hb dX1_first_17 rfl (lv_at hl 0 rfl) ?_
    refine m_geti (μ := μ) 2 (μ.2 2) (by decide) (rfl) hx hb hts hown hC hp m_l57 dX1_first_18 ?_
    refine lv_aload_n hx hb dX1_first_21 rfl (lv_at hl 0 rfl) ?_
    refine m_geti (μ := μ) 3 (μ.2 3) (by decide) (rfl) hx hb hts hown hC hp m_l60 dX1_first_22 ?_
    refine m_callV (n := 2) [.int (μ.2 2), .int (μ.2 3)] hx hb hml hown hts hC hp (cm_end l D cI g μ w d t q (μ.2 2) (μ.2 3) hw (by omega) ht hq hw0 hd0 hat hgd) gVX1_79 (by decide +kernel) ⟨rfl, rfl, by show 1 + 1 ≤ 2; omega, by show 8 + (5 + 11) + 22 ≤ 46; omega⟩ rfl hl.1 rfl (Nat.le_of_ble_eq_true rfl) ⟨Nat.zero_le _, Nat.zero_le _⟩ dX1_first_25 (fun H locs hp => ?_)
    exact m_vret hx hb hr hlk hp (by unfold m_first; rw [if_pos ⟨by decide, c_2⟩]) dX1_first_28

set_option maxHeartbeats 4000000 in
set_option maxRecDepth 100000 in
theorem cm_first2 (l : Launch) (D : va_G) (cI : ClassId) (g : Nat → Nat) (μ : mT) (w d t q : Nat) (hw : w < 2) (hd : d < 8) (ht : t < 8) (hq : q ≤ 5) (hw0 : μ.2 0 = nI w) (hd0 : μ.2 1 = nI (d + 1)) (hat : μ.1 8 d = nI t) (hgd : μ.1 11 d = nI q) (hbf : m_bef μ) (hx0 : μ.1 10 d = nI 2)  : m_Mv l yX1_first (.code yX1_first cX1_first 3 none :: lw_g) { frames := 2, cells := 0, slots := 0, locals := 46 } D cI g μ [.int (nI d)] (m_first w d t 2 q μ) := by
  refine m_bodyv rfl rfl (Nat.le_of_ble_eq_true rfl) ?_
  intro p e s m below meth c hx hb hml hr hlk hown hts hC hp ls hl
  have hl : lv_has ls 3 [(0, .ref (g 0)), (1, .int (nI d))] := hl
  refine lv_aload_n hx hb dX1_first_0 rfl (lv_at hl 0 rfl) ?_
  refine m_get 10 (by decide) hx hb hts hown hC hp m_l40 dX1_first_1 ?_
  refine lv_iload_n hx hb dX1_first_4 rfl (lv_at hl 1 rfl) ?_
  refine m_ild (μ := μ) 10 d (nI 2) (by decide) (rfl) (by show d < 9; omega) (hx0) hx hb hC hp dX1_first_5 ?_
  refine lv_if_le (tgt := 29) hx hb dX1_first_6 (by decide) (fun c_1 => absurd c_1 (by decide)) (fun c_1 => ?_)
  refine lv_aload_n hx hb dX1_first_9 rfl (lv_at hl 0 rfl) ?_
  refine m_geti (μ := μ) 2 (μ.2 2) (by decide) (rfl) hx hb hts hown hC hp m_l57 dX1_first_10 ?_
  refine lv_if_eq (tgt := 29) hx hb dX1_first_13 (by decide) (fun c_2 => ?_) (fun c_2 => ?_)
  · refine lv_aload_n hx hb dX1_first_29 rfl (lv_at hl 0 rfl) ?_
    refine m_get 10 (by decide) hx hb hts hown hC hp m_l40 dX1_first_30 ?_
    refine lv_iload_n hx hb dX1_first_33 rfl (lv_at hl 1 rfl) ?_
    refine m_ild (μ := μ) 10 d (nI 2) (by decide) (rfl) (by show d < 9; omega) (hx0) hx hb hC hp dX1_first_34 ?_
    refine lv_iconst (v := 2) hx hb dX1_first_35 (by decide) ?_
    refine lv_icmp_ge (tgt := 62) hx hb dX1_first_36 (by decide) (fun c_3 => ?_) (fun c_3 => absurd (by decide) c_3)
    refine lv_iconst (v := 0) hx hb dX1_first_62 (by decide) ?_
    refine lv_istore_n (lv' := [(2, .int 0), (0, .ref (g 0)), (1, .int (nI d))]) hx hb dX1_first_63 rfl hl (by decide) rfl (fun ls hl => ?_)
    refine lv_aload_n hx hb dX1_first_64 rfl (lv_at hl 1 rfl) ?_
    refine m_get 10 (by decide) hx hb hts hown hC hp m_l40 dX1_first_65 ?_
    refine lv_iload_n hx hb dX1_first_68 rfl (lv_at hl 2 rfl) ?_
    refine lv_dup2_11 hx hb dX1_first_69 rfl rfl ?_
    refine m_ild (μ := μ) 10 d (nI 2) (by decide) (rfl) (by show d < 9; omega) (hx0) hx hb hC hp dX1_first_70 ?_
    refine lv_iconst (v := 1) hx hb dX1_first_71 (by decide) ?_
    refine lv_iadd hx hb dX1_first_72 ?_
    rw [nI_1 2]
    refine m_ist 10 d (by decide) (rfl) (by show d < 9; omega) hx hb hC hp dX1_first_73 (fun H locs hp => ?_)
    refine lv_iload_n hx hb dX1_first_74 rfl (lv_at hl 0 rfl) ?_
    refine lv_if_le (tgt := 88) hx hb dX1_first_75 (by decide) (fun c_4 => ?_) (fun c_4 => absurd (by decide) c_4)
    refine lv_aload_n hx hb dX1_first_88 rfl (lv_at hl 1 rfl) ?_
    refine m_get 10 (by decide) hx hb hts hown hC hp m_l40 dX1_first_89 ?_
    refine lv_iload_n hx hb dX1_first_92 rfl (lv_at hl 2 rfl) ?_
    refine m_ild (μ := (m_sA μ 10 d (nI ((2 + 1))))) 10 d (nI ((2 + 1))) (by decide) (rfl) (by show d < 9; omega) (m_sA_at _ _ _ _) hx hb hC hp dX1_first_93 ?_
    refine lv_iconst (v := 2) hx hb dX1_first_94 (by decide) ?_
    refine lv_icmp_gt (tgt := 114) hx hb dX1_first_95 (by decide) (fun c_5 => ?_) (fun c_5 => absurd (by decide) c_5)
    refine lv_aload_n hx hb dX1_first_114 rfl (lv_at hl 1 rfl) ?_
    refine m_get 9 (by decide) hx hb hts hown hC hp m_l37 dX1_first_115 ?_
    refine lv_iload_n hx hb dX1_first_118 rfl (lv_at hl 2 rfl) ?_
    refine lv_iconst (v := 1) hx hb dX1_first_119 (by decide) ?_
    refine m_ist 9 d (by decide) (rfl) (by show d < 9; omega) hx hb hC hp dX1_first_120 (fun H locs hp => ?_)
    refine lv_aload_n hx hb dX1_first_121 rfl (lv_at hl 1 rfl) ?_
    refine m_get 10 (by decide) hx hb hts hown hC hp m_l40 dX1_first_122 ?_
    refine lv_iload_n hx hb dX1_first_125 rfl (lv_at hl 2 rfl) ?_
    refine lv_iconst (v := 0) hx hb dX1_first_126 (by decide) ?_
    refine m_ist 10 d (by decide) (rfl) (by show d < 9; omega) hx hb hC hp dX1_first_127 (fun H locs hp => ?_)
    refine lv_aload_n hx hb dX1_first_128 rfl (lv_at hl 1 rfl) ?_
    refine lv_bipush (v := 100) hx hb dX1_first_129 (by decide) ?_
    refine lv_aload_n hx hb dX1_first_131 rfl (lv_at hl 1 rfl) ?_
    refine m_get 8 (by decide) hx hb hts hown hC hp m_l34 dX1_first_132 ?_
    refine lv_iload_n hx hb dX1_first_135 rfl (lv_at hl 2 rfl) ?_
    refine m_ild (μ := (m_sA (m_sA (m_sA μ 10 d (nI ((2 + 1)))) 9 d 1) 10 d 0)) 8 d (nI t) (by decide) (rfl) (by show d < 9; omega) (hat) hx hb hC hp dX1_first_136 ?_
    refine lv_iadd hx hb dX1_first_137 ?_
    refine m_callV (n := 1) [.int (100 + nI t)] hx hb hml hown hts hC hp (cm_note l D cI g (m_sA (m_sA (m_sA μ 10 d (nI ((2 + 1)))) 9 d 1) 10 d 0) w (100 + nI t) hw (hw0)) gVX1_66 (by decide +kernel) ⟨rfl, rfl, by show 0 + 1 ≤ 2; omega, by show 8 + (3 + 11) + 0 ≤ 46; omega⟩ rfl hl.1 rfl (Nat.le_of_ble_eq_true rfl) ⟨Nat.zero_le _, Nat.zero_le _⟩ dX1_first_138 (fun H locs hp => ?_)
    refine lv_goto (tgt := 149) hx hb dX1_first_141 (by decide) ?_
    exact m_vret hx hb hr hlk hp (by unfold m_first; rw [if_neg (fun h => h.2 c_2)]; unfold m_nx; rw [if_neg (by decide), if_neg (by decide)]; show _ = (if 2 = 2 ∨ x_sup t = none then m_go w d t (m_sA μ 10 d (nI (2 + 1))) else m_sI (m_sA μ 10 d (nI (2 + 1))) 2 0); rw [if_pos (Or.inl rfl)]; rfl) dX1_first_149
  · refine lv_aload_n hx hb dX1_first_16 rfl (lv_at hl 0 rfl) ?_
    refine lv_aload_n hx hb dX1_first_17 rfl (lv_at hl 0 rfl) ?_
    refine m_geti (μ := μ) 2 (μ.2 2) (by decide) (rfl) hx hb hts hown hC hp m_l57 dX1_first_18 ?_
    refine lv_aload_n hx hb dX1_first_21 rfl (lv_at hl 0 rfl) ?_
    refine m_geti (μ := μ) 3 (μ.2 3) (by decide) (rfl) hx hb hts hown hC hp m_l60 dX1_first_22 ?_
    refine m_callV (n := 2) [.int (μ.2 2), .int (μ.2 3)] hx hb hml hown hts hC hp (cm_end l D cI g μ w d t q (μ.2 2) (μ.2 3) hw (by omega) ht hq hw0 hd0 hat hgd) gVX1_79 (by decide +kernel) ⟨rfl, rfl, by show 1 + 1 ≤ 2; omega, by show 8 + (5 + 11) + 22 ≤ 46; omega⟩ rfl hl.1 rfl (Nat.le_of_ble_eq_true rfl) ⟨Nat.zero_le _, Nat.zero_le _⟩ dX1_first_25 (fun H locs hp => ?_)
    exact m_vret hx hb hr hlk hp (by unfold m_first; rw [if_pos ⟨by decide, c_2⟩]) dX1_first_28

theorem cm_first (l : Launch) (D : va_G) (cI : ClassId) (g : Nat → Nat) (μ : mT) (w d t x q : Nat) (hw : w < 2) (hd : d < 8) (ht : t < 8) (hq : q ≤ 5) (hw0 : μ.2 0 = nI w) (hd0 : μ.2 1 = nI (d + 1)) (hat : μ.1 8 d = nI t) (hgd : μ.1 11 d = nI q) (hbf : m_bef μ) (hx0 : μ.1 10 d = nI x) (hx2 : x ≤ 2) : m_Mv l yX1_first (.code yX1_first cX1_first 3 none :: lw_g) { frames := 2, cells := 0, slots := 0, locals := 46 } D cI g μ [.int (nI d)] (m_first w d t x q μ) := by
  rcases (show x = 0 ∨ x = 1 ∨ x = 2 by omega) with rfl | rfl | rfl
  · cases hs : x_sup t with
    | none => exact cm_first0n l D cI g μ w d t q hw hd ht hq hw0 hd0 hat hgd hbf hx0 hs
    | some i => exact cm_first0s l D cI g μ w d t q hw hd ht hq hw0 hd0 hat hgd hbf hx0 hs (x_sup_lt t i hs)
  · cases hi : x_ifc t with
    | none =>
      cases hs : x_sup t with
      | none => exact cm_first1nn l D cI g μ w d t q hw hd ht hq hw0 hd0 hat hgd hbf hx0 hs hi
      | some i => exact cm_first1sn l D cI g μ w d t q hw hd ht hq hw0 hd0 hat hgd hbf hx0 hs (x_sup_lt t i hs) hi
    | some j => exact cm_first1s l D cI g μ w d t q hw hd ht hq hw0 hd0 hat hgd hbf hx0 hi (x_ifc_lt t j hi)
  · exact cm_first2 l D cI g μ w d t q hw hd ht hq hw0 hd0 hat hgd hbf hx0
