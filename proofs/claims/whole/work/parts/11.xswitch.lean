def x_tsb (t j : Nat) : Option Nat := if j = 4 ∨ j = 5 ∨ j = 6 ∨ j = 11 then none else if j = 10 then some 0 else some t
def x_use (w t j : Nat) (σ : xT) : Int32 × xT :=
  if j = 1 ∨ j = 8 ∨ j = 9 then (σ.1 3 w t + 1, σ)
  else if j = 10 then (σ.1 3 w 0 + 1, σ)
  else if j = 2 ∨ j = 13 then (σ.1 3 w t, σ)
  else if j = 3 then (7, x_sG σ 3 w t 7)
  else if j = 4 then (500 + nI t, σ)
  else if j = 5 then (3, σ)
  else if j = 11 then (0, σ)
  else (1, σ)

set_option maxHeartbeats 4000000 in
set_option maxRecDepth 100000 in
theorem cx_typeStartedBy (l : Launch) (t j : Nat) (ht : t < 8) (hj : j < 14) : x_Ms l yX0_typeStartedBy (.code yX0_typeStartedBy cX0_typeStartedBy 2 (some .int) :: lw_g) [.int (nI t), .int (nI j)] (x_I (x_tsb t j)) := by
  refine x_bodys rfl (Nat.le_of_ble_eq_true rfl) ?_
  intro p e s m below meth c hx hb hml hr hlk hown hts ls hl
  have hl : lv_has ls 2 [(0, .int (nI t)), (1, .int (nI j))] := hl
  rcases (show j = 0 ∨ j = 1 ∨ j = 2 ∨ j = 3 ∨ j = 4 ∨ j = 5 ∨ j = 6 ∨ j = 7 ∨ j = 8 ∨ j = 9 ∨ j = 10 ∨ j = 11 ∨ j = 12 ∨ j = 13 by omega) with rfl | rfl | rfl | rfl | rfl | rfl | rfl | rfl | rfl | rfl | rfl | rfl | rfl | rfl
  · refine lv_iload_n hx hb dX0_typeStartedBy_0 rfl (lv_at hl 1 rfl) ?_
    refine lv_tableOut (tgt := 52) hx hb dX0_typeStartedBy_1 (by decide) (by decide) ?_
    refine lv_iload_n hx hb dX0_typeStartedBy_52 rfl (lv_at hl 0 rfl) ?_
    exact x_sret hx hb hr rfl hlk (rfl) dX0_typeStartedBy_53
  · refine lv_iload_n hx hb dX0_typeStartedBy_0 rfl (lv_at hl 1 rfl) ?_
    refine lv_tableOut (tgt := 52) hx hb dX0_typeStartedBy_1 (by decide) (by decide) ?_
    refine lv_iload_n hx hb dX0_typeStartedBy_52 rfl (lv_at hl 0 rfl) ?_
    exact x_sret hx hb hr rfl hlk (rfl) dX0_typeStartedBy_53
  · refine lv_iload_n hx hb dX0_typeStartedBy_0 rfl (lv_at hl 1 rfl) ?_
    refine lv_tableOut (tgt := 52) hx hb dX0_typeStartedBy_1 (by decide) (by decide) ?_
    refine lv_iload_n hx hb dX0_typeStartedBy_52 rfl (lv_at hl 0 rfl) ?_
    exact x_sret hx hb hr rfl hlk (rfl) dX0_typeStartedBy_53
  · refine lv_iload_n hx hb dX0_typeStartedBy_0 rfl (lv_at hl 1 rfl) ?_
    refine lv_tableOut (tgt := 52) hx hb dX0_typeStartedBy_1 (by decide) (by decide) ?_
    refine lv_iload_n hx hb dX0_typeStartedBy_52 rfl (lv_at hl 0 rfl) ?_
    exact x_sret hx hb hr rfl hlk (rfl) dX0_typeStartedBy_53
  · refine lv_iload_n hx hb dX0_typeStartedBy_0 rfl (lv_at hl 1 rfl) ?_
    refine lv_tableIn (off := 47) (tgt := 48) hx hb dX0_typeStartedBy_1 (by decide) (by decide) (by decide +kernel) (by decide) ?_
    refine lv_iconst (v := (-1)) hx hb dX0_typeStartedBy_48 (by decide) ?_
    exact x_sret hx hb hr rfl hlk (rfl) dX0_typeStartedBy_49
  · refine lv_iload_n hx hb dX0_typeStartedBy_0 rfl (lv_at hl 1 rfl) ?_
    refine lv_tableIn (off := 47) (tgt := 48) hx hb dX0_typeStartedBy_1 (by decide) (by decide) (by decide +kernel) (by decide) ?_
    refine lv_iconst (v := (-1)) hx hb dX0_typeStartedBy_48 (by decide) ?_
    exact x_sret hx hb hr rfl hlk (rfl) dX0_typeStartedBy_49
  · refine lv_iload_n hx hb dX0_typeStartedBy_0 rfl (lv_at hl 1 rfl) ?_
    refine lv_tableIn (off := 47) (tgt := 48) hx hb dX0_typeStartedBy_1 (by decide) (by decide) (by decide +kernel) (by decide) ?_
    refine lv_iconst (v := (-1)) hx hb dX0_typeStartedBy_48 (by decide) ?_
    exact x_sret hx hb hr rfl hlk (rfl) dX0_typeStartedBy_49
  · refine lv_iload_n hx hb dX0_typeStartedBy_0 rfl (lv_at hl 1 rfl) ?_
    refine lv_tableIn (off := 51) (tgt := 52) hx hb dX0_typeStartedBy_1 (by decide) (by decide) (by decide +kernel) (by decide) ?_
    refine lv_iload_n hx hb dX0_typeStartedBy_52 rfl (lv_at hl 0 rfl) ?_
    exact x_sret hx hb hr rfl hlk (rfl) dX0_typeStartedBy_53
  · refine lv_iload_n hx hb dX0_typeStartedBy_0 rfl (lv_at hl 1 rfl) ?_
    refine lv_tableIn (off := 51) (tgt := 52) hx hb dX0_typeStartedBy_1 (by decide) (by decide) (by decide +kernel) (by decide) ?_
    refine lv_iload_n hx hb dX0_typeStartedBy_52 rfl (lv_at hl 0 rfl) ?_
    exact x_sret hx hb hr rfl hlk (rfl) dX0_typeStartedBy_53
  · refine lv_iload_n hx hb dX0_typeStartedBy_0 rfl (lv_at hl 1 rfl) ?_
    refine lv_tableIn (off := 51) (tgt := 52) hx hb dX0_typeStartedBy_1 (by decide) (by decide) (by decide +kernel) (by decide) ?_
    refine lv_iload_n hx hb dX0_typeStartedBy_52 rfl (lv_at hl 0 rfl) ?_
    exact x_sret hx hb hr rfl hlk (rfl) dX0_typeStartedBy_53
  · refine lv_iload_n hx hb dX0_typeStartedBy_0 rfl (lv_at hl 1 rfl) ?_
    refine lv_tableIn (off := 49) (tgt := 50) hx hb dX0_typeStartedBy_1 (by decide) (by decide) (by decide +kernel) (by decide) ?_
    refine lv_iconst (v := 0) hx hb dX0_typeStartedBy_50 (by decide) ?_
    exact x_sret hx hb hr rfl hlk (rfl) dX0_typeStartedBy_51
  · refine lv_iload_n hx hb dX0_typeStartedBy_0 rfl (lv_at hl 1 rfl) ?_
    refine lv_tableIn (off := 47) (tgt := 48) hx hb dX0_typeStartedBy_1 (by decide) (by decide) (by decide +kernel) (by decide) ?_
    refine lv_iconst (v := (-1)) hx hb dX0_typeStartedBy_48 (by decide) ?_
    exact x_sret hx hb hr rfl hlk (rfl) dX0_typeStartedBy_49
  · refine lv_iload_n hx hb dX0_typeStartedBy_0 rfl (lv_at hl 1 rfl) ?_
    refine lv_tableOut (tgt := 52) hx hb dX0_typeStartedBy_1 (by decide) (by decide) ?_
    refine lv_iload_n hx hb dX0_typeStartedBy_52 rfl (lv_at hl 0 rfl) ?_
    exact x_sret hx hb hr rfl hlk (rfl) dX0_typeStartedBy_53
  · refine lv_iload_n hx hb dX0_typeStartedBy_0 rfl (lv_at hl 1 rfl) ?_
    refine lv_tableOut (tgt := 52) hx hb dX0_typeStartedBy_1 (by decide) (by decide) ?_
    refine lv_iload_n hx hb dX0_typeStartedBy_52 rfl (lv_at hl 0 rfl) ?_
    exact x_sret hx hb hr rfl hlk (rfl) dX0_typeStartedBy_53

set_option maxHeartbeats 4000000 in
set_option maxRecDepth 100000 in
theorem cx_useStarted (l : Launch) (D : va_G) (cI cJ : ClassId) (g : Nat → Nat) (tS tJ : Nat) (σ : xT) (w t j : Nat) (hw : w < 2) (ht : t < 8) (hj : j < 14) : x_Mi l yX0_useStarted (.code yX0_useStarted cX0_useStarted 4 (some .int) :: lw_g) { frames := 0, cells := 0, slots := 0, locals := 0 } D cI cJ g tS tJ σ [.int (nI w), .int (nI t), .int (nI j)] (x_use w t j σ) := by
  refine x_bodyi rfl rfl (Nat.le_of_ble_eq_true rfl) ?_
  intro p e s m below meth c hx hb hml hr hlk hown hts hC hp ls hl
  have hl : lv_has ls 4 [(0, .ref (g 0)), (1, .int (nI w)), (2, .int (nI t)), (3, .int (nI j))] := hl
  rcases (show j = 0 ∨ j = 1 ∨ j = 2 ∨ j = 3 ∨ j = 4 ∨ j = 5 ∨ j = 6 ∨ j = 7 ∨ j = 8 ∨ j = 9 ∨ j = 10 ∨ j = 11 ∨ j = 12 ∨ j = 13 by omega) with rfl | rfl | rfl | rfl | rfl | rfl | rfl | rfl | rfl | rfl | rfl | rfl | rfl | rfl
  · refine lv_iload_n hx hb dX0_useStarted_0 rfl (lv_at hl 3 rfl) ?_
    refine lv_tableIn (off := 125) (tgt := 126) hx hb dX0_useStarted_1 (by decide) (by decide) (by decide +kernel) (by decide) ?_
    refine lv_iconst (v := 1) hx hb dX0_useStarted_126 (by decide) ?_
    exact x_ireti hx hb hr hlk hp (rfl) dX0_useStarted_127
  · refine lv_iload_n hx hb dX0_useStarted_0 rfl (lv_at hl 3 rfl) ?_
    refine lv_tableIn (off := 71) (tgt := 72) hx hb dX0_useStarted_1 (by decide) (by decide) (by decide +kernel) (by decide) ?_
    refine lv_aload_n hx hb dX0_useStarted_72 rfl (lv_at hl 0 rfl) ?_
    refine x_get hx hb hts hown hC hp 4 (by decide) x_l24 rfl dX0_useStarted_73 ?_
    refine lv_iload_n hx hb dX0_useStarted_76 rfl (lv_at hl 1 rfl) ?_
    refine x_ald 3 hx hb hC hp (by decide) hw dX0_useStarted_77 ?_
    refine lv_iload_n hx hb dX0_useStarted_78 rfl (lv_at hl 2 rfl) ?_
    refine x_ildN 3 w t hx hb hC hp (by decide) hw ht dX0_useStarted_79 ?_
    refine lv_iconst (v := 1) hx hb dX0_useStarted_80 (by decide) ?_
    refine lv_iadd hx hb dX0_useStarted_81 ?_
    exact x_ireti hx hb hr hlk hp (rfl) dX0_useStarted_82
  · refine lv_iload_n hx hb dX0_useStarted_0 rfl (lv_at hl 3 rfl) ?_
    refine lv_tableIn (off := 93) (tgt := 94) hx hb dX0_useStarted_1 (by decide) (by decide) (by decide +kernel) (by decide) ?_
    refine lv_aload_n hx hb dX0_useStarted_94 rfl (lv_at hl 0 rfl) ?_
    refine x_get hx hb hts hown hC hp 4 (by decide) x_l24 rfl dX0_useStarted_95 ?_
    refine lv_iload_n hx hb dX0_useStarted_98 rfl (lv_at hl 1 rfl) ?_
    refine x_ald 3 hx hb hC hp (by decide) hw dX0_useStarted_99 ?_
    refine lv_iload_n hx hb dX0_useStarted_100 rfl (lv_at hl 2 rfl) ?_
    refine x_ildN 3 w t hx hb hC hp (by decide) hw ht dX0_useStarted_101 ?_
    exact x_ireti hx hb hr hlk hp (rfl) dX0_useStarted_102
  · refine lv_iload_n hx hb dX0_useStarted_0 rfl (lv_at hl 3 rfl) ?_
    refine lv_tableIn (off := 102) (tgt := 103) hx hb dX0_useStarted_1 (by decide) (by decide) (by decide +kernel) (by decide) ?_
    refine lv_aload_n hx hb dX0_useStarted_103 rfl (lv_at hl 0 rfl) ?_
    refine x_get hx hb hts hown hC hp 4 (by decide) x_l24 rfl dX0_useStarted_104 ?_
    refine lv_iload_n hx hb dX0_useStarted_107 rfl (lv_at hl 1 rfl) ?_
    refine x_ald 3 hx hb hC hp (by decide) hw dX0_useStarted_108 ?_
    refine lv_iload_n hx hb dX0_useStarted_109 rfl (lv_at hl 2 rfl) ?_
    refine lv_bipush (v := 7) hx hb dX0_useStarted_110 (by decide) ?_
    refine x_istN 3 w t hx hb hC hp (by decide) hw ht dX0_useStarted_112 (fun H locs hp => ?_)
    refine lv_bipush (v := 7) hx hb dX0_useStarted_113 (by decide) ?_
    exact x_ireti hx hb hr hlk hp (rfl) dX0_useStarted_115
  · refine lv_iload_n hx hb dX0_useStarted_0 rfl (lv_at hl 3 rfl) ?_
    refine lv_tableIn (off := 115) (tgt := 116) hx hb dX0_useStarted_1 (by decide) (by decide) (by decide +kernel) (by decide) ?_
    refine lv_sipush (v := 500) hx hb dX0_useStarted_116 (by decide) ?_
    refine lv_iload_n hx hb dX0_useStarted_119 rfl (lv_at hl 2 rfl) ?_
    refine lv_iadd hx hb dX0_useStarted_120 ?_
    exact x_ireti hx hb hr hlk hp (rfl) dX0_useStarted_121
  · refine lv_iload_n hx hb dX0_useStarted_0 rfl (lv_at hl 3 rfl) ?_
    refine lv_tableIn (off := 121) (tgt := 122) hx hb dX0_useStarted_1 (by decide) (by decide) (by decide +kernel) (by decide) ?_
    refine lv_iconst (v := 3) hx hb dX0_useStarted_122 (by decide) ?_
    exact x_ireti hx hb hr hlk hp (rfl) dX0_useStarted_123
  · refine lv_iload_n hx hb dX0_useStarted_0 rfl (lv_at hl 3 rfl) ?_
    refine lv_tableIn (off := 125) (tgt := 126) hx hb dX0_useStarted_1 (by decide) (by decide) (by decide +kernel) (by decide) ?_
    refine lv_iconst (v := 1) hx hb dX0_useStarted_126 (by decide) ?_
    exact x_ireti hx hb hr hlk hp (rfl) dX0_useStarted_127
  · refine lv_iload_n hx hb dX0_useStarted_0 rfl (lv_at hl 3 rfl) ?_
    refine lv_tableIn (off := 125) (tgt := 126) hx hb dX0_useStarted_1 (by decide) (by decide) (by decide +kernel) (by decide) ?_
    refine lv_iconst (v := 1) hx hb dX0_useStarted_126 (by decide) ?_
    exact x_ireti hx hb hr hlk hp (rfl) dX0_useStarted_127
  · refine lv_iload_n hx hb dX0_useStarted_0 rfl (lv_at hl 3 rfl) ?_
    refine lv_tableIn (off := 71) (tgt := 72) hx hb dX0_useStarted_1 (by decide) (by decide) (by decide +kernel) (by decide) ?_
    refine lv_aload_n hx hb dX0_useStarted_72 rfl (lv_at hl 0 rfl) ?_
    refine x_get hx hb hts hown hC hp 4 (by decide) x_l24 rfl dX0_useStarted_73 ?_
    refine lv_iload_n hx hb dX0_useStarted_76 rfl (lv_at hl 1 rfl) ?_
    refine x_ald 3 hx hb hC hp (by decide) hw dX0_useStarted_77 ?_
    refine lv_iload_n hx hb dX0_useStarted_78 rfl (lv_at hl 2 rfl) ?_
    refine x_ildN 3 w t hx hb hC hp (by decide) hw ht dX0_useStarted_79 ?_
    refine lv_iconst (v := 1) hx hb dX0_useStarted_80 (by decide) ?_
    refine lv_iadd hx hb dX0_useStarted_81 ?_
    exact x_ireti hx hb hr hlk hp (rfl) dX0_useStarted_82
  · refine lv_iload_n hx hb dX0_useStarted_0 rfl (lv_at hl 3 rfl) ?_
    refine lv_tableIn (off := 71) (tgt := 72) hx hb dX0_useStarted_1 (by decide) (by decide) (by decide +kernel) (by decide) ?_
    refine lv_aload_n hx hb dX0_useStarted_72 rfl (lv_at hl 0 rfl) ?_
    refine x_get hx hb hts hown hC hp 4 (by decide) x_l24 rfl dX0_useStarted_73 ?_
    refine lv_iload_n hx hb dX0_useStarted_76 rfl (lv_at hl 1 rfl) ?_
    refine x_ald 3 hx hb hC hp (by decide) hw dX0_useStarted_77 ?_
    refine lv_iload_n hx hb dX0_useStarted_78 rfl (lv_at hl 2 rfl) ?_
    refine x_ildN 3 w t hx hb hC hp (by decide) hw ht dX0_useStarted_79 ?_
    refine lv_iconst (v := 1) hx hb dX0_useStarted_80 (by decide) ?_
    refine lv_iadd hx hb dX0_useStarted_81 ?_
    exact x_ireti hx hb hr hlk hp (rfl) dX0_useStarted_82
  · refine lv_iload_n hx hb dX0_useStarted_0 rfl (lv_at hl 3 rfl) ?_
    refine lv_tableIn (off := 82) (tgt := 83) hx hb dX0_useStarted_1 (by decide) (by decide) (by decide +kernel) (by decide) ?_
    refine lv_aload_n hx hb dX0_useStarted_83 rfl (lv_at hl 0 rfl) ?_
    refine x_get hx hb hts hown hC hp 4 (by decide) x_l24 rfl dX0_useStarted_84 ?_
    refine lv_iload_n hx hb dX0_useStarted_87 rfl (lv_at hl 1 rfl) ?_
    refine x_ald 3 hx hb hC hp (by decide) hw dX0_useStarted_88 ?_
    refine lv_iconst (v := 0) hx hb dX0_useStarted_89 (by decide) ?_
    refine x_ildN 3 w 0 hx hb hC hp (by decide) hw (by decide) dX0_useStarted_90 ?_
    refine lv_iconst (v := 1) hx hb dX0_useStarted_91 (by decide) ?_
    refine lv_iadd hx hb dX0_useStarted_92 ?_
    exact x_ireti hx hb hr hlk hp (rfl) dX0_useStarted_93
  · refine lv_iload_n hx hb dX0_useStarted_0 rfl (lv_at hl 3 rfl) ?_
    refine lv_tableIn (off := 123) (tgt := 124) hx hb dX0_useStarted_1 (by decide) (by decide) (by decide +kernel) (by decide) ?_
    refine lv_iconst (v := 0) hx hb dX0_useStarted_124 (by decide) ?_
    exact x_ireti hx hb hr hlk hp (rfl) dX0_useStarted_125
  · refine lv_iload_n hx hb dX0_useStarted_0 rfl (lv_at hl 3 rfl) ?_
    refine lv_tableIn (off := 125) (tgt := 126) hx hb dX0_useStarted_1 (by decide) (by decide) (by decide +kernel) (by decide) ?_
    refine lv_iconst (v := 1) hx hb dX0_useStarted_126 (by decide) ?_
    exact x_ireti hx hb hr hlk hp (rfl) dX0_useStarted_127
  · refine lv_iload_n hx hb dX0_useStarted_0 rfl (lv_at hl 3 rfl) ?_
    refine lv_tableIn (off := 93) (tgt := 94) hx hb dX0_useStarted_1 (by decide) (by decide) (by decide +kernel) (by decide) ?_
    refine lv_aload_n hx hb dX0_useStarted_94 rfl (lv_at hl 0 rfl) ?_
    refine x_get hx hb hts hown hC hp 4 (by decide) x_l24 rfl dX0_useStarted_95 ?_
    refine lv_iload_n hx hb dX0_useStarted_98 rfl (lv_at hl 1 rfl) ?_
    refine x_ald 3 hx hb hC hp (by decide) hw dX0_useStarted_99 ?_
    refine lv_iload_n hx hb dX0_useStarted_100 rfl (lv_at hl 2 rfl) ?_
    refine x_ildN 3 w t hx hb hC hp (by decide) hw ht dX0_useStarted_101 ?_
    exact x_ireti hx hb hr hlk hp (rfl) dX0_useStarted_102
