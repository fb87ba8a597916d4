theorem m_ia {x y : Int32} {a b : Nat} (hx : x = nI a) (hy : y = nI b) : x + y = nI (a + b) := by rw [hx, hy, nI_add]
theorem m_im {x y : Int32} {a b : Nat} (hx : x = nI a) (hy : y = nI b) : x * y = nI (a * b) := by rw [hx, hy, pk_mul]
theorem m_is {x : Int32} {a : Nat} (hx : x = nI (a + 1)) : x - 1 = nI a := by rw [hx, nI_pred]
theorem m_dn (k : Nat) : nI (k + 1) + Int32.ofInt (-1) = nI k := by rw [x_m1, nI_pred]
def m_in (v a b : Int32) : Int32 := if v < a then 0 else if b < v then 0 else 1

set_option maxHeartbeats 4000000 in
set_option maxRecDepth 100000 in
theorem cm_in (l : Launch) (v a b : Int32) : x_Ms l yX1_in (.code yX1_in cX1_in 3 (some .boolean) :: lw_g) [.int v, .int a, .int b] (m_in v a b) := by
  refine x_bodys rfl (Nat.le_of_ble_eq_true rfl) ?_
  intro p e s m below meth c hx hb hml hr hlk hown hts ls hl
  have hl : lv_has ls 3 [(0, .int v), (1, .int a), (2, .int b)] := hl
  refine lv_iload_n hx hb dX1_in_0 rfl (lv_at hl 0 rfl) ?_
  refine lv_iload_n hx hb dX1_in_1 rfl (lv_at hl 1 rfl) ?_
  refine lv_icmp_lt (tgt := 14) hx hb dX1_in_2 (by decide) (fun c_1 => ?_) (fun c_1 => ?_)
  · refine lv_iconst (v := 0) hx hb dX1_in_14 (by decide) ?_
    exact x_sret hx hb hr rfl hlk (by unfold m_in; rw [if_pos c_1]) dX1_in_15
  · refine lv_iload_n hx hb dX1_in_5 rfl (lv_at hl 0 rfl) ?_
    refine lv_iload_n hx hb dX1_in_6 rfl (lv_at hl 2 rfl) ?_
    refine lv_icmp_gt (tgt := 14) hx hb dX1_in_7 (by decide) (fun c_2 => ?_) (fun c_2 => ?_)
    · refine lv_iconst (v := 0) hx hb dX1_in_14 (by decide) ?_
      exact x_sret hx hb hr rfl hlk (by unfold m_in; rw [if_neg c_1, if_pos c_2]) dX1_in_15
    · refine lv_iconst (v := 1) hx hb dX1_in_10 (by decide) ?_
      refine lv_goto (tgt := 15) hx hb dX1_in_11 (by decide) ?_
      exact x_sret hx hb hr rfl hlk (by unfold m_in; rw [if_neg c_1, if_neg c_2]) dX1_in_15

set_option maxHeartbeats 4000000 in
set_option maxRecDepth 100000 in
theorem lm_note {p : Program} {l : Launch} {e : Env} {s : State} {m : MethodId} {args : Array Value} {below : List Frame} {meth : Method} {c : Code} {D : va_G} {cI : ClassId} {g : Nat → Nat} (hb : c.code = cX1_note) (hr : meth.sig.returnType = none) (hx : p.tables.exec = Jvm.exec) (hown : s.vm.findClass RX1 = some m.cls) (hlk : meth.locks = false) (hts : ∀ w ∈ lw_g, w.before args s = true) (hC : m_C D cI g s) {w : Nat} {v : Int32} (hw : w < 2) {F : mT} :
    ∀ (k : Nat), k ≤ 31 → ∀ (μ : mT), μ.2 0 = nI w → ∀ (H : Heap) (locs : List Loc), m_P D cI g s H locs μ → ∀ (ls : Array Slot), lv_has ls 3 [(2, .int (nI k)), (0, .ref (g 0)), (1, .int v)] → F = m_sA (m_sA (m_shift w k μ) 5 (32 * w) v) 6 w ((m_sA (m_shift w k μ) 5 (32 * w) v).1 6 w + 1) →
      W p l e { frames := 0, cells := 0, slots := 0, locals := 0 } s m args below meth c H locs 0 0 (MQ below (va_Qv (fun ν => ν = F) (fun ν t => va_P D vwCl (fw 14 g (m_E cI g ν)) t.heap) (fw_A 14 g)) args s 0 0 (fw_A 14 g)) (F0 m 3 ls []) := by
  intro k
  induction k with
  | zero =>
    intro _ μ hw0 H locs hp ls hl hF
    refine lv_iload_n hx hb dX1_note_3 rfl (lv_at hl 0 rfl) ?_
    refine lv_if_le (tgt := 43) hx hb dX1_note_4 (by decide) (fun c_1 => ?_) (fun c_1 => absurd (by decide) c_1)
    refine lv_aload_n hx hb dX1_note_43 rfl (lv_at hl 1 rfl) ?_
    refine m_get 5 (by decide) hx hb hts hown hC hp m_l25 dX1_note_44 ?_
    refine lv_bipush (v := 32) hx hb dX1_note_47 (by decide) ?_
    refine lv_aload_n hx hb dX1_note_49 rfl (lv_at hl 1 rfl) ?_
    refine m_geti (μ := μ) 0 (nI w) (by decide) (hw0) hx hb hts hown hC hp m_l53 dX1_note_50 ?_
    refine lv_imul hx hb dX1_note_53 ?_
    refine lv_iload_n hx hb dX1_note_54 rfl (lv_at hl 2 rfl) ?_
    refine m_ist 5 (32 * w) (by decide) ((m_im (a := 32) (b := w) rfl rfl)) (by show (32 * w) < 64; omega) hx hb hC hp dX1_note_55 (fun H locs hp => ?_)
    refine lv_aload_n hx hb dX1_note_56 rfl (lv_at hl 1 rfl) ?_
    refine m_get 6 (by decide) hx hb hts hown hC hp m_l28 dX1_note_57 ?_
    refine lv_aload_n hx hb dX1_note_60 rfl (lv_at hl 1 rfl) ?_
    refine m_geti (μ := (m_sA μ 5 (32 * w) v)) 0 (nI w) (by decide) (hw0) hx hb hts hown hC hp m_l53 dX1_note_61 ?_
    refine lv_dup2_11 hx hb dX1_note_64 rfl rfl ?_
    refine m_ild (μ := (m_sA μ 5 (32 * w) v)) 6 w ((m_sA μ 5 (32 * w) v).1 6 w) (by decide) (rfl) (by show w < 2; omega) (rfl) hx hb hC hp dX1_note_65 ?_
    refine lv_iconst (v := 1) hx hb dX1_note_66 (by decide) ?_
    refine lv_iadd hx hb dX1_note_67 ?_
    refine m_ist 6 w (by decide) (rfl) (by show w < 2; omega) hx hb hC hp dX1_note_68 (fun H locs hp => ?_)
    exact m_vret hx hb hr hlk hp (hF.symm) dX1_note_69
  | succ k ih =>
    intro hk μ hw0 H locs hp ls hl hF
    have hne : ¬ nI (k + 1) ≤ 0 := nI_nle (by omega) (by omega)
    refine lv_iload_n hx hb dX1_note_3 rfl (lv_at hl 0 rfl) ?_
    refine lv_if_le (tgt := 43) hx hb dX1_note_4 (by decide) (fun c_1 => absurd c_1 hne) (fun c_1 => ?_)
    refine lv_aload_n hx hb dX1_note_7 rfl (lv_at hl 1 rfl) ?_
    refine m_get 5 (by decide) hx hb hts hown hC hp m_l25 dX1_note_8 ?_
    refine lv_bipush (v := 32) hx hb dX1_note_11 (by decide) ?_
    refine lv_aload_n hx hb dX1_note_13 rfl (lv_at hl 1 rfl) ?_
    refine m_geti (μ := μ) 0 (nI w) (by decide) (hw0) hx hb hts hown hC hp m_l53 dX1_note_14 ?_
    refine lv_imul hx hb dX1_note_17 ?_
    refine lv_iload_n hx hb dX1_note_18 rfl (lv_at hl 0 rfl) ?_
    refine lv_iadd hx hb dX1_note_19 ?_
    refine lv_aload_n hx hb dX1_note_20 rfl (lv_at hl 1 rfl) ?_
    refine m_get 5 (by decide) hx hb hts hown hC hp m_l25 dX1_note_21 ?_
    refine lv_bipush (v := 32) hx hb dX1_note_24 (by decide) ?_
    refine lv_aload_n hx hb dX1_note_26 rfl (lv_at hl 1 rfl) ?_
    refine m_geti (μ := μ) 0 (nI w) (by decide) (hw0) hx hb hts hown hC hp m_l53 dX1_note_27 ?_
    refine lv_imul hx hb dX1_note_30 ?_
    refine lv_iload_n hx hb dX1_note_31 rfl (lv_at hl 0 rfl) ?_
    refine lv_iadd hx hb dX1_note_32 ?_
    refine lv_iconst (v := 1) hx hb dX1_note_33 (by decide) ?_
    refine lv_isub hx hb dX1_note_34 ?_
    refine m_ild (μ := μ) 5 (32 * w + k) (μ.1 5 (32 * w + k)) (by decide) ((m_is (a := 32 * w + k) (m_ia (a := (32 * w)) (b := (k + 1)) (m_im (a := 32) (b := w) rfl rfl) rfl))) (by show (32 * w + k) < 64; omega) (rfl) hx hb hC hp dX1_note_35 ?_
    refine m_ist 5 ((32 * w) + (k + 1)) (by decide) ((m_ia (a := (32 * w)) (b := (k + 1)) (m_im (a := 32) (b := w) rfl rfl) rfl)) (by show ((32 * w) + (k + 1)) < 64; omega) hx hb hC hp dX1_note_36 (fun H locs hp => ?_)
    refine lv_iinc (v := nI k) (lv' := [(2, .int (nI k)), (0, .ref (g 0)), (1, .int v)]) hx hb dX1_note_37 hl (k := 0) rfl (m_dn k) (by decide) rfl (fun ls hl => ?_)
    refine lv_goto (tgt := 3) hx hb dX1_note_40 (by decide) ?_
    exact ih (by omega) (m_sA μ 5 ((32 * w) + (k + 1)) (μ.1 5 (32 * w + k))) hw0 _ _ hp ls hl hF

set_option maxHeartbeats 4000000 in
set_option maxRecDepth 100000 in
theorem cm_note (l : Launch) (D : va_G) (cI : ClassId) (g : Nat → Nat) (μ : mT) (w : Nat) (v : Int32) (hw : w < 2) (hw0 : μ.2 0 = nI w) : m_Mv l yX1_note (.code yX1_note cX1_note 3 none :: lw_g) { frames := 0, cells := 0, slots := 0, locals := 0 } D cI g μ [.int v] (m_note w v μ) := by
  refine m_bodyv rfl rfl (Nat.le_of_ble_eq_true rfl) ?_
  intro p e s m below meth c hx hb hml hr hlk hown hts hC hp ls hl
  have hl : lv_has ls 3 [(0, .ref (g 0)), (1, .int v)] := hl
  refine lv_bipush (v := 31) hx hb dX1_note_0 (by decide) ?_
  refine lv_istore_n (lv' := [(2, .int (nI 31)), (0, .ref (g 0)), (1, .int v)]) hx hb dX1_note_2 rfl hl (by decide) rfl (fun ls hl => ?_)
  exact lm_note hb hr hx hown hlk hts hC hw 31 (by omega) μ hw0 _ _ hp ls hl rfl

set_option maxHeartbeats 4000000 in
set_option maxRecDepth 100000 in
theorem cm_begin (l : Launch) (D : va_G) (cI : ClassId) (g : Nat → Nat) (μ : mT) (w d t : Nat) (tv : Int32) (hw : w < 2) (hd : d < 9) (ht : t < 8) (hw0 : μ.2 0 = nI w) (hd0 : μ.2 1 = nI d) (htv : tv = nI t) : m_Mv l yX1_begin (.code yX1_begin cX1_begin 3 none :: lw_g) { frames := 0, cells := 0, slots := 0, locals := 0 } D cI g μ [.int tv] (m_begin w d t μ) := by
  subst htv
  refine m_bodyv rfl rfl (Nat.le_of_ble_eq_true rfl) ?_
  intro p e s m below meth c hx hb hml hr hlk hown hts hC hp ls hl
  have hl : lv_has ls 3 [(0, .ref (g 0)), (1, .int (nI t))] := hl
  refine lv_aload_n hx hb dX1_begin_0 rfl (lv_at hl 0 rfl) ?_
  refine m_get 3 (by decide) hx hb hts hown hC hp m_l19 dX1_begin_1 ?_
  refine lv_bipush (v := 8) hx hb dX1_begin_4 (by decide) ?_
  refine lv_aload_n hx hb dX1_begin_6 rfl (lv_at hl 0 rfl) ?_
  refine m_geti (μ := μ) 0 (nI w) (by decide) (hw0) hx hb hts hown hC hp m_l53 dX1_begin_7 ?_
  refine lv_imul hx hb dX1_begin_10 ?_
  refine lv_iload_n hx hb dX1_begin_11 rfl (lv_at hl 1 rfl) ?_
  refine lv_iadd hx hb dX1_begin_12 ?_
  refine m_ild (μ := μ) 3 ((8 * w) + t) (μ.1 3 ((8 * w) + t)) (by decide) ((m_ia (a := (8 * w)) (b := t) (m_im (a := 8) (b := w) rfl rfl) rfl)) (by show ((8 * w) + t) < 16; omega) (rfl) hx hb hC hp dX1_begin_13 ?_
  refine lv_istore_n (lv' := [(2, .int (μ.1 3 ((8 * w) + t))), (0, .ref (g 0)), (1, .int (nI t))]) hx hb dX1_begin_14 rfl hl (by decide) rfl (fun ls hl => ?_)
  refine lv_aload_n hx hb dX1_begin_15 rfl (lv_at hl 1 rfl) ?_
  refine lv_iload_n hx hb dX1_begin_16 rfl (lv_at hl 0 rfl) ?_
  refine lv_iconst (v := 3) hx hb dX1_begin_17 (by decide) ?_
  refine lv_icmp_ne (tgt := 25) hx hb dX1_begin_18 (by decide) (fun c_1 => ?_) (fun c_1 => ?_)
  · refine lv_iconst (v := 0) hx hb dX1_begin_25 (by decide) ?_
    refine m_puti 2 (by decide) hx hb hts hown hC hp m_l57 dX1_begin_26 (fun H locs hp => ?_)
    refine lv_aload_n hx hb dX1_begin_29 rfl (lv_at hl 1 rfl) ?_
    refine lv_iconst (v := 0) hx hb dX1_begin_30 (by decide) ?_
    refine m_puti 3 (by decide) hx hb hts hown hC hp m_l60 dX1_begin_31 (fun H locs hp => ?_)
    refine lv_iload_n hx hb dX1_begin_34 rfl (lv_at hl 0 rfl) ?_
    refine lv_if_eq (tgt := 39) hx hb dX1_begin_35 (by decide) (fun c_2 => ?_) (fun c_2 => ?_)
    · refine lv_aload_n hx hb dX1_begin_39 rfl (lv_at hl 1 rfl) ?_
      refine m_get 3 (by decide) hx hb hts hown hC hp m_l19 dX1_begin_40 ?_
      refine lv_bipush (v := 8) hx hb dX1_begin_43 (by decide) ?_
      refine lv_aload_n hx hb dX1_begin_45 rfl (lv_at hl 1 rfl) ?_
      refine m_geti (μ := (m_sI (m_sI μ 2 0) 3 0)) 0 (nI w) (by decide) (hw0) hx hb hts hown hC hp m_l53 dX1_begin_46 ?_
      refine lv_imul hx hb dX1_begin_49 ?_
      refine lv_iload_n hx hb dX1_begin_50 rfl (lv_at hl 2 rfl) ?_
      refine lv_iadd hx hb dX1_begin_51 ?_
      refine lv_iconst (v := 1) hx hb dX1_begin_52 (by decide) ?_
      refine m_ist 3 ((8 * w) + t) (by decide) ((m_ia (a := (8 * w)) (b := t) (m_im (a := 8) (b := w) rfl rfl) rfl)) (by show ((8 * w) + t) < 16; omega) hx hb hC hp dX1_begin_53 (fun H locs hp => ?_)
      refine lv_aload_n hx hb dX1_begin_54 rfl (lv_at hl 1 rfl) ?_
      refine m_get 8 (by decide) hx hb hts hown hC hp m_l34 dX1_begin_55 ?_
      refine lv_aload_n hx hb dX1_begin_58 rfl (lv_at hl 1 rfl) ?_
      refine m_geti (μ := (m_sA (m_sI (m_sI μ 2 0) 3 0) 3 ((8 * w) + t) 1)) 1 (nI d) (by decide) (hd0) hx hb hts hown hC hp m_l63 dX1_begin_59 ?_
      refine lv_iload_n hx hb dX1_begin_62 rfl (lv_at hl 2 rfl) ?_
      refine m_ist 8 d (by decide) (rfl) (by show d < 9; omega) hx hb hC hp dX1_begin_63 (fun H locs hp => ?_)
      refine lv_aload_n hx hb dX1_begin_64 rfl (lv_at hl 1 rfl) ?_
      refine m_get 9 (by decide) hx hb hts hown hC hp m_l37 dX1_begin_65 ?_
      refine lv_aload_n hx hb dX1_begin_68 rfl (lv_at hl 1 rfl) ?_
      refine m_geti (μ := (m_sA (m_sA (m_sI (m_sI μ 2 0) 3 0) 3 ((8 * w) + t) 1) 8 d (nI t))) 1 (nI d) (by decide) (hd0) hx hb hts hown hC hp m_l63 dX1_begin_69 ?_
      refine lv_iconst (v := 0) hx hb dX1_begin_72 (by decide) ?_
      refine m_ist 9 d (by decide) (rfl) (by show d < 9; omega) hx hb hC hp dX1_begin_73 (fun H locs hp => ?_)
      refine lv_aload_n hx hb dX1_begin_74 rfl (lv_at hl 1 rfl) ?_
      refine m_get 10 (by decide) hx hb hts hown hC hp m_l40 dX1_begin_75 ?_
      refine lv_aload_n hx hb dX1_begin_78 rfl (lv_at hl 1 rfl) ?_
      refine m_geti (μ := (m_sA (m_sA (m_sA (m_sI (m_sI μ 2 0) 3 0) 3 ((8 * w) + t) 1) 8 d (nI t)) 9 d 0)) 1 (nI d) (by decide) (hd0) hx hb hts hown hC hp m_l63 dX1_begin_79 ?_
      refine lv_iconst (v := 0) hx hb dX1_begin_82 (by decide) ?_
      refine m_ist 10 d (by decide) (rfl) (by show d < 9; omega) hx hb hC hp dX1_begin_83 (fun H locs hp => ?_)
      refine lv_aload_n hx hb dX1_begin_84 rfl (lv_at hl 1 rfl) ?_
      refine m_get 11 (by decide) hx hb hts hown hC hp m_l43 dX1_begin_85 ?_
      refine lv_aload_n hx hb dX1_begin_88 rfl (lv_at hl 1 rfl) ?_
      refine m_geti (μ := (m_sA (m_sA (m_sA (m_sA (m_sI (m_sI μ 2 0) 3 0) 3 ((8 * w) + t) 1) 8 d (nI t)) 9 d 0) 10 d 0)) 1 (nI d) (by decide) (hd0) hx hb hts hown hC hp m_l63 dX1_begin_89 ?_
      refine lv_iconst (v := 0) hx hb dX1_begin_92 (by decide) ?_
      refine m_ist 11 d (by decide) (rfl) (by show d < 9; omega) hx hb hC hp dX1_begin_93 (fun H locs hp => ?_)
      refine lv_aload_n hx hb dX1_begin_94 rfl (lv_at hl 1 rfl) ?_
      refine lv_dup hx hb dX1_begin_95 rfl ?_
      refine m_geti (μ := (m_sA (m_sA (m_sA (m_sA (m_sA (m_sI (m_sI μ 2 0) 3 0) 3 ((8 * w) + t) 1) 8 d (nI t)) 9 d 0) 10 d 0) 11 d 0)) 1 (nI d) (by decide) (hd0) hx hb hts hown hC hp m_l63 dX1_begin_96 ?_
      refine lv_iconst (v := 1) hx hb dX1_begin_99 (by decide) ?_
      refine lv_iadd hx hb dX1_begin_100 ?_
      rw [nI_1 d]
      refine m_puti 1 (by decide) hx hb hts hown hC hp m_l63 dX1_begin_101 (fun H locs hp => ?_)
      exact m_vret hx hb hr hlk hp (by unfold m_begin m_beg; rw [if_pos c_2, if_neg c_1]) dX1_begin_104
    · exact m_vret hx hb hr hlk hp (by unfold m_begin m_beg; rw [if_neg c_2, if_neg c_1]) dX1_begin_38
  · refine lv_iconst (v := 3) hx hb dX1_begin_21 (by decide) ?_
    refine lv_goto (tgt := 26) hx hb dX1_begin_22 (by decide) ?_
    refine m_puti 2 (by decide) hx hb hts hown hC hp m_l57 dX1_begin_26 (fun H locs hp => ?_)
    refine lv_aload_n hx hb dX1_begin_29 rfl (lv_at hl 1 rfl) ?_
    refine lv_iconst (v := 0) hx hb dX1_begin_30 (by decide) ?_
    refine m_puti 3 (by decide) hx hb hts hown hC hp m_l60 dX1_begin_31 (fun H locs hp => ?_)
    refine lv_iload_n hx hb dX1_begin_34 rfl (lv_at hl 0 rfl) ?_
    refine lv_if_eq (tgt := 39) hx hb dX1_begin_35 (by decide) (fun c_3 => ?_) (fun c_3 => ?_)
    · refine lv_aload_n hx hb dX1_begin_39 rfl (lv_at hl 1 rfl) ?_
      refine m_get 3 (by decide) hx hb hts hown hC hp m_l19 dX1_begin_40 ?_
      refine lv_bipush (v := 8) hx hb dX1_begin_43 (by decide) ?_
      refine lv_aload_n hx hb dX1_begin_45 rfl (lv_at hl 1 rfl) ?_
      refine m_geti (μ := (m_sI (m_sI μ 2 3) 3 0)) 0 (nI w) (by decide) (hw0) hx hb hts hown hC hp m_l53 dX1_begin_46 ?_
      refine lv_imul hx hb dX1_begin_49 ?_
      refine lv_iload_n hx hb dX1_begin_50 rfl (lv_at hl 2 rfl) ?_
      refine lv_iadd hx hb dX1_begin_51 ?_
      refine lv_iconst (v := 1) hx hb dX1_begin_52 (by decide) ?_
      refine m_ist 3 ((8 * w) + t) (by decide) ((m_ia (a := (8 * w)) (b := t) (m_im (a := 8) (b := w) rfl rfl) rfl)) (by show ((8 * w) + t) < 16; omega) hx hb hC hp dX1_begin_53 (fun H locs hp => ?_)
      refine lv_aload_n hx hb dX1_begin_54 rfl (lv_at hl 1 rfl) ?_
      refine m_get 8 (by decide) hx hb hts hown hC hp m_l34 dX1_begin_55 ?_
      refine lv_aload_n hx hb dX1_begin_58 rfl (lv_at hl 1 rfl) ?_
      refine m_geti (μ := (m_sA (m_sI (m_sI μ 2 3) 3 0) 3 ((8 * w) + t) 1)) 1 (nI d) (by decide) (hd0) hx hb hts hown hC hp m_l63 dX1_begin_59 ?_
      refine lv_iload_n hx hb dX1_begin_62 rfl (lv_at hl 2 rfl) ?_
      refine m_ist 8 d (by decide) (rfl) (by show d < 9; omega) hx hb hC hp dX1_begin_63 (fun H locs hp => ?_)
      refine lv_aload_n hx hb dX1_begin_64 rfl (lv_at hl 1 rfl) ?_
      refine m_get 9 (by decide) hx hb hts hown hC hp m_l37 dX1_begin_65 ?_
      refine lv_aload_n hx hb dX1_begin_68 rfl (lv_at hl 1 rfl) ?_
      refine m_geti (μ := (m_sA (m_sA (m_sI (m_sI μ 2 3) 3 0) 3 ((8 * w) + t) 1) 8 d (nI t))) 1 (nI d) (by decide) (hd0) hx hb hts hown hC hp m_l63 dX1_begin_69 ?_
      refine lv_iconst (v := 0) hx hb dX1_begin_72 (by decide) ?_
      refine m_ist 9 d (by decide) (rfl) (by show d < 9; omega) hx hb hC hp dX1_begin_73 (fun H locs hp => ?_)
      refine lv_aload_n hx hb dX1_begin_74 rfl (lv_at hl 1 rfl) ?_
      refine m_get 10 (by decide) hx hb hts hown hC hp m_l40 dX1_begin_75 ?_
      refine lv_aload_n hx hb dX1_begin_78 rfl (lv_at hl 1 rfl) ?_
      refine m_geti (μ := (m_sA (m_sA (m_sA (m_sI (m_sI μ 2 3) 3 0) 3 ((8 * w) + t) 1) 8 d (nI t)) 9 d 0)) 1 (nI d) (by decide) (hd0) hx hb hts hown hC hp m_l63 dX1_begin_79 ?_
      refine lv_iconst (v := 0) hx hb dX1_begin_82 (by decide) ?_
      refine m_ist 10 d (by decide) (rfl) (by show d < 9; omega) hx hb hC hp dX1_begin_83 (fun H locs hp => ?_)
      refine lv_aload_n hx hb dX1_begin_84 rfl (lv_at hl 1 rfl) ?_
      refine m_get 11 (by decide) hx hb hts hown hC hp m_l43 dX1_begin_85 ?_
      refine lv_aload_n hx hb dX1_begin_88 rfl (lv_at hl 1 rfl) ?_
      refine m_geti (μ := (m_sA (m_sA (m_sA (m_sA (m_sI (m_sI μ 2 3) 3 0) 3 ((8 * w) + t) 1) 8 d (nI t)) 9 d 0) 10 d 0)) 1 (nI d) (by decide) (hd0) hx hb hts hown hC hp m_l63 dX1_begin_89 ?_
      refine lv_iconst (v := 0) hx hb dX1_begin_92 (by decide) ?_
      refine m_ist 11 d (by decide) (rfl) (by show d < 9; omega) hx hb hC hp dX1_begin_93 (fun H locs hp => ?_)
      refine lv_aload_n hx hb dX1_begin_94 rfl (lv_at hl 1 rfl) ?_
      refine lv_dup hx hb dX1_begin_95 rfl ?_
      refine m_geti (μ := (m_sA (m_sA (m_sA (m_sA (m_sA (m_sI (m_sI μ 2 3) 3 0) 3 ((8 * w) + t) 1) 8 d (nI t)) 9 d 0) 10 d 0) 11 d 0)) 1 (nI d) (by decide) (hd0) hx hb hts hown hC hp m_l63 dX1_begin_96 ?_
      refine lv_iconst (v := 1) hx hb dX1_begin_99 (by decide) ?_
      refine lv_iadd hx hb dX1_begin_100 ?_
      rw [nI_1 d]
      refine m_puti 1 (by decide) hx hb hts hown hC hp m_l63 dX1_begin_101 (fun H locs hp => ?_)
      exact m_vret hx hb hr hlk hp (absurd (c_1.symm.trans c_3) (by decide)) dX1_begin_104
    · exact m_vret hx hb hr hlk hp (by unfold m_begin m_beg; rw [if_neg c_3, if_pos c_1]) dX1_begin_38

set_option maxHeartbeats 4000000 in
set_option maxRecDepth 100000 in
theorem lm_end {p : Program} {l : Launch} {e : Env} {s : State} {m : MethodId} {args : Array Value} {below : List Frame} {meth : Method} {c : Code} {D : va_G} {cI : ClassId} {g : Nat → Nat} (hb : c.code = cX1_end) (hml : c.maxLocals = 5) (hr : meth.sig.returnType = none) (hx : p.tables.exec = Jvm.exec) (hown : s.vm.findClass RX1 = some m.cls) (hlk : meth.locks = false) (hts : ∀ w ∈ lw_g, w.before args s = true) (hC : m_C D cI g s) {w d t : Nat} {how n : Int32} (hw : w < 2) (hd : d < 9) (ht : t < 8) {F : mT} :
    ∀ (k : Nat), k ≤ 5 → ∀ (μ : mT), μ.2 0 = nI w → μ.2 1 = nI d → ∀ (H : Heap) (locs : List Loc), m_P D cI g s H locs μ → ∀ (ls : Array Slot), lv_has ls 5 [(4, .int (nI k - 1)), (3, .int (nI t)), (0, .ref (g 0)), (1, .int how), (2, .int n)] → F = m_fin w t how n (m_gs w d k μ) →
      W p l e { frames := 1, cells := 0, slots := 0, locals := 22 } s m args below meth c H locs 0 0 (MQ below (va_Qv (fun ν => ν = F) (fun ν t => va_P D vwCl (fw 14 g (m_E cI g ν)) t.heap) (fw_A 14 g)) args s 0 0 (fw_A 14 g)) (F0 m 33 ls []) := by
  intro k
  induction k with
  | zero =>
    intro _ μ hw0 hd0 H locs hp ls hl hF
    refine lv_iload hx hb dX1_end_33 (lv_at hl 0 rfl) ?_
    refine lv_if_lt (tgt := 62) hx hb dX1_end_35 (by decide) (fun c_1 => ?_) (fun c_1 => absurd (by decide) c_1)
    refine lv_aload_n hx hb dX1_end_62 rfl (lv_at hl 2 rfl) ?_
    refine m_get 3 (by decide) hx hb hts hown hC hp m_l19 dX1_end_63 ?_
    refine lv_bipush (v := 8) hx hb dX1_end_66 (by decide) ?_
    refine lv_aload_n hx hb dX1_end_68 rfl (lv_at hl 2 rfl) ?_
    refine m_geti (μ := μ) 0 (nI w) (by decide) (hw0) hx hb hts hown hC hp m_l53 dX1_end_69 ?_
    refine lv_imul hx hb dX1_end_72 ?_
    refine lv_iload_n hx hb dX1_end_73 rfl (lv_at hl 1 rfl) ?_
    refine lv_iadd hx hb dX1_end_74 ?_
    refine lv_iload_n hx hb dX1_end_75 rfl (lv_at hl 3 rfl) ?_
    refine lv_if_ne (tgt := 83) hx hb dX1_end_76 (by decide) (fun c_2 => ?_) (fun c_2 => ?_)
    · refine lv_iconst (v := 3) hx hb dX1_end_83 (by decide) ?_
      refine m_ist 3 ((8 * w) + t) (by decide) ((m_ia (a := (8 * w)) (b := t) (m_im (a := 8) (b := w) rfl rfl) rfl)) (by show ((8 * w) + t) < 16; omega) hx hb hC hp dX1_end_84 (fun H locs hp => ?_)
      refine lv_iload_n hx hb dX1_end_85 rfl (lv_at hl 3 rfl) ?_
      refine lv_if_ne (tgt := 117) hx hb dX1_end_86 (by decide) (fun c_3 => ?_) (fun c_3 => ?_)
      · refine lv_aload_n hx hb dX1_end_117 rfl (lv_at hl 2 rfl) ?_
        refine lv_iload_n hx hb dX1_end_118 rfl (lv_at hl 3 rfl) ?_
        refine m_puti 2 (by decide) hx hb hts hown hC hp m_l57 dX1_end_119 (fun H locs hp => ?_)
        refine lv_aload_n hx hb dX1_end_122 rfl (lv_at hl 2 rfl) ?_
        refine lv_iload_n hx hb dX1_end_123 rfl (lv_at hl 4 rfl) ?_
        refine m_puti 3 (by decide) hx hb hts hown hC hp m_l60 dX1_end_124 (fun H locs hp => ?_)
        exact m_vret hx hb hr hlk hp (by rw [hF]; show _ = m_fin w t how n μ; unfold m_fin; rw [if_neg c_2]) dX1_end_127
      · refine lv_aload_n hx hb dX1_end_89 rfl (lv_at hl 2 rfl) ?_
        refine m_get 4 (by decide) hx hb hts hown hC hp m_l22 dX1_end_90 ?_
        refine lv_bipush (v := 8) hx hb dX1_end_93 (by decide) ?_
        refine lv_aload_n hx hb dX1_end_95 rfl (lv_at hl 2 rfl) ?_
        refine m_geti (μ := (m_sA μ 3 ((8 * w) + t) 3)) 0 (nI w) (by decide) (hw0) hx hb hts hown hC hp m_l53 dX1_end_96 ?_
        refine lv_imul hx hb dX1_end_99 ?_
        refine lv_iload_n hx hb dX1_end_100 rfl (lv_at hl 1 rfl) ?_
        refine lv_iadd hx hb dX1_end_101 ?_
        refine lv_bipush (v := 10) hx hb dX1_end_102 (by decide) ?_
        refine lv_iload_n hx hb dX1_end_104 rfl (lv_at hl 1 rfl) ?_
        refine lv_imul hx hb dX1_end_105 ?_
        refine lv_aload_n hx hb dX1_end_106 rfl (lv_at hl 2 rfl) ?_
        refine m_get 6 (by decide) hx hb hts hown hC hp m_l28 dX1_end_107 ?_
        refine lv_aload_n hx hb dX1_end_110 rfl (lv_at hl 2 rfl) ?_
        refine m_geti (μ := (m_sA μ 3 ((8 * w) + t) 3)) 0 (nI w) (by decide) (hw0) hx hb hts hown hC hp m_l53 dX1_end_111 ?_
        refine m_ild (μ := (m_sA μ 3 ((8 * w) + t) 3)) 6 w ((m_sA μ 3 ((8 * w) + t) 3).1 6 w) (by decide) (rfl) (by show w < 2; omega) (rfl) hx hb hC hp dX1_end_114 ?_
        refine lv_iadd hx hb dX1_end_115 ?_
        refine m_ist 4 ((8 * w) + t) (by decide) ((m_ia (a := (8 * w)) (b := t) (m_im (a := 8) (b := w) rfl rfl) rfl)) (by show ((8 * w) + t) < 16; omega) hx hb hC hp dX1_end_116 (fun H locs hp => ?_)
        refine lv_aload_n hx hb dX1_end_117 rfl (lv_at hl 2 rfl) ?_
        refine lv_iload_n hx hb dX1_end_118 rfl (lv_at hl 3 rfl) ?_
        refine m_puti 2 (by decide) hx hb hts hown hC hp m_l57 dX1_end_119 (fun H locs hp => ?_)
        refine lv_aload_n hx hb dX1_end_122 rfl (lv_at hl 2 rfl) ?_
        refine lv_iload_n hx hb dX1_end_123 rfl (lv_at hl 4 rfl) ?_
        refine m_puti 3 (by decide) hx hb hts hown hC hp m_l60 dX1_end_124 (fun H locs hp => ?_)
        exact m_vret hx hb hr hlk hp (absurd c_3 c_2) dX1_end_127
    · refine lv_iconst (v := 2) hx hb dX1_end_79 (by decide) ?_
      refine lv_goto (tgt := 84) hx hb dX1_end_80 (by decide) ?_
      refine m_ist 3 ((8 * w) + t) (by decide) ((m_ia (a := (8 * w)) (b := t) (m_im (a := 8) (b := w) rfl rfl) rfl)) (by show ((8 * w) + t) < 16; omega) hx hb hC hp dX1_end_84 (fun H locs hp => ?_)
      refine lv_iload_n hx hb dX1_end_85 rfl (lv_at hl 3 rfl) ?_
      refine lv_if_ne (tgt := 117) hx hb dX1_end_86 (by decide) (fun c_4 => ?_) (fun c_4 => ?_)
      · refine lv_aload_n hx hb dX1_end_117 rfl (lv_at hl 2 rfl) ?_
        refine lv_iload_n hx hb dX1_end_118 rfl (lv_at hl 3 rfl) ?_
        refine m_puti 2 (by decide) hx hb hts hown hC hp m_l57 dX1_end_119 (fun H locs hp => ?_)
        refine lv_aload_n hx hb dX1_end_122 rfl (lv_at hl 2 rfl) ?_
        refine lv_iload_n hx hb dX1_end_123 rfl (lv_at hl 4 rfl) ?_
        refine m_puti 3 (by decide) hx hb hts hown hC hp m_l60 dX1_end_124 (fun H locs hp => ?_)
        exact m_vret hx hb hr hlk hp (absurd c_2 c_4) dX1_end_127
      · refine lv_aload_n hx hb dX1_end_89 rfl (lv_at hl 2 rfl) ?_
        refine m_get 4 (by decide) hx hb hts hown hC hp m_l22 dX1_end_90 ?_
        refine lv_bipush (v := 8) hx hb dX1_end_93 (by decide) ?_
        refine lv_aload_n hx hb dX1_end_95 rfl (lv_at hl 2 rfl) ?_
        refine m_geti (μ := (m_sA μ 3 ((8 * w) + t) 2)) 0 (nI w) (by decide) (hw0) hx hb hts hown hC hp m_l53 dX1_end_96 ?_
        refine lv_imul hx hb dX1_end_99 ?_
        refine lv_iload_n hx hb dX1_end_100 rfl (lv_at hl 1 rfl) ?_
        refine lv_iadd hx hb dX1_end_101 ?_
        refine lv_bipush (v := 10) hx hb dX1_end_102 (by decide) ?_
        refine lv_iload_n hx hb dX1_end_104 rfl (lv_at hl 1 rfl) ?_
        refine lv_imul hx hb dX1_end_105 ?_
        refine lv_aload_n hx hb dX1_end_106 rfl (lv_at hl 2 rfl) ?_
        refine m_get 6 (by decide) hx hb hts hown hC hp m_l28 dX1_end_107 ?_
        refine lv_aload_n hx hb dX1_end_110 rfl (lv_at hl 2 rfl) ?_
        refine m_geti (μ := (m_sA μ 3 ((8 * w) + t) 2)) 0 (nI w) (by decide) (hw0) hx hb hts hown hC hp m_l53 dX1_end_111 ?_
        refine m_ild (μ := (m_sA μ 3 ((8 * w) + t) 2)) 6 w ((m_sA μ 3 ((8 * w) + t) 2).1 6 w) (by decide) (rfl) (by show w < 2; omega) (rfl) hx hb hC hp dX1_end_114 ?_
        refine lv_iadd hx hb dX1_end_115 ?_
        refine m_ist 4 ((8 * w) + t) (by decide) ((m_ia (a := (8 * w)) (b := t) (m_im (a := 8) (b := w) rfl rfl) rfl)) (by show ((8 * w) + t) < 16; omega) hx hb hC hp dX1_end_116 (fun H locs hp => ?_)
        refine lv_aload_n hx hb dX1_end_117 rfl (lv_at hl 2 rfl) ?_
        refine lv_iload_n hx hb dX1_end_118 rfl (lv_at hl 3 rfl) ?_
        refine m_puti 2 (by decide) hx hb hts hown hC hp m_l57 dX1_end_119 (fun H locs hp => ?_)
        refine lv_aload_n hx hb dX1_end_122 rfl (lv_at hl 2 rfl) ?_
        refine lv_iload_n hx hb dX1_end_123 rfl (lv_at hl 4 rfl) ?_
        refine m_puti 3 (by decide) hx hb hts hown hC hp m_l60 dX1_end_124 (fun H locs hp => ?_)
        exact m_vret hx hb hr hlk hp (by rw [hF]; show _ = m_fin w t how n μ; unfold m_fin; rw [if_pos c_2]) dX1_end_127
  | succ k ih =>
    intro hk μ hw0 hd0 H locs hp ls hl hF
    have hneg : ¬ nI k < 0 := nI_pos (by omega)
    rw [nI_pred] at hl
    refine lv_iload hx hb dX1_end_33 (lv_at hl 0 rfl) ?_
    refine lv_if_lt (tgt := 62) hx hb dX1_end_35 (by decide) (fun c_1 => absurd c_1 hneg) (fun c_1 => ?_)
    refine lv_aload_n hx hb dX1_end_38 rfl (lv_at hl 2 rfl) ?_
    refine lv_aload_n hx hb dX1_end_39 rfl (lv_at hl 2 rfl) ?_
    refine m_get 12 (by decide) hx hb hts hown hC hp m_l46 dX1_end_40 ?_
    refine lv_iconst (v := 5) hx hb dX1_end_43 (by decide) ?_
    refine lv_aload_n hx hb dX1_end_44 rfl (lv_at hl 2 rfl) ?_
    refine m_geti (μ := μ) 1 (nI d) (by decide) (hd0) hx hb hts hown hC hp m_l63 dX1_end_45 ?_
    refine lv_imul hx hb dX1_end_48 ?_
    refine lv_iload hx hb dX1_end_49 (lv_at hl 0 rfl) ?_
    refine lv_iadd hx hb dX1_end_51 ?_
    refine m_ild (μ := μ) 12 ((5 * d) + k) (μ.1 12 ((5 * d) + k)) (by decide) ((m_ia (a := (5 * d)) (b := k) (m_im (a := 5) (b := d) rfl rfl) rfl)) (by show ((5 * d) + k) < 45; omega) (rfl) hx hb hC hp dX1_end_52 ?_
    refine m_callV (n := 1) [.int (μ.1 12 ((5 * d) + k))] hx hb hml hown hts hC hp (cm_note l D cI g μ w (μ.1 12 ((5 * d) + k)) hw (hw0)) gVX1_66 (by decide +kernel) ⟨rfl, rfl, by show 0 + 1 ≤ 1; omega, by show 8 + (3 + 11) + 0 ≤ 22; omega⟩ rfl hl.1 rfl (Nat.le_of_ble_eq_true rfl) ⟨Nat.zero_le _, Nat.zero_le _⟩ dX1_end_53 (fun H locs hp => ?_)
    refine lv_iinc (v := (nI k - 1)) (lv' := [(4, .int (nI k - 1)), (3, .int (nI t)), (0, .ref (g 0)), (1, .int how), (2, .int n)]) hx hb dX1_end_56 hl (k := 0) rfl (x_m1 _) (by decide) rfl (fun ls hl => ?_)
    refine lv_goto (tgt := 33) hx hb dX1_end_59 (by decide) ?_
    exact ih (by omega) (m_note w (μ.1 12 ((5 * d) + k)) μ) (by rw [m_note_i]; exact hw0) (by rw [m_note_i]; exact hd0) _ _ hp ls hl hF

set_option maxHeartbeats 4000000 in
set_option maxRecDepth 100000 in
theorem cm_end (l : Launch) (D : va_G) (cI : ClassId) (g : Nat → Nat) (μ : mT) (w d t q : Nat) (how n : Int32) (hw : w < 2) (hd : d < 9) (ht : t < 8) (hq : q ≤ 5) (hw0 : μ.2 0 = nI w) (hd0 : μ.2 1 = nI (d + 1)) (hat : μ.1 8 d = nI t) (hgd : μ.1 11 d = nI q) : m_Mv l yX1_end (.code yX1_end cX1_end 5 none :: lw_g) { frames := 1, cells := 0, slots := 0, locals := 22 } D cI g μ [.int how, .int n] (m_end w d t q how n μ) := by
  refine m_bodyv rfl rfl (Nat.le_of_ble_eq_true rfl) ?_
  intro p e s m below meth c hx hb hml hr hlk hown hts hC hp ls hl
  have hl : lv_has ls 5 [(0, .ref (g 0)), (1, .int how), (2, .int n)] := hl
  refine lv_aload_n hx hb dX1_end_0 rfl (lv_at hl 0 rfl) ?_
  refine lv_dup hx hb dX1_end_1 rfl ?_
  refine m_geti (μ := μ) 1 (nI ((d + 1))) (by decide) (hd0) hx hb hts hown hC hp m_l63 dX1_end_2 ?_
  refine lv_iconst (v := 1) hx hb dX1_end_5 (by decide) ?_
  refine lv_isub hx hb dX1_end_6 ?_
  rw [nI_pred d]
  refine m_puti 1 (by decide) hx hb hts hown hC hp m_l63 dX1_end_7 (fun H locs hp => ?_)
  refine lv_aload_n hx hb dX1_end_10 rfl (lv_at hl 0 rfl) ?_
  refine m_get 8 (by decide) hx hb hts hown hC hp m_l34 dX1_end_11 ?_
  refine lv_aload_n hx hb dX1_end_14 rfl (lv_at hl 0 rfl) ?_
  refine m_geti (μ := (m_sI μ 1 (nI d))) 1 (nI d) (by decide) (rfl) hx hb hts hown hC hp m_l63 dX1_end_15 ?_
  refine m_ild (μ := (m_sI μ 1 (nI d))) 8 d (nI t) (by decide) (rfl) (by show d < 9; omega) (hat) hx hb hC hp dX1_end_18 ?_
  refine lv_istore_n (lv' := [(3, .int (nI t)), (0, .ref (g 0)), (1, .int how), (2, .int n)]) hx hb dX1_end_19 rfl hl (by decide) rfl (fun ls hl => ?_)
  refine lv_aload_n hx hb dX1_end_20 rfl (lv_at hl 1 rfl) ?_
  refine m_get 11 (by decide) hx hb hts hown hC hp m_l43 dX1_end_21 ?_
  refine lv_aload_n hx hb dX1_end_24 rfl (lv_at hl 1 rfl) ?_
  refine m_geti (μ := (m_sI μ 1 (nI d))) 1 (nI d) (by decide) (rfl) hx hb hts hown hC hp m_l63 dX1_end_25 ?_
  refine m_ild (μ := (m_sI μ 1 (nI d))) 11 d (nI q) (by decide) (rfl) (by show d < 9; omega) (hgd) hx hb hC hp dX1_end_28 ?_
  refine lv_iconst (v := 1) hx hb dX1_end_29 (by decide) ?_
  refine lv_isub hx hb dX1_end_30 ?_
  refine lv_istore (lv' := [(4, .int (nI q - 1)), (3, .int (nI t)), (0, .ref (g 0)), (1, .int how), (2, .int n)]) hx hb dX1_end_31 hl (by decide) rfl (fun ls hl => ?_)
  exact lm_end hb hml hr hx hown hlk hts hC hw hd ht q hq (m_sI μ 1 (nI d)) hw0 rfl _ _ hp ls hl rfl
