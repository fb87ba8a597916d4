theorem m_in_of {a b v : Int32} {n : Nat} (ha : a = nI 0) (hb : b = nI n) (hn : n < 2 ^ 30) (h : ¬ m_in v a b = 0) : ∃ j : Nat, j < n + 1 ∧ v = nI j := by
  unfold m_in at h
  by_cases h1 : v < a
  · rw [if_pos h1] at h
    exact absurd rfl h
  · rw [if_neg h1] at h
    by_cases h2 : b < v
    · rw [if_pos h2] at h
      exact absurd rfl h
    · subst ha
      subst hb
      rw [nI_0] at h1
      obtain ⟨j, hj, rfl⟩ := nI_of h1
      refine ⟨j, ?_, rfl⟩
      rw [nI_ltI (by omega) hj] at h2
      omega
def m_order (a o n : Int32) (μ : mT) : Int32 × mT :=
  if m_in a 0 7 = 0 then (-1, μ) else if m_in o 0 5 = 0 then (-1, μ) else if μ.1 2 a.toNatClampNeg = 5 then (-2, μ) else
    (μ.1 2 a.toNatClampNeg + 1, m_sA (m_sA (m_sA μ 0 (5 * a.toNatClampNeg + (μ.1 2 a.toNatClampNeg).toNatClampNeg) o) 1 (5 * a.toNatClampNeg + (μ.1 2 a.toNatClampNeg).toNatClampNeg) n) 2 a.toNatClampNeg (μ.1 2 a.toNatClampNeg + 1))
def m_noOrders (a : Int32) (μ : mT) : Int32 × mT := if m_in a 0 7 = 0 then (-1, μ) else (μ.1 2 a.toNatClampNeg, m_sA μ 2 a.toNatClampNeg 0)
def m_bld (w : Nat) : Nat → Nat → mT → mT
  | 0, _, μ => μ
  | r + 1, k, μ => m_bld w r (k + 1) (m_sA (m_sA μ 3 (8 * w + k) 0) 4 (8 * w + k) 0)
def m_build (a : Int32) (μ : mT) : Int32 × mT := if m_in a 0 1 = 0 then (-1, μ) else (0, m_sA (m_bld a.toNatClampNeg 8 0 μ) 6 a.toNatClampNeg 0)
def m_events (a : Int32) (μ : mT) : Int32 × mT := if m_in a 0 1 = 0 then (-1, μ) else (μ.1 6 a.toNatClampNeg, μ)
def m_event (a i : Int32) (μ : mT) : Int32 × mT :=
  if m_in a 0 1 = 0 then (-1, μ) else if m_in i 0 31 = 0 then (-1, μ) else if μ.1 6 a.toNatClampNeg ≤ i then (-1, μ) else (μ.1 5 (32 * a.toNatClampNeg + i.toNatClampNeg), μ)

set_option maxHeartbeats 4000000 in
set_option maxRecDepth 100000 in
theorem cm_order (l : Launch) (D : va_G) (cI : ClassId) (g : Nat → Nat) (μ : mT) (a o n : Int32) (hok : ∀ t, t < 8 → ∃ z : Nat, z ≤ 5 ∧ μ.1 2 t = nI z) : m_Mi l yX1_order (.code yX1_order cX1_order 4 (some .int) :: lw_g) { frames := 1, cells := 0, slots := 0, locals := 22 } D cI g μ [.int a, .int o, .int n] (m_order a o n μ) := by
  refine m_bodyi rfl rfl (Nat.le_of_ble_eq_true rfl) ?_
  intro p e s m below meth c hx hb hml hr hlk hown hts hC hp ls hl
  have hl : lv_has ls 4 [(0, .ref (g 0)), (1, .int a), (2, .int o), (3, .int n)] := hl
  refine lv_iload_n hx hb dX1_order_0 rfl (lv_at hl 1 rfl) ?_
  refine lv_iconst (v := 0) hx hb dX1_order_1 (by decide) ?_
  refine lv_bipush (v := 7) hx hb dX1_order_2 (by decide) ?_
  refine x_callS (n := 3) [.int a, .int 0, .int 7] hx hb hml hown hts (cm_in l a 0 7) gSX1_49 (by decide +kernel) ⟨by show 0 + 1 ≤ 1; omega, by show 8 + (3 + 11) + 0 ≤ 22; omega⟩ rfl hl.1 rfl (Nat.le_of_ble_eq_true rfl) ⟨Nat.zero_le _, Nat.zero_le _⟩ dX1_order_4 ?_
  refine lv_if_eq (tgt := 19) hx hb dX1_order_7 (by decide) (fun c_1 => ?_) (fun c_1 => ?_)
  · refine lv_iconst (v := (-1)) hx hb dX1_order_19 (by decide) ?_
    exact m_ireti hx hb hr hlk hp (by unfold m_order; rw [if_pos c_1]) dX1_order_20
  · obtain ⟨t, ht, rfl⟩ := m_in_of (n := 7) rfl rfl (by decide) c_1
    refine lv_iload_n hx hb dX1_order_10 rfl (lv_at hl 2 rfl) ?_
    refine lv_iconst (v := 0) hx hb dX1_order_11 (by decide) ?_
    refine lv_iconst (v := 5) hx hb dX1_order_12 (by decide) ?_
    refine x_callS (n := 3) [.int o, .int 0, .int 5] hx hb hml hown hts (cm_in l o 0 5) gSX1_49 (by decide +kernel) ⟨by show 0 + 1 ≤ 1; omega, by show 8 + (3 + 11) + 0 ≤ 22; omega⟩ rfl hl.1 rfl (Nat.le_of_ble_eq_true rfl) ⟨Nat.zero_le _, Nat.zero_le _⟩ dX1_order_13 ?_
    refine lv_if_ne (tgt := 21) hx hb dX1_order_16 (by decide) (fun c_2 => ?_) (fun c_2 => ?_)
    · obtain ⟨z, hz, hsz⟩ := hok t ht
      refine lv_aload_n hx hb dX1_order_21 rfl (lv_at hl 0 rfl) ?_
      refine m_get 2 (by decide) hx hb hts hown hC hp m_l16 dX1_order_22 ?_
      refine lv_iload_n hx hb dX1_order_25 rfl (lv_at hl 1 rfl) ?_
      refine m_ild (μ := μ) 2 t (nI z) (by decide) (rfl) (by show t < 8; omega) (hsz) hx hb hC hp dX1_order_26 ?_
      refine lv_iconst (v := 5) hx hb dX1_order_27 (by decide) ?_
      refine lv_icmp_ne (tgt := 34) hx hb dX1_order_28 (by decide) (fun c_3 => ?_) (fun c_3 => ?_)
      · have hz5 : z < 5 := by
          rcases Nat.lt_or_ge z 5 with h | h
          · exact h
          · exact absurd (show nI z = 5 by rw [show z = 5 by omega]; rfl) c_3
        refine lv_aload_n hx hb dX1_order_34 rfl (lv_at hl 0 rfl) ?_
        refine m_get 0 (by decide) hx hb hts hown hC hp m_l7 dX1_order_35 ?_
        refine lv_iconst (v := 5) hx hb dX1_order_38 (by decide) ?_
        refine lv_iload_n hx hb dX1_order_39 rfl (lv_at hl 1 rfl) ?_
        refine lv_imul hx hb dX1_order_40 ?_
        refine lv_aload_n hx hb dX1_order_41 rfl (lv_at hl 0 rfl) ?_
        refine m_get 2 (by decide) hx hb hts hown hC hp m_l16 dX1_order_42 ?_
        refine lv_iload_n hx hb dX1_order_45 rfl (lv_at hl 1 rfl) ?_
        refine m_ild (μ := μ) 2 t (nI z) (by decide) (rfl) (by show t < 8; omega) (hsz) hx hb hC hp dX1_order_46 ?_
        refine lv_iadd hx hb dX1_order_47 ?_
        refine lv_iload_n hx hb dX1_order_48 rfl (lv_at hl 2 rfl) ?_
        refine m_ist 0 ((5 * t) + z) (by decide) ((m_ia (a := (5 * t)) (b := z) (m_im (a := 5) (b := t) rfl rfl) rfl)) (by show ((5 * t) + z) < 40; omega) hx hb hC hp dX1_order_49 (fun H locs hp => ?_)
        refine lv_aload_n hx hb dX1_order_50 rfl (lv_at hl 0 rfl) ?_
        refine m_get 1 (by decide) hx hb hts hown hC hp m_l13 dX1_order_51 ?_
        refine lv_iconst (v := 5) hx hb dX1_order_54 (by decide) ?_
        refine lv_iload_n hx hb dX1_order_55 rfl (lv_at hl 1 rfl) ?_
        refine lv_imul hx hb dX1_order_56 ?_
        refine lv_aload_n hx hb dX1_order_57 rfl (lv_at hl 0 rfl) ?_
        refine m_get 2 (by decide) hx hb hts hown hC hp m_l16 dX1_order_58 ?_
        refine lv_iload_n hx hb dX1_order_61 rfl (lv_at hl 1 rfl) ?_
        refine m_ild (μ := (m_sA μ 0 ((5 * t) + z) o)) 2 t (nI z) (by decide) (rfl) (by show t < 8; omega) (hsz) hx hb hC hp dX1_order_62 ?_
        refine lv_iadd hx hb dX1_order_63 ?_
        refine lv_iload_n hx hb dX1_order_64 rfl (lv_at hl 3 rfl) ?_
        refine m_ist 1 ((5 * t) + z) (by decide) ((m_ia (a := (5 * t)) (b := z) (m_im (a := 5) (b := t) rfl rfl) rfl)) (by show ((5 * t) + z) < 40; omega) hx hb hC hp dX1_order_65 (fun H locs hp => ?_)
        refine lv_aload_n hx hb dX1_order_66 rfl (lv_at hl 0 rfl) ?_
        refine m_get 2 (by decide) hx hb hts hown hC hp m_l16 dX1_order_67 ?_
        refine lv_iload_n hx hb dX1_order_70 rfl (lv_at hl 1 rfl) ?_
        refine lv_dup2_11 hx hb dX1_order_71 rfl rfl ?_
        refine m_ild (μ := (m_sA (m_sA μ 0 ((5 * t) + z) o) 1 ((5 * t) + z) n)) 2 t (nI z) (by decide) (rfl) (by show t < 8; omega) (hsz) hx hb hC hp dX1_order_72 ?_
        refine lv_iconst (v := 1) hx hb dX1_order_73 (by decide) ?_
        refine lv_iadd hx hb dX1_order_74 ?_
        rw [nI_1 z]
        refine m_ist 2 t (by decide) (rfl) (by show t < 8; omega) hx hb hC hp dX1_order_75 (fun H locs hp => ?_)
        refine lv_aload_n hx hb dX1_order_76 rfl (lv_at hl 0 rfl) ?_
        refine m_get 2 (by decide) hx hb hts hown hC hp m_l16 dX1_order_77 ?_
        refine lv_iload_n hx hb dX1_order_80 rfl (lv_at hl 1 rfl) ?_
        refine m_ild (μ := (m_sA (m_sA (m_sA μ 0 ((5 * t) + z) o) 1 ((5 * t) + z) n) 2 t (nI ((z + 1))))) 2 t (nI ((z + 1))) (by decide) (rfl) (by show t < 8; omega) (m_sA_at _ _ _ _) hx hb hC hp dX1_order_81 ?_
        exact m_ireti hx hb hr hlk hp (by unfold m_order; rw [if_neg c_1, if_neg c_2]; simp only [nI_clamp (show t < 2 ^ 31 by omega), hsz, nI_clamp (show z < 2 ^ 31 by omega)]; rw [if_neg c_3, nI_1]) dX1_order_82
      · refine lv_bipush (v := (-2)) hx hb dX1_order_31 (by decide) ?_
        exact m_ireti hx hb hr hlk hp (by unfold m_order; rw [if_neg c_1, if_neg c_2]; simp only [nI_clamp (show t < 2 ^ 31 by omega), hsz]; rw [if_pos c_3]) dX1_order_33
    · refine lv_iconst (v := (-1)) hx hb dX1_order_19 (by decide) ?_
      exact m_ireti hx hb hr hlk hp (by unfold m_order; rw [if_neg c_1, if_pos c_2]) dX1_order_20

set_option maxHeartbeats 4000000 in
set_option maxRecDepth 100000 in
theorem cm_noOrders (l : Launch) (D : va_G) (cI : ClassId) (g : Nat → Nat) (μ : mT) (a : Int32) : m_Mi l yX1_noOrders (.code yX1_noOrders cX1_noOrders 3 (some .int) :: lw_g) { frames := 1, cells := 0, slots := 0, locals := 22 } D cI g μ [.int a] (m_noOrders a μ) := by
  refine m_bodyi rfl rfl (Nat.le_of_ble_eq_true rfl) ?_
  intro p e s m below meth c hx hb hml hr hlk hown hts hC hp ls hl
  have hl : lv_has ls 3 [(0, .ref (g 0)), (1, .int a)] := hl
  refine lv_iload_n hx hb dX1_noOrders_0 rfl (lv_at hl 1 rfl) ?_
  refine lv_iconst (v := 0) hx hb dX1_noOrders_1 (by decide) ?_
  refine lv_bipush (v := 7) hx hb dX1_noOrders_2 (by decide) ?_
  refine x_callS (n := 3) [.int a, .int 0, .int 7] hx hb hml hown hts (cm_in l a 0 7) gSX1_49 (by decide +kernel) ⟨by show 0 + 1 ≤ 1; omega, by show 8 + (3 + 11) + 0 ≤ 22; omega⟩ rfl hl.1 rfl (Nat.le_of_ble_eq_true rfl) ⟨Nat.zero_le _, Nat.zero_le _⟩ dX1_noOrders_4 ?_
  refine lv_if_ne (tgt := 12) hx hb dX1_noOrders_7 (by decide) (fun c_1 => ?_) (fun c_1 => ?_)
  · obtain ⟨t, ht, rfl⟩ := m_in_of (n := 7) rfl rfl (by decide) c_1
    refine lv_aload_n hx hb dX1_noOrders_12 rfl (lv_at hl 0 rfl) ?_
    refine m_get 2 (by decide) hx hb hts hown hC hp m_l16 dX1_noOrders_13 ?_
    refine lv_iload_n hx hb dX1_noOrders_16 rfl (lv_at hl 1 rfl) ?_
    refine m_ild (μ := μ) 2 t (μ.1 2 t) (by decide) (rfl) (by show t < 8; omega) (rfl) hx hb hC hp dX1_noOrders_17 ?_
    refine lv_istore_n (lv' := [(2, .int (μ.1 2 t)), (0, .ref (g 0)), (1, .int (nI t))]) hx hb dX1_noOrders_18 rfl hl (by decide) rfl (fun ls hl => ?_)
    refine lv_aload_n hx hb dX1_noOrders_19 rfl (lv_at hl 1 rfl) ?_
    refine m_get 2 (by decide) hx hb hts hown hC hp m_l16 dX1_noOrders_20 ?_
    refine lv_iload_n hx hb dX1_noOrders_23 rfl (lv_at hl 2 rfl) ?_
    refine lv_iconst (v := 0) hx hb dX1_noOrders_24 (by decide) ?_
    refine m_ist 2 t (by decide) (rfl) (by show t < 8; omega) hx hb hC hp dX1_noOrders_25 (fun H locs hp => ?_)
    refine lv_iload_n hx hb dX1_noOrders_26 rfl (lv_at hl 0 rfl) ?_
    exact m_ireti hx hb hr hlk hp (by unfold m_noOrders; rw [if_neg c_1, nI_clamp (by omega)]) dX1_noOrders_27
  · refine lv_iconst (v := (-1)) hx hb dX1_noOrders_10 (by decide) ?_
    exact m_ireti hx hb hr hlk hp (by unfold m_noOrders; rw [if_pos c_1]) dX1_noOrders_11

set_option maxHeartbeats 4000000 in
set_option maxRecDepth 100000 in
theorem lm_build {p : Program} {l : Launch} {e : Env} {s : State} {m : MethodId} {args : Array Value} {below : List Frame} {meth : Method} {c : Code} {D : va_G} {cI : ClassId} {g : Nat → Nat} (hb : c.code = cX1_build) (hr : meth.sig.returnType = some .int) (hx : p.tables.exec = Jvm.exec) (hown : s.vm.findClass RX1 = some m.cls) (hlk : meth.locks = false) (hts : ∀ w ∈ lw_g, w.before args s = true) (hC : m_C D cI g s) {w : Nat} (hw : w < 2) {F : Int32 × mT} :
    ∀ (r k : Nat), k + r = 8 → ∀ (μ : mT) (H : Heap) (locs : List Loc), m_P D cI g s H locs μ → ∀ (ls : Array Slot), lv_has ls 3 [(2, .int (nI k)), (0, .ref (g 0)), (1, .int (nI w))] → F = (0, m_sA (m_bld w r k μ) 6 w 0) →
      W p l e { frames := 1, cells := 0, slots := 0, locals := 22 } s m args below meth c H locs 0 0 (MQ below (va_Qi (fun r ν => (r, ν) = F) (fun ν t => va_P D vwCl (fw 14 g (m_E cI g ν)) t.heap) (fw_A 14 g)) args s 0 0 (fw_A 14 g)) (F0 m 13 ls []) := by
  intro r
  induction r with
  | zero =>
    intro k hkr μ H locs hp ls hl hF
    have hle : 8 ≤ nI k := nI_le (a := 8) (by omega) (by omega)
    refine lv_iload_n hx hb dX1_build_13 rfl (lv_at hl 0 rfl) ?_
    refine lv_bipush (v := 8) hx hb dX1_build_14 (by decide) ?_
    refine lv_icmp_ge (tgt := 49) hx hb dX1_build_16 (by decide) (fun c_1 => ?_) (fun c_1 => absurd hle c_1)
    refine lv_aload_n hx hb dX1_build_49 rfl (lv_at hl 1 rfl) ?_
    refine m_get 6 (by decide) hx hb hts hown hC hp m_l28 dX1_build_50 ?_
    refine lv_iload_n hx hb dX1_build_53 rfl (lv_at hl 2 rfl) ?_
    refine lv_iconst (v := 0) hx hb dX1_build_54 (by decide) ?_
    refine m_ist 6 w (by decide) (rfl) (by show w < 2; omega) hx hb hC hp dX1_build_55 (fun H locs hp => ?_)
    refine lv_iconst (v := 0) hx hb dX1_build_56 (by decide) ?_
    exact m_ireti hx hb hr hlk hp (hF.symm) dX1_build_57
  | succ r ih =>
    intro k hkr μ H locs hp ls hl hF
    have hk : k < 8 := by omega
    have hnle : ¬ 8 ≤ nI k := nI_ge (b := 8) hk (by omega)
    refine lv_iload_n hx hb dX1_build_13 rfl (lv_at hl 0 rfl) ?_
    refine lv_bipush (v := 8) hx hb dX1_build_14 (by decide) ?_
    refine lv_icmp_ge (tgt := 49) hx hb dX1_build_16 (by decide) (fun c_1 => absurd c_1 hnle) (fun c_1 => ?_)
    refine lv_aload_n hx hb dX1_build_19 rfl (lv_at hl 1 rfl) ?_
    refine m_get 3 (by decide) hx hb hts hown hC hp m_l19 dX1_build_20 ?_
    refine lv_bipush (v := 8) hx hb dX1_build_23 (by decide) ?_
    refine lv_iload_n hx hb dX1_build_25 rfl (lv_at hl 2 rfl) ?_
    refine lv_imul hx hb dX1_build_26 ?_
    refine lv_iload_n hx hb dX1_build_27 rfl (lv_at hl 0 rfl) ?_
    refine lv_iadd hx hb dX1_build_28 ?_
    refine lv_iconst (v := 0) hx hb dX1_build_29 (by decide) ?_
    refine m_ist 3 ((8 * w) + k) (by decide) ((m_ia (a := (8 * w)) (b := k) (m_im (a := 8) (b := w) rfl rfl) rfl)) (by show ((8 * w) + k) < 16; omega) hx hb hC hp dX1_build_30 (fun H locs hp => ?_)
    refine lv_aload_n hx hb dX1_build_31 rfl (lv_at hl 1 rfl) ?_
    refine m_get 4 (by decide) hx hb hts hown hC hp m_l22 dX1_build_32 ?_
    refine lv_bipush (v := 8) hx hb dX1_build_35 (by decide) ?_
    refine lv_iload_n hx hb dX1_build_37 rfl (lv_at hl 2 rfl) ?_
    refine lv_imul hx hb dX1_build_38 ?_
    refine lv_iload_n hx hb dX1_build_39 rfl (lv_at hl 0 rfl) ?_
    refine lv_iadd hx hb dX1_build_40 ?_
    refine lv_iconst (v := 0) hx hb dX1_build_41 (by decide) ?_
    refine m_ist 4 ((8 * w) + k) (by decide) ((m_ia (a := (8 * w)) (b := k) (m_im (a := 8) (b := w) rfl rfl) rfl)) (by show ((8 * w) + k) < 16; omega) hx hb hC hp dX1_build_42 (fun H locs hp => ?_)
    refine lv_iinc (v := nI ((k + 1))) (lv' := [(2, .int (nI (k + 1))), (0, .ref (g 0)), (1, .int (nI w))]) hx hb dX1_build_43 hl (k := 0) rfl (nI_1 k) (by decide) rfl (fun ls hl => ?_)
    refine lv_goto (tgt := 13) hx hb dX1_build_46 (by decide) ?_
    exact ih (k + 1) (by omega) (m_sA (m_sA μ 3 ((8 * w) + k) 0) 4 ((8 * w) + k) 0) _ _ hp ls hl hF

set_option maxHeartbeats 4000000 in
set_option maxRecDepth 100000 in
theorem cm_build (l : Launch) (D : va_G) (cI : ClassId) (g : Nat → Nat) (μ : mT) (a : Int32) : m_Mi l yX1_build (.code yX1_build cX1_build 3 (some .int) :: lw_g) { frames := 1, cells := 0, slots := 0, locals := 22 } D cI g μ [.int a] (m_build a μ) := by
  refine m_bodyi rfl rfl (Nat.le_of_ble_eq_true rfl) ?_
  intro p e s m below meth c hx hb hml hr hlk hown hts hC hp ls hl
  have hl : lv_has ls 3 [(0, .ref (g 0)), (1, .int a)] := hl
  refine lv_iload_n hx hb dX1_build_0 rfl (lv_at hl 1 rfl) ?_
  refine lv_iconst (v := 0) hx hb dX1_build_1 (by decide) ?_
  refine lv_iconst (v := 1) hx hb dX1_build_2 (by decide) ?_
  refine x_callS (n := 3) [.int a, .int 0, .int 1] hx hb hml hown hts (cm_in l a 0 1) gSX1_49 (by decide +kernel) ⟨by show 0 + 1 ≤ 1; omega, by show 8 + (3 + 11) + 0 ≤ 22; omega⟩ rfl hl.1 rfl (Nat.le_of_ble_eq_true rfl) ⟨Nat.zero_le _, Nat.zero_le _⟩ dX1_build_3 ?_
  refine lv_if_ne (tgt := 11) hx hb dX1_build_6 (by decide) (fun c_1 => ?_) (fun c_1 => ?_)
  · obtain ⟨w, hw, rfl⟩ := m_in_of (n := 1) rfl rfl (by decide) c_1
    refine lv_iconst (v := 0) hx hb dX1_build_11 (by decide) ?_
    refine lv_istore_n (lv' := [(2, .int (nI 0)), (0, .ref (g 0)), (1, .int (nI w))]) hx hb dX1_build_12 rfl hl (by decide) rfl (fun ls hl => ?_)
    exact lm_build hb hr hx hown hlk hts hC hw 8 0 (by omega) μ _ _ hp ls hl (by unfold m_build; rw [if_neg c_1, nI_clamp (by omega)])
  · refine lv_iconst (v := (-1)) hx hb dX1_build_9 (by decide) ?_
    exact m_ireti hx hb hr hlk hp (by unfold m_build; rw [if_pos c_1]) dX1_build_10

set_option maxHeartbeats 4000000 in
set_option maxRecDepth 100000 in
theorem cm_answer (l : Launch) (D : va_G) (cI : ClassId) (g : Nat → Nat) (μ : mT)  : m_Mi l yX1_answer (.code yX1_answer cX1_answer 1 (some .int) :: lw_g) { frames := 0, cells := 0, slots := 0, locals := 0 } D cI g μ [] ((μ.2 4, μ)) := by
  refine m_bodyi rfl rfl (Nat.le_of_ble_eq_true rfl) ?_
  intro p e s m below meth c hx hb hml hr hlk hown hts hC hp ls hl
  have hl : lv_has ls 1 [(0, .ref (g 0))] := hl
  refine lv_aload_n hx hb dX1_answer_0 rfl (lv_at hl 0 rfl) ?_
  refine m_geti (μ := μ) 4 (μ.2 4) (by decide) (rfl) hx hb hts hown hC hp m_l92 dX1_answer_1 ?_
  exact m_ireti hx hb hr hlk hp (rfl) dX1_answer_4

set_option maxHeartbeats 4000000 in
set_option maxRecDepth 100000 in
theorem cm_wrong (l : Launch) (D : va_G) (cI : ClassId) (g : Nat → Nat) (μ : mT)  : m_Mi l yX1_wrong (.code yX1_wrong cX1_wrong 1 (some .int) :: lw_g) { frames := 0, cells := 0, slots := 0, locals := 0 } D cI g μ [] ((μ.2 5, μ)) := by
  refine m_bodyi rfl rfl (Nat.le_of_ble_eq_true rfl) ?_
  intro p e s m below meth c hx hb hml hr hlk hown hts hC hp ls hl
  have hl : lv_has ls 1 [(0, .ref (g 0))] := hl
  refine lv_aload_n hx hb dX1_wrong_0 rfl (lv_at hl 0 rfl) ?_
  refine m_geti (μ := μ) 5 (μ.2 5) (by decide) (rfl) hx hb hts hown hC hp m_l89 dX1_wrong_1 ?_
  exact m_ireti hx hb hr hlk hp (rfl) dX1_wrong_4

set_option maxHeartbeats 4000000 in
set_option maxRecDepth 100000 in
theorem cm_events (l : Launch) (D : va_G) (cI : ClassId) (g : Nat → Nat) (μ : mT) (a : Int32) : m_Mi l yX1_events (.code yX1_events cX1_events 2 (some .int) :: lw_g) { frames := 1, cells := 0, slots := 0, locals := 22 } D cI g μ [.int a] (m_events a μ) := by
  refine m_bodyi rfl rfl (Nat.le_of_ble_eq_true rfl) ?_
  intro p e s m below meth c hx hb hml hr hlk hown hts hC hp ls hl
  have hl : lv_has ls 2 [(0, .ref (g 0)), (1, .int a)] := hl
  refine lv_iload_n hx hb dX1_events_0 rfl (lv_at hl 1 rfl) ?_
  refine lv_iconst (v := 0) hx hb dX1_events_1 (by decide) ?_
  refine lv_iconst (v := 1) hx hb dX1_events_2 (by decide) ?_
  refine x_callS (n := 3) [.int a, .int 0, .int 1] hx hb hml hown hts (cm_in l a 0 1) gSX1_49 (by decide +kernel) ⟨by show 0 + 1 ≤ 1; omega, by show 8 + (3 + 11) + 0 ≤ 22; omega⟩ rfl hl.1 rfl (Nat.le_of_ble_eq_true rfl) ⟨Nat.zero_le _, Nat.zero_le _⟩ dX1_events_3 ?_
  refine lv_if_eq (tgt := 18) hx hb dX1_events_6 (by decide) (fun c_1 => ?_) (fun c_1 => ?_)
  · refine lv_iconst (v := (-1)) hx hb dX1_events_18 (by decide) ?_
    exact m_ireti hx hb hr hlk hp (by unfold m_events; rw [if_pos c_1]) dX1_events_19
  · obtain ⟨w, hw, rfl⟩ := m_in_of (n := 1) rfl rfl (by decide) c_1
    refine lv_aload_n hx hb dX1_events_9 rfl (lv_at hl 0 rfl) ?_
    refine m_get 6 (by decide) hx hb hts hown hC hp m_l28 dX1_events_10 ?_
    refine lv_iload_n hx hb dX1_events_13 rfl (lv_at hl 1 rfl) ?_
    refine m_ild (μ := μ) 6 w (μ.1 6 w) (by decide) (rfl) (by show w < 2; omega) (rfl) hx hb hC hp dX1_events_14 ?_
    refine lv_goto (tgt := 19) hx hb dX1_events_15 (by decide) ?_
    exact m_ireti hx hb hr hlk hp (by unfold m_events; rw [if_neg c_1, nI_clamp (by omega)]) dX1_events_19

set_option maxHeartbeats 4000000 in
set_option maxRecDepth 100000 in
theorem cm_event (l : Launch) (D : va_G) (cI : ClassId) (g : Nat → Nat) (μ : mT) (a i : Int32) : m_Mi l yX1_event (.code yX1_event cX1_event 3 (some .int) :: lw_g) { frames := 1, cells := 0, slots := 0, locals := 22 } D cI g μ [.int a, .int i] (m_event a i μ) := by
  refine m_bodyi rfl rfl (Nat.le_of_ble_eq_true rfl) ?_
  intro p e s m below meth c hx hb hml hr hlk hown hts hC hp ls hl
  have hl : lv_has ls 3 [(0, .ref (g 0)), (1, .int a), (2, .int i)] := hl
  refine lv_iload_n hx hb dX1_event_0 rfl (lv_at hl 1 rfl) ?_
  refine lv_iconst (v := 0) hx hb dX1_event_1 (by decide) ?_
  refine lv_iconst (v := 1) hx hb dX1_event_2 (by decide) ?_
  refine x_callS (n := 3) [.int a, .int 0, .int 1] hx hb hml hown hts (cm_in l a 0 1) gSX1_49 (by decide +kernel) ⟨by show 0 + 1 ≤ 1; omega, by show 8 + (3 + 11) + 0 ≤ 22; omega⟩ rfl hl.1 rfl (Nat.le_of_ble_eq_true rfl) ⟨Nat.zero_le _, Nat.zero_le _⟩ dX1_event_3 ?_
  refine lv_if_eq (tgt := 43) hx hb dX1_event_6 (by decide) (fun c_1 => ?_) (fun c_1 => ?_)
  · refine lv_iconst (v := (-1)) hx hb dX1_event_43 (by decide) ?_
    exact m_ireti hx hb hr hlk hp (by unfold m_event; rw [if_pos c_1]) dX1_event_44
  · obtain ⟨w, hw, rfl⟩ := m_in_of (n := 1) rfl rfl (by decide) c_1
    refine lv_iload_n hx hb dX1_event_9 rfl (lv_at hl 2 rfl) ?_
    refine lv_iconst (v := 0) hx hb dX1_event_10 (by decide) ?_
    refine lv_bipush (v := 31) hx hb dX1_event_11 (by decide) ?_
    refine x_callS (n := 3) [.int i, .int 0, .int 31] hx hb hml hown hts (cm_in l i 0 31) gSX1_49 (by decide +kernel) ⟨by show 0 + 1 ≤ 1; omega, by show 8 + (3 + 11) + 0 ≤ 22; omega⟩ rfl hl.1 rfl (Nat.le_of_ble_eq_true rfl) ⟨Nat.zero_le _, Nat.zero_le _⟩ dX1_event_13 ?_
    refine lv_if_eq (tgt := 43) hx hb dX1_event_16 (by decide) (fun c_2 => ?_) (fun c_2 => ?_)
    · refine lv_iconst (v := (-1)) hx hb dX1_event_43 (by decide) ?_
      exact m_ireti hx hb hr hlk hp (by unfold m_event; rw [if_neg c_1, if_pos c_2]) dX1_event_44
    · obtain ⟨k, hk, rfl⟩ := m_in_of (n := 31) rfl rfl (by decide) c_2
      refine lv_iload_n hx hb dX1_event_19 rfl (lv_at hl 2 rfl) ?_
      refine lv_aload_n hx hb dX1_event_20 rfl (lv_at hl 0 rfl) ?_
      refine m_get 6 (by decide) hx hb hts hown hC hp m_l28 dX1_event_21 ?_
      refine lv_iload_n hx hb dX1_event_24 rfl (lv_at hl 1 rfl) ?_
      refine m_ild (μ := μ) 6 w (μ.1 6 w) (by decide) (rfl) (by show w < 2; omega) (rfl) hx hb hC hp dX1_event_25 ?_
      refine lv_icmp_ge (tgt := 43) hx hb dX1_event_26 (by decide) (fun c_3 => ?_) (fun c_3 => ?_)
      · refine lv_iconst (v := (-1)) hx hb dX1_event_43 (by decide) ?_
        exact m_ireti hx hb hr hlk hp (by unfold m_event; rw [if_neg c_1, if_neg c_2, nI_clamp (show w < 2 ^ 31 by omega), if_pos c_3]) dX1_event_44
      · refine lv_aload_n hx hb dX1_event_29 rfl (lv_at hl 0 rfl) ?_
        refine m_get 5 (by decide) hx hb hts hown hC hp m_l25 dX1_event_30 ?_
        refine lv_bipush (v := 32) hx hb dX1_event_33 (by decide) ?_
        refine lv_iload_n hx hb dX1_event_35 rfl (lv_at hl 1 rfl) ?_
        refine lv_imul hx hb dX1_event_36 ?_
        refine lv_iload_n hx hb dX1_event_37 rfl (lv_at hl 2 rfl) ?_
        refine lv_iadd hx hb dX1_event_38 ?_
        refine m_ild (μ := μ) 5 ((32 * w) + k) (μ.1 5 ((32 * w) + k)) (by decide) ((m_ia (a := (32 * w)) (b := k) (m_im (a := 32) (b := w) rfl rfl) rfl)) (by show ((32 * w) + k) < 64; omega) (rfl) hx hb hC hp dX1_event_39 ?_
        refine lv_goto (tgt := 44) hx hb dX1_event_40 (by decide) ?_
        exact m_ireti hx hb hr hlk hp (by unfold m_event; rw [if_neg c_1, if_neg c_2, nI_clamp (show w < 2 ^ 31 by omega), nI_clamp (show k < 2 ^ 31 by omega), if_neg c_3]) dX1_event_44

def m_bad (a b q : Int32) : Prop := m_in a 0 1 = 0 ∨ m_in b 0 7 = 0 ∨ m_in q 0 13 = 0 ∨ (4 < b ∧ (q = 0 ∨ q = 3 ∨ q = 12))
def m_used (t j : Nat) : Nat := if j = 10 then 0 else t
def m_starts (j : Nat) : Prop := j < 4 ∨ (6 < j ∧ j ≠ 11)
def m_p0 (w : Nat) (μ : mT) : mT := m_sI (m_sI (m_sI μ 0 (nI w)) 2 0) 3 0
def m_wr (ν : mT) : mT := m_sI ν 5 (if ν.2 2 = 0 then 0 else ν.2 3)
def m_use (w t j : Nat) (ν : mT) : mT :=
  if j = 1 ∨ j = 8 ∨ j = 9 ∨ j = 10 then m_sI ν 4 (ν.1 4 (8 * w + m_used t j) + 1)
  else if j = 2 ∨ j = 13 then m_sI ν 4 (ν.1 4 (8 * w + m_used t j))
  else if j = 3 then m_sI (m_sA ν 4 (8 * w + t) 7) 4 7
  else if j = 4 then m_sI ν 4 (500 + nI t)
  else if j = 5 then m_sI ν 4 3
  else if j = 11 then m_sI ν 4 0
  else m_sI ν 4 1
def m_res (w t j : Nat) (ν : mT) : Int32 × mT := if ν.2 2 = 0 then (0, m_use w t j (m_wr ν)) else (ν.2 2, m_wr ν)

set_option maxHeartbeats 4000000 in
set_option maxRecDepth 100000 in
theorem cm_probeR (l : Launch) (D : va_G) (cI : ClassId) (g : Nat → Nat) (μ : mT) (a b q : Int32) (hbad : m_bad a b q) : m_Mi l yX1_probe (.code yX1_probe cX1_probe 7 (some .int) :: lw_g) { frames := 4, cells := 0, slots := 0, locals := 92 } D cI g μ [.int a, .int b, .int q] ((-1, μ)) := by
  refine m_bodyi rfl rfl (Nat.le_of_ble_eq_true rfl) ?_
  intro p e s m below meth c hx hb hml hr hlk hown hts hC hp ls hl
  have hl : lv_has ls 7 [(0, .ref (g 0)), (1, .int a), (2, .int b), (3, .int q)] := hl
  refine lv_iload_n hx hb dX1_probe_0 rfl (lv_at hl 1 rfl) ?_
  refine lv_iconst (v := 0) hx hb dX1_probe_1 (by decide) ?_
  refine lv_iconst (v := 1) hx hb dX1_probe_2 (by decide) ?_
  refine x_callS (n := 3) [.int a, .int 0, .int 1] hx hb hml hown hts (cm_in l a 0 1) gSX1_49 (by decide +kernel) ⟨by show 0 + 1 ≤ 4; omega, by show 8 + (3 + 11) + 0 ≤ 92; omega⟩ rfl hl.1 rfl (Nat.le_of_ble_eq_true rfl) ⟨Nat.zero_le _, Nat.zero_le _⟩ dX1_probe_3 ?_
  refine lv_if_eq (tgt := 29) hx hb dX1_probe_6 (by decide) (fun c_1 => ?_) (fun c_1 => ?_)
  · refine lv_iconst (v := (-1)) hx hb dX1_probe_29 (by decide) ?_
    exact m_ireti hx hb hr hlk hp (rfl) dX1_probe_30
  · refine lv_iload_n hx hb dX1_probe_9 rfl (lv_at hl 2 rfl) ?_
    refine lv_iconst (v := 0) hx hb dX1_probe_10 (by decide) ?_
    refine lv_bipush (v := 7) hx hb dX1_probe_11 (by decide) ?_
    refine x_callS (n := 3) [.int b, .int 0, .int 7] hx hb hml hown hts (cm_in l b 0 7) gSX1_49 (by decide +kernel) ⟨by show 0 + 1 ≤ 4; omega, by show 8 + (3 + 11) + 0 ≤ 92; omega⟩ rfl hl.1 rfl (Nat.le_of_ble_eq_true rfl) ⟨Nat.zero_le _, Nat.zero_le _⟩ dX1_probe_13 ?_
    refine lv_if_eq (tgt := 29) hx hb dX1_probe_16 (by decide) (fun c_2 => ?_) (fun c_2 => ?_)
    · refine lv_iconst (v := (-1)) hx hb dX1_probe_29 (by decide) ?_
      exact m_ireti hx hb hr hlk hp (rfl) dX1_probe_30
    · refine lv_iload_n hx hb dX1_probe_19 rfl (lv_at hl 3 rfl) ?_
      refine lv_iconst (v := 0) hx hb dX1_probe_20 (by decide) ?_
      refine lv_bipush (v := 13) hx hb dX1_probe_21 (by decide) ?_
      refine x_callS (n := 3) [.int q, .int 0, .int 13] hx hb hml hown hts (cm_in l q 0 13) gSX1_49 (by decide +kernel) ⟨by show 0 + 1 ≤ 4; omega, by show 8 + (3 + 11) + 0 ≤ 92; omega⟩ rfl hl.1 rfl (Nat.le_of_ble_eq_true rfl) ⟨Nat.zero_le _, Nat.zero_le _⟩ dX1_probe_23 ?_
      refine lv_if_ne (tgt := 31) hx hb dX1_probe_26 (by decide) (fun c_3 => ?_) (fun c_3 => ?_)
      · refine lv_iload_n hx hb dX1_probe_31 rfl (lv_at hl 2 rfl) ?_
        refine lv_iconst (v := 4) hx hb dX1_probe_32 (by decide) ?_
        refine lv_icmp_le (tgt := 53) hx hb dX1_probe_33 (by decide) (fun c_4 => ?_) (fun c_4 => ?_)
        · exact absurd hbad (fun h => h.elim c_1 (fun h => h.elim c_2 (fun h => h.elim c_3 (fun h => absurd h.1 (fun h4 => absurd c_4 (Int32.not_le.mpr h4))))))
        · refine lv_iload_n hx hb dX1_probe_36 rfl (lv_at hl 3 rfl) ?_
          refine lv_if_eq (tgt := 51) hx hb dX1_probe_37 (by decide) (fun c_5 => ?_) (fun c_5 => ?_)
          · refine lv_iconst (v := (-1)) hx hb dX1_probe_51 (by decide) ?_
            exact m_ireti hx hb hr hlk hp (rfl) dX1_probe_52
          · refine lv_iload_n hx hb dX1_probe_40 rfl (lv_at hl 3 rfl) ?_
            refine lv_iconst (v := 3) hx hb dX1_probe_41 (by decide) ?_
            refine lv_icmp_eq (tgt := 51) hx hb dX1_probe_42 (by decide) (fun c_6 => ?_) (fun c_6 => ?_)
            · refine lv_iconst (v := (-1)) hx hb dX1_probe_51 (by decide) ?_
              exact m_ireti hx hb hr hlk hp (rfl) dX1_probe_52
            · refine lv_iload_n hx hb dX1_probe_45 rfl (lv_at hl 3 rfl) ?_
              refine lv_bipush (v := 12) hx hb dX1_probe_46 (by decide) ?_
              refine lv_icmp_ne (tgt := 53) hx hb dX1_probe_48 (by decide) (fun c_7 => ?_) (fun c_7 => ?_)
              · exact absurd hbad (fun h => h.elim c_1 (fun h => h.elim c_2 (fun h => h.elim c_3 (fun h => h.2.elim c_5 (fun h => h.elim c_6 c_7)))))
              · refine lv_iconst (v := (-1)) hx hb dX1_probe_51 (by decide) ?_
                exact m_ireti hx hb hr hlk hp (rfl) dX1_probe_52
      · refine lv_iconst (v := (-1)) hx hb dX1_probe_29 (by decide) ?_
        exact m_ireti hx hb hr hlk hp (rfl) dX1_probe_30

set_option maxHeartbeats 4000000 in
set_option maxRecDepth 100000 in
theorem lm_probe165 {p : Program} {l : Launch} {e : Env} {s : State} {m : MethodId} {args : Array Value} {below : List Frame} {meth : Method} {c : Code} {D : va_G} {cI : ClassId} {g : Nat → Nat} (hb : c.code = cX1_probe) (hr : meth.sig.returnType = some .int) (hx : p.tables.exec = Jvm.exec) (hown : s.vm.findClass RX1 = some m.cls) (hlk : meth.locks = false) (hts : ∀ w ∈ lw_g, w.before args s = true) (hC : m_C D cI g s) {w t j : Nat} {y : Int32} (hw : w < 2) (ht : t < 8) (hj : j < 14) {F : Int32 × mT} {ν : mT} {H : Heap} {locs : List Loc} (hp : m_P D cI g s H locs ν) {ls : Array Slot} (hl : lv_has ls 7 [(6, .int (ν.1 4 (8 * w + m_used t j))), (5, .int y), (4, .int (nI (m_used t j))), (0, .ref (g 0)), (1, .int (nI w)), (2, .int (nI t)), (3, .int (nI j))]) (hF : F = (0, m_use w t j ν)) :
      W p l e { frames := 4, cells := 0, slots := 0, locals := 92 } s m args below meth c H locs 0 0 (MQ below (va_Qi (fun r ν => (r, ν) = F) (fun ν t => va_P D vwCl (fw 14 g (m_E cI g ν)) t.heap) (fw_A 14 g)) args s 0 0 (fw_A 14 g)) (F0 m 165 ls []) := by
  rcases (show j = 0 ∨ j = 1 ∨ j = 2 ∨ j = 3 ∨ j = 4 ∨ j = 5 ∨ j = 6 ∨ j = 7 ∨ j = 8 ∨ j = 9 ∨ j = 10 ∨ j = 11 ∨ j = 12 ∨ j = 13 by omega) with rfl | rfl | rfl | rfl | rfl | rfl | rfl | rfl | rfl | rfl | rfl | rfl | rfl | rfl
  · refine lv_iload_n hx hb dX1_probe_165 rfl (lv_at hl 6 rfl) ?_
    refine lv_tableOut (tgt := 302) hx hb dX1_probe_166 (by decide) (by decide) ?_
    refine lv_aload_n hx hb dX1_probe_302 rfl (lv_at hl 3 rfl) ?_
    refine lv_iconst (v := 1) hx hb dX1_probe_303 (by decide) ?_
    refine m_puti 4 (by decide) hx hb hts hown hC hp m_l92 dX1_probe_304 (fun H locs hp => ?_)
    refine lv_iconst (v := 0) hx hb dX1_probe_307 (by decide) ?_
    exact m_ireti hx hb hr hlk hp (hF.symm) dX1_probe_308
  · refine lv_iload_n hx hb dX1_probe_165 rfl (lv_at hl 6 rfl) ?_
    refine lv_tableIn (off := 66) (tgt := 232) hx hb dX1_probe_166 (by decide) (by decide) (by decide +kernel) (by decide) ?_
    refine lv_aload_n hx hb dX1_probe_232 rfl (lv_at hl 3 rfl) ?_
    refine lv_iload hx hb dX1_probe_233 (lv_at hl 0 rfl) ?_
    refine lv_iconst (v := 1) hx hb dX1_probe_235 (by decide) ?_
    refine lv_iadd hx hb dX1_probe_236 ?_
    refine m_puti 4 (by decide) hx hb hts hown hC hp m_l92 dX1_probe_237 (fun H locs hp => ?_)
    refine lv_goto (tgt := 307) hx hb dX1_probe_240 (by decide) ?_
    refine lv_iconst (v := 0) hx hb dX1_probe_307 (by decide) ?_
    exact m_ireti hx hb hr hlk hp (hF.symm) dX1_probe_308
  · refine lv_iload_n hx hb dX1_probe_165 rfl (lv_at hl 6 rfl) ?_
    refine lv_tableIn (off := 77) (tgt := 243) hx hb dX1_probe_166 (by decide) (by decide) (by decide +kernel) (by decide) ?_
    refine lv_aload_n hx hb dX1_probe_243 rfl (lv_at hl 3 rfl) ?_
    refine lv_iload hx hb dX1_probe_244 (lv_at hl 0 rfl) ?_
    refine m_puti 4 (by decide) hx hb hts hown hC hp m_l92 dX1_probe_246 (fun H locs hp => ?_)
    refine lv_goto (tgt := 307) hx hb dX1_probe_249 (by decide) ?_
    refine lv_iconst (v := 0) hx hb dX1_probe_307 (by decide) ?_
    exact m_ireti hx hb hr hlk hp (hF.symm) dX1_probe_308
  · refine lv_iload_n hx hb dX1_probe_165 rfl (lv_at hl 6 rfl) ?_
    refine lv_tableIn (off := 86) (tgt := 252) hx hb dX1_probe_166 (by decide) (by decide) (by decide +kernel) (by decide) ?_
    refine lv_aload_n hx hb dX1_probe_252 rfl (lv_at hl 3 rfl) ?_
    refine m_get 4 (by decide) hx hb hts hown hC hp m_l22 dX1_probe_253 ?_
    refine lv_bipush (v := 8) hx hb dX1_probe_256 (by decide) ?_
    refine lv_iload_n hx hb dX1_probe_258 rfl (lv_at hl 4 rfl) ?_
    refine lv_imul hx hb dX1_probe_259 ?_
    refine lv_iload_n hx hb dX1_probe_260 rfl (lv_at hl 5 rfl) ?_
    refine lv_iadd hx hb dX1_probe_261 ?_
    refine lv_bipush (v := 7) hx hb dX1_probe_262 (by decide) ?_
    refine m_ist 4 ((8 * w) + t) (by decide) ((m_ia (a := (8 * w)) (b := t) (m_im (a := 8) (b := w) rfl rfl) rfl)) (by show ((8 * w) + t) < 16; omega) hx hb hC hp dX1_probe_264 (fun H locs hp => ?_)
    refine lv_aload_n hx hb dX1_probe_265 rfl (lv_at hl 3 rfl) ?_
    refine lv_bipush (v := 7) hx hb dX1_probe_266 (by decide) ?_
    refine m_puti 4 (by decide) hx hb hts hown hC hp m_l92 dX1_probe_268 (fun H locs hp => ?_)
    refine lv_goto (tgt := 307) hx hb dX1_probe_271 (by decide) ?_
    refine lv_iconst (v := 0) hx hb dX1_probe_307 (by decide) ?_
    exact m_ireti hx hb hr hlk hp (hF.symm) dX1_probe_308
  · refine lv_iload_n hx hb dX1_probe_165 rfl (lv_at hl 6 rfl) ?_
    refine lv_tableIn (off := 108) (tgt := 274) hx hb dX1_probe_166 (by decide) (by decide) (by decide +kernel) (by decide) ?_
    refine lv_aload_n hx hb dX1_probe_274 rfl (lv_at hl 3 rfl) ?_
    refine lv_sipush (v := 500) hx hb dX1_probe_275 (by decide) ?_
    refine lv_iload_n hx hb dX1_probe_278 rfl (lv_at hl 5 rfl) ?_
    refine lv_iadd hx hb dX1_probe_279 ?_
    refine m_puti 4 (by decide) hx hb hts hown hC hp m_l92 dX1_probe_280 (fun H locs hp => ?_)
    refine lv_goto (tgt := 307) hx hb dX1_probe_283 (by decide) ?_
    refine lv_iconst (v := 0) hx hb dX1_probe_307 (by decide) ?_
    exact m_ireti hx hb hr hlk hp (hF.symm) dX1_probe_308
  · refine lv_iload_n hx hb dX1_probe_165 rfl (lv_at hl 6 rfl) ?_
    refine lv_tableIn (off := 120) (tgt := 286) hx hb dX1_probe_166 (by decide) (by decide) (by decide +kernel) (by decide) ?_
    refine lv_aload_n hx hb dX1_probe_286 rfl (lv_at hl 3 rfl) ?_
    refine lv_iconst (v := 3) hx hb dX1_probe_287 (by decide) ?_
    refine m_puti 4 (by decide) hx hb hts hown hC hp m_l92 dX1_probe_288 (fun H locs hp => ?_)
    refine lv_goto (tgt := 307) hx hb dX1_probe_291 (by decide) ?_
    refine lv_iconst (v := 0) hx hb dX1_probe_307 (by decide) ?_
    exact m_ireti hx hb hr hlk hp (hF.symm) dX1_probe_308
  · refine lv_iload_n hx hb dX1_probe_165 rfl (lv_at hl 6 rfl) ?_
    refine lv_tableIn (off := 136) (tgt := 302) hx hb dX1_probe_166 (by decide) (by decide) (by decide +kernel) (by decide) ?_
    refine lv_aload_n hx hb dX1_probe_302 rfl (lv_at hl 3 rfl) ?_
    refine lv_iconst (v := 1) hx hb dX1_probe_303 (by decide) ?_
    refine m_puti 4 (by decide) hx hb hts hown hC hp m_l92 dX1_probe_304 (fun H locs hp => ?_)
    refine lv_iconst (v := 0) hx hb dX1_probe_307 (by decide) ?_
    exact m_ireti hx hb hr hlk hp (hF.symm) dX1_probe_308
  · refine lv_iload_n hx hb dX1_probe_165 rfl (lv_at hl 6 rfl) ?_
    refine lv_tableIn (off := 136) (tgt := 302) hx hb dX1_probe_166 (by decide) (by decide) (by decide +kernel) (by decide) ?_
    refine lv_aload_n hx hb dX1_probe_302 rfl (lv_at hl 3 rfl) ?_
    refine lv_iconst (v := 1) hx hb dX1_probe_303 (by decide) ?_
    refine m_puti 4 (by decide) hx hb hts hown hC hp m_l92 dX1_probe_304 (fun H locs hp => ?_)
    refine lv_iconst (v := 0) hx hb dX1_probe_307 (by decide) ?_
    exact m_ireti hx hb hr hlk hp (hF.symm) dX1_probe_308
  · refine lv_iload_n hx hb dX1_probe_165 rfl (lv_at hl 6 rfl) ?_
    refine lv_tableIn (off := 66) (tgt := 232) hx hb dX1_probe_166 (by decide) (by decide) (by decide +kernel) (by decide) ?_
    refine lv_aload_n hx hb dX1_probe_232 rfl (lv_at hl 3 rfl) ?_
    refine lv_iload hx hb dX1_probe_233 (lv_at hl 0 rfl) ?_
    refine lv_iconst (v := 1) hx hb dX1_probe_235 (by decide) ?_
    refine lv_iadd hx hb dX1_probe_236 ?_
    refine m_puti 4 (by decide) hx hb hts hown hC hp m_l92 dX1_probe_237 (fun H locs hp => ?_)
    refine lv_goto (tgt := 307) hx hb dX1_probe_240 (by decide) ?_
    refine lv_iconst (v := 0) hx hb dX1_probe_307 (by decide) ?_
    exact m_ireti hx hb hr hlk hp (hF.symm) dX1_probe_308
  · refine lv_iload_n hx hb dX1_probe_165 rfl (lv_at hl 6 rfl) ?_
    refine lv_tableIn (off := 66) (tgt := 232) hx hb dX1_probe_166 (by decide) (by decide) (by decide +kernel) (by decide) ?_
    refine lv_aload_n hx hb dX1_probe_232 rfl (lv_at hl 3 rfl) ?_
    refine lv_iload hx hb dX1_probe_233 (lv_at hl 0 rfl) ?_
    refine lv_iconst (v := 1) hx hb dX1_probe_235 (by decide) ?_
    refine lv_iadd hx hb dX1_probe_236 ?_
    refine m_puti 4 (by decide) hx hb hts hown hC hp m_l92 dX1_probe_237 (fun H locs hp => ?_)
    refine lv_goto (tgt := 307) hx hb dX1_probe_240 (by decide) ?_
    refine lv_iconst (v := 0) hx hb dX1_probe_307 (by decide) ?_
    exact m_ireti hx hb hr hlk hp (hF.symm) dX1_probe_308
  · refine lv_iload_n hx hb dX1_probe_165 rfl (lv_at hl 6 rfl) ?_
    refine lv_tableIn (off := 66) (tgt := 232) hx hb dX1_probe_166 (by decide) (by decide) (by decide +kernel) (by decide) ?_
    refine lv_aload_n hx hb dX1_probe_232 rfl (lv_at hl 3 rfl) ?_
    refine lv_iload hx hb dX1_probe_233 (lv_at hl 0 rfl) ?_
    refine lv_iconst (v := 1) hx hb dX1_probe_235 (by decide) ?_
    refine lv_iadd hx hb dX1_probe_236 ?_
    refine m_puti 4 (by decide) hx hb hts hown hC hp m_l92 dX1_probe_237 (fun H locs hp => ?_)
    refine lv_goto (tgt := 307) hx hb dX1_probe_240 (by decide) ?_
    refine lv_iconst (v := 0) hx hb dX1_probe_307 (by decide) ?_
    exact m_ireti hx hb hr hlk hp (hF.symm) dX1_probe_308
  · refine lv_iload_n hx hb dX1_probe_165 rfl (lv_at hl 6 rfl) ?_
    refine lv_tableIn (off := 128) (tgt := 294) hx hb dX1_probe_166 (by decide) (by decide) (by decide +kernel) (by decide) ?_
    refine lv_aload_n hx hb dX1_probe_294 rfl (lv_at hl 3 rfl) ?_
    refine lv_iconst (v := 0) hx hb dX1_probe_295 (by decide) ?_
    refine m_puti 4 (by decide) hx hb hts hown hC hp m_l92 dX1_probe_296 (fun H locs hp => ?_)
    refine lv_goto (tgt := 307) hx hb dX1_probe_299 (by decide) ?_
    refine lv_iconst (v := 0) hx hb dX1_probe_307 (by decide) ?_
    exact m_ireti hx hb hr hlk hp (hF.symm) dX1_probe_308
  · refine lv_iload_n hx hb dX1_probe_165 rfl (lv_at hl 6 rfl) ?_
    refine lv_tableIn (off := 136) (tgt := 302) hx hb dX1_probe_166 (by decide) (by decide) (by decide +kernel) (by decide) ?_
    refine lv_aload_n hx hb dX1_probe_302 rfl (lv_at hl 3 rfl) ?_
    refine lv_iconst (v := 1) hx hb dX1_probe_303 (by decide) ?_
    refine m_puti 4 (by decide) hx hb hts hown hC hp m_l92 dX1_probe_304 (fun H locs hp => ?_)
    refine lv_iconst (v := 0) hx hb dX1_probe_307 (by decide) ?_
    exact m_ireti hx hb hr hlk hp (hF.symm) dX1_probe_308
  · refine lv_iload_n hx hb dX1_probe_165 rfl (lv_at hl 6 rfl) ?_
    refine lv_tableIn (off := 77) (tgt := 243) hx hb dX1_probe_166 (by decide) (by decide) (by decide +kernel) (by decide) ?_
    refine lv_aload_n hx hb dX1_probe_243 rfl (lv_at hl 3 rfl) ?_
    refine lv_iload hx hb dX1_probe_244 (lv_at hl 0 rfl) ?_
    refine m_puti 4 (by decide) hx hb hts hown hC hp m_l92 dX1_probe_246 (fun H locs hp => ?_)
    refine lv_goto (tgt := 307) hx hb dX1_probe_249 (by decide) ?_
    refine lv_iconst (v := 0) hx hb dX1_probe_307 (by decide) ?_
    exact m_ireti hx hb hr hlk hp (hF.symm) dX1_probe_308

set_option maxHeartbeats 4000000 in
set_option maxRecDepth 100000 in
theorem lm_probe120 {p : Program} {l : Launch} {e : Env} {s : State} {m : MethodId} {args : Array Value} {below : List Frame} {meth : Method} {c : Code} {D : va_G} {cI : ClassId} {g : Nat → Nat} (hb : c.code = cX1_probe) (hr : meth.sig.returnType = some .int) (hx : p.tables.exec = Jvm.exec) (hown : s.vm.findClass RX1 = some m.cls) (hlk : meth.locks = false) (hts : ∀ w ∈ lw_g, w.before args s = true) (hC : m_C D cI g s) {w t j : Nat} {y : Int32} (hw : w < 2) (ht : t < 8) (hj : j < 14) (hu : m_used t j < 8) {F : Int32 × mT} {ν : mT} {H : Heap} {locs : List Loc} (hp : m_P D cI g s H locs ν) {ls : Array Slot} (hl : lv_has ls 7 [(5, .int y), (4, .int (nI (m_used t j))), (0, .ref (g 0)), (1, .int (nI w)), (2, .int (nI t)), (3, .int (nI j))]) (hF : F = m_res w t j ν) :
      W p l e { frames := 4, cells := 0, slots := 0, locals := 92 } s m args below meth c H locs 0 0 (MQ below (va_Qi (fun r ν => (r, ν) = F) (fun ν t => va_P D vwCl (fw 14 g (m_E cI g ν)) t.heap) (fw_A 14 g)) args s 0 0 (fw_A 14 g)) (F0 m 120 ls []) := by
  refine lv_aload_n hx hb dX1_probe_120 rfl (lv_at hl 2 rfl) ?_
  refine lv_aload_n hx hb dX1_probe_121 rfl (lv_at hl 2 rfl) ?_
  refine m_geti (μ := ν) 2 (ν.2 2) (by decide) (rfl) hx hb hts hown hC hp m_l57 dX1_probe_122 ?_
  refine lv_if_ne (tgt := 132) hx hb dX1_probe_125 (by decide) (fun c_1 => ?_) (fun c_1 => ?_)
  · refine lv_aload_n hx hb dX1_probe_132 rfl (lv_at hl 2 rfl) ?_
    refine m_geti (μ := ν) 3 (ν.2 3) (by decide) (rfl) hx hb hts hown hC hp m_l60 dX1_probe_133 ?_
    refine m_puti 5 (by decide) hx hb hts hown hC hp m_l89 dX1_probe_136 (fun H locs hp => ?_)
    refine lv_aload_n hx hb dX1_probe_139 rfl (lv_at hl 2 rfl) ?_
    refine m_geti (μ := (m_sI ν 5 (ν.2 3))) 2 (ν.2 2) (by decide) (rfl) hx hb hts hown hC hp m_l57 dX1_probe_140 ?_
    refine lv_if_eq (tgt := 151) hx hb dX1_probe_143 (by decide) (fun c_2 => absurd c_2 c_1) (fun c_2 => ?_)
    refine lv_aload_n hx hb dX1_probe_146 rfl (lv_at hl 2 rfl) ?_
    refine m_geti (μ := (m_sI ν 5 (ν.2 3))) 2 (ν.2 2) (by decide) (rfl) hx hb hts hown hC hp m_l57 dX1_probe_147 ?_
    exact m_ireti hx hb hr hlk hp (by rw [hF]; unfold m_res m_wr; rw [if_neg c_1, if_neg c_1]) dX1_probe_150
  · refine lv_iconst (v := 0) hx hb dX1_probe_128 (by decide) ?_
    refine lv_goto (tgt := 136) hx hb dX1_probe_129 (by decide) ?_
    refine m_puti 5 (by decide) hx hb hts hown hC hp m_l89 dX1_probe_136 (fun H locs hp => ?_)
    refine lv_aload_n hx hb dX1_probe_139 rfl (lv_at hl 2 rfl) ?_
    refine m_geti (μ := (m_sI ν 5 0)) 2 (ν.2 2) (by decide) (rfl) hx hb hts hown hC hp m_l57 dX1_probe_140 ?_
    refine lv_if_eq (tgt := 151) hx hb dX1_probe_143 (by decide) (fun c_3 => ?_) (fun c_3 => absurd c_1 c_3)
    refine lv_aload_n hx hb dX1_probe_151 rfl (lv_at hl 2 rfl) ?_
    refine m_get 4 (by decide) hx hb hts hown hC hp m_l22 dX1_probe_152 ?_
    refine lv_bipush (v := 8) hx hb dX1_probe_155 (by decide) ?_
    refine lv_iload_n hx hb dX1_probe_157 rfl (lv_at hl 3 rfl) ?_
    refine lv_imul hx hb dX1_probe_158 ?_
    refine lv_iload hx hb dX1_probe_159 (lv_at hl 1 rfl) ?_
    refine lv_iadd hx hb dX1_probe_161 ?_
    refine m_ild (μ := (m_sI ν 5 0)) 4 (8 * w + m_used t j) (ν.1 4 (8 * w + m_used t j)) (by decide) ((m_ia (a := 8 * w) (b := m_used t j) (m_im (a := 8) (b := w) rfl rfl) rfl)) (by show (8 * w + m_used t j) < 16; omega) (rfl) hx hb hC hp dX1_probe_162 ?_
    refine lv_istore (lv' := [(6, .int (ν.1 4 (8 * w + m_used t j))), (5, .int y), (4, .int (nI (m_used t j))), (0, .ref (g 0)), (1, .int (nI w)), (2, .int (nI t)), (3, .int (nI j))]) hx hb dX1_probe_163 hl (by decide) rfl (fun ls hl => ?_)
    exact lm_probe165 hb hr hx hown hlk hts hC hw ht hj hp hl (by rw [hF]; unfold m_res m_wr; rw [if_pos c_1, if_pos c_1])

set_option maxHeartbeats 4000000 in
set_option maxRecDepth 100000 in
theorem lm_probe53 {p : Program} {l : Launch} {e : Env} {s : State} {m : MethodId} {args : Array Value} {below : List Frame} {meth : Method} {c : Code} {D : va_G} {cI : ClassId} {g : Nat → Nat} (hb : c.code = cX1_probe) (hml : c.maxLocals = 7) (hr : meth.sig.returnType = some .int) (hx : p.tables.exec = Jvm.exec) (hown : s.vm.findClass RX1 = some m.cls) (hlk : meth.locks = false) (hts : ∀ w ∈ lw_g, w.before args s = true) (hC : m_C D cI g s) {w t j : Nat} (hw : w < 2) (ht : t < 8) (hj : j < 14) (hu : m_used t j < 8) {F : Int32 × mT} {μ ν : mT} (hd0 : μ.2 1 = nI 0) (hν : (m_starts j ∧ m_Rs (m_begin w 0 (m_used t j) (m_p0 w μ)) ν ∧ ν.2 1 = nI 0) ∨ (¬ m_starts j ∧ ν = m_p0 w μ)) {H : Heap} {locs : List Loc} (hp : m_P D cI g s H locs μ) {ls : Array Slot} (hl : lv_has ls 7 [(0, .ref (g 0)), (1, .int (nI w)), (2, .int (nI t)), (3, .int (nI j))]) (hF : F = m_res w t j ν) :
      W p l e { frames := 4, cells := 0, slots := 0, locals := 92 } s m args below meth c H locs 0 0 (MQ below (va_Qi (fun r ν => (r, ν) = F) (fun ν t => va_P D vwCl (fw 14 g (m_E cI g ν)) t.heap) (fw_A 14 g)) args s 0 0 (fw_A 14 g)) (F0 m 53 ls []) := by
  refine lv_aload_n hx hb dX1_probe_53 rfl (lv_at hl 0 rfl) ?_
  refine lv_iload_n hx hb dX1_probe_54 rfl (lv_at hl 1 rfl) ?_
  refine m_puti 0 (by decide) hx hb hts hown hC hp m_l53 dX1_probe_55 (fun H locs hp => ?_)
  rcases (show j = 0 ∨ j = 1 ∨ j = 2 ∨ j = 3 ∨ j = 4 ∨ j = 5 ∨ j = 6 ∨ j = 7 ∨ j = 8 ∨ j = 9 ∨ j = 10 ∨ j = 11 ∨ j = 12 ∨ j = 13 by omega) with rfl | rfl | rfl | rfl | rfl | rfl | rfl | rfl | rfl | rfl | rfl | rfl | rfl | rfl
  · skip
    rcases hν with ⟨-, hrun, hdep⟩ | ⟨hs, -⟩
    rotate_left
    · exact absurd (by unfold m_starts; decide) hs
    refine lv_iload_n hx hb dX1_probe_58 rfl (lv_at hl 3 rfl) ?_
    refine lv_bipush (v := 10) hx hb dX1_probe_59 (by decide) ?_
    refine lv_icmp_ne (tgt := 68) hx hb dX1_probe_61 (by decide) (fun c_1 => ?_) (fun c_1 => absurd c_1 (by decide))
    refine lv_iload_n hx hb dX1_probe_68 rfl (lv_at hl 2 rfl) ?_
    refine lv_istore (lv' := [(4, .int (nI t)), (0, .ref (g 0)), (1, .int (nI w)), (2, .int (nI t)), (3, .int (nI 0))]) hx hb dX1_probe_69 hl (by decide) rfl (fun ls hl => ?_)
    refine lv_iload_n hx hb dX1_probe_71 rfl (lv_at hl 4 rfl) ?_
    refine lv_iconst (v := 4) hx hb dX1_probe_72 (by decide) ?_
    refine lv_icmp_lt (tgt := 88) hx hb dX1_probe_73 (by decide) (fun c_2 => ?_) (fun c_2 => absurd (by decide) c_2)
    refine lv_iconst (v := 1) hx hb dX1_probe_88 (by decide) ?_
    refine lv_goto (tgt := 93) hx hb dX1_probe_89 (by decide) ?_
    refine lv_istore (lv' := [(5, .int 1), (4, .int (nI t)), (0, .ref (g 0)), (1, .int (nI w)), (2, .int (nI t)), (3, .int (nI 0))]) hx hb dX1_probe_93 hl (by decide) rfl (fun ls hl => ?_)
    refine lv_aload_n hx hb dX1_probe_95 rfl (lv_at hl 2 rfl) ?_
    refine lv_iconst (v := 0) hx hb dX1_probe_96 (by decide) ?_
    refine m_puti 2 (by decide) hx hb hts hown hC hp m_l57 dX1_probe_97 (fun H locs hp => ?_)
    refine lv_aload_n hx hb dX1_probe_100 rfl (lv_at hl 2 rfl) ?_
    refine lv_iconst (v := 0) hx hb dX1_probe_101 (by decide) ?_
    refine m_puti 3 (by decide) hx hb hts hown hC hp m_l60 dX1_probe_102 (fun H locs hp => ?_)
    refine lv_iload hx hb dX1_probe_105 (lv_at hl 0 rfl) ?_
    refine lv_if_eq (tgt := 120) hx hb dX1_probe_107 (by decide) (fun c_3 => absurd c_3 (by decide)) (fun c_3 => ?_)
    refine lv_aload_n hx hb dX1_probe_110 rfl (lv_at hl 2 rfl) ?_
    refine lv_iload hx hb dX1_probe_111 (lv_at hl 1 rfl) ?_
    refine m_callV (n := 1) [.int (nI t)] hx hb hml hown hts hC hp (cm_begin l D cI g (m_sI (m_sI (m_sI μ 0 (nI w)) 2 0) 3 0) w 0 t _ hw (by omega) ht rfl hd0 rfl) gVX1_83 (by decide +kernel) ⟨rfl, rfl, by show 0 + 1 ≤ 4; omega, by show 8 + (3 + 11) + 0 ≤ 92; omega⟩ rfl hl.1 rfl (Nat.le_of_ble_eq_true rfl) ⟨Nat.zero_le _, Nat.zero_le _⟩ dX1_probe_113 (fun H locs hp => ?_)
    refine lv_aload_n hx hb dX1_probe_116 rfl (lv_at hl 2 rfl) ?_
    refine m_callV (n := 0) [] hx hb hml hown hts hC hp (cm_run l D cI g _ ν hrun hdep) gVX1_86 (by decide +kernel) ⟨rfl, rfl, by show 3 + 1 ≤ 4; omega, by show 8 + (2 + 11) + 70 ≤ 92; omega⟩ rfl hl.1 rfl (Nat.le_of_ble_eq_true rfl) ⟨Nat.zero_le _, Nat.zero_le _⟩ dX1_probe_117 (fun H locs hp => ?_)
    exact lm_probe120 hb hr hx hown hlk hts hC hw ht hj hu hp hl hF
  · skip
    rcases hν with ⟨-, hrun, hdep⟩ | ⟨hs, -⟩
    rotate_left
    · exact absurd (by unfold m_starts; decide) hs
    refine lv_iload_n hx hb dX1_probe_58 rfl (lv_at hl 3 rfl) ?_
    refine lv_bipush (v := 10) hx hb dX1_probe_59 (by decide) ?_
    refine lv_icmp_ne (tgt := 68) hx hb dX1_probe_61 (by decide) (fun c_4 => ?_) (fun c_4 => absurd c_4 (by decide))
    refine lv_iload_n hx hb dX1_probe_68 rfl (lv_at hl 2 rfl) ?_
    refine lv_istore (lv' := [(4, .int (nI t)), (0, .ref (g 0)), (1, .int (nI w)), (2, .int (nI t)), (3, .int (nI 1))]) hx hb dX1_probe_69 hl (by decide) rfl (fun ls hl => ?_)
    refine lv_iload_n hx hb dX1_probe_71 rfl (lv_at hl 4 rfl) ?_
    refine lv_iconst (v := 4) hx hb dX1_probe_72 (by decide) ?_
    refine lv_icmp_lt (tgt := 88) hx hb dX1_probe_73 (by decide) (fun c_5 => ?_) (fun c_5 => absurd (by decide) c_5)
    refine lv_iconst (v := 1) hx hb dX1_probe_88 (by decide) ?_
    refine lv_goto (tgt := 93) hx hb dX1_probe_89 (by decide) ?_
    refine lv_istore (lv' := [(5, .int 1), (4, .int (nI t)), (0, .ref (g 0)), (1, .int (nI w)), (2, .int (nI t)), (3, .int (nI 1))]) hx hb dX1_probe_93 hl (by decide) rfl (fun ls hl => ?_)
    refine lv_aload_n hx hb dX1_probe_95 rfl (lv_at hl 2 rfl) ?_
    refine lv_iconst (v := 0) hx hb dX1_probe_96 (by decide) ?_
    refine m_puti 2 (by decide) hx hb hts hown hC hp m_l57 dX1_probe_97 (fun H locs hp => ?_)
    refine lv_aload_n hx hb dX1_probe_100 rfl (lv_at hl 2 rfl) ?_
    refine lv_iconst (v := 0) hx hb dX1_probe_101 (by decide) ?_
    refine m_puti 3 (by decide) hx hb hts hown hC hp m_l60 dX1_probe_102 (fun H locs hp => ?_)
    refine lv_iload hx hb dX1_probe_105 (lv_at hl 0 rfl) ?_
    refine lv_if_eq (tgt := 120) hx hb dX1_probe_107 (by decide) (fun c_6 => absurd c_6 (by decide)) (fun c_6 => ?_)
    refine lv_aload_n hx hb dX1_probe_110 rfl (lv_at hl 2 rfl) ?_
    refine lv_iload hx hb dX1_probe_111 (lv_at hl 1 rfl) ?_
    refine m_callV (n := 1) [.int (nI t)] hx hb hml hown hts hC hp (cm_begin l D cI g (m_sI (m_sI (m_sI μ 0 (nI w)) 2 0) 3 0) w 0 t _ hw (by omega) ht rfl hd0 rfl) gVX1_83 (by decide +kernel) ⟨rfl, rfl, by show 0 + 1 ≤ 4; omega, by show 8 + (3 + 11) + 0 ≤ 92; omega⟩ rfl hl.1 rfl (Nat.le_of_ble_eq_true rfl) ⟨Nat.zero_le _, Nat.zero_le _⟩ dX1_probe_113 (fun H locs hp => ?_)
    refine lv_aload_n hx hb dX1_probe_116 rfl (lv_at hl 2 rfl) ?_
    refine m_callV (n := 0) [] hx hb hml hown hts hC hp (cm_run l D cI g _ ν hrun hdep) gVX1_86 (by decide +kernel) ⟨rfl, rfl, by show 3 + 1 ≤ 4; omega, by show 8 + (2 + 11) + 70 ≤ 92; omega⟩ rfl hl.1 rfl (Nat.le_of_ble_eq_true rfl) ⟨Nat.zero_le _, Nat.zero_le _⟩ dX1_probe_117 (fun H locs hp => ?_)
    exact lm_probe120 hb hr hx hown hlk hts hC hw ht hj hu hp hl hF
  · skip
    rcases hν with ⟨-, hrun, hdep⟩ | ⟨hs, -⟩
    rotate_left
    · exact absurd (by unfold m_starts; decide) hs
    refine lv_iload_n hx hb dX1_probe_58 rfl (lv_at hl 3 rfl) ?_
    refine lv_bipush (v := 10) hx hb dX1_probe_59 (by decide) ?_
    refine lv_icmp_ne (tgt := 68) hx hb dX1_probe_61 (by decide) (fun c_7 => ?_) (fun c_7 => absurd c_7 (by decide))
    refine lv_iload_n hx hb dX1_probe_68 rfl (lv_at hl 2 rfl) ?_
    refine lv_istore (lv' := [(4, .int (nI t)), (0, .ref (g 0)), (1, .int (nI w)), (2, .int (nI t)), (3, .int (nI 2))]) hx hb dX1_probe_69 hl (by decide) rfl (fun ls hl => ?_)
    refine lv_iload_n hx hb dX1_probe_71 rfl (lv_at hl 4 rfl) ?_
    refine lv_iconst (v := 4) hx hb dX1_probe_72 (by decide) ?_
    refine lv_icmp_lt (tgt := 88) hx hb dX1_probe_73 (by decide) (fun c_8 => ?_) (fun c_8 => absurd (by decide) c_8)
    refine lv_iconst (v := 1) hx hb dX1_probe_88 (by decide) ?_
    refine lv_goto (tgt := 93) hx hb dX1_probe_89 (by decide) ?_
    refine lv_istore (lv' := [(5, .int 1), (4, .int (nI t)), (0, .ref (g 0)), (1, .int (nI w)), (2, .int (nI t)), (3, .int (nI 2))]) hx hb dX1_probe_93 hl (by decide) rfl (fun ls hl => ?_)
    refine lv_aload_n hx hb dX1_probe_95 rfl (lv_at hl 2 rfl) ?_
    refine lv_iconst (v := 0) hx hb dX1_probe_96 (by decide) ?_
    refine m_puti 2 (by decide) hx hb hts hown hC hp m_l57 dX1_probe_97 (fun H locs hp => ?_)
    refine lv_aload_n hx hb dX1_probe_100 rfl (lv_at hl 2 rfl) ?_
    refine lv_iconst (v := 0) hx hb dX1_probe_101 (by decide) ?_
    refine m_puti 3 (by decide) hx hb hts hown hC hp m_l60 dX1_probe_102 (fun H locs hp => ?_)
    refine lv_iload hx hb dX1_probe_105 (lv_at hl 0 rfl) ?_
    refine lv_if_eq (tgt := 120) hx hb dX1_probe_107 (by decide) (fun c_9 => absurd c_9 (by decide)) (fun c_9 => ?_)
    refine lv_aload_n hx hb dX1_probe_110 rfl (lv_at hl 2 rfl) ?_
    refine lv_iload hx hb dX1_probe_111 (lv_at hl 1 rfl) ?_
    refine m_callV (n := 1) [.int (nI t)] hx hb hml hown hts hC hp (cm_begin l D cI g (m_sI (m_sI (m_sI μ 0 (nI w)) 2 0) 3 0) w 0 t _ hw (by omega) ht rfl hd0 rfl) gVX1_83 (by decide +kernel) ⟨rfl, rfl, by show 0 + 1 ≤ 4; omega, by show 8 + (3 + 11) + 0 ≤ 92; omega⟩ rfl hl.1 rfl (Nat.le_of_ble_eq_true rfl) ⟨Nat.zero_le _, Nat.zero_le _⟩ dX1_probe_113 (fun H locs hp => ?_)
    refine lv_aload_n hx hb dX1_probe_116 rfl (lv_at hl 2 rfl) ?_
    refine m_callV (n := 0) [] hx hb hml hown hts hC hp (cm_run l D cI g _ ν hrun hdep) gVX1_86 (by decide +kernel) ⟨rfl, rfl, by show 3 + 1 ≤ 4; omega, by show 8 + (2 + 11) + 70 ≤ 92; omega⟩ rfl hl.1 rfl (Nat.le_of_ble_eq_true rfl) ⟨Nat.zero_le _, Nat.zero_le _⟩ dX1_probe_117 (fun H locs hp => ?_)
    exact lm_probe120 hb hr hx hown hlk hts hC hw ht hj hu hp hl hF
  · skip
    rcases hν with ⟨-, hrun, hdep⟩ | ⟨hs, -⟩
    rotate_left
    · exact absurd (by unfold m_starts; decide) hs
    refine lv_iload_n hx hb dX1_probe_58 rfl (lv_at hl 3 rfl) ?_
    refine lv_bipush (v := 10) hx hb dX1_probe_59 (by decide) ?_
    refine lv_icmp_ne (tgt := 68) hx hb dX1_probe_61 (by decide) (fun c_10 => ?_) (fun c_10 => absurd c_10 (by decide))
    refine lv_iload_n hx hb dX1_probe_68 rfl (lv_at hl 2 rfl) ?_
    refine lv_istore (lv' := [(4, .int (nI t)), (0, .ref (g 0)), (1, .int (nI w)), (2, .int (nI t)), (3, .int (nI 3))]) hx hb dX1_probe_69 hl (by decide) rfl (fun ls hl => ?_)
    refine lv_iload_n hx hb dX1_probe_71 rfl (lv_at hl 4 rfl) ?_
    refine lv_iconst (v := 4) hx hb dX1_probe_72 (by decide) ?_
    refine lv_icmp_lt (tgt := 88) hx hb dX1_probe_73 (by decide) (fun c_11 => ?_) (fun c_11 => absurd (by decide) c_11)
    refine lv_iconst (v := 1) hx hb dX1_probe_88 (by decide) ?_
    refine lv_goto (tgt := 93) hx hb dX1_probe_89 (by decide) ?_
    refine lv_istore (lv' := [(5, .int 1), (4, .int (nI t)), (0, .ref (g 0)), (1, .int (nI w)), (2, .int (nI t)), (3, .int (nI 3))]) hx hb dX1_probe_93 hl (by decide) rfl (fun ls hl => ?_)
    refine lv_aload_n hx hb dX1_probe_95 rfl (lv_at hl 2 rfl) ?_
    refine lv_iconst (v := 0) hx hb dX1_probe_96 (by decide) ?_
    refine m_puti 2 (by decide) hx hb hts hown hC hp m_l57 dX1_probe_97 (fun H locs hp => ?_)
    refine lv_aload_n hx hb dX1_probe_100 rfl (lv_at hl 2 rfl) ?_
    refine lv_iconst (v := 0) hx hb dX1_probe_101 (by decide) ?_
    refine m_puti 3 (by decide) hx hb hts hown hC hp m_l60 dX1_probe_102 (fun H locs hp => ?_)
    refine lv_iload hx hb dX1_probe_105 (lv_at hl 0 rfl) ?_
    refine lv_if_eq (tgt := 120) hx hb dX1_probe_107 (by decide) (fun c_12 => absurd c_12 (by decide)) (fun c_12 => ?_)
    refine lv_aload_n hx hb dX1_probe_110 rfl (lv_at hl 2 rfl) ?_
    refine lv_iload hx hb dX1_probe_111 (lv_at hl 1 rfl) ?_
    refine m_callV (n := 1) [.int (nI t)] hx hb hml hown hts hC hp (cm_begin l D cI g (m_sI (m_sI (m_sI μ 0 (nI w)) 2 0) 3 0) w 0 t _ hw (by omega) ht rfl hd0 rfl) gVX1_83 (by decide +kernel) ⟨rfl, rfl, by show 0 + 1 ≤ 4; omega, by show 8 + (3 + 11) + 0 ≤ 92; omega⟩ rfl hl.1 rfl (Nat.le_of_ble_eq_true rfl) ⟨Nat.zero_le _, Nat.zero_le _⟩ dX1_probe_113 (fun H locs hp => ?_)
    refine lv_aload_n hx hb dX1_probe_116 rfl (lv_at hl 2 rfl) ?_
    refine m_callV (n := 0) [] hx hb hml hown hts hC hp (cm_run l D cI g _ ν hrun hdep) gVX1_86 (by decide +kernel) ⟨rfl, rfl, by show 3 + 1 ≤ 4; omega, by show 8 + (2 + 11) + 70 ≤ 92; omega⟩ rfl hl.1 rfl (Nat.le_of_ble_eq_true rfl) ⟨Nat.zero_le _, Nat.zero_le _⟩ dX1_probe_117 (fun H locs hp => ?_)
    exact lm_probe120 hb hr hx hown hlk hts hC hw ht hj hu hp hl hF
  · skip
    rcases hν with ⟨hs, -, -⟩ | ⟨-, rfl⟩
    · exact absurd hs (by unfold m_starts; decide)
    refine lv_iload_n hx hb dX1_probe_58 rfl (lv_at hl 3 rfl) ?_
    refine lv_bipush (v := 10) hx hb dX1_probe_59 (by decide) ?_
    refine lv_icmp_ne (tgt := 68) hx hb dX1_probe_61 (by decide) (fun c_13 => ?_) (fun c_13 => absurd c_13 (by decide))
    refine lv_iload_n hx hb dX1_probe_68 rfl (lv_at hl 2 rfl) ?_
    refine lv_istore (lv' := [(4, .int (nI t)), (0, .ref (g 0)), (1, .int (nI w)), (2, .int (nI t)), (3, .int (nI 4))]) hx hb dX1_probe_69 hl (by decide) rfl (fun ls hl => ?_)
    refine lv_iload_n hx hb dX1_probe_71 rfl (lv_at hl 4 rfl) ?_
    refine lv_iconst (v := 4) hx hb dX1_probe_72 (by decide) ?_
    refine lv_icmp_lt (tgt := 88) hx hb dX1_probe_73 (by decide) (fun c_14 => absurd c_14 (by decide)) (fun c_14 => ?_)
    refine lv_iload_n hx hb dX1_probe_76 rfl (lv_at hl 4 rfl) ?_
    refine lv_bipush (v := 6) hx hb dX1_probe_77 (by decide) ?_
    refine lv_icmp_le (tgt := 92) hx hb dX1_probe_79 (by decide) (fun c_15 => ?_) (fun c_15 => absurd (by decide) c_15)
    refine lv_iconst (v := 0) hx hb dX1_probe_92 (by decide) ?_
    refine lv_istore (lv' := [(5, .int 0), (4, .int (nI t)), (0, .ref (g 0)), (1, .int (nI w)), (2, .int (nI t)), (3, .int (nI 4))]) hx hb dX1_probe_93 hl (by decide) rfl (fun ls hl => ?_)
    refine lv_aload_n hx hb dX1_probe_95 rfl (lv_at hl 2 rfl) ?_
    refine lv_iconst (v := 0) hx hb dX1_probe_96 (by decide) ?_
    refine m_puti 2 (by decide) hx hb hts hown hC hp m_l57 dX1_probe_97 (fun H locs hp => ?_)
    refine lv_aload_n hx hb dX1_probe_100 rfl (lv_at hl 2 rfl) ?_
    refine lv_iconst (v := 0) hx hb dX1_probe_101 (by decide) ?_
    refine m_puti 3 (by decide) hx hb hts hown hC hp m_l60 dX1_probe_102 (fun H locs hp => ?_)
    refine lv_iload hx hb dX1_probe_105 (lv_at hl 0 rfl) ?_
    refine lv_if_eq (tgt := 120) hx hb dX1_probe_107 (by decide) (fun c_16 => ?_) (fun c_16 => absurd rfl c_16)
    exact lm_probe120 hb hr hx hown hlk hts hC hw ht hj hu hp hl hF
  · skip
    rcases hν with ⟨hs, -, -⟩ | ⟨-, rfl⟩
    · exact absurd hs (by unfold m_starts; decide)
    refine lv_iload_n hx hb dX1_probe_58 rfl (lv_at hl 3 rfl) ?_
    refine lv_bipush (v := 10) hx hb dX1_probe_59 (by decide) ?_
    refine lv_icmp_ne (tgt := 68) hx hb dX1_probe_61 (by decide) (fun c_17 => ?_) (fun c_17 => absurd c_17 (by decide))
    refine lv_iload_n hx hb dX1_probe_68 rfl (lv_at hl 2 rfl) ?_
    refine lv_istore (lv' := [(4, .int (nI t)), (0, .ref (g 0)), (1, .int (nI w)), (2, .int (nI t)), (3, .int (nI 5))]) hx hb dX1_probe_69 hl (by decide) rfl (fun ls hl => ?_)
    refine lv_iload_n hx hb dX1_probe_71 rfl (lv_at hl 4 rfl) ?_
    refine lv_iconst (v := 4) hx hb dX1_probe_72 (by decide) ?_
    refine lv_icmp_lt (tgt := 88) hx hb dX1_probe_73 (by decide) (fun c_18 => absurd c_18 (by decide)) (fun c_18 => ?_)
    refine lv_iload_n hx hb dX1_probe_76 rfl (lv_at hl 4 rfl) ?_
    refine lv_bipush (v := 6) hx hb dX1_probe_77 (by decide) ?_
    refine lv_icmp_le (tgt := 92) hx hb dX1_probe_79 (by decide) (fun c_19 => ?_) (fun c_19 => absurd (by decide) c_19)
    refine lv_iconst (v := 0) hx hb dX1_probe_92 (by decide) ?_
    refine lv_istore (lv' := [(5, .int 0), (4, .int (nI t)), (0, .ref (g 0)), (1, .int (nI w)), (2, .int (nI t)), (3, .int (nI 5))]) hx hb dX1_probe_93 hl (by decide) rfl (fun ls hl => ?_)
    refine lv_aload_n hx hb dX1_probe_95 rfl (lv_at hl 2 rfl) ?_
    refine lv_iconst (v := 0) hx hb dX1_probe_96 (by decide) ?_
    refine m_puti 2 (by decide) hx hb hts hown hC hp m_l57 dX1_probe_97 (fun H locs hp => ?_)
    refine lv_aload_n hx hb dX1_probe_100 rfl (lv_at hl 2 rfl) ?_
    refine lv_iconst (v := 0) hx hb dX1_probe_101 (by decide) ?_
    refine m_puti 3 (by decide) hx hb hts hown hC hp m_l60 dX1_probe_102 (fun H locs hp => ?_)
    refine lv_iload hx hb dX1_probe_105 (lv_at hl 0 rfl) ?_
    refine lv_if_eq (tgt := 120) hx hb dX1_probe_107 (by decide) (fun c_20 => ?_) (fun c_20 => absurd rfl c_20)
    exact lm_probe120 hb hr hx hown hlk hts hC hw ht hj hu hp hl hF
  · skip
    rcases hν with ⟨hs, -, -⟩ | ⟨-, rfl⟩
    · exact absurd hs (by unfold m_starts; decide)
    refine lv_iload_n hx hb dX1_probe_58 rfl (lv_at hl 3 rfl) ?_
    refine lv_bipush (v := 10) hx hb dX1_probe_59 (by decide) ?_
    refine lv_icmp_ne (tgt := 68) hx hb dX1_probe_61 (by decide) (fun c_21 => ?_) (fun c_21 => absurd c_21 (by decide))
    refine lv_iload_n hx hb dX1_probe_68 rfl (lv_at hl 2 rfl) ?_
    refine lv_istore (lv' := [(4, .int (nI t)), (0, .ref (g 0)), (1, .int (nI w)), (2, .int (nI t)), (3, .int (nI 6))]) hx hb dX1_probe_69 hl (by decide) rfl (fun ls hl => ?_)
    refine lv_iload_n hx hb dX1_probe_71 rfl (lv_at hl 4 rfl) ?_
    refine lv_iconst (v := 4) hx hb dX1_probe_72 (by decide) ?_
    refine lv_icmp_lt (tgt := 88) hx hb dX1_probe_73 (by decide) (fun c_22 => absurd c_22 (by decide)) (fun c_22 => ?_)
    refine lv_iload_n hx hb dX1_probe_76 rfl (lv_at hl 4 rfl) ?_
    refine lv_bipush (v := 6) hx hb dX1_probe_77 (by decide) ?_
    refine lv_icmp_le (tgt := 92) hx hb dX1_probe_79 (by decide) (fun c_23 => ?_) (fun c_23 => absurd (by decide) c_23)
    refine lv_iconst (v := 0) hx hb dX1_probe_92 (by decide) ?_
    refine lv_istore (lv' := [(5, .int 0), (4, .int (nI t)), (0, .ref (g 0)), (1, .int (nI w)), (2, .int (nI t)), (3, .int (nI 6))]) hx hb dX1_probe_93 hl (by decide) rfl (fun ls hl => ?_)
    refine lv_aload_n hx hb dX1_probe_95 rfl (lv_at hl 2 rfl) ?_
    refine lv_iconst (v := 0) hx hb dX1_probe_96 (by decide) ?_
    refine m_puti 2 (by decide) hx hb hts hown hC hp m_l57 dX1_probe_97 (fun H locs hp => ?_)
    refine lv_aload_n hx hb dX1_probe_100 rfl (lv_at hl 2 rfl) ?_
    refine lv_iconst (v := 0) hx hb dX1_probe_101 (by decide) ?_
    refine m_puti 3 (by decide) hx hb hts hown hC hp m_l60 dX1_probe_102 (fun H locs hp => ?_)
    refine lv_iload hx hb dX1_probe_105 (lv_at hl 0 rfl) ?_
    refine lv_if_eq (tgt := 120) hx hb dX1_probe_107 (by decide) (fun c_24 => ?_) (fun c_24 => absurd rfl c_24)
    exact lm_probe120 hb hr hx hown hlk hts hC hw ht hj hu hp hl hF
  · skip
    rcases hν with ⟨-, hrun, hdep⟩ | ⟨hs, -⟩
    rotate_left
    · exact absurd (by unfold m_starts; decide) hs
    refine lv_iload_n hx hb dX1_probe_58 rfl (lv_at hl 3 rfl) ?_
    refine lv_bipush (v := 10) hx hb dX1_probe_59 (by decide) ?_
    refine lv_icmp_ne (tgt := 68) hx hb dX1_probe_61 (by decide) (fun c_25 => ?_) (fun c_25 => absurd c_25 (by decide))
    refine lv_iload_n hx hb dX1_probe_68 rfl (lv_at hl 2 rfl) ?_
    refine lv_istore (lv' := [(4, .int (nI t)), (0, .ref (g 0)), (1, .int (nI w)), (2, .int (nI t)), (3, .int (nI 7))]) hx hb dX1_probe_69 hl (by decide) rfl (fun ls hl => ?_)
    refine lv_iload_n hx hb dX1_probe_71 rfl (lv_at hl 4 rfl) ?_
    refine lv_iconst (v := 4) hx hb dX1_probe_72 (by decide) ?_
    refine lv_icmp_lt (tgt := 88) hx hb dX1_probe_73 (by decide) (fun c_26 => absurd c_26 (by decide)) (fun c_26 => ?_)
    refine lv_iload_n hx hb dX1_probe_76 rfl (lv_at hl 4 rfl) ?_
    refine lv_bipush (v := 6) hx hb dX1_probe_77 (by decide) ?_
    refine lv_icmp_le (tgt := 92) hx hb dX1_probe_79 (by decide) (fun c_27 => absurd c_27 (by decide)) (fun c_27 => ?_)
    refine lv_iload_n hx hb dX1_probe_82 rfl (lv_at hl 4 rfl) ?_
    refine lv_bipush (v := 11) hx hb dX1_probe_83 (by decide) ?_
    refine lv_icmp_eq (tgt := 92) hx hb dX1_probe_85 (by decide) (fun c_28 => absurd c_28 (by decide)) (fun c_28 => ?_)
    refine lv_iconst (v := 1) hx hb dX1_probe_88 (by decide) ?_
    refine lv_goto (tgt := 93) hx hb dX1_probe_89 (by decide) ?_
    refine lv_istore (lv' := [(5, .int 1), (4, .int (nI t)), (0, .ref (g 0)), (1, .int (nI w)), (2, .int (nI t)), (3, .int (nI 7))]) hx hb dX1_probe_93 hl (by decide) rfl (fun ls hl => ?_)
    refine lv_aload_n hx hb dX1_probe_95 rfl (lv_at hl 2 rfl) ?_
    refine lv_iconst (v := 0) hx hb dX1_probe_96 (by decide) ?_
    refine m_puti 2 (by decide) hx hb hts hown hC hp m_l57 dX1_probe_97 (fun H locs hp => ?_)
    refine lv_aload_n hx hb dX1_probe_100 rfl (lv_at hl 2 rfl) ?_
    refine lv_iconst (v := 0) hx hb dX1_probe_101 (by decide) ?_
    refine m_puti 3 (by decide) hx hb hts hown hC hp m_l60 dX1_probe_102 (fun H locs hp => ?_)
    refine lv_iload hx hb dX1_probe_105 (lv_at hl 0 rfl) ?_
    refine lv_if_eq (tgt := 120) hx hb dX1_probe_107 (by decide) (fun c_29 => absurd c_29 (by decide)) (fun c_29 => ?_)
    refine lv_aload_n hx hb dX1_probe_110 rfl (lv_at hl 2 rfl) ?_
    refine lv_iload hx hb dX1_probe_111 (lv_at hl 1 rfl) ?_
    refine m_callV (n := 1) [.int (nI t)] hx hb hml hown hts hC hp (cm_begin l D cI g (m_sI (m_sI (m_sI μ 0 (nI w)) 2 0) 3 0) w 0 t _ hw (by omega) ht rfl hd0 rfl) gVX1_83 (by decide +kernel) ⟨rfl, rfl, by show 0 + 1 ≤ 4; omega, by show 8 + (3 + 11) + 0 ≤ 92; omega⟩ rfl hl.1 rfl (Nat.le_of_ble_eq_true rfl) ⟨Nat.zero_le _, Nat.zero_le _⟩ dX1_probe_113 (fun H locs hp => ?_)
    refine lv_aload_n hx hb dX1_probe_116 rfl (lv_at hl 2 rfl) ?_
    refine m_callV (n := 0) [] hx hb hml hown hts hC hp (cm_run l D cI g _ ν hrun hdep) gVX1_86 (by decide +kernel) ⟨rfl, rfl, by show 3 + 1 ≤ 4; omega, by show 8 + (2 + 11) + 70 ≤ 92; omega⟩ rfl hl.1 rfl (Nat.le_of_ble_eq_true rfl) ⟨Nat.zero_le _, Nat.zero_le _⟩ dX1_probe_117 (fun H locs hp => ?_)
    exact lm_probe120 hb hr hx hown hlk hts hC hw ht hj hu hp hl hF
  · skip
    rcases hν with ⟨-, hrun, hdep⟩ | ⟨hs, -⟩
    rotate_left
    · exact absurd (by unfold m_starts; decide) hs
    refine lv_iload_n hx hb dX1_probe_58 rfl (lv_at hl 3 rfl) ?_
    refine lv_bipush (v := 10) hx hb dX1_probe_59 (by decide) ?_
    refine lv_icmp_ne (tgt := 68) hx hb dX1_probe_61 (by decide) (fun c_30 => ?_) (fun c_30 => absurd c_30 (by decide))
    refine lv_iload_n hx hb dX1_probe_68 rfl (lv_at hl 2 rfl) ?_
    refine lv_istore (lv' := [(4, .int (nI t)), (0, .ref (g 0)), (1, .int (nI w)), (2, .int (nI t)), (3, .int (nI 8))]) hx hb dX1_probe_69 hl (by decide) rfl (fun ls hl => ?_)
    refine lv_iload_n hx hb dX1_probe_71 rfl (lv_at hl 4 rfl) ?_
    refine lv_iconst (v := 4) hx hb dX1_probe_72 (by decide) ?_
    refine lv_icmp_lt (tgt := 88) hx hb dX1_probe_73 (by decide) (fun c_31 => absurd c_31 (by decide)) (fun c_31 => ?_)
    refine lv_iload_n hx hb dX1_probe_76 rfl (lv_at hl 4 rfl) ?_
    refine lv_bipush (v := 6) hx hb dX1_probe_77 (by decide) ?_
    refine lv_icmp_le (tgt := 92) hx hb dX1_probe_79 (by decide) (fun c_32 => absurd c_32 (by decide)) (fun c_32 => ?_)
    refine lv_iload_n hx hb dX1_probe_82 rfl (lv_at hl 4 rfl) ?_
    refine lv_bipush (v := 11) hx hb dX1_probe_83 (by decide) ?_
    refine lv_icmp_eq (tgt := 92) hx hb dX1_probe_85 (by decide) (fun c_33 => absurd c_33 (by decide)) (fun c_33 => ?_)
    refine lv_iconst (v := 1) hx hb dX1_probe_88 (by decide) ?_
    refine lv_goto (tgt := 93) hx hb dX1_probe_89 (by decide) ?_
    refine lv_istore (lv' := [(5, .int 1), (4, .int (nI t)), (0, .ref (g 0)), (1, .int (nI w)), (2, .int (nI t)), (3, .int (nI 8))]) hx hb dX1_probe_93 hl (by decide) rfl (fun ls hl => ?_)
    refine lv_aload_n hx hb dX1_probe_95 rfl (lv_at hl 2 rfl) ?_
    refine lv_iconst (v := 0) hx hb dX1_probe_96 (by decide) ?_
    refine m_puti 2 (by decide) hx hb hts hown hC hp m_l57 dX1_probe_97 (fun H locs hp => ?_)
    refine lv_aload_n hx hb dX1_probe_100 rfl (lv_at hl 2 rfl) ?_
    refine lv_iconst (v := 0) hx hb dX1_probe_101 (by decide) ?_
    refine m_puti 3 (by decide) hx hb hts hown hC hp m_l60 dX1_probe_102 (fun H locs hp => ?_)
    refine lv_iload hx hb dX1_probe_105 (lv_at hl 0 rfl) ?_
    refine lv_if_eq (tgt := 120) hx hb dX1_probe_107 (by decide) (fun c_34 => absurd c_34 (by decide)) (fun c_34 => ?_)
    refine lv_aload_n hx hb dX1_probe_110 rfl (lv_at hl 2 rfl) ?_
    refine lv_iload hx hb dX1_probe_111 (lv_at hl 1 rfl) ?_
    refine m_callV (n := 1) [.int (nI t)] hx hb hml hown hts hC hp (cm_begin l D cI g (m_sI (m_sI (m_sI μ 0 (nI w)) 2 0) 3 0) w 0 t _ hw (by omega) ht rfl hd0 rfl) gVX1_83 (by decide +kernel) ⟨rfl, rfl, by show 0 + 1 ≤ 4; omega, by show 8 + (3 + 11) + 0 ≤ 92; omega⟩ rfl hl.1 rfl (Nat.le_of_ble_eq_true rfl) ⟨Nat.zero_le _, Nat.zero_le _⟩ dX1_probe_113 (fun H locs hp => ?_)
    refine lv_aload_n hx hb dX1_probe_116 rfl (lv_at hl 2 rfl) ?_
    refine m_callV (n := 0) [] hx hb hml hown hts hC hp (cm_run l D cI g _ ν hrun hdep) gVX1_86 (by decide +kernel) ⟨rfl, rfl, by show 3 + 1 ≤ 4; omega, by show 8 + (2 + 11) + 70 ≤ 92; omega⟩ rfl hl.1 rfl (Nat.le_of_ble_eq_true rfl) ⟨Nat.zero_le _, Nat.zero_le _⟩ dX1_probe_117 (fun H locs hp => ?_)
    exact lm_probe120 hb hr hx hown hlk hts hC hw ht hj hu hp hl hF
  · skip
    rcases hν with ⟨-, hrun, hdep⟩ | ⟨hs, -⟩
    rotate_left
    · exact absurd (by unfold m_starts; decide) hs
    refine lv_iload_n hx hb dX1_probe_58 rfl (lv_at hl 3 rfl) ?_
    refine lv_bipush (v := 10) hx hb dX1_probe_59 (by decide) ?_
    refine lv_icmp_ne (tgt := 68) hx hb dX1_probe_61 (by decide) (fun c_35 => ?_) (fun c_35 => absurd c_35 (by decide))
    refine lv_iload_n hx hb dX1_probe_68 rfl (lv_at hl 2 rfl) ?_
    refine lv_istore (lv' := [(4, .int (nI t)), (0, .ref (g 0)), (1, .int (nI w)), (2, .int (nI t)), (3, .int (nI 9))]) hx hb dX1_probe_69 hl (by decide) rfl (fun ls hl => ?_)
    refine lv_iload_n hx hb dX1_probe_71 rfl (lv_at hl 4 rfl) ?_
    refine lv_iconst (v := 4) hx hb dX1_probe_72 (by decide) ?_
    refine lv_icmp_lt (tgt := 88) hx hb dX1_probe_73 (by decide) (fun c_36 => absurd c_36 (by decide)) (fun c_36 => ?_)
    refine lv_iload_n hx hb dX1_probe_76 rfl (lv_at hl 4 rfl) ?_
    refine lv_bipush (v := 6) hx hb dX1_probe_77 (by decide) ?_
    refine lv_icmp_le (tgt := 92) hx hb dX1_probe_79 (by decide) (fun c_37 => absurd c_37 (by decide)) (fun c_37 => ?_)
    refine lv_iload_n hx hb dX1_probe_82 rfl (lv_at hl 4 rfl) ?_
    refine lv_bipush (v := 11) hx hb dX1_probe_83 (by decide) ?_
    refine lv_icmp_eq (tgt := 92) hx hb dX1_probe_85 (by decide) (fun c_38 => absurd c_38 (by decide)) (fun c_38 => ?_)
    refine lv_iconst (v := 1) hx hb dX1_probe_88 (by decide) ?_
    refine lv_goto (tgt := 93) hx hb dX1_probe_89 (by decide) ?_
    refine lv_istore (lv' := [(5, .int 1), (4, .int (nI t)), (0, .ref (g 0)), (1, .int (nI w)), (2, .int (nI t)), (3, .int (nI 9))]) hx hb dX1_probe_93 hl (by decide) rfl (fun ls hl => ?_)
    refine lv_aload_n hx hb dX1_probe_95 rfl (lv_at hl 2 rfl) ?_
    refine lv_iconst (v := 0) hx hb dX1_probe_96 (by decide) ?_
    refine m_puti 2 (by decide) hx hb hts hown hC hp m_l57 dX1_probe_97 (fun H locs hp => ?_)
    refine lv_aload_n hx hb dX1_probe_100 rfl (lv_at hl 2 rfl) ?_
    refine lv_iconst (v := 0) hx hb dX1_probe_101 (by decide) ?_
    refine m_puti 3 (by decide) hx hb hts hown hC hp m_l60 dX1_probe_102 (fun H locs hp => ?_)
    refine lv_iload hx hb dX1_probe_105 (lv_at hl 0 rfl) ?_
    refine lv_if_eq (tgt := 120) hx hb dX1_probe_107 (by decide) (fun c_39 => absurd c_39 (by decide)) (fun c_39 => ?_)
    refine lv_aload_n hx hb dX1_probe_110 rfl (lv_at hl 2 rfl) ?_
    refine lv_iload hx hb dX1_probe_111 (lv_at hl 1 rfl) ?_
    refine m_callV (n := 1) [.int (nI t)] hx hb hml hown hts hC hp (cm_begin l D cI g (m_sI (m_sI (m_sI μ 0 (nI w)) 2 0) 3 0) w 0 t _ hw (by omega) ht rfl hd0 rfl) gVX1_83 (by decide +kernel) ⟨rfl, rfl, by show 0 + 1 ≤ 4; omega, by show 8 + (3 + 11) + 0 ≤ 92; omega⟩ rfl hl.1 rfl (Nat.le_of_ble_eq_true rfl) ⟨Nat.zero_le _, Nat.zero_le _⟩ dX1_probe_113 (fun H locs hp => ?_)
    refine lv_aload_n hx hb dX1_probe_116 rfl (lv_at hl 2 rfl) ?_
    refine m_callV (n := 0) [] hx hb hml hown hts hC hp (cm_run l D cI g _ ν hrun hdep) gVX1_86 (by decide +kernel) ⟨rfl, rfl, by show 3 + 1 ≤ 4; omega, by show 8 + (2 + 11) + 70 ≤ 92; omega⟩ rfl hl.1 rfl (Nat.le_of_ble_eq_true rfl) ⟨Nat.zero_le _, Nat.zero_le _⟩ dX1_probe_117 (fun H locs hp => ?_)
    exact lm_probe120 hb hr hx hown hlk hts hC hw ht hj hu hp hl hF
  · skip
    rcases hν with ⟨-, hrun, hdep⟩ | ⟨hs, -⟩
    rotate_left
    · exact absurd (by unfold m_starts; decide) hs
    refine lv_iload_n hx hb dX1_probe_58 rfl (lv_at hl 3 rfl) ?_
    refine lv_bipush (v := 10) hx hb dX1_probe_59 (by decide) ?_
    refine lv_icmp_ne (tgt := 68) hx hb dX1_probe_61 (by decide) (fun c_40 => absurd c_40 (fun h => h rfl)) (fun c_40 => ?_)
    refine lv_iconst (v := 0) hx hb dX1_probe_64 (by decide) ?_
    refine lv_goto (tgt := 69) hx hb dX1_probe_65 (by decide) ?_
    refine lv_istore (lv' := [(4, .int (nI 0)), (0, .ref (g 0)), (1, .int (nI w)), (2, .int (nI t)), (3, .int (nI 10))]) hx hb dX1_probe_69 hl (by decide) rfl (fun ls hl => ?_)
    refine lv_iload_n hx hb dX1_probe_71 rfl (lv_at hl 4 rfl) ?_
    refine lv_iconst (v := 4) hx hb dX1_probe_72 (by decide) ?_
    refine lv_icmp_lt (tgt := 88) hx hb dX1_probe_73 (by decide) (fun c_41 => absurd c_41 (by decide)) (fun c_41 => ?_)
    refine lv_iload_n hx hb dX1_probe_76 rfl (lv_at hl 4 rfl) ?_
    refine lv_bipush (v := 6) hx hb dX1_probe_77 (by decide) ?_
    refine lv_icmp_le (tgt := 92) hx hb dX1_probe_79 (by decide) (fun c_42 => absurd c_42 (by decide)) (fun c_42 => ?_)
    refine lv_iload_n hx hb dX1_probe_82 rfl (lv_at hl 4 rfl) ?_
    refine lv_bipush (v := 11) hx hb dX1_probe_83 (by decide) ?_
    refine lv_icmp_eq (tgt := 92) hx hb dX1_probe_85 (by decide) (fun c_43 => absurd c_43 (by decide)) (fun c_43 => ?_)
    refine lv_iconst (v := 1) hx hb dX1_probe_88 (by decide) ?_
    refine lv_goto (tgt := 93) hx hb dX1_probe_89 (by decide) ?_
    refine lv_istore (lv' := [(5, .int 1), (4, .int (nI 0)), (0, .ref (g 0)), (1, .int (nI w)), (2, .int (nI t)), (3, .int (nI 10))]) hx hb dX1_probe_93 hl (by decide) rfl (fun ls hl => ?_)
    refine lv_aload_n hx hb dX1_probe_95 rfl (lv_at hl 2 rfl) ?_
    refine lv_iconst (v := 0) hx hb dX1_probe_96 (by decide) ?_
    refine m_puti 2 (by decide) hx hb hts hown hC hp m_l57 dX1_probe_97 (fun H locs hp => ?_)
    refine lv_aload_n hx hb dX1_probe_100 rfl (lv_at hl 2 rfl) ?_
    refine lv_iconst (v := 0) hx hb dX1_probe_101 (by decide) ?_
    refine m_puti 3 (by decide) hx hb hts hown hC hp m_l60 dX1_probe_102 (fun H locs hp => ?_)
    refine lv_iload hx hb dX1_probe_105 (lv_at hl 0 rfl) ?_
    refine lv_if_eq (tgt := 120) hx hb dX1_probe_107 (by decide) (fun c_44 => absurd c_44 (by decide)) (fun c_44 => ?_)
    refine lv_aload_n hx hb dX1_probe_110 rfl (lv_at hl 2 rfl) ?_
    refine lv_iload hx hb dX1_probe_111 (lv_at hl 1 rfl) ?_
    refine m_callV (n := 1) [.int (nI 0)] hx hb hml hown hts hC hp (cm_begin l D cI g (m_sI (m_sI (m_sI μ 0 (nI w)) 2 0) 3 0) w 0 0 _ hw (by omega) (by decide) rfl hd0 rfl) gVX1_83 (by decide +kernel) ⟨rfl, rfl, by show 0 + 1 ≤ 4; omega, by show 8 + (3 + 11) + 0 ≤ 92; omega⟩ rfl hl.1 rfl (Nat.le_of_ble_eq_true rfl) ⟨Nat.zero_le _, Nat.zero_le _⟩ dX1_probe_113 (fun H locs hp => ?_)
    refine lv_aload_n hx hb dX1_probe_116 rfl (lv_at hl 2 rfl) ?_
    refine m_callV (n := 0) [] hx hb hml hown hts hC hp (cm_run l D cI g _ ν hrun hdep) gVX1_86 (by decide +kernel) ⟨rfl, rfl, by show 3 + 1 ≤ 4; omega, by show 8 + (2 + 11) + 70 ≤ 92; omega⟩ rfl hl.1 rfl (Nat.le_of_ble_eq_true rfl) ⟨Nat.zero_le _, Nat.zero_le _⟩ dX1_probe_117 (fun H locs hp => ?_)
    exact lm_probe120 hb hr hx hown hlk hts hC hw ht hj hu hp hl hF
  · skip
    rcases hν with ⟨hs, -, -⟩ | ⟨-, rfl⟩
    · exact absurd hs (by unfold m_starts; decide)
    refine lv_iload_n hx hb dX1_probe_58 rfl (lv_at hl 3 rfl) ?_
    refine lv_bipush (v := 10) hx hb dX1_probe_59 (by decide) ?_
    refine lv_icmp_ne (tgt := 68) hx hb dX1_probe_61 (by decide) (fun c_45 => ?_) (fun c_45 => absurd c_45 (by decide))
    refine lv_iload_n hx hb dX1_probe_68 rfl (lv_at hl 2 rfl) ?_
    refine lv_istore (lv' := [(4, .int (nI t)), (0, .ref (g 0)), (1, .int (nI w)), (2, .int (nI t)), (3, .int (nI 11))]) hx hb dX1_probe_69 hl (by decide) rfl (fun ls hl => ?_)
    refine lv_iload_n hx hb dX1_probe_71 rfl (lv_at hl 4 rfl) ?_
    refine lv_iconst (v := 4) hx hb dX1_probe_72 (by decide) ?_
    refine lv_icmp_lt (tgt := 88) hx hb dX1_probe_73 (by decide) (fun c_46 => absurd c_46 (by decide)) (fun c_46 => ?_)
    refine lv_iload_n hx hb dX1_probe_76 rfl (lv_at hl 4 rfl) ?_
    refine lv_bipush (v := 6) hx hb dX1_probe_77 (by decide) ?_
    refine lv_icmp_le (tgt := 92) hx hb dX1_probe_79 (by decide) (fun c_47 => absurd c_47 (by decide)) (fun c_47 => ?_)
    refine lv_iload_n hx hb dX1_probe_82 rfl (lv_at hl 4 rfl) ?_
    refine lv_bipush (v := 11) hx hb dX1_probe_83 (by decide) ?_
    refine lv_icmp_eq (tgt := 92) hx hb dX1_probe_85 (by decide) (fun c_48 => ?_) (fun c_48 => absurd rfl c_48)
    refine lv_iconst (v := 0) hx hb dX1_probe_92 (by decide) ?_
    refine lv_istore (lv' := [(5, .int 0), (4, .int (nI t)), (0, .ref (g 0)), (1, .int (nI w)), (2, .int (nI t)), (3, .int (nI 11))]) hx hb dX1_probe_93 hl (by decide) rfl (fun ls hl => ?_)
    refine lv_aload_n hx hb dX1_probe_95 rfl (lv_at hl 2 rfl) ?_
    refine lv_iconst (v := 0) hx hb dX1_probe_96 (by decide) ?_
    refine m_puti 2 (by decide) hx hb hts hown hC hp m_l57 dX1_probe_97 (fun H locs hp => ?_)
    refine lv_aload_n hx hb dX1_probe_100 rfl (lv_at hl 2 rfl) ?_
    refine lv_iconst (v := 0) hx hb dX1_probe_101 (by decide) ?_
    refine m_puti 3 (by decide) hx hb hts hown hC hp m_l60 dX1_probe_102 (fun H locs hp => ?_)
    refine lv_iload hx hb dX1_probe_105 (lv_at hl 0 rfl) ?_
    refine lv_if_eq (tgt := 120) hx hb dX1_probe_107 (by decide) (fun c_49 => ?_) (fun c_49 => absurd rfl c_49)
    exact lm_probe120 hb hr hx hown hlk hts hC hw ht hj hu hp hl hF
  · skip
    rcases hν with ⟨-, hrun, hdep⟩ | ⟨hs, -⟩
    rotate_left
    · exact absurd (by unfold m_starts; decide) hs
    refine lv_iload_n hx hb dX1_probe_58 rfl (lv_at hl 3 rfl) ?_
    refine lv_bipush (v := 10) hx hb dX1_probe_59 (by decide) ?_
    refine lv_icmp_ne (tgt := 68) hx hb dX1_probe_61 (by decide) (fun c_50 => ?_) (fun c_50 => absurd c_50 (by decide))
    refine lv_iload_n hx hb dX1_probe_68 rfl (lv_at hl 2 rfl) ?_
    refine lv_istore (lv' := [(4, .int (nI t)), (0, .ref (g 0)), (1, .int (nI w)), (2, .int (nI t)), (3, .int (nI 12))]) hx hb dX1_probe_69 hl (by decide) rfl (fun ls hl => ?_)
    refine lv_iload_n hx hb dX1_probe_71 rfl (lv_at hl 4 rfl) ?_
    refine lv_iconst (v := 4) hx hb dX1_probe_72 (by decide) ?_
    refine lv_icmp_lt (tgt := 88) hx hb dX1_probe_73 (by decide) (fun c_51 => absurd c_51 (by decide)) (fun c_51 => ?_)
    refine lv_iload_n hx hb dX1_probe_76 rfl (lv_at hl 4 rfl) ?_
    refine lv_bipush (v := 6) hx hb dX1_probe_77 (by decide) ?_
    refine lv_icmp_le (tgt := 92) hx hb dX1_probe_79 (by decide) (fun c_52 => absurd c_52 (by decide)) (fun c_52 => ?_)
    refine lv_iload_n hx hb dX1_probe_82 rfl (lv_at hl 4 rfl) ?_
    refine lv_bipush (v := 11) hx hb dX1_probe_83 (by decide) ?_
    refine lv_icmp_eq (tgt := 92) hx hb dX1_probe_85 (by decide) (fun c_53 => absurd c_53 (by decide)) (fun c_53 => ?_)
    refine lv_iconst (v := 1) hx hb dX1_probe_88 (by decide) ?_
    refine lv_goto (tgt := 93) hx hb dX1_probe_89 (by decide) ?_
    refine lv_istore (lv' := [(5, .int 1), (4, .int (nI t)), (0, .ref (g 0)), (1, .int (nI w)), (2, .int (nI t)), (3, .int (nI 12))]) hx hb dX1_probe_93 hl (by decide) rfl (fun ls hl => ?_)
    refine lv_aload_n hx hb dX1_probe_95 rfl (lv_at hl 2 rfl) ?_
    refine lv_iconst (v := 0) hx hb dX1_probe_96 (by decide) ?_
    refine m_puti 2 (by decide) hx hb hts hown hC hp m_l57 dX1_probe_97 (fun H locs hp => ?_)
    refine lv_aload_n hx hb dX1_probe_100 rfl (lv_at hl 2 rfl) ?_
    refine lv_iconst (v := 0) hx hb dX1_probe_101 (by decide) ?_
    refine m_puti 3 (by decide) hx hb hts hown hC hp m_l60 dX1_probe_102 (fun H locs hp => ?_)
    refine lv_iload hx hb dX1_probe_105 (lv_at hl 0 rfl) ?_
    refine lv_if_eq (tgt := 120) hx hb dX1_probe_107 (by decide) (fun c_54 => absurd c_54 (by decide)) (fun c_54 => ?_)
    refine lv_aload_n hx hb dX1_probe_110 rfl (lv_at hl 2 rfl) ?_
    refine lv_iload hx hb dX1_probe_111 (lv_at hl 1 rfl) ?_
    refine m_callV (n := 1) [.int (nI t)] hx hb hml hown hts hC hp (cm_begin l D cI g (m_sI (m_sI (m_sI μ 0 (nI w)) 2 0) 3 0) w 0 t _ hw (by omega) ht rfl hd0 rfl) gVX1_83 (by decide +kernel) ⟨rfl, rfl, by show 0 + 1 ≤ 4; omega, by show 8 + (3 + 11) + 0 ≤ 92; omega⟩ rfl hl.1 rfl (Nat.le_of_ble_eq_true rfl) ⟨Nat.zero_le _, Nat.zero_le _⟩ dX1_probe_113 (fun H locs hp => ?_)
    refine lv_aload_n hx hb dX1_probe_116 rfl (lv_at hl 2 rfl) ?_
    refine m_callV (n := 0) [] hx hb hml hown hts hC hp (cm_run l D cI g _ ν hrun hdep) gVX1_86 (by decide +kernel) ⟨rfl, rfl, by show 3 + 1 ≤ 4; omega, by show 8 + (2 + 11) + 70 ≤ 92; omega⟩ rfl hl.1 rfl (Nat.le_of_ble_eq_true rfl) ⟨Nat.zero_le _, Nat.zero_le _⟩ dX1_probe_117 (fun H locs hp => ?_)
    exact lm_probe120 hb hr hx hown hlk hts hC hw ht hj hu hp hl hF
  · skip
    rcases hν with ⟨-, hrun, hdep⟩ | ⟨hs, -⟩
    rotate_left
    · exact absurd (by unfold m_starts; decide) hs
    refine lv_iload_n hx hb dX1_probe_58 rfl (lv_at hl 3 rfl) ?_
    refine lv_bipush (v := 10) hx hb dX1_probe_59 (by decide) ?_
    refine lv_icmp_ne (tgt := 68) hx hb dX1_probe_61 (by decide) (fun c_55 => ?_) (fun c_55 => absurd c_55 (by decide))
    refine lv_iload_n hx hb dX1_probe_68 rfl (lv_at hl 2 rfl) ?_
    refine lv_istore (lv' := [(4, .int (nI t)), (0, .ref (g 0)), (1, .int (nI w)), (2, .int (nI t)), (3, .int (nI 13))]) hx hb dX1_probe_69 hl (by decide) rfl (fun ls hl => ?_)
    refine lv_iload_n hx hb dX1_probe_71 rfl (lv_at hl 4 rfl) ?_
    refine lv_iconst (v := 4) hx hb dX1_probe_72 (by decide) ?_
    refine lv_icmp_lt (tgt := 88) hx hb dX1_probe_73 (by decide) (fun c_56 => absurd c_56 (by decide)) (fun c_56 => ?_)
    refine lv_iload_n hx hb dX1_probe_76 rfl (lv_at hl 4 rfl) ?_
    refine lv_bipush (v := 6) hx hb dX1_probe_77 (by decide) ?_
    refine lv_icmp_le (tgt := 92) hx hb dX1_probe_79 (by decide) (fun c_57 => absurd c_57 (by decide)) (fun c_57 => ?_)
    refine lv_iload_n hx hb dX1_probe_82 rfl (lv_at hl 4 rfl) ?_
    refine lv_bipush (v := 11) hx hb dX1_probe_83 (by decide) ?_
    refine lv_icmp_eq (tgt := 92) hx hb dX1_probe_85 (by decide) (fun c_58 => absurd c_58 (by decide)) (fun c_58 => ?_)
    refine lv_iconst (v := 1) hx hb dX1_probe_88 (by decide) ?_
    refine lv_goto (tgt := 93) hx hb dX1_probe_89 (by decide) ?_
    refine lv_istore (lv' := [(5, .int 1), (4, .int (nI t)), (0, .ref (g 0)), (1, .int (nI w)), (2, .int (nI t)), (3, .int (nI 13))]) hx hb dX1_probe_93 hl (by decide) rfl (fun ls hl => ?_)
    refine lv_aload_n hx hb dX1_probe_95 rfl (lv_at hl 2 rfl) ?_
    refine lv_iconst (v := 0) hx hb dX1_probe_96 (by decide) ?_
    refine m_puti 2 (by decide) hx hb hts hown hC hp m_l57 dX1_probe_97 (fun H locs hp => ?_)
    refine lv_aload_n hx hb dX1_probe_100 rfl (lv_at hl 2 rfl) ?_
    refine lv_iconst (v := 0) hx hb dX1_probe_101 (by decide) ?_
    refine m_puti 3 (by decide) hx hb hts hown hC hp m_l60 dX1_probe_102 (fun H locs hp => ?_)
    refine lv_iload hx hb dX1_probe_105 (lv_at hl 0 rfl) ?_
    refine lv_if_eq (tgt := 120) hx hb dX1_probe_107 (by decide) (fun c_59 => absurd c_59 (by decide)) (fun c_59 => ?_)
    refine lv_aload_n hx hb dX1_probe_110 rfl (lv_at hl 2 rfl) ?_
    refine lv_iload hx hb dX1_probe_111 (lv_at hl 1 rfl) ?_
    refine m_callV (n := 1) [.int (nI t)] hx hb hml hown hts hC hp (cm_begin l D cI g (m_sI (m_sI (m_sI μ 0 (nI w)) 2 0) 3 0) w 0 t _ hw (by omega) ht rfl hd0 rfl) gVX1_83 (by decide +kernel) ⟨rfl, rfl, by show 0 + 1 ≤ 4; omega, by show 8 + (3 + 11) + 0 ≤ 92; omega⟩ rfl hl.1 rfl (Nat.le_of_ble_eq_true rfl) ⟨Nat.zero_le _, Nat.zero_le _⟩ dX1_probe_113 (fun H locs hp => ?_)
    refine lv_aload_n hx hb dX1_probe_116 rfl (lv_at hl 2 rfl) ?_
    refine m_callV (n := 0) [] hx hb hml hown hts hC hp (cm_run l D cI g _ ν hrun hdep) gVX1_86 (by decide +kernel) ⟨rfl, rfl, by show 3 + 1 ≤ 4; omega, by show 8 + (2 + 11) + 70 ≤ 92; omega⟩ rfl hl.1 rfl (Nat.le_of_ble_eq_true rfl) ⟨Nat.zero_le _, Nat.zero_le _⟩ dX1_probe_117 (fun H locs hp => ?_)
    exact lm_probe120 hb hr hx hown hlk hts hC hw ht hj hu hp hl hF

theorem m_in_yes {a b : Int32} {j n : Nat} (ha : a = nI 0) (hb : b = nI n) (hj : j < n + 1) (hn : n < 2 ^ 30) : ¬ m_in (nI j) a b = 0 := by
  subst ha
  subst hb
  unfold m_in
  rw [if_neg (by rw [nI_0]; exact nI_pos (by omega)), if_neg (nI_nlt (by omega) (by omega))]
  decide

set_option maxHeartbeats 4000000 in
set_option maxRecDepth 100000 in
theorem cm_probeV (l : Launch) (D : va_G) (cI : ClassId) (g : Nat → Nat) (μ : mT) (w t j : Nat) (ν : mT) (hw : w < 2) (ht : t < 8) (hj : j < 14) (hg : ¬ (4 < t ∧ (j = 0 ∨ j = 3 ∨ j = 12))) (hd0 : μ.2 1 = nI 0) (hν : (m_starts j ∧ m_Rs (m_begin w 0 (m_used t j) (m_p0 w μ)) ν ∧ ν.2 1 = nI 0) ∨ (¬ m_starts j ∧ ν = m_p0 w μ)) : m_Mi l yX1_probe (.code yX1_probe cX1_probe 7 (some .int) :: lw_g) { frames := 4, cells := 0, slots := 0, locals := 92 } D cI g μ [.int (nI w), .int (nI t), .int (nI j)] (m_res w t j ν) := by
  have hin1 : ¬ m_in (nI w) 0 1 = 0 := m_in_yes (n := 1) rfl rfl hw (by decide)
  have hin2 : ¬ m_in (nI t) 0 7 = 0 := m_in_yes (n := 7) rfl rfl ht (by decide)
  have hin3 : ¬ m_in (nI j) 0 13 = 0 := m_in_yes (n := 13) rfl rfl hj (by decide)
  have hu : m_used t j < 8 := by unfold m_used; split <;> omega
  refine m_bodyi rfl rfl (Nat.le_of_ble_eq_true rfl) ?_
  intro p e s m below meth c hx hb hml hr hlk hown hts hC hp ls hl
  have hl : lv_has ls 7 [(0, .ref (g 0)), (1, .int (nI w)), (2, .int (nI t)), (3, .int (nI j))] := hl
  refine lv_iload_n hx hb dX1_probe_0 rfl (lv_at hl 1 rfl) ?_
  refine lv_iconst (v := 0) hx hb dX1_probe_1 (by decide) ?_
  refine lv_iconst (v := 1) hx hb dX1_probe_2 (by decide) ?_
  refine x_callS (n := 3) [.int (nI w), .int 0, .int 1] hx hb hml hown hts (cm_in l (nI w) 0 1) gSX1_49 (by decide +kernel) ⟨by show 0 + 1 ≤ 4; omega, by show 8 + (3 + 11) + 0 ≤ 92; omega⟩ rfl hl.1 rfl (Nat.le_of_ble_eq_true rfl) ⟨Nat.zero_le _, Nat.zero_le _⟩ dX1_probe_3 ?_
  refine lv_if_eq (tgt := 29) hx hb dX1_probe_6 (by decide) (fun c_1 => absurd c_1 hin1) (fun c_1 => ?_)
  refine lv_iload_n hx hb dX1_probe_9 rfl (lv_at hl 2 rfl) ?_
  refine lv_iconst (v := 0) hx hb dX1_probe_10 (by decide) ?_
  refine lv_bipush (v := 7) hx hb dX1_probe_11 (by decide) ?_
  refine x_callS (n := 3) [.int (nI t), .int 0, .int 7] hx hb hml hown hts (cm_in l (nI t) 0 7) gSX1_49 (by decide +kernel) ⟨by show 0 + 1 ≤ 4; omega, by show 8 + (3 + 11) + 0 ≤ 92; omega⟩ rfl hl.1 rfl (Nat.le_of_ble_eq_true rfl) ⟨Nat.zero_le _, Nat.zero_le _⟩ dX1_probe_13 ?_
  refine lv_if_eq (tgt := 29) hx hb dX1_probe_16 (by decide) (fun c_2 => absurd c_2 hin2) (fun c_2 => ?_)
  refine lv_iload_n hx hb dX1_probe_19 rfl (lv_at hl 3 rfl) ?_
  refine lv_iconst (v := 0) hx hb dX1_probe_20 (by decide) ?_
  refine lv_bipush (v := 13) hx hb dX1_probe_21 (by decide) ?_
  refine x_callS (n := 3) [.int (nI j), .int 0, .int 13] hx hb hml hown hts (cm_in l (nI j) 0 13) gSX1_49 (by decide +kernel) ⟨by show 0 + 1 ≤ 4; omega, by show 8 + (3 + 11) + 0 ≤ 92; omega⟩ rfl hl.1 rfl (Nat.le_of_ble_eq_true rfl) ⟨Nat.zero_le _, Nat.zero_le _⟩ dX1_probe_23 ?_
  refine lv_if_ne (tgt := 31) hx hb dX1_probe_26 (by decide) (fun c_3 => ?_) (fun c_3 => absurd c_3 hin3)
  refine lv_iload_n hx hb dX1_probe_31 rfl (lv_at hl 2 rfl) ?_
  refine lv_iconst (v := 4) hx hb dX1_probe_32 (by decide) ?_
  refine lv_icmp_le (tgt := 53) hx hb dX1_probe_33 (by decide) (fun c_4 => ?_) (fun c_4 => ?_)
  · exact lm_probe53 hb hml hr hx hown hlk hts hC hw ht hj hu hd0 hν hp hl rfl
  · have h4 : 4 < t := Nat.lt_of_not_le (fun h => c_4 (nI_le (b := 4) h (by omega)))
    have hq0 : ¬ nI j = 0 := fun h => hg ⟨h4, Or.inl ((nI_eq (b := 0) (by omega) (by omega)).mp h)⟩
    have hq3 : ¬ nI j = 3 := fun h => hg ⟨h4, Or.inr (Or.inl ((nI_eq (b := 3) (by omega) (by omega)).mp h))⟩
    have hq12 : ¬ nI j = 12 := fun h => hg ⟨h4, Or.inr (Or.inr ((nI_eq (b := 12) (by omega) (by omega)).mp h))⟩
    refine lv_iload_n hx hb dX1_probe_36 rfl (lv_at hl 3 rfl) ?_
    refine lv_if_eq (tgt := 51) hx hb dX1_probe_37 (by decide) (fun c_5 => absurd c_5 hq0) (fun c_5 => ?_)
    refine lv_iload_n hx hb dX1_probe_40 rfl (lv_at hl 3 rfl) ?_
    refine lv_iconst (v := 3) hx hb dX1_probe_41 (by decide) ?_
    refine lv_icmp_eq (tgt := 51) hx hb dX1_probe_42 (by decide) (fun c_6 => absurd c_6 hq3) (fun c_6 => ?_)
    refine lv_iload_n hx hb dX1_probe_45 rfl (lv_at hl 3 rfl) ?_
    refine lv_bipush (v := 12) hx hb dX1_probe_46 (by decide) ?_
    refine lv_icmp_ne (tgt := 53) hx hb dX1_probe_48 (by decide) (fun c_7 => ?_) (fun c_7 => absurd c_7 hq12)
    exact lm_probe53 hb hml hr hx hown hlk hts hC hw ht hj hu hd0 hν hp hl rfl
