def x_order (a o n : Int32) (σ : xT) : Int32 × xT :=
  if x_bT a = 0 then (-1, σ) else if o < 0 then (-1, σ) else if o ≤ 5 then
    (if σ.2.1 0 a.toNatClampNeg < 5 then (σ.2.1 0 a.toNatClampNeg + 1, x_sV (x_sG (x_sG σ 0 a.toNatClampNeg (σ.2.1 0 a.toNatClampNeg).toNatClampNeg o) 1 a.toNatClampNeg (σ.2.1 0 a.toNatClampNeg).toNatClampNeg n) 0 a.toNatClampNeg (σ.2.1 0 a.toNatClampNeg + 1)) else (-2, σ))
  else (-1, σ)
def x_noOrders (a : Int32) (σ : xT) : Int32 × xT := if x_bT a = 0 then (-1, σ) else (σ.2.1 0 a.toNatClampNeg, x_sV σ 0 a.toNatClampNeg 0)
def x_bld (w : Nat) : Nat → Nat → xT → xT
  | 0, _, σ => σ
  | r + 1, k, σ => x_bld w r (k + 1) (x_sG (x_sG σ 2 w k 0) 3 w k 0)
def x_build (a : Int32) (σ : xT) : Int32 × xT := if x_bW a = 0 then (-1, σ) else (0, x_sV (x_bld a.toNatClampNeg 8 0 σ) 1 a.toNatClampNeg 0)
def x_probe (a b q : Int32) (σ : xT) : Int32 × xT :=
  if x_bW a = 0 then (-1, σ) else if x_bT b = 0 then (-1, σ) else if x_bM b q = 0 then (-1, σ) else
    (if (x_start 8 a.toNatClampNeg (x_tsb b.toNatClampNeg q.toNatClampNeg) (x_sW σ 0)).1 = 0 then
      ((x_start 8 a.toNatClampNeg (x_tsb b.toNatClampNeg q.toNatClampNeg) (x_sW σ 0)).1,
        x_sA (x_use a.toNatClampNeg b.toNatClampNeg q.toNatClampNeg (x_start 8 a.toNatClampNeg (x_tsb b.toNatClampNeg q.toNatClampNeg) (x_sW σ 0)).2).2 (x_use a.toNatClampNeg b.toNatClampNeg q.toNatClampNeg (x_start 8 a.toNatClampNeg (x_tsb b.toNatClampNeg q.toNatClampNeg) (x_sW σ 0)).2).1)
    else x_start 8 a.toNatClampNeg (x_tsb b.toNatClampNeg q.toNatClampNeg) (x_sW σ 0))
def x_events (a : Int32) (σ : xT) : Int32 × xT := if x_bW a = 0 then (-1, σ) else (σ.2.1 1 a.toNatClampNeg, σ)
def x_event (a i : Int32) (σ : xT) : Int32 × xT :=
  if x_bW a = 0 then (-1, σ) else if i < 0 then (-1, σ) else if 32 ≤ i then (-1, σ) else if i < σ.2.1 1 a.toNatClampNeg then (σ.1 4 a.toNatClampNeg ((σ.2.1 1 a.toNatClampNeg - 1 - i) &&& 31).toNatClampNeg, σ) else (-1, σ)
theorem x_tsb_lt {t j : Nat} (ht : t < 8) : ∀ k, x_tsb t j = some k → k < 8 := by
  intro k h
  unfold x_tsb at h
  split at h
  · cases h
  · split at h
    · cases h; decide
    · cases h; exact ht

set_option maxHeartbeats 4000000 in
set_option maxRecDepth 100000 in
theorem cx_order (l : Launch) (D : va_G) (cI cJ : ClassId) (g : Nat → Nat) (tS tJ : Nat) (σ : xT) (a o n : Int32) (hok : x_ok σ) : x_Mi l yX0_order (.code yX0_order cX0_order 5 (some .int) :: lw_g) { frames := 1, cells := 0, slots := 0, locals := 20 } D cI cJ g tS tJ σ [.int a, .int o, .int n] (x_order a o n σ) := by
  refine x_bodyi rfl rfl (Nat.le_of_ble_eq_true rfl) ?_
  intro p e s m below meth c hx hb hml hr hlk hown hts hC hp ls hl
  have hl : lv_has ls 5 [(0, .ref (g 0)), (1, .int a), (2, .int o), (3, .int n)] := hl
  refine lv_iload_n hx hb dX0_order_0 rfl (lv_at hl 1 rfl) ?_
  refine x_callS (n := 1) [.int a] hx hb hml hown hts (cx_isType l a) gSX0_40 (by decide +kernel) ⟨by show 0 + 1 ≤ 1; omega, by show 8 + (1 + 11) + 0 ≤ 20; omega⟩ rfl hl.1 rfl (Nat.le_of_ble_eq_true rfl) ⟨Nat.zero_le _, Nat.zero_le _⟩ dX0_order_1 ?_
  refine lv_if_eq (tgt := 16) hx hb dX0_order_4 (by decide) (fun c_1 => ?_) (fun c_1 => ?_)
  · refine lv_iconst (v := (-1)) hx hb dX0_order_16 (by decide) ?_
    exact x_ireti hx hb hr hlk hp (by unfold x_order; rw [if_pos c_1]) dX0_order_17
  · obtain ⟨t, ht, rfl⟩ := x_bT_of c_1
    refine lv_iload_n hx hb dX0_order_7 rfl (lv_at hl 2 rfl) ?_
    refine lv_if_lt (tgt := 16) hx hb dX0_order_8 (by decide) (fun c_2 => ?_) (fun c_2 => ?_)
    · refine lv_iconst (v := (-1)) hx hb dX0_order_16 (by decide) ?_
      exact x_ireti hx hb hr hlk hp (by unfold x_order; rw [if_neg c_1, if_pos c_2]) dX0_order_17
    · refine lv_iload_n hx hb dX0_order_11 rfl (lv_at hl 2 rfl) ?_
      refine lv_iconst (v := 5) hx hb dX0_order_12 (by decide) ?_
      refine lv_icmp_le (tgt := 18) hx hb dX0_order_13 (by decide) (fun c_3 => ?_) (fun c_3 => ?_)
      · obtain ⟨z, hz, hsz⟩ := hok t ht
        refine lv_aload_n hx hb dX0_order_18 rfl (lv_at hl 0 rfl) ?_
        refine x_get hx hb hts hown hC hp 2 (by decide) x_l17 rfl dX0_order_19 ?_
        refine lv_iload_n hx hb dX0_order_22 rfl (lv_at hl 1 rfl) ?_
        refine x_vld 0 t hx hb hC hp (by decide) ht dX0_order_23 ?_
        rw [hsz]
        refine lv_istore (lv' := [(4, .int (nI z)), (0, .ref (g 0)), (1, .int (nI t)), (2, .int o), (3, .int n)]) hx hb dX0_order_24 hl (by decide) rfl (fun ls hl => ?_)
        refine lv_iload hx hb dX0_order_26 (lv_at hl 0 rfl) ?_
        refine lv_iconst (v := 5) hx hb dX0_order_28 (by decide) ?_
        refine lv_icmp_lt (tgt := 35) hx hb dX0_order_29 (by decide) (fun c_4 => ?_) (fun c_4 => ?_)
        · have hz5 : z < 5 := Nat.lt_of_not_le (fun h => absurd c_4 (nI_nlt (b := 5) h (by omega)))
          refine lv_aload_n hx hb dX0_order_35 rfl (lv_at hl 1 rfl) ?_
          refine x_get hx hb hts hown hC hp 0 (by decide) x_l11 rfl dX0_order_36 ?_
          refine lv_iload_n hx hb dX0_order_39 rfl (lv_at hl 2 rfl) ?_
          refine x_ald 0 hx hb hC hp (by decide) ht dX0_order_40 ?_
          refine lv_iload hx hb dX0_order_41 (lv_at hl 0 rfl) ?_
          refine lv_iload_n hx hb dX0_order_43 rfl (lv_at hl 3 rfl) ?_
          refine x_istN 0 t z hx hb hC hp (by decide) ht hz5 dX0_order_44 (fun H locs hp => ?_)
          refine lv_aload_n hx hb dX0_order_45 rfl (lv_at hl 1 rfl) ?_
          refine x_get hx hb hts hown hC hp 1 (by decide) x_l14 rfl dX0_order_46 ?_
          refine lv_iload_n hx hb dX0_order_49 rfl (lv_at hl 2 rfl) ?_
          refine x_ald 1 hx hb hC hp (by decide) ht dX0_order_50 ?_
          refine lv_iload hx hb dX0_order_51 (lv_at hl 0 rfl) ?_
          refine lv_iload_n hx hb dX0_order_53 rfl (lv_at hl 4 rfl) ?_
          refine x_istN 1 t z hx hb hC hp (by decide) ht hz5 dX0_order_54 (fun H locs hp => ?_)
          refine lv_aload_n hx hb dX0_order_55 rfl (lv_at hl 1 rfl) ?_
          refine x_get hx hb hts hown hC hp 2 (by decide) x_l17 rfl dX0_order_56 ?_
          refine lv_iload_n hx hb dX0_order_59 rfl (lv_at hl 2 rfl) ?_
          refine lv_iload hx hb dX0_order_60 (lv_at hl 0 rfl) ?_
          refine lv_iconst (v := 1) hx hb dX0_order_62 (by decide) ?_
          refine lv_iadd hx hb dX0_order_63 ?_
          refine x_vst 0 t hx hb hC hp (by decide) ht dX0_order_64 (fun H locs hp => ?_)
          refine lv_iload hx hb dX0_order_65 (lv_at hl 0 rfl) ?_
          refine lv_iconst (v := 1) hx hb dX0_order_67 (by decide) ?_
          refine lv_iadd hx hb dX0_order_68 ?_
          exact x_ireti hx hb hr hlk hp (by unfold x_order; rw [if_neg c_1, if_neg c_2, if_pos c_3]; simp only [nI_clamp (show t < 2 ^ 31 by omega), hsz, nI_clamp (show z < 2 ^ 31 by omega)]; rw [if_pos c_4]) dX0_order_69
        · refine lv_bipush (v := (-2)) hx hb dX0_order_32 (by decide) ?_
          exact x_ireti hx hb hr hlk hp (by unfold x_order; rw [if_neg c_1, if_neg c_2, if_pos c_3]; simp only [nI_clamp (show t < 2 ^ 31 by omega), hsz]; rw [if_neg c_4]) dX0_order_34
      · refine lv_iconst (v := (-1)) hx hb dX0_order_16 (by decide) ?_
        exact x_ireti hx hb hr hlk hp (by unfold x_order; rw [if_neg c_1, if_neg c_2, if_neg c_3]) dX0_order_17

set_option maxHeartbeats 4000000 in
set_option maxRecDepth 100000 in
theorem cx_noOrders (l : Launch) (D : va_G) (cI cJ : ClassId) (g : Nat → Nat) (tS tJ : Nat) (σ : xT) (a : Int32)  : x_Mi l yX0_noOrders (.code yX0_noOrders cX0_noOrders 3 (some .int) :: lw_g) { frames := 1, cells := 0, slots := 0, locals := 20 } D cI cJ g tS tJ σ [.int a] (x_noOrders a σ) := by
  refine x_bodyi rfl rfl (Nat.le_of_ble_eq_true rfl) ?_
  intro p e s m below meth c hx hb hml hr hlk hown hts hC hp ls hl
  have hl : lv_has ls 3 [(0, .ref (g 0)), (1, .int a)] := hl
  refine lv_iload_n hx hb dX0_noOrders_0 rfl (lv_at hl 1 rfl) ?_
  refine x_callS (n := 1) [.int a] hx hb hml hown hts (cx_isType l a) gSX0_40 (by decide +kernel) ⟨by show 0 + 1 ≤ 1; omega, by show 8 + (1 + 11) + 0 ≤ 20; omega⟩ rfl hl.1 rfl (Nat.le_of_ble_eq_true rfl) ⟨Nat.zero_le _, Nat.zero_le _⟩ dX0_noOrders_1 ?_
  refine lv_if_ne (tgt := 9) hx hb dX0_noOrders_4 (by decide) (fun c_1 => ?_) (fun c_1 => ?_)
  · obtain ⟨t, ht, rfl⟩ := x_bT_of c_1
    refine lv_aload_n hx hb dX0_noOrders_9 rfl (lv_at hl 0 rfl) ?_
    refine x_get hx hb hts hown hC hp 2 (by decide) x_l17 rfl dX0_noOrders_10 ?_
    refine lv_iload_n hx hb dX0_noOrders_13 rfl (lv_at hl 1 rfl) ?_
    refine x_vld 0 t hx hb hC hp (by decide) ht dX0_noOrders_14 ?_
    refine lv_istore_n (lv' := [(2, .int (σ.2.1 0 t)), (0, .ref (g 0)), (1, .int (nI t))]) hx hb dX0_noOrders_15 rfl hl (by decide) rfl (fun ls hl => ?_)
    refine lv_aload_n hx hb dX0_noOrders_16 rfl (lv_at hl 1 rfl) ?_
    refine x_get hx hb hts hown hC hp 2 (by decide) x_l17 rfl dX0_noOrders_17 ?_
    refine lv_iload_n hx hb dX0_noOrders_20 rfl (lv_at hl 2 rfl) ?_
    refine lv_iconst (v := 0) hx hb dX0_noOrders_21 (by decide) ?_
    refine x_vst 0 t hx hb hC hp (by decide) ht dX0_noOrders_22 (fun H locs hp => ?_)
    refine lv_iload_n hx hb dX0_noOrders_23 rfl (lv_at hl 0 rfl) ?_
    exact x_ireti hx hb hr hlk hp (by unfold x_noOrders; rw [if_neg c_1, nI_clamp (by omega)]) dX0_noOrders_24
  · refine lv_iconst (v := (-1)) hx hb dX0_noOrders_7 (by decide) ?_
    exact x_ireti hx hb hr hlk hp (by unfold x_noOrders; rw [if_pos c_1]) dX0_noOrders_8

set_option maxHeartbeats 4000000 in
set_option maxRecDepth 100000 in
/-- the loop of build -/
theorem lx_build {p : Program} {l : Launch} {e : Env} {s : State} {m : MethodId} {args : Array Value} {below : List Frame} {meth : Method} {c : Code} {D : va_G} {cI cJ : ClassId} {g : Nat → Nat} {tS tJ : Nat} (hb : c.code = cX0_build) (hr : meth.sig.returnType = some .int) (hx : p.tables.exec = Jvm.exec) (hown : s.vm.findClass RX0 = some m.cls) (hlk : meth.locks = false) (hts : ∀ w ∈ lw_g, w.before args s = true) (hC : x_C D cI cJ g tS tJ s) {w : Nat} (hw : w < 2) {F : Int32 × xT} :
    ∀ (r k : Nat), k + r = 8 → ∀ (σ : xT) (H : Heap) (locs : List Loc), x_P D cI cJ g s H locs σ → ∀ (ls : Array Slot), lv_has ls 3 [(2, .int (nI k)), (0, .ref (g 0)), (1, .int (nI w))] → F = (0, x_sV (x_bld w r k σ) 1 w 0) →
      W p l e { frames := 1, cells := 0, slots := 0, locals := 20 } s m args below meth c H locs 0 0 (MQ below (va_Qi (fun r τ => (r, τ) = F) (fun τ t => va_P D vwCl (fw 30 g (x_E cI cJ g τ)) t.heap) (fw_A 30 g)) args s 0 0 (fw_A 30 g)) (F0 m 11 ls []) := by
  intro r
  induction r with
  | zero =>
    intro k hkr σ H locs hp ls hl hF
    have hle : 8 ≤ nI k := nI_le (a := 8) (by omega) (by omega)
    refine lv_iload_n hx hb dX0_build_11 rfl (lv_at hl 0 rfl) ?_
    refine lv_bipush (v := 8) hx hb dX0_build_12 (by decide) ?_
    refine lv_icmp_ge (tgt := 41) hx hb dX0_build_14 (by decide) (fun c_1 => ?_) (fun c_1 => absurd hle c_1)
    refine lv_aload_n hx hb dX0_build_41 rfl (lv_at hl 1 rfl) ?_
    refine x_get hx hb hts hown hC hp 6 (by decide) x_l30 rfl dX0_build_42 ?_
    refine lv_iload_n hx hb dX0_build_45 rfl (lv_at hl 2 rfl) ?_
    refine lv_iconst (v := 0) hx hb dX0_build_46 (by decide) ?_
    refine x_vst 1 w hx hb hC hp (by decide) hw dX0_build_47 (fun H locs hp => ?_)
    refine lv_iconst (v := 0) hx hb dX0_build_48 (by decide) ?_
    exact x_ireti hx hb hr hlk hp (hF.symm) dX0_build_49
  | succ r ih =>
    intro k hkr σ H locs hp ls hl hF
    have hk : k < 8 := by omega
    have hnle : ¬ 8 ≤ nI k := nI_ge (b := 8) hk (by omega)
    refine lv_iload_n hx hb dX0_build_11 rfl (lv_at hl 0 rfl) ?_
    refine lv_bipush (v := 8) hx hb dX0_build_12 (by decide) ?_
    refine lv_icmp_ge (tgt := 41) hx hb dX0_build_14 (by decide) (fun c_1 => absurd c_1 hnle) (fun c_1 => ?_)
    refine lv_aload_n hx hb dX0_build_17 rfl (lv_at hl 1 rfl) ?_
    refine x_get hx hb hts hown hC hp 3 (by decide) x_l21 rfl dX0_build_18 ?_
    refine lv_iload_n hx hb dX0_build_21 rfl (lv_at hl 2 rfl) ?_
    refine x_ald 2 hx hb hC hp (by decide) hw dX0_build_22 ?_
    refine lv_iload_n hx hb dX0_build_23 rfl (lv_at hl 0 rfl) ?_
    refine lv_iconst (v := 0) hx hb dX0_build_24 (by decide) ?_
    refine x_istN 2 w k hx hb hC hp (by decide) hw hk dX0_build_25 (fun H locs hp => ?_)
    refine lv_aload_n hx hb dX0_build_26 rfl (lv_at hl 1 rfl) ?_
    refine x_get hx hb hts hown hC hp 4 (by decide) x_l24 rfl dX0_build_27 ?_
    refine lv_iload_n hx hb dX0_build_30 rfl (lv_at hl 2 rfl) ?_
    refine x_ald 3 hx hb hC hp (by decide) hw dX0_build_31 ?_
    refine lv_iload_n hx hb dX0_build_32 rfl (lv_at hl 0 rfl) ?_
    refine lv_iconst (v := 0) hx hb dX0_build_33 (by decide) ?_
    refine x_istN 3 w k hx hb hC hp (by decide) hw hk dX0_build_34 (fun H locs hp => ?_)
    refine lv_iinc (v := nI ((k + 1))) (lv' := [(2, .int (nI (k + 1))), (0, .ref (g 0)), (1, .int (nI w))]) hx hb dX0_build_35 hl (k := 0) rfl (nI_1 k) (by decide) rfl (fun ls hl => ?_)
    refine lv_goto (tgt := 11) hx hb dX0_build_38 (by decide) ?_
    exact ih (k + 1) (by omega) _ _ _ hp ls hl hF

set_option maxHeartbeats 4000000 in
set_option maxRecDepth 100000 in
theorem cx_build (l : Launch) (D : va_G) (cI cJ : ClassId) (g : Nat → Nat) (tS tJ : Nat) (σ : xT) (a : Int32)  : x_Mi l yX0_build (.code yX0_build cX0_build 3 (some .int) :: lw_g) { frames := 1, cells := 0, slots := 0, locals := 20 } D cI cJ g tS tJ σ [.int a] (x_build a σ) := by
  refine x_bodyi rfl rfl (Nat.le_of_ble_eq_true rfl) ?_
  intro p e s m below meth c hx hb hml hr hlk hown hts hC hp ls hl
  have hl : lv_has ls 3 [(0, .ref (g 0)), (1, .int a)] := hl
  refine lv_iload_n hx hb dX0_build_0 rfl (lv_at hl 1 rfl) ?_
  refine x_callS (n := 1) [.int a] hx hb hml hown hts (cx_isWorld l a) gSX0_44 (by decide +kernel) ⟨by show 0 + 1 ≤ 1; omega, by show 8 + (1 + 11) + 0 ≤ 20; omega⟩ rfl hl.1 rfl (Nat.le_of_ble_eq_true rfl) ⟨Nat.zero_le _, Nat.zero_le _⟩ dX0_build_1 ?_
  refine lv_if_ne (tgt := 9) hx hb dX0_build_4 (by decide) (fun c_1 => ?_) (fun c_1 => ?_)
  · obtain ⟨w, hw, rfl⟩ := x_bW_of c_1
    refine lv_iconst (v := 0) hx hb dX0_build_9 (by decide) ?_
    refine lv_istore_n (lv' := [(2, .int (nI 0)), (0, .ref (g 0)), (1, .int (nI w))]) hx hb dX0_build_10 rfl hl (by decide) rfl (fun ls hl => ?_)
    exact lx_build hb hr hx hown hlk hts hC hw 8 0 (by omega) σ _ _ hp ls hl (by unfold x_build; rw [if_neg c_1, nI_clamp (by omega)])
  · refine lv_iconst (v := (-1)) hx hb dX0_build_7 (by decide) ?_
    exact x_ireti hx hb hr hlk hp (by unfold x_build; rw [if_pos c_1]) dX0_build_8

set_option maxHeartbeats 4000000 in
set_option maxRecDepth 100000 in
theorem cx_probe (l : Launch) (D : va_G) (cI cJ : ClassId) (g : Nat → Nat) (tS tJ : Nat) (σ : xT) (a b q : Int32) (hok : x_ok σ) : x_Mi l yX0_probe (.code yX0_probe cX0_probe 5 (some .int) :: lw_g) { frames := 41, cells := 0, slots := 0, locals := 1024 } D cI cJ g tS tJ σ [.int a, .int b, .int q] (x_probe a b q σ) := by
  refine x_bodyi rfl rfl (Nat.le_of_ble_eq_true rfl) ?_
  intro p e s m below meth c hx hb hml hr hlk hown hts hC hp ls hl
  have hl : lv_has ls 5 [(0, .ref (g 0)), (1, .int a), (2, .int b), (3, .int q)] := hl
  refine lv_iload_n hx hb dX0_probe_0 rfl (lv_at hl 1 rfl) ?_
  refine x_callS (n := 1) [.int a] hx hb hml hown hts (cx_isWorld l a) gSX0_44 (by decide +kernel) ⟨by show 0 + 1 ≤ 41; omega, by show 8 + (1 + 11) + 0 ≤ 1024; omega⟩ rfl hl.1 rfl (Nat.le_of_ble_eq_true rfl) ⟨Nat.zero_le _, Nat.zero_le _⟩ dX0_probe_1 ?_
  refine lv_if_eq (tgt := 22) hx hb dX0_probe_4 (by decide) (fun c_1 => ?_) (fun c_1 => ?_)
  · refine lv_iconst (v := (-1)) hx hb dX0_probe_22 (by decide) ?_
    exact x_ireti hx hb hr hlk hp (by unfold x_probe; rw [if_pos c_1]) dX0_probe_23
  · obtain ⟨w, hw, rfl⟩ := x_bW_of c_1
    refine lv_iload_n hx hb dX0_probe_7 rfl (lv_at hl 2 rfl) ?_
    refine x_callS (n := 1) [.int b] hx hb hml hown hts (cx_isType l b) gSX0_40 (by decide +kernel) ⟨by show 0 + 1 ≤ 41; omega, by show 8 + (1 + 11) + 0 ≤ 1024; omega⟩ rfl hl.1 rfl (Nat.le_of_ble_eq_true rfl) ⟨Nat.zero_le _, Nat.zero_le _⟩ dX0_probe_8 ?_
    refine lv_if_eq (tgt := 22) hx hb dX0_probe_11 (by decide) (fun c_2 => ?_) (fun c_2 => ?_)
    · refine lv_iconst (v := (-1)) hx hb dX0_probe_22 (by decide) ?_
      exact x_ireti hx hb hr hlk hp (by unfold x_probe; rw [if_neg c_1, if_pos c_2]) dX0_probe_23
    · obtain ⟨t, ht, rfl⟩ := x_bT_of c_2
      refine lv_iload_n hx hb dX0_probe_14 rfl (lv_at hl 2 rfl) ?_
      refine lv_iload_n hx hb dX0_probe_15 rfl (lv_at hl 3 rfl) ?_
      refine x_callS (n := 2) [.int (nI t), .int q] hx hb hml hown hts (cx_isMannerFor l (nI t) q) gSX0_47 (by decide +kernel) ⟨by show 0 + 1 ≤ 41; omega, by show 8 + (2 + 11) + 0 ≤ 1024; omega⟩ rfl hl.1 rfl (Nat.le_of_ble_eq_true rfl) ⟨Nat.zero_le _, Nat.zero_le _⟩ dX0_probe_16 ?_
      refine lv_if_ne (tgt := 24) hx hb dX0_probe_19 (by decide) (fun c_3 => ?_) (fun c_3 => ?_)
      · obtain ⟨j, hj, rfl⟩ := x_bM_of c_3
        refine lv_aload_n hx hb dX0_probe_24 rfl (lv_at hl 0 rfl) ?_
        refine lv_iconst (v := 0) hx hb dX0_probe_25 (by decide) ?_
        refine x_putW hx hb hts hown hC hp x_l37 dX0_probe_26 (fun H locs hp => ?_)
        refine lv_aload_n hx hb dX0_probe_29 rfl (lv_at hl 0 rfl) ?_
        refine lv_iload_n hx hb dX0_probe_30 rfl (lv_at hl 1 rfl) ?_
        refine lv_iload_n hx hb dX0_probe_31 rfl (lv_at hl 2 rfl) ?_
        refine lv_iload_n hx hb dX0_probe_32 rfl (lv_at hl 3 rfl) ?_
        refine x_callS (n := 2) [.int (nI t), .int (nI j)] hx hb hml hown hts (cx_typeStartedBy l t j ht hj) gSX0_51 (by decide +kernel) ⟨by show 0 + 1 ≤ 41; omega, by show 8 + (2 + 11) + 0 ≤ 1024; omega⟩ rfl hl.1 rfl (Nat.le_of_ble_eq_true rfl) ⟨Nat.zero_le _, Nat.zero_le _⟩ dX0_probe_33 ?_
        refine lv_iconst (v := 0) hx hb dX0_probe_36 (by decide) ?_
        refine x_callN (n := 3) [.int (nI w), .int (x_I (x_tsb t j)), .int 0] hx hb hml hown hts hC hp (cx_start l D cI cJ g tS tJ 8 0 rfl w hw (x_tsb t j) (x_tsb_lt ht) (x_sW σ 0) ((x_K_sW _ _).ok hok) _ _ rfl rfl) gVX0_55 (by decide +kernel) ⟨rfl, rfl, by show 5 * 8 + 1 ≤ 41; omega, by show 8 + (5 + 11) + 125 * 8 ≤ 1024; omega⟩ rfl hl.1 rfl (Nat.le_of_ble_eq_true rfl) ⟨Nat.zero_le _, Nat.zero_le _⟩ dX0_probe_37 (fun H locs hp => ?_)
        refine lv_istore (lv' := [(4, .int (x_start 8 w (x_tsb t j) (x_sW σ 0)).1), (0, .ref (g 0)), (1, .int (nI w)), (2, .int (nI t)), (3, .int (nI j))]) hx hb dX0_probe_40 hl (by decide) rfl (fun ls hl => ?_)
        refine lv_iload hx hb dX0_probe_42 (lv_at hl 0 rfl) ?_
        refine lv_if_ne (tgt := 58) hx hb dX0_probe_44 (by decide) (fun c_4 => ?_) (fun c_4 => ?_)
        · refine lv_iload hx hb dX0_probe_58 (lv_at hl 0 rfl) ?_
          exact x_ireti hx hb hr hlk hp (by unfold x_probe; rw [if_neg c_1, if_neg c_2, if_neg c_3]; simp only [nI_clamp (show w < 2 ^ 31 by omega), nI_clamp (show t < 2 ^ 31 by omega), nI_clamp (show j < 2 ^ 31 by omega)]; rw [if_neg c_4]) dX0_probe_60
        · refine lv_aload_n hx hb dX0_probe_47 rfl (lv_at hl 1 rfl) ?_
          refine lv_aload_n hx hb dX0_probe_48 rfl (lv_at hl 1 rfl) ?_
          refine lv_iload_n hx hb dX0_probe_49 rfl (lv_at hl 2 rfl) ?_
          refine lv_iload_n hx hb dX0_probe_50 rfl (lv_at hl 3 rfl) ?_
          refine lv_iload_n hx hb dX0_probe_51 rfl (lv_at hl 4 rfl) ?_
          refine x_callN (n := 3) [.int (nI w), .int (nI t), .int (nI j)] hx hb hml hown hts hC hp (cx_useStarted l D cI cJ g tS tJ ((x_start 8 w (x_tsb t j) (x_sW σ 0)).2) w t j hw ht hj) gVX0_59 (by decide +kernel) ⟨rfl, rfl, by show 0 + 1 ≤ 41; omega, by show 8 + (4 + 11) + 0 ≤ 1024; omega⟩ rfl hl.1 rfl (Nat.le_of_ble_eq_true rfl) ⟨Nat.zero_le _, Nat.zero_le _⟩ dX0_probe_52 (fun H locs hp => ?_)
          refine x_putA hx hb hts hown hC hp x_l33 dX0_probe_55 (fun H locs hp => ?_)
          refine lv_iload hx hb dX0_probe_58 (lv_at hl 0 rfl) ?_
          exact x_ireti hx hb hr hlk hp (by unfold x_probe; rw [if_neg c_1, if_neg c_2, if_neg c_3]; simp only [nI_clamp (show w < 2 ^ 31 by omega), nI_clamp (show t < 2 ^ 31 by omega), nI_clamp (show j < 2 ^ 31 by omega)]; rw [if_pos c_4]) dX0_probe_60
      · refine lv_iconst (v := (-1)) hx hb dX0_probe_22 (by decide) ?_
        exact x_ireti hx hb hr hlk hp (by unfold x_probe; rw [if_neg c_1, if_neg c_2, if_pos c_3]) dX0_probe_23

set_option maxHeartbeats 4000000 in
set_option maxRecDepth 100000 in
theorem cx_answer (l : Launch) (D : va_G) (cI cJ : ClassId) (g : Nat → Nat) (tS tJ : Nat) (σ : xT)   : x_Mi l yX0_answer (.code yX0_answer cX0_answer 1 (some .int) :: lw_g) { frames := 0, cells := 0, slots := 0, locals := 0 } D cI cJ g tS tJ σ [] ((σ.2.2.1, σ)) := by
  refine x_bodyi rfl rfl (Nat.le_of_ble_eq_true rfl) ?_
  intro p e s m below meth c hx hb hml hr hlk hown hts hC hp ls hl
  have hl : lv_has ls 1 [(0, .ref (g 0))] := hl
  refine lv_aload_n hx hb dX0_answer_0 rfl (lv_at hl 0 rfl) ?_
  refine x_get hx hb hts hown hC hp 7 (by decide) x_l33 rfl dX0_answer_1 ?_
  exact x_ireti hx hb hr hlk hp (rfl) dX0_answer_4

set_option maxHeartbeats 4000000 in
set_option maxRecDepth 100000 in
theorem cx_wrong (l : Launch) (D : va_G) (cI cJ : ClassId) (g : Nat → Nat) (tS tJ : Nat) (σ : xT)   : x_Mi l yX0_wrong (.code yX0_wrong cX0_wrong 1 (some .int) :: lw_g) { frames := 0, cells := 0, slots := 0, locals := 0 } D cI cJ g tS tJ σ [] ((σ.2.2.2, σ)) := by
  refine x_bodyi rfl rfl (Nat.le_of_ble_eq_true rfl) ?_
  intro p e s m below meth c hx hb hml hr hlk hown hts hC hp ls hl
  have hl : lv_has ls 1 [(0, .ref (g 0))] := hl
  refine lv_aload_n hx hb dX0_wrong_0 rfl (lv_at hl 0 rfl) ?_
  refine x_get hx hb hts hown hC hp 8 (by decide) x_l37 rfl dX0_wrong_1 ?_
  exact x_ireti hx hb hr hlk hp (rfl) dX0_wrong_4

set_option maxHeartbeats 4000000 in
set_option maxRecDepth 100000 in
theorem cx_events (l : Launch) (D : va_G) (cI cJ : ClassId) (g : Nat → Nat) (tS tJ : Nat) (σ : xT) (a : Int32)  : x_Mi l yX0_events (.code yX0_events cX0_events 2 (some .int) :: lw_g) { frames := 1, cells := 0, slots := 0, locals := 20 } D cI cJ g tS tJ σ [.int a] (x_events a σ) := by
  refine x_bodyi rfl rfl (Nat.le_of_ble_eq_true rfl) ?_
  intro p e s m below meth c hx hb hml hr hlk hown hts hC hp ls hl
  have hl : lv_has ls 2 [(0, .ref (g 0)), (1, .int a)] := hl
  refine lv_iload_n hx hb dX0_events_0 rfl (lv_at hl 1 rfl) ?_
  refine x_callS (n := 1) [.int a] hx hb hml hown hts (cx_isWorld l a) gSX0_44 (by decide +kernel) ⟨by show 0 + 1 ≤ 1; omega, by show 8 + (1 + 11) + 0 ≤ 20; omega⟩ rfl hl.1 rfl (Nat.le_of_ble_eq_true rfl) ⟨Nat.zero_le _, Nat.zero_le _⟩ dX0_events_1 ?_
  refine lv_if_eq (tgt := 16) hx hb dX0_events_4 (by decide) (fun c_1 => ?_) (fun c_1 => ?_)
  · refine lv_iconst (v := (-1)) hx hb dX0_events_16 (by decide) ?_
    exact x_ireti hx hb hr hlk hp (by unfold x_events; rw [if_pos c_1]) dX0_events_17
  · obtain ⟨w, hw, rfl⟩ := x_bW_of c_1
    refine lv_aload_n hx hb dX0_events_7 rfl (lv_at hl 0 rfl) ?_
    refine x_get hx hb hts hown hC hp 6 (by decide) x_l30 rfl dX0_events_8 ?_
    refine lv_iload_n hx hb dX0_events_11 rfl (lv_at hl 1 rfl) ?_
    refine x_vld 1 w hx hb hC hp (by decide) hw dX0_events_12 ?_
    refine lv_goto (tgt := 17) hx hb dX0_events_13 (by decide) ?_
    exact x_ireti hx hb hr hlk hp (by unfold x_events; rw [if_neg c_1, nI_clamp (by omega)]) dX0_events_17

set_option maxHeartbeats 4000000 in
set_option maxRecDepth 100000 in
theorem cx_event (l : Launch) (D : va_G) (cI cJ : ClassId) (g : Nat → Nat) (tS tJ : Nat) (σ : xT) (a i : Int32)  : x_Mi l yX0_event (.code yX0_event cX0_event 3 (some .int) :: lw_g) { frames := 1, cells := 0, slots := 0, locals := 20 } D cI cJ g tS tJ σ [.int a, .int i] (x_event a i σ) := by
  refine x_bodyi rfl rfl (Nat.le_of_ble_eq_true rfl) ?_
  intro p e s m below meth c hx hb hml hr hlk hown hts hC hp ls hl
  have hl : lv_has ls 3 [(0, .ref (g 0)), (1, .int a), (2, .int i)] := hl
  refine lv_iload_n hx hb dX0_event_0 rfl (lv_at hl 1 rfl) ?_
  refine x_callS (n := 1) [.int a] hx hb hml hown hts (cx_isWorld l a) gSX0_44 (by decide +kernel) ⟨by show 0 + 1 ≤ 1; omega, by show 8 + (1 + 11) + 0 ≤ 20; omega⟩ rfl hl.1 rfl (Nat.le_of_ble_eq_true rfl) ⟨Nat.zero_le _, Nat.zero_le _⟩ dX0_event_1 ?_
  refine lv_if_eq (tgt := 27) hx hb dX0_event_4 (by decide) (fun c_1 => ?_) (fun c_1 => ?_)
  · refine lv_iconst (v := (-1)) hx hb dX0_event_27 (by decide) ?_
    exact x_ireti hx hb hr hlk hp (by unfold x_event; rw [if_pos c_1]) dX0_event_28
  · obtain ⟨w, hw, rfl⟩ := x_bW_of c_1
    refine lv_iload_n hx hb dX0_event_7 rfl (lv_at hl 2 rfl) ?_
    refine lv_if_lt (tgt := 27) hx hb dX0_event_8 (by decide) (fun c_2 => ?_) (fun c_2 => ?_)
    · refine lv_iconst (v := (-1)) hx hb dX0_event_27 (by decide) ?_
      exact x_ireti hx hb hr hlk hp (by unfold x_event; rw [if_neg c_1, if_pos c_2]) dX0_event_28
    · refine lv_iload_n hx hb dX0_event_11 rfl (lv_at hl 2 rfl) ?_
      refine lv_bipush (v := 32) hx hb dX0_event_12 (by decide) ?_
      refine lv_icmp_ge (tgt := 27) hx hb dX0_event_14 (by decide) (fun c_3 => ?_) (fun c_3 => ?_)
      · refine lv_iconst (v := (-1)) hx hb dX0_event_27 (by decide) ?_
        exact x_ireti hx hb hr hlk hp (by unfold x_event; rw [if_neg c_1, if_neg c_2, if_pos c_3]) dX0_event_28
      · refine lv_iload_n hx hb dX0_event_17 rfl (lv_at hl 2 rfl) ?_
        refine lv_aload_n hx hb dX0_event_18 rfl (lv_at hl 0 rfl) ?_
        refine x_get hx hb hts hown hC hp 6 (by decide) x_l30 rfl dX0_event_19 ?_
        refine lv_iload_n hx hb dX0_event_22 rfl (lv_at hl 1 rfl) ?_
        refine x_vld 1 w hx hb hC hp (by decide) hw dX0_event_23 ?_
        refine lv_icmp_lt (tgt := 29) hx hb dX0_event_24 (by decide) (fun c_4 => ?_) (fun c_4 => ?_)
        · refine lv_aload_n hx hb dX0_event_29 rfl (lv_at hl 0 rfl) ?_
          refine x_get hx hb hts hown hC hp 5 (by decide) x_l27 rfl dX0_event_30 ?_
          refine lv_iload_n hx hb dX0_event_33 rfl (lv_at hl 1 rfl) ?_
          refine x_ald 4 hx hb hC hp (by decide) hw dX0_event_34 ?_
          refine lv_aload_n hx hb dX0_event_35 rfl (lv_at hl 0 rfl) ?_
          refine x_get hx hb hts hown hC hp 6 (by decide) x_l30 rfl dX0_event_36 ?_
          refine lv_iload_n hx hb dX0_event_39 rfl (lv_at hl 1 rfl) ?_
          refine x_vld 1 w hx hb hC hp (by decide) hw dX0_event_40 ?_
          refine lv_iconst (v := 1) hx hb dX0_event_41 (by decide) ?_
          refine lv_isub hx hb dX0_event_42 ?_
          refine lv_iload_n hx hb dX0_event_43 rfl (lv_at hl 2 rfl) ?_
          refine lv_isub hx hb dX0_event_44 ?_
          refine lv_bipush (v := 31) hx hb dX0_event_45 (by decide) ?_
          refine lv_iand hx hb dX0_event_47 ?_
          refine x_ild 4 w hx hb hC hp (by decide) hw (pk_andIn _ 5 rfl (by decide)) dX0_event_48 ?_
          exact x_ireti hx hb hr hlk hp (by unfold x_event; rw [if_neg c_1, if_neg c_2, if_neg c_3, nI_clamp (by omega), if_pos c_4]) dX0_event_49
        · refine lv_iconst (v := (-1)) hx hb dX0_event_27 (by decide) ?_
          exact x_ireti hx hb hr hlk hp (by unfold x_event; rw [if_neg c_1, if_neg c_2, if_neg c_3, nI_clamp (by omega), if_neg c_4]) dX0_event_28
