/-- start's contract at the depth 8 - n -/
def x_SC (l : Launch) (D : va_G) (cI cJ : ClassId) (g : Nat → Nat) (tS tJ : Nat) (n : Nat) : Prop := ∀ (d : Nat), d + n = 8 → ∀ (w : Nat), w < 2 → ∀ (ty : Option Nat), (∀ j, ty = some j → j < 8) → ∀ (σ : xT), x_ok σ → ∀ (tv dv : Int32), tv = x_I ty → dv = nI d → x_Mi l yX0_start (.code yX0_start cX0_start 5 (some .int) :: lw_g) { frames := 5 * n, cells := 0, slots := 0, locals := 125 * n } D cI cJ g tS tJ σ [.int (nI w), .int tv, .int dv] (x_start n w ty σ)
theorem x_sup_lt (t : Nat) : ∀ j, x_sup t = some j → j < 8 := by
  intro j h
  unfold x_sup at h
  split at h
  · cases h; decide
  · split at h
    · cases h; decide
    · split at h
      · cases h; decide
      · cases h
theorem x_ifc_lt (t : Nat) : ∀ j, x_ifc t = some j → j < 8 := by
  intro j h
  unfold x_ifc at h
  split at h
  · cases h; decide
  · split at h
    · cases h; decide
    · cases h

set_option maxHeartbeats 4000000 in
set_option maxRecDepth 100000 in
theorem cx_startAbove (l : Launch) (D : va_G) (cI cJ : ClassId) (g : Nat → Nat) (tS tJ : Nat) {n : Nat} (hS : x_SC l D cI cJ g tS tJ n) (d : Nat) (hd : d + n = 8) (σ : xT) (w t : Nat) (dv : Int32) (hw : w < 2) (ht : t < 8) (hok : x_ok σ) (hdv : dv = nI d) : x_Mi l yX0_startAbove (.code yX0_startAbove cX0_startAbove 5 (some .int) :: lw_g) { frames := 5 * n + 1, cells := 0, slots := 0, locals := 125 * n + 24 } D cI cJ g tS tJ σ [.int (nI w), .int (nI t), .int dv] (x_above (x_start n w) t σ) := by
  subst hdv
  refine x_bodyi rfl rfl (Nat.le_of_ble_eq_true rfl) ?_
  intro p e s m below meth c hx hb hml hr hlk hown hts hC hp ls hl
  have hl : lv_has ls 5 [(0, .ref (g 0)), (1, .int (nI w)), (2, .int (nI t)), (3, .int (nI d))] := hl
  refine lv_aload_n hx hb dX0_startAbove_0 rfl (lv_at hl 0 rfl) ?_
  refine lv_iload_n hx hb dX0_startAbove_1 rfl (lv_at hl 1 rfl) ?_
  refine va_gets hx hb hC.2.1 hp.2 hown (hts _ x_l68) (fun _ h9 => h9) dX0_startAbove_2 ?_
  refine lv_iload_n hx hb dX0_startAbove_5 rfl (lv_at hl 2 rfl) ?_
  refine va_ti (v := .int (x_I (x_sup t))) hx hb hC.2.2.1 hp.2 (vp_in_nI ht (by decide)) (by rw [nI_clamp (Nat.lt_trans ht (by decide))]) dX0_startAbove_6 ?_
  refine lv_iload_n hx hb dX0_startAbove_7 rfl (lv_at hl 3 rfl) ?_
  refine x_callN (n := 3) [.int (nI w), .int (x_I (x_sup t)), .int (nI d)] hx hb hml hown hts hC hp (hS d hd w hw (x_sup t) (x_sup_lt t) σ hok _ _ rfl rfl) gVX0_55 (by decide +kernel) ⟨rfl, rfl, by show 5 * n + 1 ≤ 5 * n + 1; omega, by show 8 + (5 + 11) + 125 * n ≤ 125 * n + 24; omega⟩ rfl hl.1 rfl (Nat.le_of_ble_eq_true rfl) ⟨Nat.zero_le _, Nat.zero_le _⟩ dX0_startAbove_8 (fun H locs hp => ?_)
  refine lv_istore (lv' := [(4, .int (x_start n w (x_sup t) σ).1), (0, .ref (g 0)), (1, .int (nI w)), (2, .int (nI t)), (3, .int (nI d))]) hx hb dX0_startAbove_11 hl (by decide) rfl (fun ls hl => ?_)
  refine lv_iload hx hb dX0_startAbove_13 (lv_at hl 0 rfl) ?_
  refine lv_if_ne (tgt := 32) hx hb dX0_startAbove_15 (by decide) (fun c_1 => ?_) (fun c_1 => ?_)
  · refine lv_iload hx hb dX0_startAbove_32 (lv_at hl 0 rfl) ?_
    exact x_ireti hx hb hr hlk hp (by unfold x_above; rw [if_neg c_1]) dX0_startAbove_34
  · refine lv_aload_n hx hb dX0_startAbove_18 rfl (lv_at hl 1 rfl) ?_
    refine lv_iload_n hx hb dX0_startAbove_19 rfl (lv_at hl 2 rfl) ?_
    refine va_gets hx hb hC.2.2.2.1 hp.2 hown (hts _ x_l71) (fun _ h9 => h9) dX0_startAbove_20 ?_
    refine lv_iload_n hx hb dX0_startAbove_23 rfl (lv_at hl 3 rfl) ?_
    refine va_ti (v := .int (x_I (x_ifc t))) hx hb hC.2.2.2.2 hp.2 (vp_in_nI ht (by decide)) (by rw [nI_clamp (Nat.lt_trans ht (by decide))]) dX0_startAbove_24 ?_
    refine lv_iload_n hx hb dX0_startAbove_25 rfl (lv_at hl 4 rfl) ?_
    refine x_callN (n := 3) [.int (nI w), .int (x_I (x_ifc t)), .int (nI d)] hx hb hml hown hts hC hp (hS d hd w hw (x_ifc t) (x_ifc_lt t) ((x_start n w (x_sup t) σ).2) ((x_K_start _ _ _ _).ok hok) _ _ rfl rfl) gVX0_55 (by decide +kernel) ⟨rfl, rfl, by show 5 * n + 1 ≤ 5 * n + 1; omega, by show 8 + (5 + 11) + 125 * n ≤ 125 * n + 24; omega⟩ rfl hl.1 rfl (Nat.le_of_ble_eq_true rfl) ⟨Nat.zero_le _, Nat.zero_le _⟩ dX0_startAbove_26 (fun H locs hp => ?_)
    refine lv_goto (tgt := 34) hx hb dX0_startAbove_29 (by decide) ?_
    exact x_ireti hx hb hr hlk hp (by unfold x_above; rw [if_pos c_1]) dX0_startAbove_34

set_option maxHeartbeats 4000000 in
set_option maxRecDepth 100000 in
theorem cx_readAndNote (l : Launch) (D : va_G) (cI cJ : ClassId) (g : Nat → Nat) (tS tJ : Nat) {n : Nat} (hS : x_SC l D cI cJ g tS tJ n) (d : Nat) (hd : d + n = 8) (σ : xT) (w t : Nat) (tv : Int32) (hw : w < 2) (ht : t < 8) (hok : x_ok σ) (htv : tv = nI t) : x_Mi l yX0_readAndNote (.code yX0_readAndNote cX0_readAndNote 5 (some .int) :: lw_g) { frames := 5 * n + 1, cells := 0, slots := 0, locals := 125 * n + 24 } D cI cJ g tS tJ σ [.int (nI w), .int tv, .int (nI d)] (x_rn (x_start n w) w t σ) := by
  subst htv
  refine x_bodyi rfl rfl (Nat.le_of_ble_eq_true rfl) ?_
  intro p e s m below meth c hx hb hml hr hlk hown hts hC hp ls hl
  have hl : lv_has ls 5 [(0, .ref (g 0)), (1, .int (nI w)), (2, .int (nI t)), (3, .int (nI d))] := hl
  refine lv_aload_n hx hb dX0_readAndNote_0 rfl (lv_at hl 0 rfl) ?_
  refine lv_iload_n hx hb dX0_readAndNote_1 rfl (lv_at hl 1 rfl) ?_
  refine lv_iload_n hx hb dX0_readAndNote_2 rfl (lv_at hl 2 rfl) ?_
  refine lv_iload_n hx hb dX0_readAndNote_3 rfl (lv_at hl 3 rfl) ?_
  refine x_callN (n := 3) [.int (nI w), .int (nI t), .int (nI d)] hx hb hml hown hts hC hp (hS d hd w hw (some t) (fun j h => by cases h; exact ht) σ hok _ _ rfl rfl) gVX0_55 (by decide +kernel) ⟨rfl, rfl, by show 5 * n + 1 ≤ 5 * n + 1; omega, by show 8 + (5 + 11) + 125 * n ≤ 125 * n + 24; omega⟩ rfl hl.1 rfl (Nat.le_of_ble_eq_true rfl) ⟨Nat.zero_le _, Nat.zero_le _⟩ dX0_readAndNote_4 (fun H locs hp => ?_)
  refine lv_istore (lv' := [(4, .int (x_start n w (some t) σ).1), (0, .ref (g 0)), (1, .int (nI w)), (2, .int (nI t)), (3, .int (nI d))]) hx hb dX0_readAndNote_7 hl (by decide) rfl (fun ls hl => ?_)
  refine lv_iload hx hb dX0_readAndNote_9 (lv_at hl 0 rfl) ?_
  refine lv_if_ne (tgt := 27) hx hb dX0_readAndNote_11 (by decide) (fun c_1 => ?_) (fun c_1 => ?_)
  · refine lv_iload hx hb dX0_readAndNote_27 (lv_at hl 0 rfl) ?_
    exact x_ireti hx hb hr hlk hp (by unfold x_rn; rw [if_neg c_1]) dX0_readAndNote_29
  · refine lv_aload_n hx hb dX0_readAndNote_14 rfl (lv_at hl 1 rfl) ?_
    refine lv_iload_n hx hb dX0_readAndNote_15 rfl (lv_at hl 2 rfl) ?_
    refine lv_aload_n hx hb dX0_readAndNote_16 rfl (lv_at hl 1 rfl) ?_
    refine x_get hx hb hts hown hC hp 4 (by decide) x_l24 rfl dX0_readAndNote_17 ?_
    refine lv_iload_n hx hb dX0_readAndNote_20 rfl (lv_at hl 2 rfl) ?_
    refine x_ald 3 hx hb hC hp (by decide) hw dX0_readAndNote_21 ?_
    refine lv_iload_n hx hb dX0_readAndNote_22 rfl (lv_at hl 3 rfl) ?_
    refine x_ildN 3 w t hx hb hC hp (by decide) hw ht dX0_readAndNote_23 ?_
    refine x_callV (n := 2) [.int (nI w), .int ((x_start n w (some t) σ).2.1 3 w t)] hx hb hml hown hts hC hp (cx_note l D cI cJ g tS tJ ((x_start n w (some t) σ).2) w ((x_start n w (some t) σ).2.1 3 w t) hw) gVX0_74 (by decide +kernel) ⟨rfl, rfl, by show 0 + 1 ≤ 5 * n + 1; omega, by show 8 + (3 + 11) + 0 ≤ 125 * n + 24; omega⟩ rfl hl.1 rfl (Nat.le_of_ble_eq_true rfl) ⟨Nat.zero_le _, Nat.zero_le _⟩ dX0_readAndNote_24 (fun H locs hp => ?_)
    refine lv_iload hx hb dX0_readAndNote_27 (lv_at hl 0 rfl) ?_
    exact x_ireti hx hb hr hlk hp (by unfold x_rn; rw [if_pos c_1]) dX0_readAndNote_29

theorem x_out4 {o : Int32} (h0 : ¬ o = 0) (h1 : ¬ o = 1) (h2 : ¬ o = 2) (h3 : ¬ o = 3) (h4 : ¬ o = 4) : o.toInt < 0 ∨ 4 < o.toInt := by
  rw [← Int32.toInt_inj] at h0 h1 h2 h3 h4
  have e0 : (0 : Int32).toInt = 0 := rfl
  have e1 : (1 : Int32).toInt = 1 := rfl
  have e2 : (2 : Int32).toInt = 2 := rfl
  have e3 : (3 : Int32).toInt = 3 := rfl
  have e4 : (4 : Int32).toInt = 4 := rfl
  omega

set_option maxHeartbeats 4000000 in
set_option maxRecDepth 100000 in
theorem cx_obey (l : Launch) (D : va_G) (cI cJ : ClassId) (g : Nat → Nat) (tS tJ : Nat) {n : Nat} (hS : x_SC l D cI cJ g tS tJ n) (d : Nat) (hd : d + n = 8) (σ : xT) (w : Nat) (o v : Int32) (hw : w < 2) (hok : x_ok σ) : x_Mi l yX0_obey (.code yX0_obey cX0_obey 5 (some .int) :: lw_g) { frames := 5 * n + 2, cells := 0, slots := 0, locals := 125 * n + 48 } D cI cJ g tS tJ σ [.int (nI w), .int o, .int v, .int (nI d)] (x_obey (x_start n w) w o v σ) := by
  refine x_bodyi rfl rfl (Nat.le_of_ble_eq_true rfl) ?_
  intro p e s m below meth c hx hb hml hr hlk hown hts hC hp ls hl
  have hl : lv_has ls 5 [(0, .ref (g 0)), (1, .int (nI w)), (2, .int o), (3, .int v), (4, .int (nI d))] := hl
  by_cases h_0 : o = 0
  · have h_x := h_0
    subst h_x
    refine lv_iload_n hx hb dX0_obey_0 rfl (lv_at hl 2 rfl) ?_
    refine lv_tableIn (off := 35) (tgt := 36) hx hb dX0_obey_1 (by decide) (by decide) (by decide +kernel) (by decide) ?_
    refine lv_aload_n hx hb dX0_obey_36 rfl (lv_at hl 0 rfl) ?_
    refine lv_iload_n hx hb dX0_obey_37 rfl (lv_at hl 1 rfl) ?_
    refine lv_iload_n hx hb dX0_obey_38 rfl (lv_at hl 3 rfl) ?_
    refine x_callV (n := 2) [.int (nI w), .int v] hx hb hml hown hts hC hp (cx_note l D cI cJ g tS tJ σ w v hw) gVX0_74 (by decide +kernel) ⟨rfl, rfl, by show 0 + 1 ≤ 5 * n + 2; omega, by show 8 + (3 + 11) + 0 ≤ 125 * n + 48; omega⟩ rfl hl.1 rfl (Nat.le_of_ble_eq_true rfl) ⟨Nat.zero_le _, Nat.zero_le _⟩ dX0_obey_39 (fun H locs hp => ?_)
    refine lv_iconst (v := 0) hx hb dX0_obey_42 (by decide) ?_
    exact x_ireti hx hb hr hlk hp (by unfold x_obey; rw [if_pos rfl]) dX0_obey_43
  · skip
    by_cases h_1 : o = 1
    · have h_x := h_1
      subst h_x
      refine lv_iload_n hx hb dX0_obey_0 rfl (lv_at hl 2 rfl) ?_
      refine lv_tableIn (off := 43) (tgt := 44) hx hb dX0_obey_1 (by decide) (by decide) (by decide +kernel) (by decide) ?_
      refine lv_aload_n hx hb dX0_obey_44 rfl (lv_at hl 0 rfl) ?_
      refine lv_iload_n hx hb dX0_obey_45 rfl (lv_at hl 1 rfl) ?_
      refine lv_iload_n hx hb dX0_obey_46 rfl (lv_at hl 3 rfl) ?_
      refine lv_bipush (v := 7) hx hb dX0_obey_47 (by decide) ?_
      refine lv_iand hx hb dX0_obey_49 ?_
      refine lv_iload hx hb dX0_obey_50 (lv_at hl 4 rfl) ?_
      refine x_callN (n := 3) [.int (nI w), .int (v &&& 7), .int (nI d)] hx hb hml hown hts hC hp (cx_readAndNote l D cI cJ g tS tJ hS d hd σ w (v &&& 7).toNatClampNeg _ hw (x_m7 v).2 hok (x_m7 v).1) gVX0_89 (by decide +kernel) ⟨rfl, rfl, by show 5 * n + 1 + 1 ≤ 5 * n + 2; omega, by show 8 + (5 + 11) + 125 * n + 24 ≤ 125 * n + 48; omega⟩ rfl hl.1 rfl (Nat.le_of_ble_eq_true rfl) ⟨Nat.zero_le _, Nat.zero_le _⟩ dX0_obey_52 (fun H locs hp => ?_)
      exact x_ireti hx hb hr hlk hp (by unfold x_obey; rw [if_neg h_0, if_pos rfl]) dX0_obey_55
    · skip
      by_cases h_2 : o = 2
      · have h_x := h_2
        subst h_x
        refine lv_iload_n hx hb dX0_obey_0 rfl (lv_at hl 2 rfl) ?_
        refine lv_tableIn (off := 55) (tgt := 56) hx hb dX0_obey_1 (by decide) (by decide) (by decide +kernel) (by decide) ?_
        refine lv_aload_n hx hb dX0_obey_56 rfl (lv_at hl 0 rfl) ?_
        refine lv_iload_n hx hb dX0_obey_57 rfl (lv_at hl 3 rfl) ?_
        refine x_putW hx hb hts hown hC hp x_l37 dX0_obey_58 (fun H locs hp => ?_)
        refine lv_iconst (v := 4) hx hb dX0_obey_61 (by decide) ?_
        exact x_ireti hx hb hr hlk hp (by unfold x_obey; rw [if_neg h_0, if_neg h_1, if_pos rfl]) dX0_obey_62
      · skip
        by_cases h_3 : o = 3
        · have h_x := h_3
          subst h_x
          refine lv_iload_n hx hb dX0_obey_0 rfl (lv_at hl 2 rfl) ?_
          refine lv_tableIn (off := 62) (tgt := 63) hx hb dX0_obey_1 (by decide) (by decide) (by decide +kernel) (by decide) ?_
          refine lv_aload_n hx hb dX0_obey_63 rfl (lv_at hl 0 rfl) ?_
          refine lv_iload_n hx hb dX0_obey_64 rfl (lv_at hl 3 rfl) ?_
          refine x_putW hx hb hts hown hC hp x_l37 dX0_obey_65 (fun H locs hp => ?_)
          refine lv_iconst (v := 2) hx hb dX0_obey_68 (by decide) ?_
          exact x_ireti hx hb hr hlk hp (by unfold x_obey; rw [if_neg h_0, if_neg h_1, if_neg h_2, if_pos rfl]) dX0_obey_69
        · skip
          by_cases h_4 : o = 4
          · have h_x := h_4
            subst h_x
            refine lv_iload_n hx hb dX0_obey_0 rfl (lv_at hl 2 rfl) ?_
            refine lv_tableIn (off := 69) (tgt := 70) hx hb dX0_obey_1 (by decide) (by decide) (by decide +kernel) (by decide) ?_
            refine lv_aload_n hx hb dX0_obey_70 rfl (lv_at hl 0 rfl) ?_
            refine lv_iload_n hx hb dX0_obey_71 rfl (lv_at hl 1 rfl) ?_
            refine lv_aload_n hx hb dX0_obey_72 rfl (lv_at hl 0 rfl) ?_
            refine lv_iload_n hx hb dX0_obey_73 rfl (lv_at hl 1 rfl) ?_
            refine lv_iload_n hx hb dX0_obey_74 rfl (lv_at hl 3 rfl) ?_
            refine lv_bipush (v := 7) hx hb dX0_obey_75 (by decide) ?_
            refine lv_iand hx hb dX0_obey_77 ?_
            refine lv_iload hx hb dX0_obey_78 (lv_at hl 4 rfl) ?_
            refine x_callN (n := 3) [.int (nI w), .int (v &&& 7), .int (nI d)] hx hb hml hown hts hC hp (cx_readAndNote l D cI cJ g tS tJ hS d hd σ w (v &&& 7).toNatClampNeg _ hw (x_m7 v).2 hok (x_m7 v).1) gVX0_89 (by decide +kernel) ⟨rfl, rfl, by show 5 * n + 1 + 1 ≤ 5 * n + 2; omega, by show 8 + (5 + 11) + 125 * n + 24 ≤ 125 * n + 48; omega⟩ rfl hl.1 rfl (Nat.le_of_ble_eq_true rfl) ⟨Nat.zero_le _, Nat.zero_le _⟩ dX0_obey_80 (fun H locs hp => ?_)
            refine x_callV (n := 2) [.int (nI w), .int (x_rn (x_start n w) w (v &&& 7).toNatClampNeg σ).1] hx hb hml hown hts hC hp (cx_noteIfWrong l D cI cJ g tS tJ ((x_rn (x_start n w) w (v &&& 7).toNatClampNeg σ).2) w ((x_rn (x_start n w) w (v &&& 7).toNatClampNeg σ).1) hw) gVX0_92 (by decide +kernel) ⟨rfl, rfl, by show 1 + 1 ≤ 5 * n + 2; omega, by show 8 + (3 + 11) + 22 ≤ 125 * n + 48; omega⟩ rfl hl.1 rfl (Nat.le_of_ble_eq_true rfl) ⟨Nat.zero_le _, Nat.zero_le _⟩ dX0_obey_83 (fun H locs hp => ?_)
            refine lv_iconst (v := 0) hx hb dX0_obey_86 (by decide) ?_
            exact x_ireti hx hb hr hlk hp (by unfold x_obey; rw [if_neg h_0, if_neg h_1, if_neg h_2, if_neg h_3, if_pos rfl]) dX0_obey_87
          · skip
            refine lv_iload_n hx hb dX0_obey_0 rfl (lv_at hl 2 rfl) ?_
            refine lv_tableOut (tgt := 88) hx hb dX0_obey_1 (x_out4 h_0 h_1 h_2 h_3 h_4) (by decide) ?_
            refine lv_iconst (v := 0) hx hb dX0_obey_88 (by decide) ?_
            exact x_ireti hx hb hr hlk hp (by unfold x_obey; rw [if_neg h_0, if_neg h_1, if_neg h_2, if_neg h_3, if_neg h_4]) dX0_obey_89

set_option maxHeartbeats 4000000 in
set_option maxRecDepth 100000 in
theorem lx_runEnd {p : Program} {l : Launch} {e : Env} {s : State} {m : MethodId} {args : Array Value} {below : List Frame} {meth : Method} {c : Code} {D : va_G} {cI cJ : ClassId} {g : Nat → Nat} {tS tJ : Nat} {n : Nat} (hS : x_SC l D cI cJ g tS tJ n) {d : Nat} (hd : d + n = 8) (hb : c.code = cX0_runProgram) (hml : c.maxLocals = 6) (hr : meth.sig.returnType = some .int) (hx : p.tables.exec = Jvm.exec) (hown : s.vm.findClass RX0 = some m.cls) (hlk : meth.locks = false) (hts : ∀ w ∈ lw_g, w.before args s = true) (hC : x_C D cI cJ g tS tJ s) {w t : Nat} (hw : w < 2) (ht : t < 8) {F : Int32 × xT} 
    {k : Nat} {o : Int32} (hk : k ≤ 5) {σ : xT} {H : Heap} {locs : List Loc} (hp : x_P D cI cJ g s H locs σ) {ls : Array Slot} (hl : lv_has ls 6 [(5, .int (nI k)), (4, .int o), (0, .ref (g 0)), (1, .int (nI w)), (2, .int (nI t)), (3, .int (nI d))]) (hF : F = (o, x_guards w t k σ)) : W p l e { frames := 5 * n + 3, cells := 0, slots := 0, locals := 125 * n + 72 } s m args below meth c H locs 0 0 (MQ below (va_Qi (fun r τ => (r, τ) = F) (fun τ t => va_P D vwCl (fw 30 g (x_E cI cJ g τ)) t.heap) (fw_A 30 g)) args s 0 0 (fw_A 30 g)) (F0 m 54 ls []) := by
  refine lv_aload_n hx hb dX0_runProgram_54 rfl (lv_at hl 2 rfl) ?_
  refine lv_iload_n hx hb dX0_runProgram_55 rfl (lv_at hl 3 rfl) ?_
  refine lv_iload_n hx hb dX0_runProgram_56 rfl (lv_at hl 4 rfl) ?_
  refine lv_iload hx hb dX0_runProgram_57 (lv_at hl 0 rfl) ?_
  refine x_callV (n := 3) [.int (nI w), .int (nI t), .int (nI k)] hx hb hml hown hts hC hp (cx_noteGuards l D cI cJ g tS tJ σ w t k hw ht hk) gVX0_85 (by decide +kernel) ⟨rfl, rfl, by show 1 + 1 ≤ 5 * n + 3; omega, by show 8 + (5 + 11) + 22 ≤ 125 * n + 72; omega⟩ rfl hl.1 rfl (Nat.le_of_ble_eq_true rfl) ⟨Nat.zero_le _, Nat.zero_le _⟩ dX0_runProgram_59 (fun H locs hp => ?_)
  refine lv_iload hx hb dX0_runProgram_62 (lv_at hl 1 rfl) ?_
  exact x_ireti hx hb hr hlk hp (hF.symm) dX0_runProgram_64

set_option maxHeartbeats 4000000 in
set_option maxRecDepth 100000 in
theorem lx_runStop {p : Program} {l : Launch} {e : Env} {s : State} {m : MethodId} {args : Array Value} {below : List Frame} {meth : Method} {c : Code} {D : va_G} {cI cJ : ClassId} {g : Nat → Nat} {tS tJ : Nat} {n : Nat} (hS : x_SC l D cI cJ g tS tJ n) {d : Nat} (hd : d + n = 8) (hb : c.code = cX0_runProgram) (hml : c.maxLocals = 6) (hr : meth.sig.returnType = some .int) (hx : p.tables.exec = Jvm.exec) (hown : s.vm.findClass RX0 = some m.cls) (hlk : meth.locks = false) (hts : ∀ w ∈ lw_g, w.before args s = true) (hC : x_C D cI cJ g tS tJ s) {w t : Nat} (hw : w < 2) (ht : t < 8) {F : Int32 × xT} 
    {k : Nat} {o : Int32} (hk : k ≤ 5) (ho : ¬ o = 0) {σ : xT} {H : Heap} {locs : List Loc} (hp : x_P D cI cJ g s H locs σ) {ls : Array Slot} (hl : lv_has ls 6 [(5, .int (nI k)), (4, .int o), (0, .ref (g 0)), (1, .int (nI w)), (2, .int (nI t)), (3, .int (nI d))]) (hF : F = (o, x_guards w t k σ)) : W p l e { frames := 5 * n + 3, cells := 0, slots := 0, locals := 125 * n + 72 } s m args below meth c H locs 0 0 (MQ below (va_Qi (fun r τ => (r, τ) = F) (fun τ t => va_P D vwCl (fw 30 g (x_E cI cJ g τ)) t.heap) (fw_A 30 g)) args s 0 0 (fw_A 30 g)) (F0 m 6 ls []) := by
  refine lv_iload hx hb dX0_runProgram_6 (lv_at hl 0 rfl) ?_
  refine lv_aload_n hx hb dX0_runProgram_8 rfl (lv_at hl 2 rfl) ?_
  refine x_get hx hb hts hown hC hp 2 (by decide) x_l17 rfl dX0_runProgram_9 ?_
  refine lv_iload_n hx hb dX0_runProgram_12 rfl (lv_at hl 4 rfl) ?_
  refine x_vld 0 t hx hb hC hp (by decide) ht dX0_runProgram_13 ?_
  refine lv_icmp_ge (tgt := 54) hx hb dX0_runProgram_14 (by decide) (fun c_1 => ?_) (fun c_1 => ?_)
  · exact lx_runEnd hS hd hb hml hr hx hown hlk hts hC hw ht hk hp hl hF
  · refine lv_iload hx hb dX0_runProgram_17 (lv_at hl 1 rfl) ?_
    refine lv_if_ne (tgt := 54) hx hb dX0_runProgram_19 (by decide) (fun c_2 => ?_) (fun c_2 => absurd c_2 ho)
    exact lx_runEnd hS hd hb hml hr hx hown hlk hts hC hw ht hk hp hl hF

set_option maxHeartbeats 4000000 in
set_option maxRecDepth 100000 in
theorem lx_run {p : Program} {l : Launch} {e : Env} {s : State} {m : MethodId} {args : Array Value} {below : List Frame} {meth : Method} {c : Code} {D : va_G} {cI cJ : ClassId} {g : Nat → Nat} {tS tJ : Nat} {n : Nat} (hS : x_SC l D cI cJ g tS tJ n) {d : Nat} (hd : d + n = 8) (hb : c.code = cX0_runProgram) (hml : c.maxLocals = 6) (hr : meth.sig.returnType = some .int) (hx : p.tables.exec = Jvm.exec) (hown : s.vm.findClass RX0 = some m.cls) (hlk : meth.locks = false) (hts : ∀ w ∈ lw_g, w.before args s = true) (hC : x_C D cI cJ g tS tJ s) {w t : Nat} (hw : w < 2) (ht : t < 8) {F : Int32 × xT} {z : Nat} (hz : z ≤ 5)
    : ∀ (r k : Nat), k + r = z → ∀ (σ : xT), x_ok σ → σ.2.1 0 t = nI z → ∀ (H : Heap) (locs : List Loc), x_P D cI cJ g s H locs σ → ∀ (ls : Array Slot), lv_has ls 6 [(5, .int (nI k)), (4, .int 0), (0, .ref (g 0)), (1, .int (nI w)), (2, .int (nI t)), (3, .int (nI d))] → F = ((x_run (x_start n w) w t r k σ).1, x_guards w t (x_run (x_start n w) w t r k σ).2.1 (x_run (x_start n w) w t r k σ).2.2) →
      W p l e { frames := 5 * n + 3, cells := 0, slots := 0, locals := 125 * n + 72 } s m args below meth c H locs 0 0 (MQ below (va_Qi (fun r τ => (r, τ) = F) (fun τ t => va_P D vwCl (fw 30 g (x_E cI cJ g τ)) t.heap) (fw_A 30 g)) args s 0 0 (fw_A 30 g)) (F0 m 6 ls []) := by
  intro r
  induction r with
  | zero =>
    intro k hkz σ hok hsz H locs hp ls hl hF
    refine lv_iload hx hb dX0_runProgram_6 (lv_at hl 0 rfl) ?_
    refine lv_aload_n hx hb dX0_runProgram_8 rfl (lv_at hl 2 rfl) ?_
    refine x_get hx hb hts hown hC hp 2 (by decide) x_l17 rfl dX0_runProgram_9 ?_
    refine lv_iload_n hx hb dX0_runProgram_12 rfl (lv_at hl 4 rfl) ?_
    refine x_vld 0 t hx hb hC hp (by decide) ht dX0_runProgram_13 ?_
    refine lv_icmp_ge (tgt := 54) hx hb dX0_runProgram_14 (by decide) (fun _ => ?_) (fun c_1 => absurd (by rw [hsz]; exact nI_le (by omega) (by omega)) c_1)
    exact lx_runEnd hS hd hb hml hr hx hown hlk hts hC hw ht (by omega) hp hl hF
  | succ r ih =>
    intro k hkz σ hok hsz H locs hp ls hl hF
    have hk : k < 5 := by omega
    have hnle : ¬ σ.2.1 0 t ≤ nI k := by rw [hsz]; exact nI_ge (by omega) (by omega)
    refine lv_iload hx hb dX0_runProgram_6 (lv_at hl 0 rfl) ?_
    refine lv_aload_n hx hb dX0_runProgram_8 rfl (lv_at hl 2 rfl) ?_
    refine x_get hx hb hts hown hC hp 2 (by decide) x_l17 rfl dX0_runProgram_9 ?_
    refine lv_iload_n hx hb dX0_runProgram_12 rfl (lv_at hl 4 rfl) ?_
    refine x_vld 0 t hx hb hC hp (by decide) ht dX0_runProgram_13 ?_
    refine lv_icmp_ge (tgt := 54) hx hb dX0_runProgram_14 (by decide) (fun c_1 => absurd c_1 hnle) (fun c_1 => ?_)
    refine lv_iload hx hb dX0_runProgram_17 (lv_at hl 1 rfl) ?_
    refine lv_if_ne (tgt := 54) hx hb dX0_runProgram_19 (by decide) (fun c_2 => absurd c_2 (fun h => h rfl)) (fun c_2 => ?_)
    refine lv_aload_n hx hb dX0_runProgram_22 rfl (lv_at hl 2 rfl) ?_
    refine lv_iload_n hx hb dX0_runProgram_23 rfl (lv_at hl 3 rfl) ?_
    refine lv_aload_n hx hb dX0_runProgram_24 rfl (lv_at hl 2 rfl) ?_
    refine x_get hx hb hts hown hC hp 0 (by decide) x_l11 rfl dX0_runProgram_25 ?_
    refine lv_iload_n hx hb dX0_runProgram_28 rfl (lv_at hl 4 rfl) ?_
    refine x_ald 0 hx hb hC hp (by decide) ht dX0_runProgram_29 ?_
    refine lv_iload hx hb dX0_runProgram_30 (lv_at hl 0 rfl) ?_
    refine x_ildN 0 t k hx hb hC hp (by decide) ht hk dX0_runProgram_32 ?_
    refine lv_aload_n hx hb dX0_runProgram_33 rfl (lv_at hl 2 rfl) ?_
    refine x_get hx hb hts hown hC hp 1 (by decide) x_l14 rfl dX0_runProgram_34 ?_
    refine lv_iload_n hx hb dX0_runProgram_37 rfl (lv_at hl 4 rfl) ?_
    refine x_ald 1 hx hb hC hp (by decide) ht dX0_runProgram_38 ?_
    refine lv_iload hx hb dX0_runProgram_39 (lv_at hl 0 rfl) ?_
    refine x_ildN 1 t k hx hb hC hp (by decide) ht hk dX0_runProgram_41 ?_
    refine lv_iload_n hx hb dX0_runProgram_42 rfl (lv_at hl 5 rfl) ?_
    refine x_callN (n := 4) [.int (nI w), .int (σ.1 0 t k), .int (σ.1 1 t k), .int (nI d)] hx hb hml hown hts hC hp (cx_obey l D cI cJ g tS tJ hS d hd σ w (σ.1 0 t k) (σ.1 1 t k) hw hok) gVX0_81 (by decide +kernel) ⟨rfl, rfl, by show 5 * n + 2 + 1 ≤ 5 * n + 3; omega, by show 8 + (5 + 11) + 125 * n + 48 ≤ 125 * n + 72; omega⟩ rfl hl.1 rfl (Nat.le_of_ble_eq_true rfl) ⟨Nat.zero_le _, Nat.zero_le _⟩ dX0_runProgram_43 (fun H locs hp => ?_)
    refine lv_istore (lv' := [(4, .int (x_obey (x_start n w) w (σ.1 0 t k) (σ.1 1 t k) σ).1), (5, .int (nI k)), (0, .ref (g 0)), (1, .int (nI w)), (2, .int (nI t)), (3, .int (nI d))]) hx hb dX0_runProgram_46 hl (by decide) rfl (fun ls hl => ?_)
    refine lv_iinc (v := nI ((k + 1))) (lv' := [(5, .int (nI (k + 1))), (4, .int (x_obey (x_start n w) w (σ.1 0 t k) (σ.1 1 t k) σ).1), (0, .ref (g 0)), (1, .int (nI w)), (2, .int (nI t)), (3, .int (nI d))]) hx hb dX0_runProgram_48 hl (k := 1) rfl (nI_1 k) (by decide) rfl (fun ls hl => ?_)
    refine lv_goto (tgt := 6) hx hb dX0_runProgram_51 (by decide) ?_
    by_cases ho : (x_obey (x_start n w) w (σ.1 0 t k) (σ.1 1 t k) σ).1 = 0
    · rw [ho] at hl
      exact ih (k + 1) (by omega) _ ((x_K_obey (fun t σ => x_K_start n w t σ) _ _ _ _).ok hok) (by rw [(x_K_obey (fun t σ => x_K_start n w t σ) _ _ _ _).1]; exact hsz) _ _ hp ls (lv_sub hl [0, 1, 2, 3, 4, 5] rfl) (by rw [hF]; simp only [x_run]; rw [if_pos ho])
    · exact lx_runStop hS hd hb hml hr hx hown hlk hts hC hw ht (by omega) ho hp (lv_sub hl [0, 1, 2, 3, 4, 5] rfl) (by rw [hF]; simp only [x_run]; rw [if_neg ho])

set_option maxHeartbeats 4000000 in
set_option maxRecDepth 100000 in
theorem cx_runProgram (l : Launch) (D : va_G) (cI cJ : ClassId) (g : Nat → Nat) (tS tJ : Nat) {n : Nat} (hS : x_SC l D cI cJ g tS tJ n) (d : Nat) (hd : d + n = 8) (σ : xT) (w t : Nat) (hw : w < 2) (ht : t < 8) (hok : x_ok σ) : x_Mi l yX0_runProgram (.code yX0_runProgram cX0_runProgram 6 (some .int) :: lw_g) { frames := 5 * n + 3, cells := 0, slots := 0, locals := 125 * n + 72 } D cI cJ g tS tJ σ [.int (nI w), .int (nI t), .int (nI d)] (x_prog (x_start n w) w t σ) := by
  refine x_bodyi rfl rfl (Nat.le_of_ble_eq_true rfl) ?_
  intro p e s m below meth c hx hb hml hr hlk hown hts hC hp ls hl
  have hl : lv_has ls 6 [(0, .ref (g 0)), (1, .int (nI w)), (2, .int (nI t)), (3, .int (nI d))] := hl
  refine lv_iconst (v := 0) hx hb dX0_runProgram_0 (by decide) ?_
  refine lv_istore (lv' := [(4, .int 0), (0, .ref (g 0)), (1, .int (nI w)), (2, .int (nI t)), (3, .int (nI d))]) hx hb dX0_runProgram_1 hl (by decide) rfl (fun ls hl => ?_)
  refine lv_iconst (v := 0) hx hb dX0_runProgram_3 (by decide) ?_
  refine lv_istore (lv' := [(5, .int (nI 0)), (4, .int 0), (0, .ref (g 0)), (1, .int (nI w)), (2, .int (nI t)), (3, .int (nI d))]) hx hb dX0_runProgram_4 hl (by decide) rfl (fun ls hl => ?_)
  obtain ⟨z, hz, hsz⟩ := hok t ht
  exact lx_run hS hd hb hml hr hx hown hlk hts hC hw ht hz z 0 (by omega) σ hok hsz _ _ hp ls hl (by unfold x_prog; rw [hsz, nI_clamp (by omega)])

set_option maxHeartbeats 4000000 in
set_option maxRecDepth 100000 in
theorem cx_initialize (l : Launch) (D : va_G) (cI cJ : ClassId) (g : Nat → Nat) (tS tJ : Nat) {n : Nat} (hS : x_SC l D cI cJ g tS tJ n) (d : Nat) (hd : d + n = 8) (σ : xT) (w t : Nat) (dv : Int32) (hw : w < 2) (ht : t < 8) (hok : x_ok σ) (hdv : dv = nI d) : x_Mi l yX0_initialize (.code yX0_initialize cX0_initialize 5 (some .int) :: lw_g) { frames := 5 * n + 4, cells := 0, slots := 0, locals := 125 * n + 97 } D cI cJ g tS tJ σ [.int (nI w), .int (nI t), .int dv] (x_init (x_start n w) w t σ) := by
  subst hdv
  refine x_bodyi (by decide +kernel) (by decide +kernel) (Nat.le_of_ble_eq_true rfl) ?_
  intro p e s m below meth c hx hb hml hr hlk hown hts hC hp ls hl
  have hl : lv_has ls 5 [(0, .ref (g 0)), (1, .int (nI w)), (2, .int (nI t)), (3, .int (nI d))] := hl
  refine lv_aload_n hx hb dX0_initialize_0 rfl (lv_at hl 0 rfl) ?_
  refine lv_iload_n hx hb dX0_initialize_1 rfl (lv_at hl 1 rfl) ?_
  refine lv_bipush (v := 100) hx hb dX0_initialize_2 (by decide) ?_
  refine lv_iload_n hx hb dX0_initialize_4 rfl (lv_at hl 2 rfl) ?_
  refine lv_iadd hx hb dX0_initialize_5 ?_
  refine x_callV (n := 2) [.int (nI w), .int (100 + nI t)] hx hb hml hown hts hC hp (cx_note l D cI cJ g tS tJ σ w (100 + nI t) hw) gVX0_74 (by decide +kernel) ⟨rfl, rfl, by show 0 + 1 ≤ 5 * n + 4; omega, by show 8 + (3 + 11) + 0 ≤ 125 * n + 97; omega⟩ rfl hl.1 rfl (Nat.le_of_ble_eq_true rfl) ⟨Nat.zero_le _, Nat.zero_le _⟩ dX0_initialize_6 (fun H locs hp => ?_)
  refine lv_aload_n hx hb dX0_initialize_9 rfl (lv_at hl 0 rfl) ?_
  refine lv_iload_n hx hb dX0_initialize_10 rfl (lv_at hl 1 rfl) ?_
  refine lv_iload_n hx hb dX0_initialize_11 rfl (lv_at hl 2 rfl) ?_
  refine lv_iload_n hx hb dX0_initialize_12 rfl (lv_at hl 3 rfl) ?_
  refine x_callN (n := 3) [.int (nI w), .int (nI t), .int (nI d)] hx hb hml hown hts hC hp (cx_runProgram l D cI cJ g tS tJ hS d hd (x_note w (100 + nI t) σ) w t hw ht ((x_K_note _ _ _).ok hok)) gVX0_78 (by decide +kernel) ⟨rfl, rfl, by show 5 * n + 3 + 1 ≤ 5 * n + 4; omega, by show 8 + (6 + 11) + 125 * n + 72 ≤ 125 * n + 97; omega⟩ rfl hl.1 rfl (Nat.le_of_ble_eq_true rfl) ⟨Nat.zero_le _, Nat.zero_le _⟩ dX0_initialize_13 (fun H locs hp => ?_)
  refine lv_istore (lv' := [(4, .int (x_prog (x_start n w) w t (x_note w (100 + nI t) σ)).1), (0, .ref (g 0)), (1, .int (nI w)), (2, .int (nI t)), (3, .int (nI d))]) hx hb dX0_initialize_16 hl (by decide) rfl (fun ls hl => ?_)
  refine lv_iload hx hb dX0_initialize_18 (lv_at hl 0 rfl) ?_
  refine lv_if_ne (tgt := 42) hx hb dX0_initialize_20 (by decide) (fun c_1 => ?_) (fun c_1 => ?_)
  · refine lv_iload hx hb dX0_initialize_42 (lv_at hl 0 rfl) ?_
    refine lv_iconst (v := 4) hx hb dX0_initialize_44 (by decide) ?_
    refine lv_icmp_ne (tgt := 52) hx hb dX0_initialize_45 (by decide) (fun c_2 => ?_) (fun c_2 => ?_)
    · refine lv_iload hx hb dX0_initialize_52 (lv_at hl 0 rfl) ?_
      exact x_ireti hx hb hr hlk hp (by unfold x_init; simp only; rw [if_neg c_1, if_neg c_2]) dX0_initialize_54
    · refine lv_iconst (v := 1) hx hb dX0_initialize_48 (by decide) ?_
      refine lv_goto (tgt := 54) hx hb dX0_initialize_49 (by decide) ?_
      exact x_ireti hx hb hr hlk hp (by unfold x_init; simp only; rw [if_neg c_1, if_pos c_2]) dX0_initialize_54
  · refine lv_aload_n hx hb dX0_initialize_23 rfl (lv_at hl 1 rfl) ?_
    refine x_get hx hb hts hown hC hp 4 (by decide) x_l24 rfl dX0_initialize_24 ?_
    refine lv_iload_n hx hb dX0_initialize_27 rfl (lv_at hl 2 rfl) ?_
    refine x_ald 3 hx hb hC hp (by decide) hw dX0_initialize_28 ?_
    refine lv_iload_n hx hb dX0_initialize_29 rfl (lv_at hl 3 rfl) ?_
    refine lv_bipush (v := 10) hx hb dX0_initialize_30 (by decide) ?_
    refine lv_iload_n hx hb dX0_initialize_32 rfl (lv_at hl 3 rfl) ?_
    refine lv_imul hx hb dX0_initialize_33 ?_
    refine lv_aload_n hx hb dX0_initialize_34 rfl (lv_at hl 1 rfl) ?_
    refine x_get hx hb hts hown hC hp 6 (by decide) x_l30 rfl dX0_initialize_35 ?_
    refine lv_iload_n hx hb dX0_initialize_38 rfl (lv_at hl 2 rfl) ?_
    refine x_vld 1 w hx hb hC hp (by decide) hw dX0_initialize_39 ?_
    refine lv_iadd hx hb dX0_initialize_40 ?_
    refine x_istN 3 w t hx hb hC hp (by decide) hw ht dX0_initialize_41 (fun H locs hp => ?_)
    refine lv_iload hx hb dX0_initialize_42 (lv_at hl 0 rfl) ?_
    refine lv_iconst (v := 4) hx hb dX0_initialize_44 (by decide) ?_
    refine lv_icmp_ne (tgt := 52) hx hb dX0_initialize_45 (by decide) (fun c_3 => ?_) (fun c_3 => ?_)
    · refine lv_iload hx hb dX0_initialize_52 (lv_at hl 0 rfl) ?_
      exact x_ireti hx hb hr hlk hp (by unfold x_init; simp only; rw [if_pos c_1, if_neg c_3]) dX0_initialize_54
    · refine lv_iconst (v := 1) hx hb dX0_initialize_48 (by decide) ?_
      refine lv_goto (tgt := 54) hx hb dX0_initialize_49 (by decide) ?_
      exact x_ireti hx hb hr hlk hp (by unfold x_init; simp only; rw [if_pos c_1, if_pos c_3]) dX0_initialize_54

set_option maxHeartbeats 4000000 in
set_option maxRecDepth 100000 in
/-- start, at every depth -/
theorem cx_start (l : Launch) (D : va_G) (cI cJ : ClassId) (g : Nat → Nat) (tS tJ : Nat) : ∀ n : Nat, x_SC l D cI cJ g tS tJ n := by
  intro n
  induction n with
  | zero =>
    intro d hd w hw ty hty σ hok tv dv htv hdv
    subst htv
    subst hdv
    have hnlt : ¬ nI d < 8 := nI_nlt (b := 8) (by omega) (by omega)
    refine x_bodyi rfl rfl (Nat.le_of_ble_eq_true rfl) ?_
    intro p e s m below meth c hx hb hml hr hlk hown hts hC hp ls hl
    have hl : lv_has ls 5 [(0, .ref (g 0)), (1, .int (nI w)), (2, .int (x_I ty)), (3, .int (nI d))] := hl
    refine lv_iload_n hx hb dX0_start_0 rfl (lv_at hl 2 rfl) ?_
    refine lv_iconst (v := (-1)) hx hb dX0_start_1 (by decide) ?_
    refine lv_icmp_eq (tgt := 11) hx hb dX0_start_2 (by decide) (fun c_1 => ?_) (fun c_1 => ?_)
    · refine lv_iconst (v := 0) hx hb dX0_start_11 (by decide) ?_
      exact x_ireti hx hb hr hlk hp (by rw [x_start]) dX0_start_12
    · refine lv_iload_n hx hb dX0_start_5 rfl (lv_at hl 3 rfl) ?_
      refine lv_bipush (v := 8) hx hb dX0_start_6 (by decide) ?_
      refine lv_icmp_lt (tgt := 13) hx hb dX0_start_8 (by decide) (fun c_2 => absurd c_2 hnlt) (fun c_2 => ?_)
      refine lv_iconst (v := 0) hx hb dX0_start_11 (by decide) ?_
      exact x_ireti hx hb hr hlk hp (by rw [x_start]) dX0_start_12
  | succ n hS =>
    intro d hd w hw ty hty σ hok tv dv htv hdv
    subst htv
    subst hdv
    have hlt : nI d < 8 := nI_lt (b := 8) (by omega) (by omega)
    have hd1 : (d + 1) + n = 8 := by omega
    cases ty with
    | none =>
      refine x_bodyi rfl rfl (Nat.le_of_ble_eq_true rfl) ?_
      intro p e s m below meth c hx hb hml hr hlk hown hts hC hp ls hl
      have hl : lv_has ls 5 [(0, .ref (g 0)), (1, .int (nI w)), (2, .int (x_I none)), (3, .int (nI d))] := hl
      refine lv_iload_n hx hb dX0_start_0 rfl (lv_at hl 2 rfl) ?_
      refine lv_iconst (v := (-1)) hx hb dX0_start_1 (by decide) ?_
      refine lv_icmp_eq (tgt := 11) hx hb dX0_start_2 (by decide) (fun c_1 => ?_) (fun c_1 => absurd rfl c_1)
      refine lv_iconst (v := 0) hx hb dX0_start_11 (by decide) ?_
      exact x_ireti hx hb hr hlk hp (by rw [x_start]) dX0_start_12
    | some t =>
      have ht : t < 8 := hty t rfl
      have hne : ¬ nI t = -1 := fun h => by
        have := congrArg Int32.toInt h
        rw [nI_toInt (by omega)] at this
        have e : (-1 : Int32).toInt = -1 := rfl
        omega
      have hok1 : x_ok (x_sG σ 2 w t 1) := (x_K_sG σ _ _ _ (by omega)).ok hok
      refine x_bodyi rfl rfl (Nat.le_of_ble_eq_true rfl) ?_
      intro p e s m below meth c hx hb hml hr hlk hown hts hC hp ls hl
      have hl : lv_has ls 5 [(0, .ref (g 0)), (1, .int (nI w)), (2, .int (nI t)), (3, .int (nI d))] := hl
      refine lv_iload_n hx hb dX0_start_0 rfl (lv_at hl 2 rfl) ?_
      refine lv_iconst (v := (-1)) hx hb dX0_start_1 (by decide) ?_
      refine lv_icmp_eq (tgt := 11) hx hb dX0_start_2 (by decide) (fun c_1 => absurd c_1 hne) (fun c_1 => ?_)
      refine lv_iload_n hx hb dX0_start_5 rfl (lv_at hl 3 rfl) ?_
      refine lv_bipush (v := 8) hx hb dX0_start_6 (by decide) ?_
      refine lv_icmp_lt (tgt := 13) hx hb dX0_start_8 (by decide) (fun c_2 => ?_) (fun c_2 => absurd hlt c_2)
      refine lv_aload_n hx hb dX0_start_13 rfl (lv_at hl 0 rfl) ?_
      refine x_get hx hb hts hown hC hp 3 (by decide) x_l21 rfl dX0_start_14 ?_
      refine lv_iload_n hx hb dX0_start_17 rfl (lv_at hl 1 rfl) ?_
      refine x_ald 2 hx hb hC hp (by decide) hw dX0_start_18 ?_
      refine lv_iload_n hx hb dX0_start_19 rfl (lv_at hl 2 rfl) ?_
      refine x_ildN 2 w t hx hb hC hp (by decide) hw ht dX0_start_20 ?_
      refine lv_iconst (v := 3) hx hb dX0_start_21 (by decide) ?_
      refine lv_icmp_ne (tgt := 32) hx hb dX0_start_22 (by decide) (fun c_3 => ?_) (fun c_3 => ?_)
      · refine lv_aload_n hx hb dX0_start_32 rfl (lv_at hl 0 rfl) ?_
        refine x_get hx hb hts hown hC hp 3 (by decide) x_l21 rfl dX0_start_33 ?_
        refine lv_iload_n hx hb dX0_start_36 rfl (lv_at hl 1 rfl) ?_
        refine x_ald 2 hx hb hC hp (by decide) hw dX0_start_37 ?_
        refine lv_iload_n hx hb dX0_start_38 rfl (lv_at hl 2 rfl) ?_
        refine x_ildN 2 w t hx hb hC hp (by decide) hw ht dX0_start_39 ?_
        refine lv_if_eq (tgt := 45) hx hb dX0_start_40 (by decide) (fun c_4 => ?_) (fun c_4 => ?_)
        · refine lv_aload_n hx hb dX0_start_45 rfl (lv_at hl 0 rfl) ?_
          refine x_get hx hb hts hown hC hp 3 (by decide) x_l21 rfl dX0_start_46 ?_
          refine lv_iload_n hx hb dX0_start_49 rfl (lv_at hl 1 rfl) ?_
          refine x_ald 2 hx hb hC hp (by decide) hw dX0_start_50 ?_
          refine lv_iload_n hx hb dX0_start_51 rfl (lv_at hl 2 rfl) ?_
          refine lv_iconst (v := 1) hx hb dX0_start_52 (by decide) ?_
          refine x_istN 2 w t hx hb hC hp (by decide) hw ht dX0_start_53 (fun H locs hp => ?_)
          refine lv_aload_n hx hb dX0_start_54 rfl (lv_at hl 0 rfl) ?_
          refine lv_iload_n hx hb dX0_start_55 rfl (lv_at hl 1 rfl) ?_
          refine lv_iload_n hx hb dX0_start_56 rfl (lv_at hl 2 rfl) ?_
          refine lv_iload_n hx hb dX0_start_57 rfl (lv_at hl 3 rfl) ?_
          refine lv_iconst (v := 1) hx hb dX0_start_58 (by decide) ?_
          refine lv_iadd hx hb dX0_start_59 ?_
          refine x_callN (n := 3) [.int (nI w), .int (nI t), .int (nI d + 1)] hx hb hml hown hts hC hp (cx_startAbove l D cI cJ g tS tJ hS (d + 1) hd1 (x_sG σ 2 w t 1) w t _ hw ht hok1 (nI_1 d)) gVX0_62 (by decide +kernel) ⟨rfl, rfl, by show 5 * n + 1 + 1 ≤ 5 * (n + 1); omega, by show 8 + (5 + 11) + 125 * n + 24 ≤ 125 * (n + 1); omega⟩ rfl hl.1 rfl (Nat.le_of_ble_eq_true rfl) ⟨Nat.zero_le _, Nat.zero_le _⟩ dX0_start_60 (fun H locs hp => ?_)
          refine lv_istore (lv' := [(4, .int (x_above (x_start n w) t (x_sG σ 2 w t 1)).1), (0, .ref (g 0)), (1, .int (nI w)), (2, .int (nI t)), (3, .int (nI d))]) hx hb dX0_start_63 hl (by decide) rfl (fun ls hl => ?_)
          refine lv_iload hx hb dX0_start_65 (lv_at hl 0 rfl) ?_
          refine lv_if_ne (tgt := 81) hx hb dX0_start_67 (by decide) (fun c_5 => ?_) (fun c_5 => ?_)
          · refine lv_aload_n hx hb dX0_start_81 rfl (lv_at hl 1 rfl) ?_
            refine x_get hx hb hts hown hC hp 3 (by decide) x_l21 rfl dX0_start_82 ?_
            refine lv_iload_n hx hb dX0_start_85 rfl (lv_at hl 2 rfl) ?_
            refine x_ald 2 hx hb hC hp (by decide) hw dX0_start_86 ?_
            refine lv_iload_n hx hb dX0_start_87 rfl (lv_at hl 3 rfl) ?_
            refine lv_iload hx hb dX0_start_88 (lv_at hl 0 rfl) ?_
            refine lv_if_ne (tgt := 97) hx hb dX0_start_90 (by decide) (fun c_6 => ?_) (fun c_6 => ?_)
            · refine lv_iconst (v := 3) hx hb dX0_start_97 (by decide) ?_
              refine x_istN 2 w t hx hb hC hp (by decide) hw ht dX0_start_98 (fun H locs hp => ?_)
              refine lv_iload hx hb dX0_start_99 (lv_at hl 0 rfl) ?_
              exact x_ireti hx hb hr hlk hp (by have hu : x_up (x_start n w) w t (x_sG σ 2 w t 1) = x_above (x_start n w) t (x_sG σ 2 w t 1) := (by unfold x_up; rw [if_neg c_5]); rw [x_start, if_neg c_3, if_pos c_4, hu, if_neg c_5]) dX0_start_101
            · refine lv_iconst (v := 2) hx hb dX0_start_93 (by decide) ?_
              refine lv_goto (tgt := 98) hx hb dX0_start_94 (by decide) ?_
              refine x_istN 2 w t hx hb hC hp (by decide) hw ht dX0_start_98 (fun H locs hp => ?_)
              refine lv_iload hx hb dX0_start_99 (lv_at hl 0 rfl) ?_
              exact x_ireti hx hb hr hlk hp (absurd c_6 c_5) dX0_start_101
          · refine lv_aload_n hx hb dX0_start_70 rfl (lv_at hl 1 rfl) ?_
            refine lv_iload_n hx hb dX0_start_71 rfl (lv_at hl 2 rfl) ?_
            refine lv_iload_n hx hb dX0_start_72 rfl (lv_at hl 3 rfl) ?_
            refine lv_iload_n hx hb dX0_start_73 rfl (lv_at hl 4 rfl) ?_
            refine lv_iconst (v := 1) hx hb dX0_start_74 (by decide) ?_
            refine lv_iadd hx hb dX0_start_75 ?_
            refine x_callN (n := 3) [.int (nI w), .int (nI t), .int (nI d + 1)] hx hb hml hown hts hC hp (cx_initialize l D cI cJ g tS tJ hS (d + 1) hd1 ((x_above (x_start n w) t (x_sG σ 2 w t 1)).2) w t _ hw ht ((x_K_above (fun t σ => x_K_start n w t σ) _ _).ok hok1) (nI_1 d)) gVX0_65 (by decide +kernel) ⟨rfl, rfl, by show 5 * n + 4 + 1 ≤ 5 * (n + 1); omega, by show 8 + (5 + 11) + 125 * n + 97 ≤ 125 * (n + 1); omega⟩ rfl hl.1 rfl (Nat.le_of_ble_eq_true rfl) ⟨Nat.zero_le _, Nat.zero_le _⟩ dX0_start_76 (fun H locs hp => ?_)
            refine lv_istore (lv' := [(4, .int (x_init (x_start n w) w t ((x_above (x_start n w) t (x_sG σ 2 w t 1)).2)).1), (0, .ref (g 0)), (1, .int (nI w)), (2, .int (nI t)), (3, .int (nI d))]) hx hb dX0_start_79 hl (by decide) rfl (fun ls hl => ?_)
            refine lv_aload_n hx hb dX0_start_81 rfl (lv_at hl 1 rfl) ?_
            refine x_get hx hb hts hown hC hp 3 (by decide) x_l21 rfl dX0_start_82 ?_
            refine lv_iload_n hx hb dX0_start_85 rfl (lv_at hl 2 rfl) ?_
            refine x_ald 2 hx hb hC hp (by decide) hw dX0_start_86 ?_
            refine lv_iload_n hx hb dX0_start_87 rfl (lv_at hl 3 rfl) ?_
            refine lv_iload hx hb dX0_start_88 (lv_at hl 0 rfl) ?_
            refine lv_if_ne (tgt := 97) hx hb dX0_start_90 (by decide) (fun c_7 => ?_) (fun c_7 => ?_)
            · refine lv_iconst (v := 3) hx hb dX0_start_97 (by decide) ?_
              refine x_istN 2 w t hx hb hC hp (by decide) hw ht dX0_start_98 (fun H locs hp => ?_)
              refine lv_iload hx hb dX0_start_99 (lv_at hl 0 rfl) ?_
              exact x_ireti hx hb hr hlk hp (by have hu : x_up (x_start n w) w t (x_sG σ 2 w t 1) = x_init (x_start n w) w t (x_above (x_start n w) t (x_sG σ 2 w t 1)).2 := (by unfold x_up; rw [if_pos c_5]); rw [x_start, if_neg c_3, if_pos c_4, hu, if_neg c_7]) dX0_start_101
            · refine lv_iconst (v := 2) hx hb dX0_start_93 (by decide) ?_
              refine lv_goto (tgt := 98) hx hb dX0_start_94 (by decide) ?_
              refine x_istN 2 w t hx hb hC hp (by decide) hw ht dX0_start_98 (fun H locs hp => ?_)
              refine lv_iload hx hb dX0_start_99 (lv_at hl 0 rfl) ?_
              exact x_ireti hx hb hr hlk hp (by have hu : x_up (x_start n w) w t (x_sG σ 2 w t 1) = x_init (x_start n w) w t (x_above (x_start n w) t (x_sG σ 2 w t 1)).2 := (by unfold x_up; rw [if_pos c_5]); rw [x_start, if_neg c_3, if_pos c_4, hu, if_pos c_7]) dX0_start_101
        · refine lv_iconst (v := 0) hx hb dX0_start_43 (by decide) ?_
          exact x_ireti hx hb hr hlk hp (by rw [x_start, if_neg c_3, if_neg c_4]) dX0_start_44
      · refine lv_aload_n hx hb dX0_start_25 rfl (lv_at hl 0 rfl) ?_
        refine lv_iconst (v := 0) hx hb dX0_start_26 (by decide) ?_
        refine x_putW hx hb hts hown hC hp x_l37 dX0_start_27 (fun H locs hp => ?_)
        refine lv_iconst (v := 3) hx hb dX0_start_30 (by decide) ?_
        exact x_ireti hx hb hr hlk hp (by rw [x_start, if_pos c_3]) dX0_start_31
