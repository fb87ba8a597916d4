def x_bW (a : Int32) : Int32 := if a < 0 then 0 else if 2 ≤ a then 0 else 1
def x_bT (a : Int32) : Int32 := if a < 0 then 0 else if 8 ≤ a then 0 else 1

def x_bM (a b : Int32) : Int32 := if b = 0 ∨ b = 3 ∨ b = 12 then (if 4 < a then 0 else 1) else if b < 0 then 0 else if 13 < b then 0 else 1

set_option maxHeartbeats 4000000 in
set_option maxRecDepth 100000 in
theorem cx_isWorld (l : Launch) (a : Int32)  : x_Ms l yX0_isWorld (.code yX0_isWorld cX0_isWorld 1 (some .boolean) :: lw_g) [.int a] (x_bW a) := by
  refine x_bodys rfl (Nat.le_of_ble_eq_true rfl) ?_
  intro p e s m below meth c hx hb hml hr hlk hown hts ls hl
  have hl : lv_has ls 1 [(0, .int a)] := hl
  refine lv_iload_n hx hb dX0_isWorld_0 rfl (lv_at hl 0 rfl) ?_
  refine lv_if_lt (tgt := 13) hx hb dX0_isWorld_1 (by decide) (fun c_1 => ?_) (fun c_1 => ?_)
  · refine lv_iconst (v := 0) hx hb dX0_isWorld_13 (by decide) ?_
    exact x_sret hx hb hr rfl hlk (by unfold x_bW; rw [if_pos c_1]) dX0_isWorld_14
  · refine lv_iload_n hx hb dX0_isWorld_4 rfl (lv_at hl 0 rfl) ?_
    refine lv_iconst (v := 2) hx hb dX0_isWorld_5 (by decide) ?_
    refine lv_icmp_ge (tgt := 13) hx hb dX0_isWorld_6 (by decide) (fun c_2 => ?_) (fun c_2 => ?_)
    · refine lv_iconst (v := 0) hx hb dX0_isWorld_13 (by decide) ?_
      exact x_sret hx hb hr rfl hlk (by unfold x_bW; rw [if_neg c_1, if_pos c_2]) dX0_isWorld_14
    · refine lv_iconst (v := 1) hx hb dX0_isWorld_9 (by decide) ?_
      refine lv_goto (tgt := 14) hx hb dX0_isWorld_10 (by decide) ?_
      exact x_sret hx hb hr rfl hlk (by unfold x_bW; rw [if_neg c_1, if_neg c_2]) dX0_isWorld_14

set_option maxHeartbeats 4000000 in
set_option maxRecDepth 100000 in
theorem cx_isType (l : Launch) (a : Int32)  : x_Ms l yX0_isType (.code yX0_isType cX0_isType 1 (some .boolean) :: lw_g) [.int a] (x_bT a) := by
  refine x_bodys rfl (Nat.le_of_ble_eq_true rfl) ?_
  intro p e s m below meth c hx hb hml hr hlk hown hts ls hl
  have hl : lv_has ls 1 [(0, .int a)] := hl
  refine lv_iload_n hx hb dX0_isType_0 rfl (lv_at hl 0 rfl) ?_
  refine lv_if_lt (tgt := 14) hx hb dX0_isType_1 (by decide) (fun c_1 => ?_) (fun c_1 => ?_)
  · refine lv_iconst (v := 0) hx hb dX0_isType_14 (by decide) ?_
    exact x_sret hx hb hr rfl hlk (by unfold x_bT; rw [if_pos c_1]) dX0_isType_15
  · refine lv_iload_n hx hb dX0_isType_4 rfl (lv_at hl 0 rfl) ?_
    refine lv_bipush (v := 8) hx hb dX0_isType_5 (by decide) ?_
    refine lv_icmp_ge (tgt := 14) hx hb dX0_isType_7 (by decide) (fun c_2 => ?_) (fun c_2 => ?_)
    · refine lv_iconst (v := 0) hx hb dX0_isType_14 (by decide) ?_
      exact x_sret hx hb hr rfl hlk (by unfold x_bT; rw [if_neg c_1, if_pos c_2]) dX0_isType_15
    · refine lv_iconst (v := 1) hx hb dX0_isType_10 (by decide) ?_
      refine lv_goto (tgt := 15) hx hb dX0_isType_11 (by decide) ?_
      exact x_sret hx hb hr rfl hlk (by unfold x_bT; rw [if_neg c_1, if_neg c_2]) dX0_isType_15

set_option maxHeartbeats 4000000 in
set_option maxRecDepth 100000 in
theorem cx_isMannerFor (l : Launch) (a b : Int32)  : x_Ms l yX0_isMannerFor (.code yX0_isMannerFor cX0_isMannerFor 2 (some .boolean) :: lw_g) [.int a, .int b] (x_bM a b) := by
  refine x_bodys rfl (Nat.le_of_ble_eq_true rfl) ?_
  intro p e s m below meth c hx hb hml hr hlk hown hts ls hl
  have hl : lv_has ls 2 [(0, .int a), (1, .int b)] := hl
  refine lv_iload_n hx hb dX0_isMannerFor_0 rfl (lv_at hl 1 rfl) ?_
  refine lv_if_eq (tgt := 15) hx hb dX0_isMannerFor_1 (by decide) (fun c_1 => ?_) (fun c_1 => ?_)
  · refine lv_iload_n hx hb dX0_isMannerFor_15 rfl (lv_at hl 0 rfl) ?_
    refine lv_iconst (v := 4) hx hb dX0_isMannerFor_16 (by decide) ?_
    refine lv_icmp_gt (tgt := 24) hx hb dX0_isMannerFor_17 (by decide) (fun c_2 => ?_) (fun c_2 => ?_)
    · refine lv_iconst (v := 0) hx hb dX0_isMannerFor_24 (by decide) ?_
      exact x_sret hx hb hr rfl hlk (by unfold x_bM; rw [if_pos (Or.inl c_1), if_pos c_2]) dX0_isMannerFor_25
    · refine lv_iconst (v := 1) hx hb dX0_isMannerFor_20 (by decide) ?_
      refine lv_goto (tgt := 25) hx hb dX0_isMannerFor_21 (by decide) ?_
      exact x_sret hx hb hr rfl hlk (by unfold x_bM; rw [if_pos (Or.inl c_1), if_neg c_2]) dX0_isMannerFor_25
  · refine lv_iload_n hx hb dX0_isMannerFor_4 rfl (lv_at hl 1 rfl) ?_
    refine lv_iconst (v := 3) hx hb dX0_isMannerFor_5 (by decide) ?_
    refine lv_icmp_eq (tgt := 15) hx hb dX0_isMannerFor_6 (by decide) (fun c_3 => ?_) (fun c_3 => ?_)
    · refine lv_iload_n hx hb dX0_isMannerFor_15 rfl (lv_at hl 0 rfl) ?_
      refine lv_iconst (v := 4) hx hb dX0_isMannerFor_16 (by decide) ?_
      refine lv_icmp_gt (tgt := 24) hx hb dX0_isMannerFor_17 (by decide) (fun c_4 => ?_) (fun c_4 => ?_)
      · refine lv_iconst (v := 0) hx hb dX0_isMannerFor_24 (by decide) ?_
        exact x_sret hx hb hr rfl hlk (by unfold x_bM; rw [if_pos (Or.inr (Or.inl c_3)), if_pos c_4]) dX0_isMannerFor_25
      · refine lv_iconst (v := 1) hx hb dX0_isMannerFor_20 (by decide) ?_
        refine lv_goto (tgt := 25) hx hb dX0_isMannerFor_21 (by decide) ?_
        exact x_sret hx hb hr rfl hlk (by unfold x_bM; rw [if_pos (Or.inr (Or.inl c_3)), if_neg c_4]) dX0_isMannerFor_25
    · refine lv_iload_n hx hb dX0_isMannerFor_9 rfl (lv_at hl 1 rfl) ?_
      refine lv_bipush (v := 12) hx hb dX0_isMannerFor_10 (by decide) ?_
      refine lv_icmp_ne (tgt := 26) hx hb dX0_isMannerFor_12 (by decide) (fun c_5 => ?_) (fun c_5 => ?_)
      · refine lv_iload_n hx hb dX0_isMannerFor_26 rfl (lv_at hl 1 rfl) ?_
        refine lv_if_lt (tgt := 40) hx hb dX0_isMannerFor_27 (by decide) (fun c_6 => ?_) (fun c_6 => ?_)
        · refine lv_iconst (v := 0) hx hb dX0_isMannerFor_40 (by decide) ?_
          exact x_sret hx hb hr rfl hlk (by unfold x_bM; rw [if_neg (fun h => h.elim c_1 (fun h => h.elim c_3 c_5)), if_pos c_6]) dX0_isMannerFor_41
        · refine lv_iload_n hx hb dX0_isMannerFor_30 rfl (lv_at hl 1 rfl) ?_
          refine lv_bipush (v := 13) hx hb dX0_isMannerFor_31 (by decide) ?_
          refine lv_icmp_gt (tgt := 40) hx hb dX0_isMannerFor_33 (by decide) (fun c_7 => ?_) (fun c_7 => ?_)
          · refine lv_iconst (v := 0) hx hb dX0_isMannerFor_40 (by decide) ?_
            exact x_sret hx hb hr rfl hlk (by unfold x_bM; rw [if_neg (fun h => h.elim c_1 (fun h => h.elim c_3 c_5)), if_neg c_6, if_pos c_7]) dX0_isMannerFor_41
          · refine lv_iconst (v := 1) hx hb dX0_isMannerFor_36 (by decide) ?_
            refine lv_goto (tgt := 41) hx hb dX0_isMannerFor_37 (by decide) ?_
            exact x_sret hx hb hr rfl hlk (by unfold x_bM; rw [if_neg (fun h => h.elim c_1 (fun h => h.elim c_3 c_5)), if_neg c_6, if_neg c_7]) dX0_isMannerFor_41
      · refine lv_iload_n hx hb dX0_isMannerFor_15 rfl (lv_at hl 0 rfl) ?_
        refine lv_iconst (v := 4) hx hb dX0_isMannerFor_16 (by decide) ?_
        refine lv_icmp_gt (tgt := 24) hx hb dX0_isMannerFor_17 (by decide) (fun c_8 => ?_) (fun c_8 => ?_)
        · refine lv_iconst (v := 0) hx hb dX0_isMannerFor_24 (by decide) ?_
          exact x_sret hx hb hr rfl hlk (by unfold x_bM; rw [if_pos (Or.inr (Or.inr c_5)), if_pos c_8]) dX0_isMannerFor_25
        · refine lv_iconst (v := 1) hx hb dX0_isMannerFor_20 (by decide) ?_
          refine lv_goto (tgt := 25) hx hb dX0_isMannerFor_21 (by decide) ?_
          exact x_sret hx hb hr rfl hlk (by unfold x_bM; rw [if_pos (Or.inr (Or.inr c_5)), if_neg c_8]) dX0_isMannerFor_25

theorem x_m1 (x : Int32) : x + Int32.ofInt (-1) = x - 1 := by rw [Int32.sub_eq_add_neg]; rfl
theorem x_m7 (v : Int32) : v &&& 7 = nI ((v &&& 7).toNatClampNeg) ∧ (v &&& 7).toNatClampNeg < 8 := by
  obtain ⟨j, hj, e⟩ := pk_andE v (m := 7) 3 rfl
  rw [e, nI_clamp (by omega)]
  exact ⟨rfl, hj⟩
theorem x_bW_of {a : Int32} (h : ¬ x_bW a = 0) : ∃ w : Nat, w < 2 ∧ a = nI w := by
  unfold x_bW at h
  by_cases h1 : a < 0
  · rw [if_pos h1] at h
    exact absurd rfl h
  · rw [if_neg h1] at h
    by_cases h2 : 2 ≤ a
    · rw [if_pos h2] at h
      exact absurd rfl h
    · exact vp_in_of (fun q => q.elim h1 (fun q => h2 (by rw [Int32.le_iff_toInt_le]; rw [Int32.lt_iff_toInt_lt] at h1; have : (2 : Int32).toInt = 2 := rfl; have : (0 : Int32).toInt = 0 := rfl; unfold Int32.toNatClampNeg at q; omega))) (by decide)
theorem x_bT_of {a : Int32} (h : ¬ x_bT a = 0) : ∃ t : Nat, t < 8 ∧ a = nI t := by
  unfold x_bT at h
  by_cases h1 : a < 0
  · rw [if_pos h1] at h
    exact absurd rfl h
  · rw [if_neg h1] at h
    by_cases h2 : 8 ≤ a
    · rw [if_pos h2] at h
      exact absurd rfl h
    · exact vp_in_of (fun q => q.elim h1 (fun q => h2 (by rw [Int32.le_iff_toInt_le]; rw [Int32.lt_iff_toInt_lt] at h1; have : (8 : Int32).toInt = 8 := rfl; have : (0 : Int32).toInt = 0 := rfl; unfold Int32.toNatClampNeg at q; omega))) (by decide)
theorem x_bM_of {a b : Int32} (h : ¬ x_bM a b = 0) : ∃ j : Nat, j < 14 ∧ b = nI j := by
  unfold x_bM at h
  by_cases h0 : b = 0 ∨ b = 3 ∨ b = 12
  · rcases h0 with rfl | rfl | rfl
    · exact ⟨0, by decide, rfl⟩
    · exact ⟨3, by decide, rfl⟩
    · exact ⟨12, by decide, rfl⟩
  · rw [if_neg h0] at h
    by_cases h1 : b < 0
    · rw [if_pos h1] at h
      exact absurd rfl h
    · rw [if_neg h1] at h
      by_cases h2 : 13 < b
      · rw [if_pos h2] at h
        exact absurd rfl h
      · exact vp_in_of (fun q => q.elim h1 (fun q => h2 (by rw [Int32.lt_iff_toInt_lt]; rw [Int32.lt_iff_toInt_lt] at h1; have : (13 : Int32).toInt = 13 := rfl; have : (0 : Int32).toInt = 0 := rfl; unfold Int32.toNatClampNeg at q; omega))) (by decide)

set_option maxHeartbeats 4000000 in
set_option maxRecDepth 100000 in
theorem cx_note (l : Launch) (D : va_G) (cI cJ : ClassId) (g : Nat → Nat) (tS tJ : Nat) (σ : xT) (w : Nat) (v : Int32) (hw : w < 2) : x_Mv l yX0_note (.code yX0_note cX0_note 3 none :: lw_g) { frames := 0, cells := 0, slots := 0, locals := 0 } D cI cJ g tS tJ σ [.int (nI w), .int v] (x_note w v σ) := by
  refine x_bodyv rfl rfl (Nat.le_of_ble_eq_true rfl) ?_
  intro p e s m below meth c hx hb hml hr hlk hown hts hC hp ls hl
  have hl : lv_has ls 3 [(0, .ref (g 0)), (1, .int (nI w)), (2, .int v)] := hl
  refine lv_aload_n hx hb dX0_note_0 rfl (lv_at hl 0 rfl) ?_
  refine x_get hx hb hts hown hC hp 5 (by decide) x_l27 rfl dX0_note_1 ?_
  refine lv_iload_n hx hb dX0_note_4 rfl (lv_at hl 1 rfl) ?_
  refine x_ald 4 hx hb hC hp (by decide) hw dX0_note_5 ?_
  refine lv_aload_n hx hb dX0_note_6 rfl (lv_at hl 0 rfl) ?_
  refine x_get hx hb hts hown hC hp 6 (by decide) x_l30 rfl dX0_note_7 ?_
  refine lv_iload_n hx hb dX0_note_10 rfl (lv_at hl 1 rfl) ?_
  refine x_vld 1 w hx hb hC hp (by decide) hw dX0_note_11 ?_
  refine lv_bipush (v := 31) hx hb dX0_note_12 (by decide) ?_
  refine lv_iand hx hb dX0_note_14 ?_
  refine lv_iload_n hx hb dX0_note_15 rfl (lv_at hl 2 rfl) ?_
  refine x_ist 4 w hx hb hC hp (by decide) hw (pk_andIn _ 5 rfl (by decide)) dX0_note_16 (fun H locs hp => ?_)
  refine lv_aload_n hx hb dX0_note_17 rfl (lv_at hl 0 rfl) ?_
  refine x_get hx hb hts hown hC hp 6 (by decide) x_l30 rfl dX0_note_18 ?_
  refine lv_iload_n hx hb dX0_note_21 rfl (lv_at hl 1 rfl) ?_
  refine lv_dup2_11 hx hb dX0_note_22 rfl rfl ?_
  refine x_vld 1 w hx hb hC hp (by decide) hw dX0_note_23 ?_
  refine lv_iconst (v := 1) hx hb dX0_note_24 (by decide) ?_
  refine lv_iadd hx hb dX0_note_25 ?_
  refine x_vst 1 w hx hb hC hp (by decide) hw dX0_note_26 (fun H locs hp => ?_)
  exact x_vret hx hb hr hlk hp (rfl) dX0_note_27

set_option maxHeartbeats 4000000 in
set_option maxRecDepth 100000 in
theorem cx_noteIfWrong (l : Launch) (D : va_G) (cI cJ : ClassId) (g : Nat → Nat) (tS tJ : Nat) (σ : xT) (w : Nat) (o : Int32) (hw : w < 2) : x_Mv l yX0_noteIfWrong (.code yX0_noteIfWrong cX0_noteIfWrong 3 none :: lw_g) { frames := 1, cells := 0, slots := 0, locals := 22 } D cI cJ g tS tJ σ [.int (nI w), .int o] (x_niw w o σ) := by
  refine x_bodyv rfl rfl (Nat.le_of_ble_eq_true rfl) ?_
  intro p e s m below meth c hx hb hml hr hlk hown hts hC hp ls hl
  have hl : lv_has ls 3 [(0, .ref (g 0)), (1, .int (nI w)), (2, .int o)] := hl
  refine lv_iload_n hx hb dX0_noteIfWrong_0 rfl (lv_at hl 2 rfl) ?_
  refine lv_if_eq (tgt := 30) hx hb dX0_noteIfWrong_1 (by decide) (fun c_1 => ?_) (fun c_1 => ?_)
  · exact x_vret hx hb hr hlk hp (by unfold x_niw; rw [if_pos c_1]) dX0_noteIfWrong_30
  · refine lv_aload_n hx hb dX0_noteIfWrong_4 rfl (lv_at hl 0 rfl) ?_
    refine lv_iload_n hx hb dX0_noteIfWrong_5 rfl (lv_at hl 1 rfl) ?_
    refine lv_sipush (v := 1000) hx hb dX0_noteIfWrong_6 (by decide) ?_
    refine lv_bipush (v := 100) hx hb dX0_noteIfWrong_9 (by decide) ?_
    refine lv_iload_n hx hb dX0_noteIfWrong_11 rfl (lv_at hl 2 rfl) ?_
    refine lv_imul hx hb dX0_noteIfWrong_12 ?_
    refine lv_iadd hx hb dX0_noteIfWrong_13 ?_
    refine lv_aload_n hx hb dX0_noteIfWrong_14 rfl (lv_at hl 0 rfl) ?_
    refine x_get hx hb hts hown hC hp 8 (by decide) x_l37 rfl dX0_noteIfWrong_15 ?_
    refine lv_bipush (v := 63) hx hb dX0_noteIfWrong_18 (by decide) ?_
    refine lv_iand hx hb dX0_noteIfWrong_20 ?_
    refine lv_iadd hx hb dX0_noteIfWrong_21 ?_
    refine x_callV (n := 2) [.int (nI w), .int ((1000 + (100 * o)) + (σ.2.2.2 &&& 63))] hx hb hml hown hts hC hp (cx_note l D cI cJ g tS tJ σ w ((1000 + (100 * o)) + (σ.2.2.2 &&& 63)) hw) gVX0_74 (by decide +kernel) ⟨rfl, rfl, by show 0 + 1 ≤ 1; omega, by show 8 + (3 + 11) + 0 ≤ 22; omega⟩ rfl hl.1 rfl (Nat.le_of_ble_eq_true rfl) ⟨Nat.zero_le _, Nat.zero_le _⟩ dX0_noteIfWrong_22 (fun H locs hp => ?_)
    refine lv_aload_n hx hb dX0_noteIfWrong_25 rfl (lv_at hl 0 rfl) ?_
    refine lv_iconst (v := 0) hx hb dX0_noteIfWrong_26 (by decide) ?_
    refine x_putW hx hb hts hown hC hp x_l37 dX0_noteIfWrong_27 (fun H locs hp => ?_)
    exact x_vret hx hb hr hlk hp (by unfold x_niw; rw [if_neg c_1]) dX0_noteIfWrong_30

set_option maxHeartbeats 4000000 in
set_option maxRecDepth 100000 in
/-- the loop of noteGuards: k orders are left -/
theorem lx_noteGuards {p : Program} {l : Launch} {e : Env} {s : State} {m : MethodId} {args : Array Value} {below : List Frame} {meth : Method} {c : Code} {D : va_G} {cI cJ : ClassId} {g : Nat → Nat} {tS tJ : Nat} (hb : c.code = cX0_noteGuards) (hml : c.maxLocals = 5) (hr : meth.sig.returnType = none) (hx : p.tables.exec = Jvm.exec) (hown : s.vm.findClass RX0 = some m.cls) (hlk : meth.locks = false) (hts : ∀ w ∈ lw_g, w.before args s = true) (hC : x_C D cI cJ g tS tJ s) {w t : Nat} {r : Int32} (hw : w < 2) (ht : t < 8) {F : xT} :
    ∀ (k : Nat), k ≤ 5 → ∀ (σ : xT) (H : Heap) (locs : List Loc), x_P D cI cJ g s H locs σ → ∀ (ls : Array Slot), lv_has ls 5 [(4, .int (nI k - 1)), (0, .ref (g 0)), (1, .int (nI w)), (2, .int (nI t)), (3, .int r)] → F = x_guards w t k σ →
      W p l e { frames := 1, cells := 0, slots := 0, locals := 22 } s m args below meth c H locs 0 0 (MQ below (va_Qv (fun τ => τ = F) (fun τ t => va_P D vwCl (fw 30 g (x_E cI cJ g τ)) t.heap) (fw_A 30 g)) args s 0 0 (fw_A 30 g)) (F0 m 5 ls []) := by
  intro k
  induction k with
  | zero =>
    intro _ σ H locs hp ls hl hF
    refine lv_iload hx hb dX0_noteGuards_5 (lv_at hl 0 rfl) ?_
    refine lv_if_lt (tgt := 43) hx hb dX0_noteGuards_7 (by decide) (fun _ => ?_) (fun c_1 => absurd (by decide) c_1)
    exact x_vret hx hb hr hlk hp hF.symm dX0_noteGuards_43
  | succ k ih =>
    intro hk5 σ H locs hp ls hl hF
    have hk : k < 5 := by omega
    have hneg : ¬ nI k < 0 := nI_pos (by omega)
    rw [nI_pred] at hl
    refine lv_iload hx hb dX0_noteGuards_5 (lv_at hl 0 rfl) ?_
    refine lv_if_lt (tgt := 43) hx hb dX0_noteGuards_7 (by decide) (fun c_1 => absurd c_1 hneg) (fun c_1 => ?_)
    refine lv_aload_n hx hb dX0_noteGuards_10 rfl (lv_at hl 1 rfl) ?_
    refine x_get hx hb hts hown hC hp 0 (by decide) x_l11 rfl dX0_noteGuards_11 ?_
    refine lv_iload_n hx hb dX0_noteGuards_14 rfl (lv_at hl 3 rfl) ?_
    refine x_ald 0 hx hb hC hp (by decide) ht dX0_noteGuards_15 ?_
    refine lv_iload hx hb dX0_noteGuards_16 (lv_at hl 0 rfl) ?_
    refine x_ildN 0 t k hx hb hC hp (by decide) ht hk dX0_noteGuards_18 ?_
    refine lv_iconst (v := 5) hx hb dX0_noteGuards_19 (by decide) ?_
    refine lv_icmp_ne (tgt := 37) hx hb dX0_noteGuards_20 (by decide) (fun c_2 => ?_) (fun c_2 => ?_)
    · refine lv_iinc (v := (nI k - 1)) (lv' := [(4, .int (nI k - 1)), (0, .ref (g 0)), (1, .int (nI w)), (2, .int (nI t)), (3, .int r)]) hx hb dX0_noteGuards_37 hl (k := 0) rfl (x_m1 _) (by decide) rfl (fun ls hl => ?_)
      refine lv_goto (tgt := 5) hx hb dX0_noteGuards_40 (by decide) ?_
      exact ih (by omega) _ _ _ hp ls hl (by rw [hF]; simp only [x_guards]; rw [if_neg c_2])
    · refine lv_aload_n hx hb dX0_noteGuards_23 rfl (lv_at hl 1 rfl) ?_
      refine lv_iload_n hx hb dX0_noteGuards_24 rfl (lv_at hl 2 rfl) ?_
      refine lv_aload_n hx hb dX0_noteGuards_25 rfl (lv_at hl 1 rfl) ?_
      refine x_get hx hb hts hown hC hp 1 (by decide) x_l14 rfl dX0_noteGuards_26 ?_
      refine lv_iload_n hx hb dX0_noteGuards_29 rfl (lv_at hl 3 rfl) ?_
      refine x_ald 1 hx hb hC hp (by decide) ht dX0_noteGuards_30 ?_
      refine lv_iload hx hb dX0_noteGuards_31 (lv_at hl 0 rfl) ?_
      refine x_ildN 1 t k hx hb hC hp (by decide) ht hk dX0_noteGuards_33 ?_
      refine x_callV (n := 2) [.int (nI w), .int (σ.1 1 t k)] hx hb hml hown hts hC hp (cx_note l D cI cJ g tS tJ σ w (σ.1 1 t k) hw) gVX0_74 (by decide +kernel) ⟨rfl, rfl, by show 0 + 1 ≤ 1; omega, by show 8 + (3 + 11) + 0 ≤ 22; omega⟩ rfl hl.1 rfl (Nat.le_of_ble_eq_true rfl) ⟨Nat.zero_le _, Nat.zero_le _⟩ dX0_noteGuards_34 (fun H locs hp => ?_)
      refine lv_iinc (v := (nI k - 1)) (lv' := [(4, .int (nI k - 1)), (0, .ref (g 0)), (1, .int (nI w)), (2, .int (nI t)), (3, .int r)]) hx hb dX0_noteGuards_37 hl (k := 0) rfl (x_m1 _) (by decide) rfl (fun ls hl => ?_)
      refine lv_goto (tgt := 5) hx hb dX0_noteGuards_40 (by decide) ?_
      exact ih (by omega) _ _ _ hp ls hl (by rw [hF]; simp only [x_guards]; rw [if_pos c_2])

set_option maxHeartbeats 4000000 in
set_option maxRecDepth 100000 in
theorem cx_noteGuards (l : Launch) (D : va_G) (cI cJ : ClassId) (g : Nat → Nat) (tS tJ : Nat) (σ : xT) (w t k : Nat) (hw : w < 2) (ht : t < 8) (hk : k ≤ 5) : x_Mv l yX0_noteGuards (.code yX0_noteGuards cX0_noteGuards 5 none :: lw_g) { frames := 1, cells := 0, slots := 0, locals := 22 } D cI cJ g tS tJ σ [.int (nI w), .int (nI t), .int (nI k)] (x_guards w t k σ) := by
  refine x_bodyv rfl rfl (Nat.le_of_ble_eq_true rfl) ?_
  intro p e s m below meth c hx hb hml hr hlk hown hts hC hp ls hl
  have hl : lv_has ls 5 [(0, .ref (g 0)), (1, .int (nI w)), (2, .int (nI t)), (3, .int (nI k))] := hl
  refine lv_iload_n hx hb dX0_noteGuards_0 rfl (lv_at hl 3 rfl) ?_
  refine lv_iconst (v := 1) hx hb dX0_noteGuards_1 (by decide) ?_
  refine lv_isub hx hb dX0_noteGuards_2 ?_
  refine lv_istore (lv' := [(4, .int (nI k - 1)), (0, .ref (g 0)), (1, .int (nI w)), (2, .int (nI t)), (3, .int (nI k))]) hx hb dX0_noteGuards_3 hl (by decide) rfl (fun ls hl => ?_)
  exact lx_noteGuards hb hml hr hx hown hlk hts hC hw ht k hk σ _ _ hp ls hl rfl
