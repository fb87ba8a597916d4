def k_h (h0 q1 q2 q3 q4 q5 q6 q7 q8 q9 q10 q11 q12 q13 : Nat) : Nat → Nat := fun k => [h0, q1, q2, q3, q4, q5, q6, q7, q8, q9, q10, q11, q12, q13].getD k 0

set_option maxHeartbeats 4000000 in
set_option maxRecDepth 100000 in
theorem k_mw (cI : ClassId) (h0 q1 q2 q3 q4 q5 q6 q7 q8 q9 q10 q11 q12 q13 : Nat) : ([(h0, .inr (1, [.ref q1, .ref q2, .ref q3, .ref q4, .ref q5, .ref q6, .ref q7, .ref q8, .int 0, .int 0, .ref q9, .ref q10, .ref q11, .ref q12, .ref q13, .int 0, .int 0, .int 0, .int 0])), (q1, .inl (cI, 40, .inl (fun _ => 0))), (q2, .inl (cI, 40, .inl (fun _ => 0))), (q3, .inl (cI, 8, .inl (fun _ => 0))), (q4, .inl (cI, 16, .inl (fun _ => 0))), (q5, .inl (cI, 16, .inl (fun _ => 0))), (q6, .inl (cI, 64, .inl (fun _ => 0))), (q7, .inl (cI, 2, .inl (fun _ => 0))), (q8, .inl (cI, 16, .inl (upd (upd (upd (upd (upd (fun _ => 0) 2 1) 4 2) 5 6) 8 4) 9 6))), (q9, .inl (cI, 9, .inl (fun _ => 0))), (q10, .inl (cI, 9, .inl (fun _ => 0))), (q11, .inl (cI, 9, .inl (fun _ => 0))), (q12, .inl (cI, 9, .inl (fun _ => 0))), (q13, .inl (cI, 45, .inl (fun _ => 0)))] : va_W) = fw 14 (k_h h0 q1 q2 q3 q4 q5 q6 q7 q8 q9 q10 q11 q12 q13) (m_E cI (k_h h0 q1 q2 q3 q4 q5 q6 q7 q8 q9 q10 q11 q12 q13) m_0) := by
  apply List.ext_getElem?
  intro k
  by_cases hk : k < 14
  · rw [fw_at hk]
    rcases (show k = 0 ∨ k = 1 ∨ k = 2 ∨ k = 3 ∨ k = 4 ∨ k = 5 ∨ k = 6 ∨ k = 7 ∨ k = 8 ∨ k = 9 ∨ k = 10 ∨ k = 11 ∨ k = 12 ∨ k = 13 by omega) with rfl | rfl | rfl | rfl | rfl | rfl | rfl | rfl | rfl | rfl | rfl | rfl | rfl | rfl <;> rfl
  · rw [List.getElem?_eq_none (by show 14 ≤ k; omega), List.getElem?_eq_none (by rw [fw_len]; omega)]

set_option maxHeartbeats 4000000 in
set_option maxRecDepth 100000 in
theorem cm_init (l : Launch) (D : va_G) (cI : ClassId) (h0 sz : Nat) : Met l yX1_init (.code yX1_init cX1_init 1 none :: lw_g) { frames := 1, cells := 13, slots := 283, locals := 12 } (va_Pc [.ref h0] (fun U => U.heap.size = sz ∧ va_P D vwCl [(h0, .inr (1, [.null, .null, .null, .null, .null, .null, .null, .null, .int 0, .int 0, .null, .null, .null, .null, .null, .int 0, .int 0, .int 0, .int 0]))] U.heap ∧ va_K D vwCl [(cI, .int)] U ∧ va_D (fun _ => True) [(h0, .inr (1, [.null, .null, .null, .null, .null, .null, .null, .null, .int 0, .int 0, .null, .null, .null, .null, .null, .int 0, .int 0, .int 0, .int 0]))])) (va_Qv (fun g : Nat → Nat => g 0 = h0) (fun g t => va_P D vwCl (fw 14 g (m_E cI g m_0)) t.heap ∧ va_D (va_A [(h0, .inr (1, [.null, .null, .null, .null, .null, .null, .null, .null, .int 0, .int 0, .null, .null, .null, .null, .null, .int 0, .int 0, .int 0, .int 0]))] sz) (fw 14 g (m_E cI g m_0))) (va_A [(h0, .inr (1, [.null, .null, .null, .null, .null, .null, .null, .null, .int 0, .int 0, .null, .null, .null, .null, .null, .int 0, .int 0, .int 0, .int 0]))] sz)) 13 283 (va_A [(h0, .inr (1, [.null, .null, .null, .null, .null, .null, .null, .null, .int 0, .int 0, .null, .null, .null, .null, .null, .int 0, .int 0, .int 0, .int 0]))] sz) := by
  refine Met.ofW (cc := cX1_init) (maxL := 1) (ret := none) rfl rfl ?_
  intro p e s m args below meth c s₁ B hml hv
  obtain ⟨rfl, hsz, hP, hK, hD0⟩ := hv
  have hx := B.exec
  have hb := B.bytes
  have hr := B.returns
  have hts0 := atoms_spec (ws := .code yX1_init cX1_init 1 none :: lw_g) B.pre
  have hts := fun w h => hts0 w (List.mem_cons_of_mem _ h)
  have hown : s.vm.findClass RX1 = some m.cls := findClass_of_methodNamed B.named
  have hlocks := B.notSynchronized
  have hin : meth.name = "<init>" := (name_of_methodNamed B.named B.method).1
  subst hsz
  have hD := hD0.self (sz := s.heap.size)
  generalize hAe : va_A [(h0, .inr (1, [.null, .null, .null, .null, .null, .null, .null, .null, .int 0, .int 0, .null, .null, .null, .null, .null, .int 0, .int 0, .int 0, .int 0]))] s.heap.size = A at hD ⊢
  have hA : ∀ q : Nat, s.heap.size ≤ q → A q := fun q h => by rw [← hAe]; exact Or.inr h
  have hS : va_S A s.heap s.heap [] := va_S.rf
  have hP : va_P D vwCl [(h0, .inr (1, [.null, .null, .null, .null, .null, .null, .null, .null, .int 0, .int 0, .null, .null, .null, .null, .null, .int 0, .int 0, .int 0, .int 0]))] s.heap := hP
  have hl := lv_entry ([.ref h0]) (n := 1) (Nat.le_of_ble_eq_true rfl)
  rw [lg_entry_eq]
  generalize (lg_sl ([.ref h0]) ++ List.replicate (1 - (lg_sl ([.ref h0])).length) Slot.unset).toArray = ls at hl ⊢
  have hl : lv_has ls 1 [(0, .ref h0)] := hl
  refine lv_aload_n hx hb dX1_init_0 rfl (lv_at hl 0 rfl) ?_
  refine W.objInit hx hb hown (hts _ m_oi1) (hts _ k_oi2) (hts _ k_oi3) rfl (by rw [hml]; exact hl.1) rfl dX1_init_1 (Nat.le_of_ble_eq_true rfl) (Nat.le_of_ble_eq_true rfl) ?_
  refine W.eq (g2 := F0 m 4 ls []) rfl ?_
  refine lv_aload_n hx hb dX1_init_4 rfl (lv_at hl 0 rfl) ?_
  refine lv_bipush (v := 40) hx hb dX1_init_5 (by decide) ?_
  refine k_newa hx hb (hts _ k_ac) hK rfl hP hD hS hA 40 rfl (by decide) (Nat.le_of_ble_eq_true rfl) (Nat.le_of_ble_eq_true rfl) dX1_init_7 (fun q1 H hP hD hS => ?_)
  refine W.widen (k := 1) (n := 40) (Nat.le_of_ble_eq_true rfl) (Nat.le_of_ble_eq_true rfl) ?_
  have hP : va_P D vwCl ((h0, .inr (1, [.null, .null, .null, .null, .null, .null, .null, .null, .int 0, .int 0, .null, .null, .null, .null, .null, .int 0, .int 0, .int 0, .int 0])) :: (([] : va_W) ++ [(q1, .inl (cI, 40, .inl (fun _ => 0)))]) : va_W) H := hP
  have hD : va_D A ((h0, .inr (1, [.null, .null, .null, .null, .null, .null, .null, .null, .int 0, .int 0, .null, .null, .null, .null, .null, .int 0, .int 0, .int 0, .int 0])) :: (([] : va_W) ++ [(q1, .inl (cI, 40, .inl (fun _ => 0)))]) : va_W) := hD
  generalize hT1 : (([] : va_W) ++ [(q1, .inl (cI, 40, .inl (fun _ => 0)))]) = T1 at hP hD
  refine va_putF (D := D) (ci := 1) (v := .ref q1) (ty := .array .int) (C := RX1) (T := TX1) (N := 19) hx hb hts m_inT tyX1 m_tyT m_nmT hown hK hP hD hS 0 rfl rfl 0 (by decide) (hts _ m_l7) (fun _ h9 => h9) rfl hin rfl (by decide +kernel) rfl rfl (Nat.le_of_ble_eq_true rfl) dX1_init_9 (fun H locs hP hD hS => ?_)
  have hP : va_P D vwCl ((h0, .inr (1, [.ref q1, .null, .null, .null, .null, .null, .null, .null, .int 0, .int 0, .null, .null, .null, .null, .null, .int 0, .int 0, .int 0, .int 0])) :: T1 : va_W) H := hP
  have hD : va_D A ((h0, .inr (1, [.ref q1, .null, .null, .null, .null, .null, .null, .null, .int 0, .int 0, .null, .null, .null, .null, .null, .int 0, .int 0, .int 0, .int 0])) :: T1 : va_W) := hD
  refine lv_aload_n hx hb dX1_init_12 rfl (lv_at hl 0 rfl) ?_
  refine lv_bipush (v := 40) hx hb dX1_init_13 (by decide) ?_
  refine k_newa hx hb (hts _ k_ac) hK rfl hP hD hS hA 40 rfl (by decide) (Nat.le_of_ble_eq_true rfl) (Nat.le_of_ble_eq_true rfl) dX1_init_15 (fun q2 H hP hD hS => ?_)
  refine W.widen (k := 2) (n := 80) (Nat.le_of_ble_eq_true rfl) (Nat.le_of_ble_eq_true rfl) ?_
  have hP : va_P D vwCl ((h0, .inr (1, [.ref q1, .null, .null, .null, .null, .null, .null, .null, .int 0, .int 0, .null, .null, .null, .null, .null, .int 0, .int 0, .int 0, .int 0])) :: (T1 ++ [(q2, .inl (cI, 40, .inl (fun _ => 0)))]) : va_W) H := hP
  have hD : va_D A ((h0, .inr (1, [.ref q1, .null, .null, .null, .null, .null, .null, .null, .int 0, .int 0, .null, .null, .null, .null, .null, .int 0, .int 0, .int 0, .int 0])) :: (T1 ++ [(q2, .inl (cI, 40, .inl (fun _ => 0)))]) : va_W) := hD
  generalize hT2 : (T1 ++ [(q2, .inl (cI, 40, .inl (fun _ => 0)))]) = T2 at hP hD
  refine va_putF (D := D) (ci := 1) (v := .ref q2) (ty := .array .int) (C := RX1) (T := TX1) (N := 19) hx hb hts m_inT tyX1 m_tyT m_nmT hown hK hP hD hS 0 rfl rfl 1 (by decide) (hts _ m_l13) (fun _ h9 => h9) rfl hin rfl (by decide +kernel) rfl rfl (Nat.le_of_ble_eq_true rfl) dX1_init_17 (fun H locs hP hD hS => ?_)
  have hP : va_P D vwCl ((h0, .inr (1, [.ref q1, .ref q2, .null, .null, .null, .null, .null, .null, .int 0, .int 0, .null, .null, .null, .null, .null, .int 0, .int 0, .int 0, .int 0])) :: T2 : va_W) H := hP
  have hD : va_D A ((h0, .inr (1, [.ref q1, .ref q2, .null, .null, .null, .null, .null, .null, .int 0, .int 0, .null, .null, .null, .null, .null, .int 0, .int 0, .int 0, .int 0])) :: T2 : va_W) := hD
  refine lv_aload_n hx hb dX1_init_20 rfl (lv_at hl 0 rfl) ?_
  refine lv_bipush (v := 8) hx hb dX1_init_21 (by decide) ?_
  refine k_newa hx hb (hts _ k_ac) hK rfl hP hD hS hA 8 rfl (by decide) (Nat.le_of_ble_eq_true rfl) (Nat.le_of_ble_eq_true rfl) dX1_init_23 (fun q3 H hP hD hS => ?_)
  refine W.widen (k := 3) (n := 88) (Nat.le_of_ble_eq_true rfl) (Nat.le_of_ble_eq_true rfl) ?_
  have hP : va_P D vwCl ((h0, .inr (1, [.ref q1, .ref q2, .null, .null, .null, .null, .null, .null, .int 0, .int 0, .null, .null, .null, .null, .null, .int 0, .int 0, .int 0, .int 0])) :: (T2 ++ [(q3, .inl (cI, 8, .inl (fun _ => 0)))]) : va_W) H := hP
  have hD : va_D A ((h0, .inr (1, [.ref q1, .ref q2, .null, .null, .null, .null, .null, .null, .int 0, .int 0, .null, .null, .null, .null, .null, .int 0, .int 0, .int 0, .int 0])) :: (T2 ++ [(q3, .inl (cI, 8, .inl (fun _ => 0)))]) : va_W) := hD
  generalize hT3 : (T2 ++ [(q3, .inl (cI, 8, .inl (fun _ => 0)))]) = T3 at hP hD
  refine va_putF (D := D) (ci := 1) (v := .ref q3) (ty := .array .int) (C := RX1) (T := TX1) (N := 19) hx hb hts m_inT tyX1 m_tyT m_nmT hown hK hP hD hS 0 rfl rfl 2 (by decide) (hts _ m_l16) (fun _ h9 => h9) rfl hin rfl (by decide +kernel) rfl rfl (Nat.le_of_ble_eq_true rfl) dX1_init_25 (fun H locs hP hD hS => ?_)
  have hP : va_P D vwCl ((h0, .inr (1, [.ref q1, .ref q2, .ref q3, .null, .null, .null, .null, .null, .int 0, .int 0, .null, .null, .null, .null, .null, .int 0, .int 0, .int 0, .int 0])) :: T3 : va_W) H := hP
  have hD : va_D A ((h0, .inr (1, [.ref q1, .ref q2, .ref q3, .null, .null, .null, .null, .null, .int 0, .int 0, .null, .null, .null, .null, .null, .int 0, .int 0, .int 0, .int 0])) :: T3 : va_W) := hD
  refine lv_aload_n hx hb dX1_init_28 rfl (lv_at hl 0 rfl) ?_
  refine lv_bipush (v := 16) hx hb dX1_init_29 (by decide) ?_
  refine k_newa hx hb (hts _ k_ac) hK rfl hP hD hS hA 16 rfl (by decide) (Nat.le_of_ble_eq_true rfl) (Nat.le_of_ble_eq_true rfl) dX1_init_31 (fun q4 H hP hD hS => ?_)
  refine W.widen (k := 4) (n := 104) (Nat.le_of_ble_eq_true rfl) (Nat.le_of_ble_eq_true rfl) ?_
  have hP : va_P D vwCl ((h0, .inr (1, [.ref q1, .ref q2, .ref q3, .null, .null, .null, .null, .null, .int 0, .int 0, .null, .null, .null, .null, .null, .int 0, .int 0, .int 0, .int 0])) :: (T3 ++ [(q4, .inl (cI, 16, .inl (fun _ => 0)))]) : va_W) H := hP
  have hD : va_D A ((h0, .inr (1, [.ref q1, .ref q2, .ref q3, .null, .null, .null, .null, .null, .int 0, .int 0, .null, .null, .null, .null, .null, .int 0, .int 0, .int 0, .int 0])) :: (T3 ++ [(q4, .inl (cI, 16, .inl (fun _ => 0)))]) : va_W) := hD
  generalize hT4 : (T3 ++ [(q4, .inl (cI, 16, .inl (fun _ => 0)))]) = T4 at hP hD
  refine va_putF (D := D) (ci := 1) (v := .ref q4) (ty := .array .int) (C := RX1) (T := TX1) (N := 19) hx hb hts m_inT tyX1 m_tyT m_nmT hown hK hP hD hS 0 rfl rfl 3 (by decide) (hts _ m_l19) (fun _ h9 => h9) rfl hin rfl (by decide +kernel) rfl rfl (Nat.le_of_ble_eq_true rfl) dX1_init_33 (fun H locs hP hD hS => ?_)
  have hP : va_P D vwCl ((h0, .inr (1, [.ref q1, .ref q2, .ref q3, .ref q4, .null, .null, .null, .null, .int 0, .int 0, .null, .null, .null, .null, .null, .int 0, .int 0, .int 0, .int 0])) :: T4 : va_W) H := hP
  have hD : va_D A ((h0, .inr (1, [.ref q1, .ref q2, .ref q3, .ref q4, .null, .null, .null, .null, .int 0, .int 0, .null, .null, .null, .null, .null, .int 0, .int 0, .int 0, .int 0])) :: T4 : va_W) := hD
  refine lv_aload_n hx hb dX1_init_36 rfl (lv_at hl 0 rfl) ?_
  refine lv_bipush (v := 16) hx hb dX1_init_37 (by decide) ?_
  refine k_newa hx hb (hts _ k_ac) hK rfl hP hD hS hA 16 rfl (by decide) (Nat.le_of_ble_eq_true rfl) (Nat.le_of_ble_eq_true rfl) dX1_init_39 (fun q5 H hP hD hS => ?_)
  refine W.widen (k := 5) (n := 120) (Nat.le_of_ble_eq_true rfl) (Nat.le_of_ble_eq_true rfl) ?_
  have hP : va_P D vwCl ((h0, .inr (1, [.ref q1, .ref q2, .ref q3, .ref q4, .null, .null, .null, .null, .int 0, .int 0, .null, .null, .null, .null, .null, .int 0, .int 0, .int 0, .int 0])) :: (T4 ++ [(q5, .inl (cI, 16, .inl (fun _ => 0)))]) : va_W) H := hP
  have hD : va_D A ((h0, .inr (1, [.ref q1, .ref q2, .ref q3, .ref q4, .null, .null, .null, .null, .int 0, .int 0, .null, .null, .null, .null, .null, .int 0, .int 0, .int 0, .int 0])) :: (T4 ++ [(q5, .inl (cI, 16, .inl (fun _ => 0)))]) : va_W) := hD
  generalize hT5 : (T4 ++ [(q5, .inl (cI, 16, .inl (fun _ => 0)))]) = T5 at hP hD
  refine va_putF (D := D) (ci := 1) (v := .ref q5) (ty := .array .int) (C := RX1) (T := TX1) (N := 19) hx hb hts m_inT tyX1 m_tyT m_nmT hown hK hP hD hS 0 rfl rfl 4 (by decide) (hts _ m_l22) (fun _ h9 => h9) rfl hin rfl (by decide +kernel) rfl rfl (Nat.le_of_ble_eq_true rfl) dX1_init_41 (fun H locs hP hD hS => ?_)
  have hP : va_P D vwCl ((h0, .inr (1, [.ref q1, .ref q2, .ref q3, .ref q4, .ref q5, .null, .null, .null, .int 0, .int 0, .null, .null, .null, .null, .null, .int 0, .int 0, .int 0, .int 0])) :: T5 : va_W) H := hP
  have hD : va_D A ((h0, .inr (1, [.ref q1, .ref q2, .ref q3, .ref q4, .ref q5, .null, .null, .null, .int 0, .int 0, .null, .null, .null, .null, .null, .int 0, .int 0, .int 0, .int 0])) :: T5 : va_W) := hD
  refine lv_aload_n hx hb dX1_init_44 rfl (lv_at hl 0 rfl) ?_
  refine lv_bipush (v := 64) hx hb dX1_init_45 (by decide) ?_
  refine k_newa hx hb (hts _ k_ac) hK rfl hP hD hS hA 64 rfl (by decide) (Nat.le_of_ble_eq_true rfl) (Nat.le_of_ble_eq_true rfl) dX1_init_47 (fun q6 H hP hD hS => ?_)
  refine W.widen (k := 6) (n := 184) (Nat.le_of_ble_eq_true rfl) (Nat.le_of_ble_eq_true rfl) ?_
  have hP : va_P D vwCl ((h0, .inr (1, [.ref q1, .ref q2, .ref q3, .ref q4, .ref q5, .null, .null, .null, .int 0, .int 0, .null, .null, .null, .null, .null, .int 0, .int 0, .int 0, .int 0])) :: (T5 ++ [(q6, .inl (cI, 64, .inl (fun _ => 0)))]) : va_W) H := hP
  have hD : va_D A ((h0, .inr (1, [.ref q1, .ref q2, .ref q3, .ref q4, .ref q5, .null, .null, .null, .int 0, .int 0, .null, .null, .null, .null, .null, .int 0, .int 0, .int 0, .int 0])) :: (T5 ++ [(q6, .inl (cI, 64, .inl (fun _ => 0)))]) : va_W) := hD
  generalize hT6 : (T5 ++ [(q6, .inl (cI, 64, .inl (fun _ => 0)))]) = T6 at hP hD
  refine va_putF (D := D) (ci := 1) (v := .ref q6) (ty := .array .int) (C := RX1) (T := TX1) (N := 19) hx hb hts m_inT tyX1 m_tyT m_nmT hown hK hP hD hS 0 rfl rfl 5 (by decide) (hts _ m_l25) (fun _ h9 => h9) rfl hin rfl (by decide +kernel) rfl rfl (Nat.le_of_ble_eq_true rfl) dX1_init_49 (fun H locs hP hD hS => ?_)
  have hP : va_P D vwCl ((h0, .inr (1, [.ref q1, .ref q2, .ref q3, .ref q4, .ref q5, .ref q6, .null, .null, .int 0, .int 0, .null, .null, .null, .null, .null, .int 0, .int 0, .int 0, .int 0])) :: T6 : va_W) H := hP
  have hD : va_D A ((h0, .inr (1, [.ref q1, .ref q2, .ref q3, .ref q4, .ref q5, .ref q6, .null, .null, .int 0, .int 0, .null, .null, .null, .null, .null, .int 0, .int 0, .int 0, .int 0])) :: T6 : va_W) := hD
  refine lv_aload_n hx hb dX1_init_52 rfl (lv_at hl 0 rfl) ?_
  refine lv_iconst (v := 2) hx hb dX1_init_53 (by decide) ?_
  refine k_newa hx hb (hts _ k_ac) hK rfl hP hD hS hA 2 rfl (by decide) (Nat.le_of_ble_eq_true rfl) (Nat.le_of_ble_eq_true rfl) dX1_init_54 (fun q7 H hP hD hS => ?_)
  refine W.widen (k := 7) (n := 186) (Nat.le_of_ble_eq_true rfl) (Nat.le_of_ble_eq_true rfl) ?_
  have hP : va_P D vwCl ((h0, .inr (1, [.ref q1, .ref q2, .ref q3, .ref q4, .ref q5, .ref q6, .null, .null, .int 0, .int 0, .null, .null, .null, .null, .null, .int 0, .int 0, .int 0, .int 0])) :: (T6 ++ [(q7, .inl (cI, 2, .inl (fun _ => 0)))]) : va_W) H := hP
  have hD : va_D A ((h0, .inr (1, [.ref q1, .ref q2, .ref q3, .ref q4, .ref q5, .ref q6, .null, .null, .int 0, .int 0, .null, .null, .null, .null, .null, .int 0, .int 0, .int 0, .int 0])) :: (T6 ++ [(q7, .inl (cI, 2, .inl (fun _ => 0)))]) : va_W) := hD
  generalize hT7 : (T6 ++ [(q7, .inl (cI, 2, .inl (fun _ => 0)))]) = T7 at hP hD
  refine va_putF (D := D) (ci := 1) (v := .ref q7) (ty := .array .int) (C := RX1) (T := TX1) (N := 19) hx hb hts m_inT tyX1 m_tyT m_nmT hown hK hP hD hS 0 rfl rfl 6 (by decide) (hts _ m_l28) (fun _ h9 => h9) rfl hin rfl (by decide +kernel) rfl rfl (Nat.le_of_ble_eq_true rfl) dX1_init_56 (fun H locs hP hD hS => ?_)
  have hP : va_P D vwCl ((h0, .inr (1, [.ref q1, .ref q2, .ref q3, .ref q4, .ref q5, .ref q6, .ref q7, .null, .int 0, .int 0, .null, .null, .null, .null, .null, .int 0, .int 0, .int 0, .int 0])) :: T7 : va_W) H := hP
  have hD : va_D A ((h0, .inr (1, [.ref q1, .ref q2, .ref q3, .ref q4, .ref q5, .ref q6, .ref q7, .null, .int 0, .int 0, .null, .null, .null, .null, .null, .int 0, .int 0, .int 0, .int 0])) :: T7 : va_W) := hD
  refine lv_aload_n hx hb dX1_init_59 rfl (lv_at hl 0 rfl) ?_
  refine lv_bipush (v := 16) hx hb dX1_init_60 (by decide) ?_
  refine k_newa hx hb (hts _ k_ac) hK rfl hP hD hS hA 16 rfl (by decide) (Nat.le_of_ble_eq_true rfl) (Nat.le_of_ble_eq_true rfl) dX1_init_62 (fun q8 H hP hD hS => ?_)
  refine W.widen (k := 8) (n := 202) (Nat.le_of_ble_eq_true rfl) (Nat.le_of_ble_eq_true rfl) ?_
  have hP : va_P D vwCl ((h0, .inr (1, [.ref q1, .ref q2, .ref q3, .ref q4, .ref q5, .ref q6, .ref q7, .null, .int 0, .int 0, .null, .null, .null, .null, .null, .int 0, .int 0, .int 0, .int 0])) :: (T7 ++ [(q8, .inl (cI, 16, .inl (fun _ => 0)))]) : va_W) H := hP
  have hD : va_D A ((h0, .inr (1, [.ref q1, .ref q2, .ref q3, .ref q4, .ref q5, .ref q6, .ref q7, .null, .int 0, .int 0, .null, .null, .null, .null, .null, .int 0, .int 0, .int 0, .int 0])) :: (T7 ++ [(q8, .inl (cI, 16, .inl (fun _ => 0)))]) : va_W) := hD
  generalize hT8 : (T7 ++ [(q8, .inl (cI, 16, .inl (fun _ => 0)))]) = T8 at hP hD
  refine va_putF (D := D) (ci := 1) (v := .ref q8) (ty := .array .int) (C := RX1) (T := TX1) (N := 19) hx hb hts m_inT tyX1 m_tyT m_nmT hown hK hP hD hS 0 rfl rfl 7 (by decide) (hts _ m_l31) (fun _ h9 => h9) rfl hin rfl (by decide +kernel) rfl rfl (Nat.le_of_ble_eq_true rfl) dX1_init_64 (fun H locs hP hD hS => ?_)
  have hP : va_P D vwCl ((h0, .inr (1, [.ref q1, .ref q2, .ref q3, .ref q4, .ref q5, .ref q6, .ref q7, .ref q8, .int 0, .int 0, .null, .null, .null, .null, .null, .int 0, .int 0, .int 0, .int 0])) :: T8 : va_W) H := hP
  have hD : va_D A ((h0, .inr (1, [.ref q1, .ref q2, .ref q3, .ref q4, .ref q5, .ref q6, .ref q7, .ref q8, .int 0, .int 0, .null, .null, .null, .null, .null, .int 0, .int 0, .int 0, .int 0])) :: T8 : va_W) := hD
  refine lv_aload_n hx hb dX1_init_67 rfl (lv_at hl 0 rfl) ?_
  refine lv_bipush (v := 9) hx hb dX1_init_68 (by decide) ?_
  refine k_newa hx hb (hts _ k_ac) hK rfl hP hD hS hA 9 rfl (by decide) (Nat.le_of_ble_eq_true rfl) (Nat.le_of_ble_eq_true rfl) dX1_init_70 (fun q9 H hP hD hS => ?_)
  refine W.widen (k := 9) (n := 211) (Nat.le_of_ble_eq_true rfl) (Nat.le_of_ble_eq_true rfl) ?_
  have hP : va_P D vwCl ((h0, .inr (1, [.ref q1, .ref q2, .ref q3, .ref q4, .ref q5, .ref q6, .ref q7, .ref q8, .int 0, .int 0, .null, .null, .null, .null, .null, .int 0, .int 0, .int 0, .int 0])) :: (T8 ++ [(q9, .inl (cI, 9, .inl (fun _ => 0)))]) : va_W) H := hP
  have hD : va_D A ((h0, .inr (1, [.ref q1, .ref q2, .ref q3, .ref q4, .ref q5, .ref q6, .ref q7, .ref q8, .int 0, .int 0, .null, .null, .null, .null, .null, .int 0, .int 0, .int 0, .int 0])) :: (T8 ++ [(q9, .inl (cI, 9, .inl (fun _ => 0)))]) : va_W) := hD
  generalize hT9 : (T8 ++ [(q9, .inl (cI, 9, .inl (fun _ => 0)))]) = T9 at hP hD
  refine va_putF (D := D) (ci := 1) (v := .ref q9) (ty := .array .int) (C := RX1) (T := TX1) (N := 19) hx hb hts m_inT tyX1 m_tyT m_nmT hown hK hP hD hS 0 rfl rfl 10 (by decide) (hts _ m_l34) (fun _ h9 => h9) rfl hin rfl (by decide +kernel) rfl rfl (Nat.le_of_ble_eq_true rfl) dX1_init_72 (fun H locs hP hD hS => ?_)
  have hP : va_P D vwCl ((h0, .inr (1, [.ref q1, .ref q2, .ref q3, .ref q4, .ref q5, .ref q6, .ref q7, .ref q8, .int 0, .int 0, .ref q9, .null, .null, .null, .null, .int 0, .int 0, .int 0, .int 0])) :: T9 : va_W) H := hP
  have hD : va_D A ((h0, .inr (1, [.ref q1, .ref q2, .ref q3, .ref q4, .ref q5, .ref q6, .ref q7, .ref q8, .int 0, .int 0, .ref q9, .null, .null, .null, .null, .int 0, .int 0, .int 0, .int 0])) :: T9 : va_W) := hD
  refine lv_aload_n hx hb dX1_init_75 rfl (lv_at hl 0 rfl) ?_
  refine lv_bipush (v := 9) hx hb dX1_init_76 (by decide) ?_
  refine k_newa hx hb (hts _ k_ac) hK rfl hP hD hS hA 9 rfl (by decide) (Nat.le_of_ble_eq_true rfl) (Nat.le_of_ble_eq_true rfl) dX1_init_78 (fun q10 H hP hD hS => ?_)
  refine W.widen (k := 10) (n := 220) (Nat.le_of_ble_eq_true rfl) (Nat.le_of_ble_eq_true rfl) ?_
  have hP : va_P D vwCl ((h0, .inr (1, [.ref q1, .ref q2, .ref q3, .ref q4, .ref q5, .ref q6, .ref q7, .ref q8, .int 0, .int 0, .ref q9, .null, .null, .null, .null, .int 0, .int 0, .int 0, .int 0])) :: (T9 ++ [(q10, .inl (cI, 9, .inl (fun _ => 0)))]) : va_W) H := hP
  have hD : va_D A ((h0, .inr (1, [.ref q1, .ref q2, .ref q3, .ref q4, .ref q5, .ref q6, .ref q7, .ref q8, .int 0, .int 0, .ref q9, .null, .null, .null, .null, .int 0, .int 0, .int 0, .int 0])) :: (T9 ++ [(q10, .inl (cI, 9, .inl (fun _ => 0)))]) : va_W) := hD
  generalize hT10 : (T9 ++ [(q10, .inl (cI, 9, .inl (fun _ => 0)))]) = T10 at hP hD
  refine va_putF (D := D) (ci := 1) (v := .ref q10) (ty := .array .int) (C := RX1) (T := TX1) (N := 19) hx hb hts m_inT tyX1 m_tyT m_nmT hown hK hP hD hS 0 rfl rfl 11 (by decide) (hts _ m_l37) (fun _ h9 => h9) rfl hin rfl (by decide +kernel) rfl rfl (Nat.le_of_ble_eq_true rfl) dX1_init_80 (fun H locs hP hD hS => ?_)
  have hP : va_P D vwCl ((h0, .inr (1, [.ref q1, .ref q2, .ref q3, .ref q4, .ref q5, .ref q6, .ref q7, .ref q8, .int 0, .int 0, .ref q9, .ref q10, .null, .null, .null, .int 0, .int 0, .int 0, .int 0])) :: T10 : va_W) H := hP
  have hD : va_D A ((h0, .inr (1, [.ref q1, .ref q2, .ref q3, .ref q4, .ref q5, .ref q6, .ref q7, .ref q8, .int 0, .int 0, .ref q9, .ref q10, .null, .null, .null, .int 0, .int 0, .int 0, .int 0])) :: T10 : va_W) := hD
  refine lv_aload_n hx hb dX1_init_83 rfl (lv_at hl 0 rfl) ?_
  refine lv_bipush (v := 9) hx hb dX1_init_84 (by decide) ?_
  refine k_newa hx hb (hts _ k_ac) hK rfl hP hD hS hA 9 rfl (by decide) (Nat.le_of_ble_eq_true rfl) (Nat.le_of_ble_eq_true rfl) dX1_init_86 (fun q11 H hP hD hS => ?_)
  refine W.widen (k := 11) (n := 229) (Nat.le_of_ble_eq_true rfl) (Nat.le_of_ble_eq_true rfl) ?_
  have hP : va_P D vwCl ((h0, .inr (1, [.ref q1, .ref q2, .ref q3, .ref q4, .ref q5, .ref q6, .ref q7, .ref q8, .int 0, .int 0, .ref q9, .ref q10, .null, .null, .null, .int 0, .int 0, .int 0, .int 0])) :: (T10 ++ [(q11, .inl (cI, 9, .inl (fun _ => 0)))]) : va_W) H := hP
  have hD : va_D A ((h0, .inr (1, [.ref q1, .ref q2, .ref q3, .ref q4, .ref q5, .ref q6, .ref q7, .ref q8, .int 0, .int 0, .ref q9, .ref q10, .null, .null, .null, .int 0, .int 0, .int 0, .int 0])) :: (T10 ++ [(q11, .inl (cI, 9, .inl (fun _ => 0)))]) : va_W) := hD
  generalize hT11 : (T10 ++ [(q11, .inl (cI, 9, .inl (fun _ => 0)))]) = T11 at hP hD
  refine va_putF (D := D) (ci := 1) (v := .ref q11) (ty := .array .int) (C := RX1) (T := TX1) (N := 19) hx hb hts m_inT tyX1 m_tyT m_nmT hown hK hP hD hS 0 rfl rfl 12 (by decide) (hts _ m_l40) (fun _ h9 => h9) rfl hin rfl (by decide +kernel) rfl rfl (Nat.le_of_ble_eq_true rfl) dX1_init_88 (fun H locs hP hD hS => ?_)
  have hP : va_P D vwCl ((h0, .inr (1, [.ref q1, .ref q2, .ref q3, .ref q4, .ref q5, .ref q6, .ref q7, .ref q8, .int 0, .int 0, .ref q9, .ref q10, .ref q11, .null, .null, .int 0, .int 0, .int 0, .int 0])) :: T11 : va_W) H := hP
  have hD : va_D A ((h0, .inr (1, [.ref q1, .ref q2, .ref q3, .ref q4, .ref q5, .ref q6, .ref q7, .ref q8, .int 0, .int 0, .ref q9, .ref q10, .ref q11, .null, .null, .int 0, .int 0, .int 0, .int 0])) :: T11 : va_W) := hD
  refine lv_aload_n hx hb dX1_init_91 rfl (lv_at hl 0 rfl) ?_
  refine lv_bipush (v := 9) hx hb dX1_init_92 (by decide) ?_
  refine k_newa hx hb (hts _ k_ac) hK rfl hP hD hS hA 9 rfl (by decide) (Nat.le_of_ble_eq_true rfl) (Nat.le_of_ble_eq_true rfl) dX1_init_94 (fun q12 H hP hD hS => ?_)
  refine W.widen (k := 12) (n := 238) (Nat.le_of_ble_eq_true rfl) (Nat.le_of_ble_eq_true rfl) ?_
  have hP : va_P D vwCl ((h0, .inr (1, [.ref q1, .ref q2, .ref q3, .ref q4, .ref q5, .ref q6, .ref q7, .ref q8, .int 0, .int 0, .ref q9, .ref q10, .ref q11, .null, .null, .int 0, .int 0, .int 0, .int 0])) :: (T11 ++ [(q12, .inl (cI, 9, .inl (fun _ => 0)))]) : va_W) H := hP
  have hD : va_D A ((h0, .inr (1, [.ref q1, .ref q2, .ref q3, .ref q4, .ref q5, .ref q6, .ref q7, .ref q8, .int 0, .int 0, .ref q9, .ref q10, .ref q11, .null, .null, .int 0, .int 0, .int 0, .int 0])) :: (T11 ++ [(q12, .inl (cI, 9, .inl (fun _ => 0)))]) : va_W) := hD
  generalize hT12 : (T11 ++ [(q12, .inl (cI, 9, .inl (fun _ => 0)))]) = T12 at hP hD
  refine va_putF (D := D) (ci := 1) (v := .ref q12) (ty := .array .int) (C := RX1) (T := TX1) (N := 19) hx hb hts m_inT tyX1 m_tyT m_nmT hown hK hP hD hS 0 rfl rfl 13 (by decide) (hts _ m_l43) (fun _ h9 => h9) rfl hin rfl (by decide +kernel) rfl rfl (Nat.le_of_ble_eq_true rfl) dX1_init_96 (fun H locs hP hD hS => ?_)
  have hP : va_P D vwCl ((h0, .inr (1, [.ref q1, .ref q2, .ref q3, .ref q4, .ref q5, .ref q6, .ref q7, .ref q8, .int 0, .int 0, .ref q9, .ref q10, .ref q11, .ref q12, .null, .int 0, .int 0, .int 0, .int 0])) :: T12 : va_W) H := hP
  have hD : va_D A ((h0, .inr (1, [.ref q1, .ref q2, .ref q3, .ref q4, .ref q5, .ref q6, .ref q7, .ref q8, .int 0, .int 0, .ref q9, .ref q10, .ref q11, .ref q12, .null, .int 0, .int 0, .int 0, .int 0])) :: T12 : va_W) := hD
  refine lv_aload_n hx hb dX1_init_99 rfl (lv_at hl 0 rfl) ?_
  refine lv_bipush (v := 45) hx hb dX1_init_100 (by decide) ?_
  refine k_newa hx hb (hts _ k_ac) hK rfl hP hD hS hA 45 rfl (by decide) (Nat.le_of_ble_eq_true rfl) (Nat.le_of_ble_eq_true rfl) dX1_init_102 (fun q13 H hP hD hS => ?_)
  refine W.widen (k := 13) (n := 283) (Nat.le_of_ble_eq_true rfl) (Nat.le_of_ble_eq_true rfl) ?_
  have hP : va_P D vwCl ((h0, .inr (1, [.ref q1, .ref q2, .ref q3, .ref q4, .ref q5, .ref q6, .ref q7, .ref q8, .int 0, .int 0, .ref q9, .ref q10, .ref q11, .ref q12, .null, .int 0, .int 0, .int 0, .int 0])) :: (T12 ++ [(q13, .inl (cI, 45, .inl (fun _ => 0)))]) : va_W) H := hP
  have hD : va_D A ((h0, .inr (1, [.ref q1, .ref q2, .ref q3, .ref q4, .ref q5, .ref q6, .ref q7, .ref q8, .int 0, .int 0, .ref q9, .ref q10, .ref q11, .ref q12, .null, .int 0, .int 0, .int 0, .int 0])) :: (T12 ++ [(q13, .inl (cI, 45, .inl (fun _ => 0)))]) : va_W) := hD
  generalize hT13 : (T12 ++ [(q13, .inl (cI, 45, .inl (fun _ => 0)))]) = T13 at hP hD
  refine va_putF (D := D) (ci := 1) (v := .ref q13) (ty := .array .int) (C := RX1) (T := TX1) (N := 19) hx hb hts m_inT tyX1 m_tyT m_nmT hown hK hP hD hS 0 rfl rfl 14 (by decide) (hts _ m_l46) (fun _ h9 => h9) rfl hin rfl (by decide +kernel) rfl rfl (Nat.le_of_ble_eq_true rfl) dX1_init_104 (fun H locs hP hD hS => ?_)
  have hP : va_P D vwCl ((h0, .inr (1, [.ref q1, .ref q2, .ref q3, .ref q4, .ref q5, .ref q6, .ref q7, .ref q8, .int 0, .int 0, .ref q9, .ref q10, .ref q11, .ref q12, .ref q13, .int 0, .int 0, .int 0, .int 0])) :: T13 : va_W) H := hP
  have hD : va_D A ((h0, .inr (1, [.ref q1, .ref q2, .ref q3, .ref q4, .ref q5, .ref q6, .ref q7, .ref q8, .int 0, .int 0, .ref q9, .ref q10, .ref q11, .ref q12, .ref q13, .int 0, .int 0, .int 0, .int 0])) :: T13 : va_W) := hD
  subst hT1
  subst hT2
  subst hT3
  subst hT4
  subst hT5
  subst hT6
  subst hT7
  subst hT8
  subst hT9
  subst hT10
  subst hT11
  subst hT12
  subst hT13
  have hP : va_P D vwCl ([(h0, .inr (1, [.ref q1, .ref q2, .ref q3, .ref q4, .ref q5, .ref q6, .ref q7, .ref q8, .int 0, .int 0, .ref q9, .ref q10, .ref q11, .ref q12, .ref q13, .int 0, .int 0, .int 0, .int 0])), (q1, .inl (cI, 40, .inl (fun _ => 0))), (q2, .inl (cI, 40, .inl (fun _ => 0))), (q3, .inl (cI, 8, .inl (fun _ => 0))), (q4, .inl (cI, 16, .inl (fun _ => 0))), (q5, .inl (cI, 16, .inl (fun _ => 0))), (q6, .inl (cI, 64, .inl (fun _ => 0))), (q7, .inl (cI, 2, .inl (fun _ => 0))), (q8, .inl (cI, 16, .inl (fun _ => 0))), (q9, .inl (cI, 9, .inl (fun _ => 0))), (q10, .inl (cI, 9, .inl (fun _ => 0))), (q11, .inl (cI, 9, .inl (fun _ => 0))), (q12, .inl (cI, 9, .inl (fun _ => 0))), (q13, .inl (cI, 45, .inl (fun _ => 0)))] : va_W) H := hP
  have hD : va_D A ([(h0, .inr (1, [.ref q1, .ref q2, .ref q3, .ref q4, .ref q5, .ref q6, .ref q7, .ref q8, .int 0, .int 0, .ref q9, .ref q10, .ref q11, .ref q12, .ref q13, .int 0, .int 0, .int 0, .int 0])), (q1, .inl (cI, 40, .inl (fun _ => 0))), (q2, .inl (cI, 40, .inl (fun _ => 0))), (q3, .inl (cI, 8, .inl (fun _ => 0))), (q4, .inl (cI, 16, .inl (fun _ => 0))), (q5, .inl (cI, 16, .inl (fun _ => 0))), (q6, .inl (cI, 64, .inl (fun _ => 0))), (q7, .inl (cI, 2, .inl (fun _ => 0))), (q8, .inl (cI, 16, .inl (fun _ => 0))), (q9, .inl (cI, 9, .inl (fun _ => 0))), (q10, .inl (cI, 9, .inl (fun _ => 0))), (q11, .inl (cI, 9, .inl (fun _ => 0))), (q12, .inl (cI, 9, .inl (fun _ => 0))), (q13, .inl (cI, 45, .inl (fun _ => 0)))] : va_W) := hD
  refine lv_aload_n hx hb dX1_init_107 rfl (lv_at hl 0 rfl) ?_
  refine va_get (D := D) (ci := 1) (v := .ref q8) (C := RX1) (T := TX1) (N := 19) hx hb hts m_inT hown hK hP 0 rfl rfl 7 (by decide) (hts _ m_l31) (fun _ h9 => h9) rfl dX1_init_108 ?_
  refine lv_iconst (v := 2) hx hb dX1_init_111 (by decide) ?_
  refine lv_iconst (v := 1) hx hb dX1_init_112 (by decide) ?_
  refine va_iast (i := nI 2) hx hb hK hP hD hS 8 0 rfl rfl (vp_in_nI (show 2 < 16 by decide) (by decide)) dX1_init_113 (fun H locs hP hD hS => ?_)
  rw [nI_clamp (show 2 < 2 ^ 31 by decide)] at hP hD
  have hP : va_P D vwCl ([(h0, .inr (1, [.ref q1, .ref q2, .ref q3, .ref q4, .ref q5, .ref q6, .ref q7, .ref q8, .int 0, .int 0, .ref q9, .ref q10, .ref q11, .ref q12, .ref q13, .int 0, .int 0, .int 0, .int 0])), (q1, .inl (cI, 40, .inl (fun _ => 0))), (q2, .inl (cI, 40, .inl (fun _ => 0))), (q3, .inl (cI, 8, .inl (fun _ => 0))), (q4, .inl (cI, 16, .inl (fun _ => 0))), (q5, .inl (cI, 16, .inl (fun _ => 0))), (q6, .inl (cI, 64, .inl (fun _ => 0))), (q7, .inl (cI, 2, .inl (fun _ => 0))), (q8, .inl (cI, 16, .inl (upd (fun _ => 0) 2 1))), (q9, .inl (cI, 9, .inl (fun _ => 0))), (q10, .inl (cI, 9, .inl (fun _ => 0))), (q11, .inl (cI, 9, .inl (fun _ => 0))), (q12, .inl (cI, 9, .inl (fun _ => 0))), (q13, .inl (cI, 45, .inl (fun _ => 0)))] : va_W) H := hP
  have hD : va_D A ([(h0, .inr (1, [.ref q1, .ref q2, .ref q3, .ref q4, .ref q5, .ref q6, .ref q7, .ref q8, .int 0, .int 0, .ref q9, .ref q10, .ref q11, .ref q12, .ref q13, .int 0, .int 0, .int 0, .int 0])), (q1, .inl (cI, 40, .inl (fun _ => 0))), (q2, .inl (cI, 40, .inl (fun _ => 0))), (q3, .inl (cI, 8, .inl (fun _ => 0))), (q4, .inl (cI, 16, .inl (fun _ => 0))), (q5, .inl (cI, 16, .inl (fun _ => 0))), (q6, .inl (cI, 64, .inl (fun _ => 0))), (q7, .inl (cI, 2, .inl (fun _ => 0))), (q8, .inl (cI, 16, .inl (upd (fun _ => 0) 2 1))), (q9, .inl (cI, 9, .inl (fun _ => 0))), (q10, .inl (cI, 9, .inl (fun _ => 0))), (q11, .inl (cI, 9, .inl (fun _ => 0))), (q12, .inl (cI, 9, .inl (fun _ => 0))), (q13, .inl (cI, 45, .inl (fun _ => 0)))] : va_W) := hD
  refine lv_aload_n hx hb dX1_init_114 rfl (lv_at hl 0 rfl) ?_
  refine va_get (D := D) (ci := 1) (v := .ref q8) (C := RX1) (T := TX1) (N := 19) hx hb hts m_inT hown hK hP 0 rfl rfl 7 (by decide) (hts _ m_l31) (fun _ h9 => h9) rfl dX1_init_115 ?_
  refine lv_iconst (v := 4) hx hb dX1_init_118 (by decide) ?_
  refine lv_iconst (v := 2) hx hb dX1_init_119 (by decide) ?_
  refine va_iast (i := nI 4) hx hb hK hP hD hS 8 0 rfl rfl (vp_in_nI (show 4 < 16 by decide) (by decide)) dX1_init_120 (fun H locs hP hD hS => ?_)
  rw [nI_clamp (show 4 < 2 ^ 31 by decide)] at hP hD
  have hP : va_P D vwCl ([(h0, .inr (1, [.ref q1, .ref q2, .ref q3, .ref q4, .ref q5, .ref q6, .ref q7, .ref q8, .int 0, .int 0, .ref q9, .ref q10, .ref q11, .ref q12, .ref q13, .int 0, .int 0, .int 0, .int 0])), (q1, .inl (cI, 40, .inl (fun _ => 0))), (q2, .inl (cI, 40, .inl (fun _ => 0))), (q3, .inl (cI, 8, .inl (fun _ => 0))), (q4, .inl (cI, 16, .inl (fun _ => 0))), (q5, .inl (cI, 16, .inl (fun _ => 0))), (q6, .inl (cI, 64, .inl (fun _ => 0))), (q7, .inl (cI, 2, .inl (fun _ => 0))), (q8, .inl (cI, 16, .inl (upd (upd (fun _ => 0) 2 1) 4 2))), (q9, .inl (cI, 9, .inl (fun _ => 0))), (q10, .inl (cI, 9, .inl (fun _ => 0))), (q11, .inl (cI, 9, .inl (fun _ => 0))), (q12, .inl (cI, 9, .inl (fun _ => 0))), (q13, .inl (cI, 45, .inl (fun _ => 0)))] : va_W) H := hP
  have hD : va_D A ([(h0, .inr (1, [.ref q1, .ref q2, .ref q3, .ref q4, .ref q5, .ref q6, .ref q7, .ref q8, .int 0, .int 0, .ref q9, .ref q10, .ref q11, .ref q12, .ref q13, .int 0, .int 0, .int 0, .int 0])), (q1, .inl (cI, 40, .inl (fun _ => 0))), (q2, .inl (cI, 40, .inl (fun _ => 0))), (q3, .inl (cI, 8, .inl (fun _ => 0))), (q4, .inl (cI, 16, .inl (fun _ => 0))), (q5, .inl (cI, 16, .inl (fun _ => 0))), (q6, .inl (cI, 64, .inl (fun _ => 0))), (q7, .inl (cI, 2, .inl (fun _ => 0))), (q8, .inl (cI, 16, .inl (upd (upd (fun _ => 0) 2 1) 4 2))), (q9, .inl (cI, 9, .inl (fun _ => 0))), (q10, .inl (cI, 9, .inl (fun _ => 0))), (q11, .inl (cI, 9, .inl (fun _ => 0))), (q12, .inl (cI, 9, .inl (fun _ => 0))), (q13, .inl (cI, 45, .inl (fun _ => 0)))] : va_W) := hD
  refine lv_aload_n hx hb dX1_init_121 rfl (lv_at hl 0 rfl) ?_
  refine va_get (D := D) (ci := 1) (v := .ref q8) (C := RX1) (T := TX1) (N := 19) hx hb hts m_inT hown hK hP 0 rfl rfl 7 (by decide) (hts _ m_l31) (fun _ h9 => h9) rfl dX1_init_122 ?_
  refine lv_iconst (v := 5) hx hb dX1_init_125 (by decide) ?_
  refine lv_bipush (v := 6) hx hb dX1_init_126 (by decide) ?_
  refine va_iast (i := nI 5) hx hb hK hP hD hS 8 0 rfl rfl (vp_in_nI (show 5 < 16 by decide) (by decide)) dX1_init_128 (fun H locs hP hD hS => ?_)
  rw [nI_clamp (show 5 < 2 ^ 31 by decide)] at hP hD
  have hP : va_P D vwCl ([(h0, .inr (1, [.ref q1, .ref q2, .ref q3, .ref q4, .ref q5, .ref q6, .ref q7, .ref q8, .int 0, .int 0, .ref q9, .ref q10, .ref q11, .ref q12, .ref q13, .int 0, .int 0, .int 0, .int 0])), (q1, .inl (cI, 40, .inl (fun _ => 0))), (q2, .inl (cI, 40, .inl (fun _ => 0))), (q3, .inl (cI, 8, .inl (fun _ => 0))), (q4, .inl (cI, 16, .inl (fun _ => 0))), (q5, .inl (cI, 16, .inl (fun _ => 0))), (q6, .inl (cI, 64, .inl (fun _ => 0))), (q7, .inl (cI, 2, .inl (fun _ => 0))), (q8, .inl (cI, 16, .inl (upd (upd (upd (fun _ => 0) 2 1) 4 2) 5 6))), (q9, .inl (cI, 9, .inl (fun _ => 0))), (q10, .inl (cI, 9, .inl (fun _ => 0))), (q11, .inl (cI, 9, .inl (fun _ => 0))), (q12, .inl (cI, 9, .inl (fun _ => 0))), (q13, .inl (cI, 45, .inl (fun _ => 0)))] : va_W) H := hP
  have hD : va_D A ([(h0, .inr (1, [.ref q1, .ref q2, .ref q3, .ref q4, .ref q5, .ref q6, .ref q7, .ref q8, .int 0, .int 0, .ref q9, .ref q10, .ref q11, .ref q12, .ref q13, .int 0, .int 0, .int 0, .int 0])), (q1, .inl (cI, 40, .inl (fun _ => 0))), (q2, .inl (cI, 40, .inl (fun _ => 0))), (q3, .inl (cI, 8, .inl (fun _ => 0))), (q4, .inl (cI, 16, .inl (fun _ => 0))), (q5, .inl (cI, 16, .inl (fun _ => 0))), (q6, .inl (cI, 64, .inl (fun _ => 0))), (q7, .inl (cI, 2, .inl (fun _ => 0))), (q8, .inl (cI, 16, .inl (upd (upd (upd (fun _ => 0) 2 1) 4 2) 5 6))), (q9, .inl (cI, 9, .inl (fun _ => 0))), (q10, .inl (cI, 9, .inl (fun _ => 0))), (q11, .inl (cI, 9, .inl (fun _ => 0))), (q12, .inl (cI, 9, .inl (fun _ => 0))), (q13, .inl (cI, 45, .inl (fun _ => 0)))] : va_W) := hD
  refine lv_aload_n hx hb dX1_init_129 rfl (lv_at hl 0 rfl) ?_
  refine va_get (D := D) (ci := 1) (v := .ref q8) (C := RX1) (T := TX1) (N := 19) hx hb hts m_inT hown hK hP 0 rfl rfl 7 (by decide) (hts _ m_l31) (fun _ h9 => h9) rfl dX1_init_130 ?_
  refine lv_bipush (v := 8) hx hb dX1_init_133 (by decide) ?_
  refine lv_iconst (v := 4) hx hb dX1_init_135 (by decide) ?_
  refine va_iast (i := nI 8) hx hb hK hP hD hS 8 0 rfl rfl (vp_in_nI (show 8 < 16 by decide) (by decide)) dX1_init_136 (fun H locs hP hD hS => ?_)
  rw [nI_clamp (show 8 < 2 ^ 31 by decide)] at hP hD
  have hP : va_P D vwCl ([(h0, .inr (1, [.ref q1, .ref q2, .ref q3, .ref q4, .ref q5, .ref q6, .ref q7, .ref q8, .int 0, .int 0, .ref q9, .ref q10, .ref q11, .ref q12, .ref q13, .int 0, .int 0, .int 0, .int 0])), (q1, .inl (cI, 40, .inl (fun _ => 0))), (q2, .inl (cI, 40, .inl (fun _ => 0))), (q3, .inl (cI, 8, .inl (fun _ => 0))), (q4, .inl (cI, 16, .inl (fun _ => 0))), (q5, .inl (cI, 16, .inl (fun _ => 0))), (q6, .inl (cI, 64, .inl (fun _ => 0))), (q7, .inl (cI, 2, .inl (fun _ => 0))), (q8, .inl (cI, 16, .inl (upd (upd (upd (upd (fun _ => 0) 2 1) 4 2) 5 6) 8 4))), (q9, .inl (cI, 9, .inl (fun _ => 0))), (q10, .inl (cI, 9, .inl (fun _ => 0))), (q11, .inl (cI, 9, .inl (fun _ => 0))), (q12, .inl (cI, 9, .inl (fun _ => 0))), (q13, .inl (cI, 45, .inl (fun _ => 0)))] : va_W) H := hP
  have hD : va_D A ([(h0, .inr (1, [.ref q1, .ref q2, .ref q3, .ref q4, .ref q5, .ref q6, .ref q7, .ref q8, .int 0, .int 0, .ref q9, .ref q10, .ref q11, .ref q12, .ref q13, .int 0, .int 0, .int 0, .int 0])), (q1, .inl (cI, 40, .inl (fun _ => 0))), (q2, .inl (cI, 40, .inl (fun _ => 0))), (q3, .inl (cI, 8, .inl (fun _ => 0))), (q4, .inl (cI, 16, .inl (fun _ => 0))), (q5, .inl (cI, 16, .inl (fun _ => 0))), (q6, .inl (cI, 64, .inl (fun _ => 0))), (q7, .inl (cI, 2, .inl (fun _ => 0))), (q8, .inl (cI, 16, .inl (upd (upd (upd (upd (fun _ => 0) 2 1) 4 2) 5 6) 8 4))), (q9, .inl (cI, 9, .inl (fun _ => 0))), (q10, .inl (cI, 9, .inl (fun _ => 0))), (q11, .inl (cI, 9, .inl (fun _ => 0))), (q12, .inl (cI, 9, .inl (fun _ => 0))), (q13, .inl (cI, 45, .inl (fun _ => 0)))] : va_W) := hD
  refine lv_aload_n hx hb dX1_init_137 rfl (lv_at hl 0 rfl) ?_
  refine va_get (D := D) (ci := 1) (v := .ref q8) (C := RX1) (T := TX1) (N := 19) hx hb hts m_inT hown hK hP 0 rfl rfl 7 (by decide) (hts _ m_l31) (fun _ h9 => h9) rfl dX1_init_138 ?_
  refine lv_bipush (v := 9) hx hb dX1_init_141 (by decide) ?_
  refine lv_bipush (v := 6) hx hb dX1_init_143 (by decide) ?_
  refine va_iast (i := nI 9) hx hb hK hP hD hS 8 0 rfl rfl (vp_in_nI (show 9 < 16 by decide) (by decide)) dX1_init_145 (fun H locs hP hD hS => ?_)
  rw [nI_clamp (show 9 < 2 ^ 31 by decide)] at hP hD
  have hP : va_P D vwCl ([(h0, .inr (1, [.ref q1, .ref q2, .ref q3, .ref q4, .ref q5, .ref q6, .ref q7, .ref q8, .int 0, .int 0, .ref q9, .ref q10, .ref q11, .ref q12, .ref q13, .int 0, .int 0, .int 0, .int 0])), (q1, .inl (cI, 40, .inl (fun _ => 0))), (q2, .inl (cI, 40, .inl (fun _ => 0))), (q3, .inl (cI, 8, .inl (fun _ => 0))), (q4, .inl (cI, 16, .inl (fun _ => 0))), (q5, .inl (cI, 16, .inl (fun _ => 0))), (q6, .inl (cI, 64, .inl (fun _ => 0))), (q7, .inl (cI, 2, .inl (fun _ => 0))), (q8, .inl (cI, 16, .inl (upd (upd (upd (upd (upd (fun _ => 0) 2 1) 4 2) 5 6) 8 4) 9 6))), (q9, .inl (cI, 9, .inl (fun _ => 0))), (q10, .inl (cI, 9, .inl (fun _ => 0))), (q11, .inl (cI, 9, .inl (fun _ => 0))), (q12, .inl (cI, 9, .inl (fun _ => 0))), (q13, .inl (cI, 45, .inl (fun _ => 0)))] : va_W) H := hP
  have hD : va_D A ([(h0, .inr (1, [.ref q1, .ref q2, .ref q3, .ref q4, .ref q5, .ref q6, .ref q7, .ref q8, .int 0, .int 0, .ref q9, .ref q10, .ref q11, .ref q12, .ref q13, .int 0, .int 0, .int 0, .int 0])), (q1, .inl (cI, 40, .inl (fun _ => 0))), (q2, .inl (cI, 40, .inl (fun _ => 0))), (q3, .inl (cI, 8, .inl (fun _ => 0))), (q4, .inl (cI, 16, .inl (fun _ => 0))), (q5, .inl (cI, 16, .inl (fun _ => 0))), (q6, .inl (cI, 64, .inl (fun _ => 0))), (q7, .inl (cI, 2, .inl (fun _ => 0))), (q8, .inl (cI, 16, .inl (upd (upd (upd (upd (upd (fun _ => 0) 2 1) 4 2) 5 6) 8 4) 9 6))), (q9, .inl (cI, 9, .inl (fun _ => 0))), (q10, .inl (cI, 9, .inl (fun _ => 0))), (q11, .inl (cI, 9, .inl (fun _ => 0))), (q12, .inl (cI, 9, .inl (fun _ => 0))), (q13, .inl (cI, 45, .inl (fun _ => 0)))] : va_W) := hD
  rw [k_mw] at hP hD
  exact W.vret hx hb hr (fun t ht hW => ⟨⟨(k_h h0 q1 q2 q3 q4 q5 q6 q7 q8 q9 q10 q11 q12 q13), rfl, rfl, by rw [ht]; exact hP, hD⟩, hS.F ht⟩) hS.2.2 dX1_init_146
