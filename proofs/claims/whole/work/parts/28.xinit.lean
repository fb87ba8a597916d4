set_option maxHeartbeats 4000000 in
set_option maxRecDepth 100000 in
theorem cx_init (l : Launch) (D : va_G) (cI cJ : ClassId) (h0 sz : Nat) : Met l yX0_init (.code yX0_init cX0_init 1 none :: lw_g) { frames := 1, cells := 29, slots := 208, locals := 12 } (va_Pc [.ref h0] (fun U => U.heap.size = sz ∧ va_P D vwCl [(h0, .inr (0, [.null, .null, .null, .null, .null, .null, .null, .int 0, .int 0]))] U.heap ∧ va_K D vwCl [(cI, .int), (cJ, .array .int)] U ∧ va_D (fun _ => True) [(h0, .inr (0, [.null, .null, .null, .null, .null, .null, .null, .int 0, .int 0]))] ∧ (Cond.arrayOver (.array .int)).before #[] U = true)) (va_Qv (fun g : Nat → Nat => g 0 = h0) (fun g t => va_P D vwCl (fw 30 g (x_E cI cJ g x_0)) t.heap ∧ va_D (va_A [(h0, .inr (0, [.null, .null, .null, .null, .null, .null, .null, .int 0, .int 0]))] sz) (fw 30 g (x_E cI cJ g x_0))) (va_A [(h0, .inr (0, [.null, .null, .null, .null, .null, .null, .null, .int 0, .int 0]))] sz)) 29 208 (va_A [(h0, .inr (0, [.null, .null, .null, .null, .null, .null, .null, .int 0, .int 0]))] sz) := by
  refine Met.ofW (cc := cX0_init) (maxL := 1) (ret := none) rfl rfl ?_
  intro p e s m args below meth c s₁ B hml hv
  obtain ⟨rfl, hsz, hP, hK, hD0, hO⟩ := hv
  have hx := B.exec
  have hb := B.bytes
  have hr := B.returns
  have hts0 := atoms_spec (ws := .code yX0_init cX0_init 1 none :: lw_g) B.pre
  have hts := fun w h => hts0 w (List.mem_cons_of_mem _ h)
  have hown : s.vm.findClass RX0 = some m.cls := findClass_of_methodNamed B.named
  have hlocks := B.notSynchronized
  have hin : meth.name = "<init>" := (name_of_methodNamed B.named B.method).1
  subst hsz
  have hD := hD0.self (sz := s.heap.size)
  generalize hAe : va_A [(h0, .inr (0, [.null, .null, .null, .null, .null, .null, .null, .int 0, .int 0]))] s.heap.size = A at hD ⊢
  have hA : ∀ q : Nat, s.heap.size ≤ q → A q := fun q h => by rw [← hAe]; exact Or.inr h
  have hS : va_S A s.heap s.heap [] := va_S.rf
  have hP : va_P D vwCl [(h0, .inr (0, [.null, .null, .null, .null, .null, .null, .null, .int 0, .int 0]))] s.heap := hP
  have hl := lv_entry ([.ref h0]) (n := 1) (Nat.le_of_ble_eq_true rfl)
  rw [lg_entry_eq]
  generalize (lg_sl ([.ref h0]) ++ List.replicate (1 - (lg_sl ([.ref h0])).length) Slot.unset).toArray = ls at hl ⊢
  have hl : lv_has ls 1 [(0, .ref h0)] := hl
  refine lv_aload_n hx hb dX0_init_0 rfl (lv_at hl 0 rfl) ?_
  refine W.objInit hx hb hown (hts _ x_oi1) (hts _ k_oi2) (hts _ k_oi3) rfl (by rw [hml]; exact hl.1) rfl dX0_init_1 (Nat.le_of_ble_eq_true rfl) (Nat.le_of_ble_eq_true rfl) ?_
  refine W.eq (g2 := F0 m 4 ls []) rfl ?_
  have hO : (Cond.arrayOver (.array .int)).before #[Value.ref h0] s = true := hO
  refine lv_aload_n hx hb dX0_init_4 rfl (lv_at hl 0 rfl) ?_
  refine lv_bipush (v := 8) hx hb dX0_init_5 (by decide) ?_
  refine lv_iconst (v := 5) hx hb dX0_init_7 (by decide) ?_
  refine k_mna hx hb hown (hts _ x_cl9) hO (hts _ k_ac) hK hP hD hS hA 8 5 rfl rfl (by decide) (by decide) (Nat.le_of_ble_eq_true rfl) (Nat.le_of_ble_eq_true rfl) dX0_init_8 (fun q1 r1 H hP hD hS => ?_)
  refine W.widen (k := 9) (n := 48) (Nat.le_of_ble_eq_true rfl) (Nat.le_of_ble_eq_true rfl) ?_
  have hP : va_P D vwCl ((h0, .inr (0, [.null, .null, .null, .null, .null, .null, .null, .int 0, .int 0])) :: ((([] : va_W) ++ [(q1, .inl (cJ, 8, .inr (.inr (.inr (.inr (fun i => if i < 8 then some (r1 i) else none))))))]) ++ (List.range 8).map (fun i => (r1 i, .inl (cI, 5, .inl (fun _ => 0))))) : va_W) H := hP
  have hD : va_D A ((h0, .inr (0, [.null, .null, .null, .null, .null, .null, .null, .int 0, .int 0])) :: ((([] : va_W) ++ [(q1, .inl (cJ, 8, .inr (.inr (.inr (.inr (fun i => if i < 8 then some (r1 i) else none))))))]) ++ (List.range 8).map (fun i => (r1 i, .inl (cI, 5, .inl (fun _ => 0))))) : va_W) := hD
  generalize hT1 : ((([] : va_W) ++ [(q1, .inl (cJ, 8, .inr (.inr (.inr (.inr (fun i => if i < 8 then some (r1 i) else none))))))]) ++ (List.range 8).map (fun i => (r1 i, .inl (cI, 5, .inl (fun _ => 0))))) = T1 at hP hD
  refine va_putF (D := D) (ci := 0) (v := .ref q1) (ty := .array (.array .int)) (C := RX0) (T := TX0) (N := 9) hx hb hts x_inT tyX0 x_tyT x_nmT hown hK hP hD hS 0 rfl rfl 0 (by decide) (hts _ x_l11) (fun _ h9 => h9) rfl hin rfl (by decide +kernel) rfl rfl (Nat.le_of_ble_eq_true rfl) dX0_init_12 (fun H locs hP hD hS => ?_)
  have hP : va_P D vwCl ((h0, .inr (0, [.ref q1, .null, .null, .null, .null, .null, .null, .int 0, .int 0])) :: T1 : va_W) H := hP
  have hD : va_D A ((h0, .inr (0, [.ref q1, .null, .null, .null, .null, .null, .null, .int 0, .int 0])) :: T1 : va_W) := hD
  refine lv_aload_n hx hb dX0_init_15 rfl (lv_at hl 0 rfl) ?_
  refine lv_bipush (v := 8) hx hb dX0_init_16 (by decide) ?_
  refine lv_iconst (v := 5) hx hb dX0_init_18 (by decide) ?_
  refine k_mna hx hb hown (hts _ x_cl9) hO (hts _ k_ac) hK hP hD hS hA 8 5 rfl rfl (by decide) (by decide) (Nat.le_of_ble_eq_true rfl) (Nat.le_of_ble_eq_true rfl) dX0_init_19 (fun q2 r2 H hP hD hS => ?_)
  refine W.widen (k := 18) (n := 96) (Nat.le_of_ble_eq_true rfl) (Nat.le_of_ble_eq_true rfl) ?_
  have hP : va_P D vwCl ((h0, .inr (0, [.ref q1, .null, .null, .null, .null, .null, .null, .int 0, .int 0])) :: ((T1 ++ [(q2, .inl (cJ, 8, .inr (.inr (.inr (.inr (fun i => if i < 8 then some (r2 i) else none))))))]) ++ (List.range 8).map (fun i => (r2 i, .inl (cI, 5, .inl (fun _ => 0))))) : va_W) H := hP
  have hD : va_D A ((h0, .inr (0, [.ref q1, .null, .null, .null, .null, .null, .null, .int 0, .int 0])) :: ((T1 ++ [(q2, .inl (cJ, 8, .inr (.inr (.inr (.inr (fun i => if i < 8 then some (r2 i) else none))))))]) ++ (List.range 8).map (fun i => (r2 i, .inl (cI, 5, .inl (fun _ => 0))))) : va_W) := hD
  generalize hT2 : ((T1 ++ [(q2, .inl (cJ, 8, .inr (.inr (.inr (.inr (fun i => if i < 8 then some (r2 i) else none))))))]) ++ (List.range 8).map (fun i => (r2 i, .inl (cI, 5, .inl (fun _ => 0))))) = T2 at hP hD
  refine va_putF (D := D) (ci := 0) (v := .ref q2) (ty := .array (.array .int)) (C := RX0) (T := TX0) (N := 9) hx hb hts x_inT tyX0 x_tyT x_nmT hown hK hP hD hS 0 rfl rfl 1 (by decide) (hts _ x_l14) (fun _ h9 => h9) rfl hin rfl (by decide +kernel) rfl rfl (Nat.le_of_ble_eq_true rfl) dX0_init_23 (fun H locs hP hD hS => ?_)
  have hP : va_P D vwCl ((h0, .inr (0, [.ref q1, .ref q2, .null, .null, .null, .null, .null, .int 0, .int 0])) :: T2 : va_W) H := hP
  have hD : va_D A ((h0, .inr (0, [.ref q1, .ref q2, .null, .null, .null, .null, .null, .int 0, .int 0])) :: T2 : va_W) := hD
  refine lv_aload_n hx hb dX0_init_26 rfl (lv_at hl 0 rfl) ?_
  refine lv_bipush (v := 8) hx hb dX0_init_27 (by decide) ?_
  refine k_newa hx hb (hts _ k_ac) hK rfl hP hD hS hA 8 rfl (by decide) (Nat.le_of_ble_eq_true rfl) (Nat.le_of_ble_eq_true rfl) dX0_init_29 (fun q3 H hP hD hS => ?_)
  refine W.widen (k := 19) (n := 104) (Nat.le_of_ble_eq_true rfl) (Nat.le_of_ble_eq_true rfl) ?_
  have hP : va_P D vwCl ((h0, .inr (0, [.ref q1, .ref q2, .null, .null, .null, .null, .null, .int 0, .int 0])) :: (T2 ++ [(q3, .inl (cI, 8, .inl (fun _ => 0)))]) : va_W) H := hP
  have hD : va_D A ((h0, .inr (0, [.ref q1, .ref q2, .null, .null, .null, .null, .null, .int 0, .int 0])) :: (T2 ++ [(q3, .inl (cI, 8, .inl (fun _ => 0)))]) : va_W) := hD
  generalize hT3 : (T2 ++ [(q3, .inl (cI, 8, .inl (fun _ => 0)))]) = T3 at hP hD
  refine va_putF (D := D) (ci := 0) (v := .ref q3) (ty := .array .int) (C := RX0) (T := TX0) (N := 9) hx hb hts x_inT tyX0 x_tyT x_nmT hown hK hP hD hS 0 rfl rfl 2 (by decide) (hts _ x_l17) (fun _ h9 => h9) rfl hin rfl (by decide +kernel) rfl rfl (Nat.le_of_ble_eq_true rfl) dX0_init_31 (fun H locs hP hD hS => ?_)
  have hP : va_P D vwCl ((h0, .inr (0, [.ref q1, .ref q2, .ref q3, .null, .null, .null, .null, .int 0, .int 0])) :: T3 : va_W) H := hP
  have hD : va_D A ((h0, .inr (0, [.ref q1, .ref q2, .ref q3, .null, .null, .null, .null, .int 0, .int 0])) :: T3 : va_W) := hD
  refine lv_aload_n hx hb dX0_init_34 rfl (lv_at hl 0 rfl) ?_
  refine lv_iconst (v := 2) hx hb dX0_init_35 (by decide) ?_
  refine lv_bipush (v := 8) hx hb dX0_init_36 (by decide) ?_
  refine k_mna hx hb hown (hts _ x_cl9) hO (hts _ k_ac) hK hP hD hS hA 2 8 rfl rfl (by decide) (by decide) (Nat.le_of_ble_eq_true rfl) (Nat.le_of_ble_eq_true rfl) dX0_init_38 (fun q4 r4 H hP hD hS => ?_)
  refine W.widen (k := 22) (n := 122) (Nat.le_of_ble_eq_true rfl) (Nat.le_of_ble_eq_true rfl) ?_
  have hP : va_P D vwCl ((h0, .inr (0, [.ref q1, .ref q2, .ref q3, .null, .null, .null, .null, .int 0, .int 0])) :: ((T3 ++ [(q4, .inl (cJ, 2, .inr (.inr (.inr (.inr (fun i => if i < 2 then some (r4 i) else none))))))]) ++ (List.range 2).map (fun i => (r4 i, .inl (cI, 8, .inl (fun _ => 0))))) : va_W) H := hP
  have hD : va_D A ((h0, .inr (0, [.ref q1, .ref q2, .ref q3, .null, .null, .null, .null, .int 0, .int 0])) :: ((T3 ++ [(q4, .inl (cJ, 2, .inr (.inr (.inr (.inr (fun i => if i < 2 then some (r4 i) else none))))))]) ++ (List.range 2).map (fun i => (r4 i, .inl (cI, 8, .inl (fun _ => 0))))) : va_W) := hD
  generalize hT4 : ((T3 ++ [(q4, .inl (cJ, 2, .inr (.inr (.inr (.inr (fun i => if i < 2 then some (r4 i) else none))))))]) ++ (List.range 2).map (fun i => (r4 i, .inl (cI, 8, .inl (fun _ => 0))))) = T4 at hP hD
  refine va_putF (D := D) (ci := 0) (v := .ref q4) (ty := .array (.array .int)) (C := RX0) (T := TX0) (N := 9) hx hb hts x_inT tyX0 x_tyT x_nmT hown hK hP hD hS 0 rfl rfl 3 (by decide) (hts _ x_l21) (fun _ h9 => h9) rfl hin rfl (by decide +kernel) rfl rfl (Nat.le_of_ble_eq_true rfl) dX0_init_42 (fun H locs hP hD hS => ?_)
  have hP : va_P D vwCl ((h0, .inr (0, [.ref q1, .ref q2, .ref q3, .ref q4, .null, .null, .null, .int 0, .int 0])) :: T4 : va_W) H := hP
  have hD : va_D A ((h0, .inr (0, [.ref q1, .ref q2, .ref q3, .ref q4, .null, .null, .null, .int 0, .int 0])) :: T4 : va_W) := hD
  refine lv_aload_n hx hb dX0_init_45 rfl (lv_at hl 0 rfl) ?_
  refine lv_iconst (v := 2) hx hb dX0_init_46 (by decide) ?_
  refine lv_bipush (v := 8) hx hb dX0_init_47 (by decide) ?_
  refine k_mna hx hb hown (hts _ x_cl9) hO (hts _ k_ac) hK hP hD hS hA 2 8 rfl rfl (by decide) (by decide) (Nat.le_of_ble_eq_true rfl) (Nat.le_of_ble_eq_true rfl) dX0_init_49 (fun q5 r5 H hP hD hS => ?_)
  refine W.widen (k := 25) (n := 140) (Nat.le_of_ble_eq_true rfl) (Nat.le_of_ble_eq_true rfl) ?_
  have hP : va_P D vwCl ((h0, .inr (0, [.ref q1, .ref q2, .ref q3, .ref q4, .null, .null, .null, .int 0, .int 0])) :: ((T4 ++ [(q5, .inl (cJ, 2, .inr (.inr (.inr (.inr (fun i => if i < 2 then some (r5 i) else none))))))]) ++ (List.range 2).map (fun i => (r5 i, .inl (cI, 8, .inl (fun _ => 0))))) : va_W) H := hP
  have hD : va_D A ((h0, .inr (0, [.ref q1, .ref q2, .ref q3, .ref q4, .null, .null, .null, .int 0, .int 0])) :: ((T4 ++ [(q5, .inl (cJ, 2, .inr (.inr (.inr (.inr (fun i => if i < 2 then some (r5 i) else none))))))]) ++ (List.range 2).map (fun i => (r5 i, .inl (cI, 8, .inl (fun _ => 0))))) : va_W) := hD
  generalize hT5 : ((T4 ++ [(q5, .inl (cJ, 2, .inr (.inr (.inr (.inr (fun i => if i < 2 then some (r5 i) else none))))))]) ++ (List.range 2).map (fun i => (r5 i, .inl (cI, 8, .inl (fun _ => 0))))) = T5 at hP hD
  refine va_putF (D := D) (ci := 0) (v := .ref q5) (ty := .array (.array .int)) (C := RX0) (T := TX0) (N := 9) hx hb hts x_inT tyX0 x_tyT x_nmT hown hK hP hD hS 0 rfl rfl 4 (by decide) (hts _ x_l24) (fun _ h9 => h9) rfl hin rfl (by decide +kernel) rfl rfl (Nat.le_of_ble_eq_true rfl) dX0_init_53 (fun H locs hP hD hS => ?_)
  have hP : va_P D vwCl ((h0, .inr (0, [.ref q1, .ref q2, .ref q3, .ref q4, .ref q5, .null, .null, .int 0, .int 0])) :: T5 : va_W) H := hP
  have hD : va_D A ((h0, .inr (0, [.ref q1, .ref q2, .ref q3, .ref q4, .ref q5, .null, .null, .int 0, .int 0])) :: T5 : va_W) := hD
  refine lv_aload_n hx hb dX0_init_56 rfl (lv_at hl 0 rfl) ?_
  refine lv_iconst (v := 2) hx hb dX0_init_57 (by decide) ?_
  refine lv_bipush (v := 32) hx hb dX0_init_58 (by decide) ?_
  refine k_mna hx hb hown (hts _ x_cl9) hO (hts _ k_ac) hK hP hD hS hA 2 32 rfl rfl (by decide) (by decide) (Nat.le_of_ble_eq_true rfl) (Nat.le_of_ble_eq_true rfl) dX0_init_60 (fun q6 r6 H hP hD hS => ?_)
  refine W.widen (k := 28) (n := 206) (Nat.le_of_ble_eq_true rfl) (Nat.le_of_ble_eq_true rfl) ?_
  have hP : va_P D vwCl ((h0, .inr (0, [.ref q1, .ref q2, .ref q3, .ref q4, .ref q5, .null, .null, .int 0, .int 0])) :: ((T5 ++ [(q6, .inl (cJ, 2, .inr (.inr (.inr (.inr (fun i => if i < 2 then some (r6 i) else none))))))]) ++ (List.range 2).map (fun i => (r6 i, .inl (cI, 32, .inl (fun _ => 0))))) : va_W) H := hP
  have hD : va_D A ((h0, .inr (0, [.ref q1, .ref q2, .ref q3, .ref q4, .ref q5, .null, .null, .int 0, .int 0])) :: ((T5 ++ [(q6, .inl (cJ, 2, .inr (.inr (.inr (.inr (fun i => if i < 2 then some (r6 i) else none))))))]) ++ (List.range 2).map (fun i => (r6 i, .inl (cI, 32, .inl (fun _ => 0))))) : va_W) := hD
  generalize hT6 : ((T5 ++ [(q6, .inl (cJ, 2, .inr (.inr (.inr (.inr (fun i => if i < 2 then some (r6 i) else none))))))]) ++ (List.range 2).map (fun i => (r6 i, .inl (cI, 32, .inl (fun _ => 0))))) = T6 at hP hD
  refine va_putF (D := D) (ci := 0) (v := .ref q6) (ty := .array (.array .int)) (C := RX0) (T := TX0) (N := 9) hx hb hts x_inT tyX0 x_tyT x_nmT hown hK hP hD hS 0 rfl rfl 5 (by decide) (hts _ x_l27) (fun _ h9 => h9) rfl hin rfl (by decide +kernel) rfl rfl (Nat.le_of_ble_eq_true rfl) dX0_init_64 (fun H locs hP hD hS => ?_)
  have hP : va_P D vwCl ((h0, .inr (0, [.ref q1, .ref q2, .ref q3, .ref q4, .ref q5, .ref q6, .null, .int 0, .int 0])) :: T6 : va_W) H := hP
  have hD : va_D A ((h0, .inr (0, [.ref q1, .ref q2, .ref q3, .ref q4, .ref q5, .ref q6, .null, .int 0, .int 0])) :: T6 : va_W) := hD
  refine lv_aload_n hx hb dX0_init_67 rfl (lv_at hl 0 rfl) ?_
  refine lv_iconst (v := 2) hx hb dX0_init_68 (by decide) ?_
  refine k_newa hx hb (hts _ k_ac) hK rfl hP hD hS hA 2 rfl (by decide) (Nat.le_of_ble_eq_true rfl) (Nat.le_of_ble_eq_true rfl) dX0_init_69 (fun q7 H hP hD hS => ?_)
  refine W.widen (k := 29) (n := 208) (Nat.le_of_ble_eq_true rfl) (Nat.le_of_ble_eq_true rfl) ?_
  have hP : va_P D vwCl ((h0, .inr (0, [.ref q1, .ref q2, .ref q3, .ref q4, .ref q5, .ref q6, .null, .int 0, .int 0])) :: (T6 ++ [(q7, .inl (cI, 2, .inl (fun _ => 0)))]) : va_W) H := hP
  have hD : va_D A ((h0, .inr (0, [.ref q1, .ref q2, .ref q3, .ref q4, .ref q5, .ref q6, .null, .int 0, .int 0])) :: (T6 ++ [(q7, .inl (cI, 2, .inl (fun _ => 0)))]) : va_W) := hD
  generalize hT7 : (T6 ++ [(q7, .inl (cI, 2, .inl (fun _ => 0)))]) = T7 at hP hD
  refine va_putF (D := D) (ci := 0) (v := .ref q7) (ty := .array .int) (C := RX0) (T := TX0) (N := 9) hx hb hts x_inT tyX0 x_tyT x_nmT hown hK hP hD hS 0 rfl rfl 6 (by decide) (hts _ x_l30) (fun _ h9 => h9) rfl hin rfl (by decide +kernel) rfl rfl (Nat.le_of_ble_eq_true rfl) dX0_init_71 (fun H locs hP hD hS => ?_)
  have hP : va_P D vwCl ((h0, .inr (0, [.ref q1, .ref q2, .ref q3, .ref q4, .ref q5, .ref q6, .ref q7, .int 0, .int 0])) :: T7 : va_W) H := hP
  have hD : va_D A ((h0, .inr (0, [.ref q1, .ref q2, .ref q3, .ref q4, .ref q5, .ref q6, .ref q7, .int 0, .int 0])) :: T7 : va_W) := hD
  refine lv_aload_n hx hb dX0_init_74 rfl (lv_at hl 0 rfl) ?_
  refine lv_iconst (v := 0) hx hb dX0_init_75 (by decide) ?_
  refine va_put (D := D) (ci := 0) (v := .int 0) (ty := .int) (C := RX0) (T := TX0) (N := 9) hx hb hts x_inT tyX0 x_tyT x_nmT hown hK hP hD hS 0 rfl rfl 7 (by decide) (hts _ x_l33) (fun _ h9 => h9) rfl (by decide +kernel) rfl rfl (Nat.le_of_ble_eq_true rfl) dX0_init_76 (fun H locs hP hD hS => ?_)
  have hP : va_P D vwCl ((h0, .inr (0, [.ref q1, .ref q2, .ref q3, .ref q4, .ref q5, .ref q6, .ref q7, .int 0, .int 0])) :: T7 : va_W) H := hP
  have hD : va_D A ((h0, .inr (0, [.ref q1, .ref q2, .ref q3, .ref q4, .ref q5, .ref q6, .ref q7, .int 0, .int 0])) :: T7 : va_W) := hD
  refine lv_aload_n hx hb dX0_init_79 rfl (lv_at hl 0 rfl) ?_
  refine lv_iconst (v := 0) hx hb dX0_init_80 (by decide) ?_
  refine va_put (D := D) (ci := 0) (v := .int 0) (ty := .int) (C := RX0) (T := TX0) (N := 9) hx hb hts x_inT tyX0 x_tyT x_nmT hown hK hP hD hS 0 rfl rfl 8 (by decide) (hts _ x_l37) (fun _ h9 => h9) rfl (by decide +kernel) rfl rfl (Nat.le_of_ble_eq_true rfl) dX0_init_81 (fun H locs hP hD hS => ?_)
  have hP : va_P D vwCl ((h0, .inr (0, [.ref q1, .ref q2, .ref q3, .ref q4, .ref q5, .ref q6, .ref q7, .int 0, .int 0])) :: T7 : va_W) H := hP
  have hD : va_D A ((h0, .inr (0, [.ref q1, .ref q2, .ref q3, .ref q4, .ref q5, .ref q6, .ref q7, .int 0, .int 0])) :: T7 : va_W) := hD
  subst hT1
  subst hT2
  subst hT3
  subst hT4
  subst hT5
  subst hT6
  subst hT7
  rw [k_xw] at hP hD
  exact W.vret hx hb hr (fun t ht hW => ⟨⟨(k_g h0 q1 q2 q3 q4 q5 q6 q7 r1 r2 r4 r5 r6), rfl, rfl, by rw [ht]; exact hP, hD⟩, hS.F ht⟩) hS.2.2 dX0_init_84
