theorem k_oi2 : Cond.instanceMethod objectInit ∈ lw_g := lw_gm (by decide +kernel) rfl
theorem k_oi3 : Cond.code objectInit ⟨#[0xb1]⟩ 1 none ∈ lw_g := lw_gm (List.mem_of_getElem? (i := 27) rfl) rfl
theorem x_oi1 : Cond.methodLink RX0 1 objectInit ∈ lw_g := lw_gm (by decide +kernel) rfl
theorem m_oi1 : Cond.methodLink RX1 1 objectInit ∈ lw_g := lw_gm (by decide +kernel) rfl
theorem k_ac : Cond.arrayClass .int ∈ lw_g := lw_gm (by decide +kernel) rfl
theorem x_cl9 : Cond.classLink RX0 9 ("[" ++ (FieldType.array .int).toString) ∈ lw_g := lw_gm (by decide +kernel) rfl

def k_g (h0 q1 q2 q3 q4 q5 q6 q7 : Nat) (r1 r2 r4 r5 r6 : Nat → Nat) : Nat → Nat := fun k => [h0, q1, r1 0, r1 1, r1 2, r1 3, r1 4, r1 5, r1 6, r1 7, q2, r2 0, r2 1, r2 2, r2 3, r2 4, r2 5, r2 6, r2 7, q3, q4, r4 0, r4 1, q5, r5 0, r5 1, q6, r6 0, r6 1, q7].getD k 0

set_option maxHeartbeats 4000000 in
set_option maxRecDepth 100000 in
theorem k_xw (cI cJ : ClassId) (h0 q1 q2 q3 q4 q5 q6 q7 : Nat) (r1 r2 r4 r5 r6 : Nat → Nat) : ((h0, .inr (0, [.ref q1, .ref q2, .ref q3, .ref q4, .ref q5, .ref q6, .ref q7, .int 0, .int 0])) :: ((((((((((((([] : va_W) ++ [(q1, .inl (cJ, 8, .inr (.inr (.inr (.inr (fun i => if i < 8 then some (r1 i) else none))))))]) ++ (List.range 8).map (fun i => (r1 i, .inl (cI, 5, .inl (fun _ => 0))))) ++ [(q2, .inl (cJ, 8, .inr (.inr (.inr (.inr (fun i => if i < 8 then some (r2 i) else none))))))]) ++ (List.range 8).map (fun i => (r2 i, .inl (cI, 5, .inl (fun _ => 0))))) ++ [(q3, .inl (cI, 8, .inl (fun _ => 0)))]) ++ [(q4, .inl (cJ, 2, .inr (.inr (.inr (.inr (fun i => if i < 2 then some (r4 i) else none))))))]) ++ (List.range 2).map (fun i => (r4 i, .inl (cI, 8, .inl (fun _ => 0))))) ++ [(q5, .inl (cJ, 2, .inr (.inr (.inr (.inr (fun i => if i < 2 then some (r5 i) else none))))))]) ++ (List.range 2).map (fun i => (r5 i, .inl (cI, 8, .inl (fun _ => 0))))) ++ [(q6, .inl (cJ, 2, .inr (.inr (.inr (.inr (fun i => if i < 2 then some (r6 i) else none))))))]) ++ (List.range 2).map (fun i => (r6 i, .inl (cI, 32, .inl (fun _ => 0))))) ++ [(q7, .inl (cI, 2, .inl (fun _ => 0)))]) : va_W) = fw 30 (k_g h0 q1 q2 q3 q4 q5 q6 q7 r1 r2 r4 r5 r6) (x_E cI cJ (k_g h0 q1 q2 q3 q4 q5 q6 q7 r1 r2 r4 r5 r6) x_0) := by
  have e : ((h0, .inr (0, [.ref q1, .ref q2, .ref q3, .ref q4, .ref q5, .ref q6, .ref q7, .int 0, .int 0])) :: ((((((((((((([] : va_W) ++ [(q1, .inl (cJ, 8, .inr (.inr (.inr (.inr (fun i => if i < 8 then some (r1 i) else none))))))]) ++ (List.range 8).map (fun i => (r1 i, .inl (cI, 5, .inl (fun _ => 0))))) ++ [(q2, .inl (cJ, 8, .inr (.inr (.inr (.inr (fun i => if i < 8 then some (r2 i) else none))))))]) ++ (List.range 8).map (fun i => (r2 i, .inl (cI, 5, .inl (fun _ => 0))))) ++ [(q3, .inl (cI, 8, .inl (fun _ => 0)))]) ++ [(q4, .inl (cJ, 2, .inr (.inr (.inr (.inr (fun i => if i < 2 then some (r4 i) else none))))))]) ++ (List.range 2).map (fun i => (r4 i, .inl (cI, 8, .inl (fun _ => 0))))) ++ [(q5, .inl (cJ, 2, .inr (.inr (.inr (.inr (fun i => if i < 2 then some (r5 i) else none))))))]) ++ (List.range 2).map (fun i => (r5 i, .inl (cI, 8, .inl (fun _ => 0))))) ++ [(q6, .inl (cJ, 2, .inr (.inr (.inr (.inr (fun i => if i < 2 then some (r6 i) else none))))))]) ++ (List.range 2).map (fun i => (r6 i, .inl (cI, 32, .inl (fun _ => 0))))) ++ [(q7, .inl (cI, 2, .inl (fun _ => 0)))]) : va_W) = ([(h0, .inr (0, [.ref q1, .ref q2, .ref q3, .ref q4, .ref q5, .ref q6, .ref q7, .int 0, .int 0])), (q1, .inl (cJ, 8, .inr (.inr (.inr (.inr (fun i => if i < 8 then some (r1 i) else none)))))), (r1 0, .inl (cI, 5, .inl (fun _ => 0))), (r1 1, .inl (cI, 5, .inl (fun _ => 0))), (r1 2, .inl (cI, 5, .inl (fun _ => 0))), (r1 3, .inl (cI, 5, .inl (fun _ => 0))), (r1 4, .inl (cI, 5, .inl (fun _ => 0))), (r1 5, .inl (cI, 5, .inl (fun _ => 0))), (r1 6, .inl (cI, 5, .inl (fun _ => 0))), (r1 7, .inl (cI, 5, .inl (fun _ => 0))), (q2, .inl (cJ, 8, .inr (.inr (.inr (.inr (fun i => if i < 8 then some (r2 i) else none)))))), (r2 0, .inl (cI, 5, .inl (fun _ => 0))), (r2 1, .inl (cI, 5, .inl (fun _ => 0))), (r2 2, .inl (cI, 5, .inl (fun _ => 0))), (r2 3, .inl (cI, 5, .inl (fun _ => 0))), (r2 4, .inl (cI, 5, .inl (fun _ => 0))), (r2 5, .inl (cI, 5, .inl (fun _ => 0))), (r2 6, .inl (cI, 5, .inl (fun _ => 0))), (r2 7, .inl (cI, 5, .inl (fun _ => 0))), (q3, .inl (cI, 8, .inl (fun _ => 0))), (q4, .inl (cJ, 2, .inr (.inr (.inr (.inr (fun i => if i < 2 then some (r4 i) else none)))))), (r4 0, .inl (cI, 8, .inl (fun _ => 0))), (r4 1, .inl (cI, 8, .inl (fun _ => 0))), (q5, .inl (cJ, 2, .inr (.inr (.inr (.inr (fun i => if i < 2 then some (r5 i) else none)))))), (r5 0, .inl (cI, 8, .inl (fun _ => 0))), (r5 1, .inl (cI, 8, .inl (fun _ => 0))), (q6, .inl (cJ, 2, .inr (.inr (.inr (.inr (fun i => if i < 2 then some (r6 i) else none)))))), (r6 0, .inl (cI, 32, .inl (fun _ => 0))), (r6 1, .inl (cI, 32, .inl (fun _ => 0))), (q7, .inl (cI, 2, .inl (fun _ => 0)))] : va_W) := rfl
  rw [e]
  apply List.ext_getElem?
  intro k
  by_cases hk : k < 30
  · rw [fw_at hk]
    rcases (show k = 0 ∨ k = 1 ∨ k = 2 ∨ k = 3 ∨ k = 4 ∨ k = 5 ∨ k = 6 ∨ k = 7 ∨ k = 8 ∨ k = 9 ∨ k = 10 ∨ k = 11 ∨ k = 12 ∨ k = 13 ∨ k = 14 ∨ k = 15 ∨ k = 16 ∨ k = 17 ∨ k = 18 ∨ k = 19 ∨ k = 20 ∨ k = 21 ∨ k = 22 ∨ k = 23 ∨ k = 24 ∨ k = 25 ∨ k = 26 ∨ k = 27 ∨ k = 28 ∨ k = 29 by omega) with rfl | rfl | rfl | rfl | rfl | rfl | rfl | rfl | rfl | rfl | rfl | rfl | rfl | rfl | rfl | rfl | rfl | rfl | rfl | rfl | rfl | rfl | rfl | rfl | rfl | rfl | rfl | rfl | rfl | rfl
    · rfl
    · refine congrArg some (Prod.ext rfl ?_)
      refine congrArg (fun f => (Sum.inl (cJ, 8, Sum.inr (Sum.inr (Sum.inr (Sum.inr f)))) : va_E)) (funext fun i => ?_)
      by_cases h : i < 8
      · rw [if_pos h, if_pos (show i < x_n 0 from h)]
        rcases (show i = 0 ∨ i = 1 ∨ i = 2 ∨ i = 3 ∨ i = 4 ∨ i = 5 ∨ i = 6 ∨ i = 7 by omega) with rfl | rfl | rfl | rfl | rfl | rfl | rfl | rfl <;> rfl
      · rw [if_neg h, if_neg (show ¬ i < x_n 0 from h)]
    · rfl
    · rfl
    · rfl
    · rfl
    · rfl
    · rfl
    · rfl
    · rfl
    · refine congrArg some (Prod.ext rfl ?_)
      refine congrArg (fun f => (Sum.inl (cJ, 8, Sum.inr (Sum.inr (Sum.inr (Sum.inr f)))) : va_E)) (funext fun i => ?_)
      by_cases h : i < 8
      · rw [if_pos h, if_pos (show i < x_n 1 from h)]
        rcases (show i = 0 ∨ i = 1 ∨ i = 2 ∨ i = 3 ∨ i = 4 ∨ i = 5 ∨ i = 6 ∨ i = 7 by omega) with rfl | rfl | rfl | rfl | rfl | rfl | rfl | rfl <;> rfl
      · rw [if_neg h, if_neg (show ¬ i < x_n 1 from h)]
    · rfl
    · rfl
    · rfl
    · rfl
    · rfl
    · rfl
    · rfl
    · rfl
    · rfl
    · refine congrArg some (Prod.ext rfl ?_)
      refine congrArg (fun f => (Sum.inl (cJ, 2, Sum.inr (Sum.inr (Sum.inr (Sum.inr f)))) : va_E)) (funext fun i => ?_)
      by_cases h : i < 2
      · rw [if_pos h, if_pos (show i < x_n 2 from h)]
        rcases (show i = 0 ∨ i = 1 by omega) with rfl | rfl <;> rfl
      · rw [if_neg h, if_neg (show ¬ i < x_n 2 from h)]
    · rfl
    · rfl
    · refine congrArg some (Prod.ext rfl ?_)
      refine congrArg (fun f => (Sum.inl (cJ, 2, Sum.inr (Sum.inr (Sum.inr (Sum.inr f)))) : va_E)) (funext fun i => ?_)
      by_cases h : i < 2
      · rw [if_pos h, if_pos (show i < x_n 3 from h)]
        rcases (show i = 0 ∨ i = 1 by omega) with rfl | rfl <;> rfl
      · rw [if_neg h, if_neg (show ¬ i < x_n 3 from h)]
    · rfl
    · rfl
    · refine congrArg some (Prod.ext rfl ?_)
      refine congrArg (fun f => (Sum.inl (cJ, 2, Sum.inr (Sum.inr (Sum.inr (Sum.inr f)))) : va_E)) (funext fun i => ?_)
      by_cases h : i < 2
      · rw [if_pos h, if_pos (show i < x_n 4 from h)]
        rcases (show i = 0 ∨ i = 1 by omega) with rfl | rfl <;> rfl
      · rw [if_neg h, if_neg (show ¬ i < x_n 4 from h)]
    · rfl
    · rfl
    · rfl
  · rw [List.getElem?_eq_none (by show 30 ≤ k; omega), List.getElem?_eq_none (by rw [fw_len]; omega)]
