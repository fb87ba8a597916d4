theorem x_start_none (n w : Nat) (σ : xT) : x_start n w none σ = (0, σ) := by
  cases n <;> rfl
theorem x_ifc_none {t : Nat} (h : x_sup t = none) : x_ifc t = none := by
  unfold x_sup at h
  unfold x_ifc
  split at h
  · cases h
  · split at h
    · cases h
    · split at h
      · cases h
      · rw [if_neg (by assumption), if_neg (by assumption)]
/-- the frame d of the type t, before its initializer -/
def r_F (w d t : Nat) (ν : mT) : Prop := ν.2 0 = nI w ∧ ν.2 1 = nI (d + 1) ∧ ν.1 8 d = nI t ∧ ν.1 9 d = 0 ∧ ν.1 11 d = nI 0
section SIM2
variable {n : Nat} {d w t : Nat}
theorem r_body (hS : r_S n) (hd : d + (n + 1) = 8) (hw : w < 2) (ht : t < 8) {σ : xT} {ν : mT} (hR : r_R σ ν) (hI : r_I σ) (hF : r_F w d t ν) (hc : x_cnt (σ.1 2 w) = d + 1) (hwr : σ.2.2.2 = 0) (y : Int32) :
    ∃ ν', m_Rs (m_go w d t (m_sA ν 10 d y)) ν' ∧ r_Q d ν ((x_init (x_start n w) w t σ).1, x_sG (x_init (x_start n w) w t σ).2 2 w t (if (x_init (x_start n w) w t σ).1 = 0 then 2 else 3)) ν' := by
  obtain ⟨f0, f1, f8, f9, f11⟩ := hF
  have hR1 : r_R (x_note w (100 + nI t) σ) (m_go w d t (m_sA ν 10 d y)) := r_note _ (hR.m (fun a ha => by rw [m_sA_na _ _ _ (show a ≠ 10 by omega), m_sA_na _ _ _ (show a ≠ 9 by omega), m_sA_na _ _ _ (show a ≠ 10 by omega)])) hw
  have hB : r_B d ν (m_go w d t (m_sA ν 10 d y)) := (((r_B.sa ν (Or.inr (Or.inl ⟨by decide, Nat.le_refl d⟩))).tr (r_B.sa _ (Or.inr (Or.inl ⟨by decide, Nat.le_refl d⟩)))).tr (r_B.sa _ (Or.inr (Or.inl ⟨by decide, Nat.le_refl d⟩)))).tr (r_B.nt _ _ _)
  have hK := x_K_note w (100 + nI t) σ
  obtain ⟨z, hz, hsz⟩ := hI.1 t ht
  have hsz' : (x_note w (100 + nI t) σ).2.1 0 t = nI z := by rw [hK.1]; exact hsz
  have hAt : m_At w d t 0 0 (m_go w d t (m_sA ν 10 d y)) := by
    unfold m_go
    refine ⟨?_, ?_, ?_, ?_, ?_, hw, by omega, ht, by omega⟩
    · rw [m_note_i]; exact f0
    · rw [m_note_i]; exact f1
    · rw [m_note_a _ _ _ (show 8 ≠ 5 by decide) (show 8 ≠ 6 by decide), m_sA_na _ _ _ (show 8 ≠ 10 by decide), m_sA_na _ _ _ (show 8 ≠ 9 by decide), m_sA_na _ _ _ (show 8 ≠ 10 by decide)]; exact f8
    · rw [m_note_a _ _ _ (show 10 ≠ 5 by decide) (show 10 ≠ 6 by decide), m_sA_at]; exact nI_0.symm
    · rw [m_note_a _ _ _ (show 11 ≠ 5 by decide) (show 11 ≠ 6 by decide), m_sA_na _ _ _ (show 11 ≠ 10 by decide), m_sA_na _ _ _ (show 11 ≠ 9 by decide), m_sA_na _ _ _ (show 11 ≠ 10 by decide)]; exact f11
  have hph : (m_go w d t (m_sA ν 10 d y)).1 9 d = 1 := by
    unfold m_go
    rw [m_note_a _ _ _ (show 9 ≠ 5 by decide) (show 9 ≠ 6 by decide), m_sA_na _ _ _ (show 9 ≠ 10 by decide), m_sA_at]
  obtain ⟨ν', g1, g2⟩ := r_loop hS hd hw ht hz z 0 0 (x_note w (100 + nI t) σ) _ (by omega) hsz' hR1 (r_I.K hK hI) hAt hph rfl (by rw [x_note_g w _ σ (show 2 ≠ 4 by decide)]; exact hc) hwr
  refine ⟨ν', g1, ?_⟩
  have e : ((x_init (x_start n w) w t σ).1, x_sG (x_init (x_start n w) w t σ).2 2 w t (if (x_init (x_start n w) w t σ).1 = 0 then 2 else 3)) = (r_how (x_run (x_start n w) w t z 0 (x_note w (100 + nI t) σ)).1, r_fin w t (r_how (x_run (x_start n w) w t z 0 (x_note w (100 + nI t) σ)).1) (x_guards w t (x_run (x_start n w) w t z 0 (x_note w (100 + nI t) σ)).2.1 (x_run (x_start n w) w t z 0 (x_note w (100 + nI t) σ)).2.2)) := by
    have hp : x_prog (x_start n w) w t (x_note w (100 + nI t) σ) = ((x_run (x_start n w) w t z 0 (x_note w (100 + nI t) σ)).1, x_guards w t (x_run (x_start n w) w t z 0 (x_note w (100 + nI t) σ)).2.1 (x_run (x_start n w) w t z 0 (x_note w (100 + nI t) σ)).2.2) := by
      unfold x_prog
      rw [hsz', nI_clamp (by omega)]
    unfold x_init
    simp only
    rw [hp]
    generalize x_run (x_start n w) w t z 0 (x_note w (100 + nI t) σ) = X
    simp only
    have e1 : (if X.1 = 4 then 1 else X.1) = r_how X.1 := rfl
    rw [e1]
    unfold r_fin
    by_cases x0 : X.1 = 0
    · rw [if_pos x0, if_pos ((r_how_0 _).mpr x0), if_pos ((r_how_0 _).mpr x0)]
    · rw [if_neg x0, if_neg (fun h => x0 ((r_how_0 _).mp h)), if_neg (fun h => x0 ((r_how_0 _).mp h))]
  rw [e]
  exact ⟨g2.1, g2.2.1, g2.2.2.1, g2.2.2.2.1, hB.tr g2.2.2.2.2⟩
/-- a type above went wrong: the frame ends -/
theorem r_fail (hd : d + (n + 1) = 8) (hw : w < 2) (ht : t < 8) {σ : xT} {ν : mT} {x : Nat} (hx0 : ¬ x = 0) (hx2 : x ≤ 2) (hR : r_R σ ν) (hF : r_F w d t ν) (hx : ν.1 10 d = nI x) {o : Int32} (hk : ν.2 2 = o) (ho : ¬ o = 0) (htold : ν.2 3 = σ.2.2.2) :
    ∃ ν', m_Rs ν ν' ∧ r_Q d ν (o, x_sG σ 2 w t 3) ν' := by
  obtain ⟨f0, f1, f8, f9, f11⟩ := hF
  have step : m_Ok1 ν (m_first w d t x 0 ν) := ⟨w, d, t, x, 0, ⟨f0, f1, f8, hx, f11, hw, by omega, ht, by omega⟩, Or.inl ⟨f9, hx2, hR.2.2.2.2.2, rfl⟩⟩
  have e : m_first w d t x 0 ν = m_end w d t 0 o σ.2.2.2 ν := by
    unfold m_first
    rw [if_pos ⟨hx0, by rw [hk]; exact ho⟩, hk, htold]
  rw [e] at step
  refine ⟨_, m_Rs.st step (m_Rs.rf _), ?_, m_end_1 .., m_end_2 .., m_end_3 .., r_B.en ..⟩
  have h := r_end (how := o) (n := σ.2.2.2) (k := 0) (q := 0) (d := d) hw ht hR rfl
  have e3 : r_fin w t o (x_guards w t 0 σ) = x_sG σ 2 w t 3 := by
    unfold r_fin
    rw [if_neg ho, if_neg ho]
    rfl
  rw [e3] at h
  exact h
end SIM2
theorem r_sim : ∀ n : Nat, r_S n := by
  intro n
  induction n with
  | zero =>
    intro d hd w σ μ t hw ht hR hI h0 h1 hc hwr
    have hst : μ.1 3 (8 * w + t) = 1 := by
      rw [(hR.2.2.1 w t hw ht).1]
      exact x_cnt_full (by rw [hc]; omega) t ht
    have e : m_begin w d t μ = m_sI (m_sI μ 2 0) 3 0 := by
      unfold m_begin
      rw [if_neg (by rw [hst]; decide)]
      unfold m_beg
      rw [if_neg (by rw [hst]; decide)]
    refine ⟨_, m_Rs.rf _, ?_⟩
    rw [e]
    exact ⟨hR.m (fun _ _ => rfl), h1, rfl, hwr.symm, (r_B.si μ (Or.inr (Or.inl rfl))).tr (r_B.si _ (Or.inr (Or.inr rfl)))⟩
  | succ n hS =>
    intro d hd w σ μ t hw ht hR hI h0 h1 hc hwr
    have hst := (hR.2.2.1 w t hw ht).1
    rw [x_start]
    by_cases s3 : σ.1 2 w t = 3
    · rw [if_pos s3]
      have e : m_begin w d t μ = m_sI (m_sI μ 2 3) 3 0 := by
        unfold m_begin
        rw [if_neg (by rw [hst, s3]; decide)]
        unfold m_beg
        rw [if_pos (by rw [hst, s3])]
      refine ⟨_, m_Rs.rf _, ?_⟩
      rw [e]
      exact ⟨(hR.x rfl rfl).m (fun _ _ => rfl), h1, rfl, rfl, (r_B.si μ (Or.inr (Or.inl rfl))).tr (r_B.si _ (Or.inr (Or.inr rfl)))⟩
    · rw [if_neg s3]
      by_cases s0 : σ.1 2 w t = 0
      · rw [if_pos s0]
        -- the new frame
        have e : m_begin w d t μ = m_sI (m_sA (m_sA (m_sA (m_sA (m_sA (m_beg w t μ) 3 (8 * w + t) 1) 8 d (nI t)) 9 d 0) 10 d 0) 11 d 0) 1 (nI (d + 1)) := by
          unfold m_begin
          rw [if_pos (by rw [hst, s0])]
        rw [e]
        have hR1 : r_R (x_sG σ 2 w t 1) (m_sI (m_sA (m_sA (m_sA (m_sA (m_sA (m_beg w t μ) 3 (8 * w + t) 1) 8 d (nI t)) 9 d 0) 10 d 0) 11 d 0) 1 (nI (d + 1))) := by
          have h3 : r_R σ (m_beg w t μ) := hR.m (fun _ _ => rfl)
          refine (r_state (w := w) 1 h3 ht).m (fun a ha => ?_)
          show (m_sA (m_sA (m_sA (m_sA (m_sA (m_beg w t μ) 3 (8 * w + t) 1) 8 d (nI t)) 9 d 0) 10 d 0) 11 d 0).1 a = _
          rw [m_sA_na _ _ _ (show a ≠ 11 by omega), m_sA_na _ _ _ (show a ≠ 10 by omega), m_sA_na _ _ _ (show a ≠ 9 by omega), m_sA_na _ _ _ (show a ≠ 8 by omega)]
        have hF1 : r_F w d t (m_sI (m_sA (m_sA (m_sA (m_sA (m_sA (m_beg w t μ) 3 (8 * w + t) 1) 8 d (nI t)) 9 d 0) 10 d 0) 11 d 0) 1 (nI (d + 1))) := by
          refine ⟨h0, rfl, ?_, ?_, ?_⟩
          · show (m_sA (m_sA (m_sA (m_sA _ 8 d (nI t)) 9 d 0) 10 d 0) 11 d 0).1 8 d = _
            rw [m_sA_na _ _ _ (show 8 ≠ 11 by decide), m_sA_na _ _ _ (show 8 ≠ 10 by decide), m_sA_na _ _ _ (show 8 ≠ 9 by decide), m_sA_at]
          · show (m_sA (m_sA (m_sA (m_sA _ 8 d (nI t)) 9 d 0) 10 d 0) 11 d 0).1 9 d = _
            rw [m_sA_na _ _ _ (show 9 ≠ 11 by decide), m_sA_na _ _ _ (show 9 ≠ 10 by decide), m_sA_at]
          · show (m_sA (m_sA (m_sA (m_sA _ 8 d (nI t)) 9 d 0) 10 d 0) 11 d 0).1 11 d = _
            rw [m_sA_at]
            exact nI_0.symm
        have hx1 : (m_sI (m_sA (m_sA (m_sA (m_sA (m_sA (m_beg w t μ) 3 (8 * w + t) 1) 8 d (nI t)) 9 d 0) 10 d 0) 11 d 0) 1 (nI (d + 1))).1 10 d = nI 0 := by
          show (m_sA (m_sA (m_sA (m_sA _ 8 d (nI t)) 9 d 0) 10 d 0) 11 d 0).1 10 d = _
          rw [m_sA_na _ _ _ (show 10 ≠ 11 by decide), m_sA_at]
          exact nI_0.symm
        have hB1 : r_B d μ (m_sI (m_sA (m_sA (m_sA (m_sA (m_sA (m_beg w t μ) 3 (8 * w + t) 1) 8 d (nI t)) 9 d 0) 10 d 0) 11 d 0) 1 (nI (d + 1))) := by
          have b0 : r_B d μ (m_beg w t μ) := (r_B.si μ (Or.inr (Or.inl rfl))).tr (r_B.si _ (Or.inr (Or.inr rfl)))
          refine r_B.tr ?_ (r_B.si _ (Or.inl rfl))
          refine r_B.tr ?_ (r_B.sa _ (Or.inr (Or.inl ⟨by decide, Nat.le_refl d⟩)))
          refine r_B.tr ?_ (r_B.sa _ (Or.inr (Or.inl ⟨by decide, Nat.le_refl d⟩)))
          refine r_B.tr ?_ (r_B.sa _ (Or.inr (Or.inl ⟨by decide, Nat.le_refl d⟩)))
          refine r_B.tr ?_ (r_B.sa _ (Or.inr (Or.inl ⟨by decide, Nat.le_refl d⟩)))
          exact b0.tr (r_B.sa _ (Or.inl (by decide)))
        generalize (m_sI (m_sA (m_sA (m_sA (m_sA (m_sA (m_beg w t μ) 3 (8 * w + t) 1) 8 d (nI t)) 9 d 0) 10 d 0) 11 d 0) 1 (nI (d + 1))) = μ1 at hR1 hF1 hx1 hB1 ⊢
        have hI1 : r_I (x_sG σ 2 w t 1) := r_I.K (x_K_sG σ w t 1 (k := 2) (by decide)) hI
        have hc1 : x_cnt ((x_sG σ 2 w t 1).1 2 w) = d + 1 := by
          have : (x_sG σ 2 w t 1).1 2 w = upd (σ.1 2 w) t 1 := by simp [x_sG]
          rw [this, x_cnt_up ht (by rw [s0]; decide), hc]
        have hw1 : (x_sG σ 2 w t 1).2.2.2 = 0 := hwr
        generalize x_sG σ 2 w t 1 = σ1 at hR1 hI1 hc1 hw1 ⊢
        -- what closes: the frame's result, over the frames below
        have close : ∀ {ν : mT} {r : Int32 × xT}, r_B d μ1 ν → (∃ ν', m_Rs μ1 ν' ∧ r_Q d ν r ν') → ∃ ν', m_Rs μ1 ν' ∧ r_Q d μ r ν' := fun hb h => by
          obtain ⟨ν', g1, g2⟩ := h
          exact ⟨ν', g1, g2.1, g2.2.1, g2.2.2.1, g2.2.2.2.1, (hB1.tr hb).tr g2.2.2.2.2⟩
        have upI : (x_above (x_start n w) t σ1).1 = 0 → ((x_up (x_start n w) w t σ1).1, x_sG (x_up (x_start n w) w t σ1).2 2 w t (if (x_up (x_start n w) w t σ1).1 = 0 then 2 else 3)) = ((x_init (x_start n w) w t (x_above (x_start n w) t σ1).2).1, x_sG (x_init (x_start n w) w t (x_above (x_start n w) t σ1).2).2 2 w t (if (x_init (x_start n w) w t (x_above (x_start n w) t σ1).2).1 = 0 then 2 else 3)) := fun h => by
          unfold x_up
          rw [if_pos h]
        have upF : ¬ (x_above (x_start n w) t σ1).1 = 0 → ((x_up (x_start n w) w t σ1).1, x_sG (x_up (x_start n w) w t σ1).2 2 w t (if (x_up (x_start n w) w t σ1).1 = 0 then 2 else 3)) = ((x_above (x_start n w) t σ1).1, x_sG (x_above (x_start n w) t σ1).2 2 w t 3) := fun h => by
          unfold x_up
          rw [if_neg h, if_neg h]
        -- a step of the frame, in the phase before its initializer
        have stepA : ∀ {ν : mT} {σ2 : xT} (x : Nat), x ≤ 2 → r_R σ2 ν → r_F w d t ν → ν.1 10 d = nI x → m_Ok1 ν (m_first w d t x 0 ν) := fun x hx2 hR2 hF2 hx => ⟨w, d, t, x, 0, ⟨hF2.1, hF2.2.1, hF2.2.2.1, hx, hF2.2.2.2.2, hw, by omega, ht, by omega⟩, Or.inl ⟨hF2.2.2.2.1, hx2, hR2.2.2.2.2.2, rfl⟩⟩
        -- another type is started above this frame
        have sub : ∀ {ν : mT} {σ2 : xT} (j x : Nat), j < 8 → r_R σ2 ν → r_I σ2 → r_F w d t ν → x_cnt (σ2.1 2 w) = d + 1 → σ2.2.2.2 = 0 → ∃ ν2, m_Rs (m_begin w (d + 1) j (m_sA ν 10 d (nI x))) ν2 ∧ r_R (x_start n w (some j) σ2).2 ν2 ∧ ν2.2 2 = (x_start n w (some j) σ2).1 ∧ ν2.2 3 = (x_start n w (some j) σ2).2.2.2.2 ∧ r_F w d t ν2 ∧ ν2.1 10 d = nI x ∧ r_B d ν ν2 ∧ r_I (x_start n w (some j) σ2).2 ∧ x_cnt ((x_start n w (some j) σ2).2.1 2 w) = d + 1 := fun {ν σ2} j x hj hR2 hI2 hF2 hc2 hw2 => by
          obtain ⟨f0, f1, f8, f9, f11⟩ := hF2
          have hb : r_B d ν (m_sA ν 10 d (nI x)) := r_B.sa ν (Or.inr (Or.inl ⟨by decide, Nat.le_refl d⟩))
          obtain ⟨ν2, g1, g2, g3, g4, g5, g6⟩ := hS (d + 1) (by omega) w σ2 (m_sA ν 10 d (nI x)) j hw hj (hR2.m (fun a ha => by rw [m_sA_na _ _ _ (show a ≠ 10 by omega)])) hI2 f0 f1 hc2 hw2
          refine ⟨ν2, g1, g2, g4, g5, ⟨g6.2.2.1.trans f0, g3, ?_, ?_, ?_⟩, ?_, hb.tr (g6.mono (by omega)), r_I.K (x_K_start n w _ σ2) hI2, ?_⟩
          · rw [g6.1 8 d (by decide) (by decide) (by omega), m_sA_na _ _ _ (show 8 ≠ 10 by decide)]; exact f8
          · rw [g6.1 9 d (by decide) (by decide) (by omega), m_sA_na _ _ _ (show 9 ≠ 10 by decide)]; exact f9
          · rw [g6.1 11 d (by decide) (by decide) (by omega), m_sA_na _ _ _ (show 11 ≠ 10 by decide)]; exact f11
          · rw [g6.1 10 d (by decide) (by decide) (by omega), m_sA_at]
          · rw [x_cnt_eq (fun t => x_U_start n w _ σ2 w t)]; exact hc2
        have st1 := stepA 0 (by omega) hR1 hF1 hx1
        have e1 : m_first w d t 0 0 μ1 = m_fst w d t 0 μ1 (x_sup t) := by
          unfold m_first
          rw [if_neg (fun h => h.1 rfl)]
          rfl
        rw [e1] at st1
        cases hs : x_sup t with
        | none =>
          rw [hs] at st1
          have e2 : m_fst w d t 0 μ1 none = m_go w d t (m_sA μ1 10 d (nI (0 + 1))) := by
            show (if 0 = 2 ∨ x_sup t = none then _ else _) = _
            rw [if_pos (Or.inr hs)]
          rw [e2] at st1
          have ea : x_above (x_start n w) t σ1 = (0, σ1) := by
            unfold x_above
            rw [hs, x_ifc_none hs, x_start_none, x_start_none]
            rfl
          rw [upI (by rw [ea]), ea]
          obtain ⟨ν', g1, g2⟩ := r_body hS hd hw ht hR1 hI1 hF1 hc1 hw1 (nI (0 + 1))
          exact close (r_B.rf d μ1) ⟨ν', m_Rs.st st1 g1, g2⟩
        | some j =>
          have hj : j < 8 := x_sup_lt t j hs
          rw [hs] at st1
          obtain ⟨ν2, g1, g2, g3, g4, g5, g6, g7, g8, g9⟩ := sub j 1 hj hR1 hI1 hF1 hc1 hw1
          have run2 : m_Rs μ1 ν2 := m_Rs.st st1 g1
          have hZY := x_Z_start n w (some j) σ1
          have ea : x_above (x_start n w) t σ1 = if (x_start n w (some j) σ1).1 = 0 then x_start n w (x_ifc t) (x_start n w (some j) σ1).2 else x_start n w (some j) σ1 := by
            unfold x_above
            rw [hs]
          generalize hY : x_start n w (some j) σ1 = Y at ea g2 g3 g4 g8 g9 hZY
          by_cases y0 : Y.1 = 0
          · rw [if_pos y0] at ea
            have wY : Y.2.2.2.2 = 0 := hZY.2 hw1 y0
            have st2 := stepA 1 (by omega) g2 g5 g6
            have e2 : m_first w d t 1 0 ν2 = m_fst w d t 1 ν2 (x_ifc t) := by
              unfold m_first
              rw [if_neg (fun h => h.2 (by rw [g3]; exact y0))]
              rfl
            rw [e2] at st2
            cases hi : x_ifc t with
            | none =>
              rw [hi] at st2 ea
              rw [x_start_none] at ea
              have e3 : m_fst w d t 1 ν2 none = m_sI (m_sA ν2 10 d (nI (1 + 1))) 2 0 := by
                show (if 1 = 2 ∨ x_sup t = none then _ else _) = _
                rw [if_neg (fun h => h.elim (by decide) (fun h => by rw [hs] at h; cases h))]
              rw [e3] at st2
              have hR3 : r_R Y.2 (m_sI (m_sA ν2 10 d (nI (1 + 1))) 2 0) := g2.m (fun a ha => by
                show (m_sA ν2 10 d (nI (1 + 1))).1 a = _
                rw [m_sA_na _ _ _ (show a ≠ 10 by omega)])
              have hF3 : r_F w d t (m_sI (m_sA ν2 10 d (nI (1 + 1))) 2 0) := by
                obtain ⟨f0, f1, f8, f9, f11⟩ := g5
                refine ⟨f0, f1, ?_, ?_, ?_⟩
                · show (m_sA ν2 10 d (nI (1 + 1))).1 8 d = _
                  rw [m_sA_na _ _ _ (show 8 ≠ 10 by decide)]; exact f8
                · show (m_sA ν2 10 d (nI (1 + 1))).1 9 d = _
                  rw [m_sA_na _ _ _ (show 9 ≠ 10 by decide)]; exact f9
                · show (m_sA ν2 10 d (nI (1 + 1))).1 11 d = _
                  rw [m_sA_na _ _ _ (show 11 ≠ 10 by decide)]; exact f11
              have hx3 : (m_sI (m_sA ν2 10 d (nI (1 + 1))) 2 0).1 10 d = nI 2 := m_sA_at ν2 10 d (nI (1 + 1))
              have hb3 : r_B d ν2 (m_sI (m_sA ν2 10 d (nI (1 + 1))) 2 0) := (r_B.sa ν2 (Or.inr (Or.inl ⟨by decide, Nat.le_refl d⟩))).tr (r_B.si _ (Or.inr (Or.inl rfl)))
              have k3 : (m_sI (m_sA ν2 10 d (nI (1 + 1))) 2 0).2 2 = 0 := rfl
              generalize m_sI (m_sA ν2 10 d (nI (1 + 1))) 2 0 = ν3 at st2 hR3 hF3 hx3 hb3 k3
              have st3 := stepA 2 (by omega) hR3 hF3 hx3
              have e4 : m_first w d t 2 0 ν3 = m_go w d t (m_sA ν3 10 d (nI (2 + 1))) := by
                unfold m_first
                rw [if_neg (fun h => h.2 k3)]
                show (if 2 = 2 ∨ x_sup t = none then m_go w d t (m_sA ν3 10 d (nI (2 + 1))) else m_sI (m_sA ν3 10 d (nI (2 + 1))) 2 0) = _
                rw [if_pos (Or.inl rfl)]
              rw [e4] at st3
              rw [upI (by rw [ea]), ea]
              obtain ⟨ν', q1, q2⟩ := r_body hS hd hw ht hR3 g8 hF3 g9 wY (nI (2 + 1))
              exact close (g7.tr hb3) ⟨ν', run2.tr (m_Rs.st st2 (m_Rs.st st3 q1)), q2⟩
            | some j2 =>
              have hj2 : j2 < 8 := x_ifc_lt t j2 hi
              rw [hi] at st2 ea
              obtain ⟨ν4, p1, p2, p3, p4, p5, p6, p7, p8, p9⟩ := sub j2 2 hj2 g2 g8 g5 g9 wY
              have run4 : m_Rs μ1 ν4 := run2.tr (m_Rs.st st2 p1)
              have hZ2 := x_Z_start n w (some j2) Y.2
              generalize x_start n w (some j2) Y.2 = Y2 at ea p2 p3 p4 p8 p9 hZ2
              by_cases y2 : Y2.1 = 0
              · have w2 : Y2.2.2.2.2 = 0 := hZ2.2 wY y2
                have st3 := stepA 2 (by omega) p2 p5 p6
                have e4 : m_first w d t 2 0 ν4 = m_go w d t (m_sA ν4 10 d (nI (2 + 1))) := by
                  unfold m_first
                  rw [if_neg (fun h => h.2 (by rw [p3]; exact y2))]
                  show (if 2 = 2 ∨ x_sup t = none then m_go w d t (m_sA ν4 10 d (nI (2 + 1))) else m_sI (m_sA ν4 10 d (nI (2 + 1))) 2 0) = _
                  rw [if_pos (Or.inl rfl)]
                rw [e4] at st3
                rw [upI (by rw [ea]; exact y2), ea]
                obtain ⟨ν', q1, q2⟩ := r_body hS hd hw ht p2 p8 p5 p9 w2 (nI (2 + 1))
                exact close (g7.tr p7) ⟨ν', run4.tr (m_Rs.st st3 q1), q2⟩
              · rw [upF (by rw [ea]; exact y2), ea]
                obtain ⟨ν', q1, q2⟩ := r_fail (n := n) hd hw ht (x := 2) (by decide) (by decide) p2 p5 p6 p3 y2 p4
                exact close (g7.tr p7) ⟨ν', run4.tr q1, q2⟩
          · rw [if_neg y0] at ea
            rw [upF (by rw [ea]; exact y0), ea]
            obtain ⟨ν', q1, q2⟩ := r_fail (n := n) hd hw ht (x := 1) (by decide) (by decide) g2 g5 g6 g3 y0 g4
            exact close g7 ⟨ν', run2.tr q1, q2⟩
      · rw [if_neg s0]
        have e : m_begin w d t μ = m_sI (m_sI μ 2 0) 3 0 := by
          unfold m_begin
          rw [if_neg (by rw [hst]; exact s0)]
          unfold m_beg
          rw [if_neg (by rw [hst]; exact s3)]
        refine ⟨_, m_Rs.rf _, ?_⟩
        rw [e]
        exact ⟨hR.m (fun _ _ => rfl), h1, rfl, hwr.symm, (r_B.si μ (Or.inr (Or.inl rfl))).tr (r_B.si _ (Or.inr (Or.inr rfl)))⟩
