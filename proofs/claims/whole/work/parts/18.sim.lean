/-! THE REFERENCE'S LOOP DOES WHAT THE CLASS'S START DOES -/
def r_I (σ : xT) : Prop := x_ok σ ∧ ∀ t k, t < 8 → k < 5 → ∃ j : Nat, j ≤ 5 ∧ σ.1 0 t k = nI j
theorem r_I.K {σ τ : xT} (h : x_K σ τ) (k : r_I σ) : r_I τ := ⟨h.ok k.1, fun t i ht hi => by rw [h.2.1]; exact k.2 t i ht hi⟩
/-- the frames below d, and what a start leaves alone -/
def r_B (d : Nat) (μ ν : mT) : Prop := (∀ a f, 8 ≤ a → a ≤ 11 → f < d → ν.1 a f = μ.1 a f) ∧ (∀ e, e < 5 * d → ν.1 12 e = μ.1 12 e) ∧ ν.2 0 = μ.2 0 ∧ ν.2 4 = μ.2 4 ∧ ν.2 5 = μ.2 5
theorem r_B.rf (d : Nat) (μ : mT) : r_B d μ μ := ⟨fun _ _ _ _ _ => rfl, fun _ _ => rfl, rfl, rfl, rfl⟩
theorem r_B.tr {d : Nat} {μ ν ρ : mT} (h : r_B d μ ν) (k : r_B d ν ρ) : r_B d μ ρ := ⟨fun a f h1 h2 h3 => (k.1 a f h1 h2 h3).trans (h.1 a f h1 h2 h3), fun e he => (k.2.1 e he).trans (h.2.1 e he), k.2.2.1.trans h.2.2.1, k.2.2.2.1.trans h.2.2.2.1, k.2.2.2.2.trans h.2.2.2.2⟩
theorem r_B.mono {d d' : Nat} {μ ν : mT} (h : r_B d' μ ν) (hd : d ≤ d') : r_B d μ ν := ⟨fun a f h1 h2 h3 => h.1 a f h1 h2 (by omega), fun e he => h.2.1 e (by omega), h.2.2⟩
theorem r_B.sa {d a i : Nat} {v : Int32} (μ : mT) (h : a ≤ 7 ∨ (a ≤ 11 ∧ d ≤ i) ∨ (a = 12 ∧ 5 * d ≤ i)) : r_B d μ (m_sA μ a i v) := by
  refine ⟨fun b f h8 h11 hf => ?_, fun e he => ?_, rfl, rfl, rfl⟩
  · by_cases e : b = a
    · subst e
      exact m_sA_ni _ _ _ (by omega)
    · rw [m_sA_na _ _ _ e]
  · by_cases q : 12 = a
    · subst q
      exact m_sA_ni _ _ _ (by omega)
    · rw [m_sA_na _ _ _ q]
theorem r_B.si {d j : Nat} {v : Int32} (μ : mT) (h : j = 1 ∨ j = 2 ∨ j = 3) : r_B d μ (m_sI μ j v) := ⟨fun _ _ _ _ _ => rfl, fun _ _ => rfl, m_sI_nj _ _ (by omega), m_sI_nj _ _ (by omega), m_sI_nj _ _ (by omega)⟩
theorem r_B.nt {d : Nat} (w : Nat) (v : Int32) (μ : mT) : r_B d μ (m_note w v μ) := ⟨fun a f h1 h2 h3 => by rw [m_note_a w v μ (show a ≠ 5 by omega) (show a ≠ 6 by omega)], fun e he => by rw [m_note_a w v μ (show 12 ≠ 5 by decide) (show 12 ≠ 6 by decide)], by rw [m_note_i], by rw [m_note_i], by rw [m_note_i]⟩
theorem r_B.gs {d : Nat} (w f : Nat) : ∀ (k : Nat) (μ : mT), r_B d μ (m_gs w f k μ)
  | 0, μ => r_B.rf d μ
  | k + 1, μ => by
    unfold m_gs
    exact (r_B.nt _ _ _).tr (r_B.gs w f k _)
theorem r_B.en {d : Nat} (w t q : Nat) (how n : Int32) (μ : mT) : r_B d μ (m_end w d t q how n μ) := by
  have h : r_B d μ (m_gs w d q (m_sI μ 1 (nI d))) := (r_B.si μ (Or.inl rfl)).tr (r_B.gs _ _ _ _)
  unfold m_end m_fin
  refine r_B.tr ?_ (r_B.si _ (Or.inr (Or.inr rfl)))
  refine r_B.tr ?_ (r_B.si _ (Or.inr (Or.inl rfl)))
  split
  · exact (h.tr (r_B.sa _ (Or.inl (by decide)))).tr (r_B.sa _ (Or.inl (by decide)))
  · exact h.tr (r_B.sa _ (Or.inl (by decide)))
theorem m_end_1 (w d t q : Nat) (how n : Int32) (μ : mT) : (m_end w d t q how n μ).2 1 = nI d := by
  unfold m_end m_fin
  rw [m_sI_nj _ _ (show 1 ≠ 3 by decide), m_sI_nj _ _ (show 1 ≠ 2 by decide)]
  have h : (m_gs w d q (m_sI μ 1 (nI d))).2 1 = nI d := by rw [m_gs_i, m_sI_at]
  split
  · exact h
  · exact h
theorem m_end_2 (w d t q : Nat) (how n : Int32) (μ : mT) : (m_end w d t q how n μ).2 2 = how := by
  unfold m_end m_fin
  rw [m_sI_nj _ _ (show 2 ≠ 3 by decide), m_sI_at]
theorem m_end_3 (w d t q : Nat) (how n : Int32) (μ : mT) : (m_end w d t q how n μ).2 3 = n := by
  unfold m_end m_fin
  rw [m_sI_at]
/-- what a finished start writes -/
def r_fin (w t : Nat) (how : Int32) (τ : xT) : xT := x_sG (if how = 0 then x_sG τ 3 w t (10 * nI t + τ.2.1 1 w) else τ) 2 w t (if how = 0 then 2 else 3)
theorem r_fin_w (w t : Nat) (how : Int32) (τ : xT) : (r_fin w t how τ).2.2 = τ.2.2 := by
  unfold r_fin
  split <;> rfl
theorem r_end {w d t k q : Nat} {how n : Int32} {τ : xT} {ν : mT} (hw : w < 2) (ht : t < 8) (h : r_R τ ν) (hg : r_G τ ν d t k q) : r_R (r_fin w t how (x_guards w t k τ)) (m_end w d t q how n ν) := by
  have h1 : r_R (x_guards w t k τ) (m_gs w d q (m_sI ν 1 (nI d))) := r_guards hw (h.m (fun _ _ => rfl)) (r_G.kp' (ν := ν) (ρ := m_sI ν 1 (nI d)) (x_K.rf τ) rfl hg)
  unfold m_end m_fin r_fin
  generalize x_guards w t k τ = τ' at h1 ⊢
  generalize m_gs w d q (m_sI ν 1 (nI d)) = ρ at h1 ⊢
  by_cases e : how = 0
  · rw [if_pos e, if_pos e, if_pos e]
    have h2 := r_value (w := w) (10 * nI t + τ'.2.1 1 w) (r_state (w := w) 2 h1 ht) ht
    rw [x_sG_comm] at h2
    have h3 : r_R (x_sG (x_sG τ' 3 w t (10 * nI t + τ'.2.1 1 w)) 2 w t 2) (m_sA (m_sA ρ 3 (8 * w + t) 2) 4 (8 * w + t) (10 * nI t + (m_sA ρ 3 (8 * w + t) 2).1 6 w)) := by
      rw [m_sA_na _ _ _ (show 6 ≠ 3 by decide), h1.2.2.2.1 w hw]
      exact h2
    exact h3.m (fun _ _ => rfl)
  · rw [if_neg e, if_neg e, if_neg e]
    exact (r_state (w := w) 3 h1 ht).m (fun _ _ => rfl)
/-- how many types are UNDER WAY -/
def x_cnt (f : Nat → Int32) : Nat := (if f 0 = 1 then 1 else 0) + (if f 1 = 1 then 1 else 0) + (if f 2 = 1 then 1 else 0) + (if f 3 = 1 then 1 else 0) + (if f 4 = 1 then 1 else 0) + (if f 5 = 1 then 1 else 0) + (if f 6 = 1 then 1 else 0) + (if f 7 = 1 then 1 else 0)
theorem x_cnt_eq {f h : Nat → Int32} (e : ∀ t, h t = 1 ↔ f t = 1) : x_cnt h = x_cnt f := by
  unfold x_cnt
  simp only [e]
theorem x_cnt_full {f : Nat → Int32} (h : x_cnt f = 8) : ∀ t, t < 8 → f t = 1 := by
  have b : ∀ c : Prop, [Decidable c] → (if c then 1 else 0 : Nat) ≤ 1 := fun c _ => by split <;> omega
  have hb := fun t => b (f t = 1)
  have key : ∀ t, ¬ f t = 1 → (if f t = 1 then 1 else 0 : Nat) = 0 := fun t ht => if_neg ht
  unfold x_cnt at h
  have h0 := hb 0; have h1 := hb 1; have h2 := hb 2; have h3 := hb 3; have h4 := hb 4; have h5 := hb 5; have h6 := hb 6; have h7 := hb 7
  intro t ht
  refine Classical.byContradiction (fun q => ?_)
  have hz := key t q
  rcases (show t = 0 ∨ t = 1 ∨ t = 2 ∨ t = 3 ∨ t = 4 ∨ t = 5 ∨ t = 6 ∨ t = 7 by omega) with rfl | rfl | rfl | rfl | rfl | rfl | rfl | rfl <;> omega
theorem x_cnt_up {f : Nat → Int32} {t : Nat} (ht : t < 8) (h : ¬ f t = 1) : x_cnt (upd f t 1) = x_cnt f + 1 := by
  have key : (if f t = 1 then 1 else 0 : Nat) = 0 := if_neg h
  have e1 : upd f t 1 t = 1 := by simp [upd]
  have e2 : ∀ j, j ≠ t → upd f t 1 j = f j := fun j hj => by simp [upd, hj]
  unfold x_cnt
  rcases (show t = 0 ∨ t = 1 ∨ t = 2 ∨ t = 3 ∨ t = 4 ∨ t = 5 ∨ t = 6 ∨ t = 7 by omega) with rfl | rfl | rfl | rfl | rfl | rfl | rfl | rfl
  · rw [e1, e2 1 (by decide), e2 2 (by decide), e2 3 (by decide), e2 4 (by decide), e2 5 (by decide), e2 6 (by decide), e2 7 (by decide), if_pos rfl]
    omega
  · rw [e1, e2 0 (by decide), e2 2 (by decide), e2 3 (by decide), e2 4 (by decide), e2 5 (by decide), e2 6 (by decide), e2 7 (by decide), if_pos rfl]
    omega
  · rw [e1, e2 0 (by decide), e2 1 (by decide), e2 3 (by decide), e2 4 (by decide), e2 5 (by decide), e2 6 (by decide), e2 7 (by decide), if_pos rfl]
    omega
  · rw [e1, e2 0 (by decide), e2 1 (by decide), e2 2 (by decide), e2 4 (by decide), e2 5 (by decide), e2 6 (by decide), e2 7 (by decide), if_pos rfl]
    omega
  · rw [e1, e2 0 (by decide), e2 1 (by decide), e2 2 (by decide), e2 3 (by decide), e2 5 (by decide), e2 6 (by decide), e2 7 (by decide), if_pos rfl]
    omega
  · rw [e1, e2 0 (by decide), e2 1 (by decide), e2 2 (by decide), e2 3 (by decide), e2 4 (by decide), e2 6 (by decide), e2 7 (by decide), if_pos rfl]
    omega
  · rw [e1, e2 0 (by decide), e2 1 (by decide), e2 2 (by decide), e2 3 (by decide), e2 4 (by decide), e2 5 (by decide), e2 7 (by decide), if_pos rfl]
    omega
  · rw [e1, e2 0 (by decide), e2 1 (by decide), e2 2 (by decide), e2 3 (by decide), e2 4 (by decide), e2 5 (by decide), e2 6 (by decide), if_pos rfl]
    omega
def r_Q (d : Nat) (μ : mT) (r : Int32 × xT) (ν : mT) : Prop := r_R r.2 ν ∧ ν.2 1 = nI d ∧ ν.2 2 = r.1 ∧ ν.2 3 = r.2.2.2.2 ∧ r_B d μ ν
def r_S (n : Nat) : Prop := ∀ d, d + n = 8 → ∀ (w : Nat) (σ : xT) (μ : mT) (t : Nat), w < 2 → t < 8 → r_R σ μ → r_I σ → μ.2 0 = nI w → μ.2 1 = nI d → x_cnt (σ.1 2 w) = d → σ.2.2.2 = 0 → ∃ ν, m_Rs (m_begin w d t μ) ν ∧ r_Q d μ (x_start n w (some t) σ) ν
def r_how (o : Int32) : Int32 := if o = 4 then 1 else o
theorem r_how_0 (o : Int32) : r_how o = 0 ↔ o = 0 := by
  unfold r_how
  split
  · rename_i h
    subst h
    decide
  · exact Iff.rfl
theorem r_how_n {o : Int32} (h : ¬ o = 4) : r_how o = o := if_neg h
section SIM
variable {n : Nat} {d w t : Nat}
/-- the program's orders from place k on, and the end of the frame -/
theorem r_loop (hS : r_S n) (hd : d + (n + 1) = 8) (hw : w < 2) (ht : t < 8) {z : Nat} (hz : z ≤ 5) : ∀ (r k q : Nat) (σ : xT) (ν : mT), k + r = z → σ.2.1 0 t = nI z → r_R σ ν → r_I σ → m_At w d t k q ν → ν.1 9 d = 1 → r_G σ ν d t k q → x_cnt (σ.1 2 w) = d + 1 → σ.2.2.2 = 0 →
    ∃ ν', m_Rs ν ν' ∧ r_Q d ν (r_how (x_run (x_start n w) w t r k σ).1, r_fin w t (r_how (x_run (x_start n w) w t r k σ).1) (x_guards w t (x_run (x_start n w) w t r k σ).2.1 (x_run (x_start n w) w t r k σ).2.2)) ν' := by
  intro r
  induction r with
  | zero =>
    intro k q σ ν hkz hsz hR hI hAt hph hG hc hwr
    have hsize : ν.1 2 t = nI z := by rw [hR.1 t ht]; exact hsz
    have step : m_Ok1 ν (m_work w d t k q ν) := ⟨w, d, t, k, q, hAt, Or.inr (Or.inl ⟨hph, r_G_le hG, ⟨z, hz, hsize, by omega⟩, rfl⟩)⟩
    have e : m_work w d t k q ν = m_end w d t q 0 0 ν := by
      unfold m_work
      rw [if_pos (by rw [hsize, show k = z by omega])]
    rw [e] at step
    refine ⟨_, m_Rs.st step (m_Rs.rf _), ?_⟩
    have e0 : r_how (x_run (x_start n w) w t 0 k σ).1 = 0 := rfl
    rw [e0]
    refine ⟨r_end hw ht hR hG, m_end_1 .., m_end_2 .., ?_, r_B.en ..⟩
    rw [m_end_3]
    show (0 : Int32) = (r_fin w t 0 (x_guards w t k σ)).2.2.2
    rw [r_fin_w, x_guards_w, hwr]
  | succ r ih =>
    intro k q σ ν hkz hsz hR hI hAt hph hG hc hwr
    have hk5 : k < 5 := by omega
    have hqk := r_G_le hG
    have hsize : ν.1 2 t = nI z := by rw [hR.1 t ht]; exact hsz
    have hkne : ¬ nI k = ν.1 2 t := by
      rw [hsize]
      intro h
      have := (nI_eq (by omega) (by omega)).mp h
      omega
    have step : m_Ok1 ν (m_work w d t k q ν) := ⟨w, d, t, k, q, hAt, Or.inr (Or.inl ⟨hph, hqk, ⟨z, hz, hsize, by omega⟩, rfl⟩)⟩
    obtain ⟨ho, hn⟩ := hR.2.1 t k ht hk5
    obtain ⟨a0, a1, a2, a3, a4, -, hd8, -, hq5⟩ := id hAt
    have hat : ∀ {q1 : Nat} {ρ : mT}, ρ.2 0 = nI w → ρ.2 1 = nI (d + 1) → ρ.1 8 d = nI t → ρ.1 10 d = nI (k + 1) → ρ.1 11 d = nI q1 → q1 ≤ 5 → m_At w d t (k + 1) q1 ρ := fun b0 b1 b2 b3 b4 b5 => ⟨b0, b1, b2, b3, b4, hw, hd8, ht, b5⟩
    have hK := x_K_obey (st := x_start n w) (fun t σ => x_K_start n w t σ) w (σ.1 0 t k) (σ.1 1 t k) σ
    have hU := x_U_obey (st := x_start n w) (fun t σ => x_U_start n w t σ) w (σ.1 0 t k) (σ.1 1 t k) σ
    have hZ := x_Z_obey (st := x_start n w) (fun t σ => x_Z_start n w t σ) w (σ.1 0 t k) (σ.1 1 t k) σ hwr
    have hrun : x_run (x_start n w) w t (r + 1) k σ = if (x_obey (x_start n w) w (σ.1 0 t k) (σ.1 1 t k) σ).1 = 0 then x_run (x_start n w) w t r (k + 1) (x_obey (x_start n w) w (σ.1 0 t k) (σ.1 1 t k) σ).2 else ((x_obey (x_start n w) w (σ.1 0 t k) (σ.1 1 t k) σ).1, k + 1, (x_obey (x_start n w) w (σ.1 0 t k) (σ.1 1 t k) σ).2) := rfl
    rw [hrun]
    generalize hX : x_obey (x_start n w) w (σ.1 0 t k) (σ.1 1 t k) σ = X at hK hU hZ ⊢
    have cont : ∀ (ν1 : mT) (q1 : Nat), m_Rs ν ν1 → X.1 = 0 → r_R X.2 ν1 → m_At w d t (k + 1) q1 ν1 → ν1.1 9 d = 1 → r_G X.2 ν1 d t (k + 1) q1 → r_B d ν ν1 → ∃ ν', m_Rs ν ν' ∧ r_Q d ν (r_how (if X.1 = 0 then x_run (x_start n w) w t r (k + 1) X.2 else (X.1, k + 1, X.2)).1, r_fin w t (r_how (if X.1 = 0 then x_run (x_start n w) w t r (k + 1) X.2 else (X.1, k + 1, X.2)).1) (x_guards w t (if X.1 = 0 then x_run (x_start n w) w t r (k + 1) X.2 else (X.1, k + 1, X.2)).2.1 (if X.1 = 0 then x_run (x_start n w) w t r (k + 1) X.2 else (X.1, k + 1, X.2)).2.2)) ν' := by
      intro ν1 q1 h1 h2 h3 h4 h5 h6 h7
      rw [if_pos h2]
      obtain ⟨ν', g1, g2⟩ := ih (k + 1) q1 X.2 ν1 (by omega) (by rw [hK.1]; exact hsz) h3 (r_I.K hK hI) h4 h5 h6 (by rw [x_cnt_eq (fun t => hU w t)]; exact hc) (hZ h2)
      exact ⟨ν', h1.tr g1, g2.1, g2.2.1, g2.2.2.1, g2.2.2.2.1, h7.tr g2.2.2.2.2⟩
    have stop : ∀ (ν1 ρ : mT), m_Rs ν ρ → ρ = m_end w d t q (r_how X.1) X.2.2.2.2 ν1 → ¬ X.1 = 0 → r_R X.2 ν1 → r_G X.2 ν1 d t (k + 1) q → r_B d ν ν1 → ∃ ν', m_Rs ν ν' ∧ r_Q d ν (r_how (if X.1 = 0 then x_run (x_start n w) w t r (k + 1) X.2 else (X.1, k + 1, X.2)).1, r_fin w t (r_how (if X.1 = 0 then x_run (x_start n w) w t r (k + 1) X.2 else (X.1, k + 1, X.2)).1) (x_guards w t (if X.1 = 0 then x_run (x_start n w) w t r (k + 1) X.2 else (X.1, k + 1, X.2)).2.1 (if X.1 = 0 then x_run (x_start n w) w t r (k + 1) X.2 else (X.1, k + 1, X.2)).2.2)) ν' := by
      intro ν1 ρ h1 h2 h3 h4 h5 h6
      rw [if_neg h3]
      subst h2
      refine ⟨_, h1, r_end hw ht h4 h5, m_end_1 .., m_end_2 .., ?_, h6.tr (r_B.en ..)⟩
      rw [m_end_3]
      show X.2.2.2.2 = (r_fin w t (r_how X.1) (x_guards w t (k + 1) X.2)).2.2.2
      rw [r_fin_w, x_guards_w]
    -- a use, or a try, of the type J: the frame waits in the phase ph
    have hJ := x_m7 (σ.1 1 t k)
    have use : ∀ ph : Int32, ¬ ph = 0 → ¬ ph = 1 → ∃ ν2, m_Rs (m_begin w (d + 1) (ν.1 1 (5 * t + k) &&& 7).toNatClampNeg (m_sA (m_sA ν 10 d (nI (k + 1))) 9 d ph)) ν2 ∧ r_R (x_start n w (some (σ.1 1 t k &&& 7).toNatClampNeg) σ).2 ν2 ∧ ν2.2 2 = (x_start n w (some (σ.1 1 t k &&& 7).toNatClampNeg) σ).1 ∧ ν2.2 3 = (x_start n w (some (σ.1 1 t k &&& 7).toNatClampNeg) σ).2.2.2.2 ∧ m_At w d t (k + 1) q ν2 ∧ ν2.1 9 d = ph ∧ m_Ok1 ν2 (m_ans w d t k q ν2) ∧ r_B d ν ν2 ∧ (∀ p, p < 5 → ν2.1 12 (5 * d + p) = ν.1 12 (5 * d + p)) ∧ ν2.1 1 (5 * t + k) = σ.1 1 t k := by
      intro ph hp0 hp1
      rw [hn]
      have hB1 : r_B d ν (m_sA (m_sA ν 10 d (nI (k + 1))) 9 d ph) := (r_B.sa ν (Or.inr (Or.inl ⟨by decide, Nat.le_refl d⟩))).tr (r_B.sa _ (Or.inr (Or.inl ⟨by decide, Nat.le_refl d⟩)))
      have hR1 : r_R σ (m_sA (m_sA ν 10 d (nI (k + 1))) 9 d ph) := hR.m (fun a ha => by rw [m_sA_na _ _ _ (show a ≠ 9 by omega), m_sA_na _ _ _ (show a ≠ 10 by omega)])
      obtain ⟨ν2, g1, g2, g3, g4, g5, g6⟩ := hS (d + 1) (by omega) w σ _ (σ.1 1 t k &&& 7).toNatClampNeg hw hJ.2 hR1 hI a0 a1 hc hwr
      have f8 : ν2.1 8 d = nI t := by
        rw [g6.1 8 d (by decide) (by decide) (by omega), m_sA_na _ _ _ (show 8 ≠ 9 by decide), m_sA_na _ _ _ (show 8 ≠ 10 by decide)]
        exact a2
      have f9 : ν2.1 9 d = ph := by
        rw [g6.1 9 d (by decide) (by decide) (by omega), m_sA_at]
      have f10 : ν2.1 10 d = nI (k + 1) := by
        rw [g6.1 10 d (by decide) (by decide) (by omega), m_sA_na _ _ _ (show 10 ≠ 9 by decide), m_sA_at]
      have f11 : ν2.1 11 d = nI q := by
        rw [g6.1 11 d (by decide) (by decide) (by omega), m_sA_na _ _ _ (show 11 ≠ 9 by decide), m_sA_na _ _ _ (show 11 ≠ 10 by decide)]
        exact a4
      have fat : m_At w d t (k + 1) q ν2 := hat (g6.2.2.1.trans a0) g3 f8 f10 f11 hq5
      refine ⟨ν2, g1, g2, g4, g5, fat, f9, ⟨w, d, t, k + 1, q, fat, Or.inr (Or.inr ⟨by rw [f9]; exact hp0, by rw [f9]; exact hp1, k, rfl, hk5, rfl⟩)⟩, hB1.tr (g6.mono (by omega)), fun p hp => ?_, ?_⟩
      · rw [g6.2.1 (5 * d + p) (by omega), m_sA_na _ _ _ (show 12 ≠ 9 by decide), m_sA_na _ _ _ (show 12 ≠ 10 by decide)]
      · rw [(g2.2.1 t k ht hk5).2, (x_K_start n w _ σ).2.2]
    obtain ⟨j, hj, ej⟩ := hI.2 t k ht hk5
    have hR0 : r_R σ (m_sA ν 10 d (nI (k + 1))) := hR.m (fun a ha => by rw [m_sA_na _ _ _ (show a ≠ 10 by omega)])
    have hB0 : r_B d ν (m_sA ν 10 d (nI (k + 1))) := r_B.sa ν (Or.inr (Or.inl ⟨by decide, Nat.le_refl d⟩))
    rcases (show j = 0 ∨ j = 1 ∨ j = 2 ∨ j = 3 ∨ j = 4 ∨ j = 5 by omega) with rfl | rfl | rfl | rfl | rfl | rfl
    · -- NOTE
      have e5 : ¬ σ.1 0 t k = 5 := by rw [ej]; decide
      have hX' : X = (0, x_note w (σ.1 1 t k) σ) := by
        rw [← hX, ej]
        rfl
      subst hX'
      have e : m_work w d t k q ν = m_note w (σ.1 1 t k) (m_sA ν 10 d (nI (k + 1))) := by
        unfold m_work
        rw [if_neg hkne, if_pos (by rw [ho, ej]; rfl), hn]
      rw [e] at step
      refine cont _ q (m_Rs.st step (m_Rs.rf _)) rfl (r_note _ hR0 hw) (hat ?_ ?_ ?_ ?_ ?_ hq5) ?_ ⟨fun h => absurd (by rw [← x_note_g w (σ.1 1 t k) σ (show 0 ≠ 4 by decide)]; exact h) e5, fun _ => r_G.kp' (x_K_note _ _ _) (by rw [m_note_a _ _ _ (show 12 ≠ 5 by decide) (show 12 ≠ 6 by decide), m_sA_na _ _ _ (show 12 ≠ 10 by decide)]) hG⟩ (hB0.tr (r_B.nt _ _ _))
      · rw [m_note_i]; exact a0
      · rw [m_note_i]; exact a1
      · rw [m_note_a _ _ _ (show 8 ≠ 5 by decide) (show 8 ≠ 6 by decide), m_sA_na _ _ _ (show 8 ≠ 10 by decide)]; exact a2
      · rw [m_note_a _ _ _ (show 10 ≠ 5 by decide) (show 10 ≠ 6 by decide), m_sA_at]
      · rw [m_note_a _ _ _ (show 11 ≠ 5 by decide) (show 11 ≠ 6 by decide), m_sA_na _ _ _ (show 11 ≠ 10 by decide)]; exact a4
      · rw [m_note_a _ _ _ (show 9 ≠ 5 by decide) (show 9 ≠ 6 by decide), m_sA_na _ _ _ (show 9 ≠ 10 by decide)]; exact hph
    · -- USE
      have e5 : ¬ σ.1 0 t k = 5 := by rw [ej]; decide
      have hX' : X = x_rn (x_start n w) w (σ.1 1 t k &&& 7).toNatClampNeg σ := by
        rw [← hX, ej]
        rfl
      have e : m_work w d t k q ν = m_begin w (d + 1) (ν.1 1 (5 * t + k) &&& 7).toNatClampNeg (m_sA (m_sA ν 10 d (nI (k + 1))) 9 d 2) := by
        unfold m_work
        rw [if_neg hkne, if_neg (by rw [ho, ej]; decide), if_pos (by rw [ho, ej]; rfl)]
      rw [e] at step
      obtain ⟨ν2, g1, g2, g3, g4, g5, g6, g7, g8, g9, g10⟩ := use 2 (by decide) (by decide)
      have hKY := x_K_start n w (some (σ.1 1 t k &&& 7).toNatClampNeg) σ
      have hZY := x_Z_start n w (some (σ.1 1 t k &&& 7).toNatClampNeg) σ
      have gG : r_G (x_start n w (some (σ.1 1 t k &&& 7).toNatClampNeg) σ).2 ν2 d t (k + 1) q := ⟨fun h => absurd (by rw [← hKY.2.1]; exact h) e5, fun _ => r_G.kp hKY (fun p hp => g9 p (by omega)) hG⟩
      unfold x_rn at hX'
      generalize x_start n w (some (σ.1 1 t k &&& 7).toNatClampNeg) σ = Y at hX' g2 g3 g4 hKY hZY gG
      by_cases y0 : Y.1 = 0
      · rw [if_pos y0] at hX'
        subst hX'
        have e2 : m_ans w d t k q ν2 = m_sA (m_note w (Y.2.1 3 w (σ.1 1 t k &&& 7).toNatClampNeg) ν2) 9 d 1 := by
          unfold m_ans
          rw [if_neg (fun h => h.1 (by rw [g3]; exact y0)), if_pos (by rw [g3]; exact y0), g10, (g2.2.2.1 w _ hw hJ.2).2]
        rw [e2] at g7
        refine cont _ q (m_Rs.st step (g1.tr (m_Rs.st g7 (m_Rs.rf _)))) y0 ((r_note _ g2 hw).m (fun a ha => by rw [m_sA_na _ _ _ (show a ≠ 9 by omega)])) (hat ?_ ?_ ?_ ?_ ?_ hq5) ?_ (r_G.kp' (x_K_note _ _ _) ?_ gG) (g8.tr ((r_B.nt _ _ _).tr (r_B.sa _ (Or.inr (Or.inl ⟨by decide, Nat.le_refl d⟩)))))
        · show (m_note w (Y.2.1 3 w (σ.1 1 t k &&& 7).toNatClampNeg) ν2).2 0 = nI w
          rw [m_note_i]; exact g5.1
        · show (m_note w (Y.2.1 3 w (σ.1 1 t k &&& 7).toNatClampNeg) ν2).2 1 = nI (d + 1)
          rw [m_note_i]; exact g5.2.1
        · rw [m_sA_na _ _ _ (show 8 ≠ 9 by decide), m_note_a _ _ _ (show 8 ≠ 5 by decide) (show 8 ≠ 6 by decide)]; exact g5.2.2.1
        · rw [m_sA_na _ _ _ (show 10 ≠ 9 by decide), m_note_a _ _ _ (show 10 ≠ 5 by decide) (show 10 ≠ 6 by decide)]; exact g5.2.2.2.1
        · rw [m_sA_na _ _ _ (show 11 ≠ 9 by decide), m_note_a _ _ _ (show 11 ≠ 5 by decide) (show 11 ≠ 6 by decide)]; exact g5.2.2.2.2.1
        · rw [m_sA_at]
        · rw [m_sA_na _ _ _ (show 12 ≠ 9 by decide), m_note_a _ _ _ (show 12 ≠ 5 by decide) (show 12 ≠ 6 by decide)]
      · rw [if_neg y0] at hX'
        subst hX'
        have e2 : m_ans w d t k q ν2 = m_end w d t q (r_how X.1) X.2.2.2.2 ν2 := by
          unfold m_ans
          rw [if_pos ⟨by rw [g3]; exact y0, g6⟩, g3, g4, r_how_n hZY.1]
        exact stop ν2 _ (m_Rs.st step (g1.tr (m_Rs.st g7 (m_Rs.rf _)))) e2 y0 g2 gG g8
    · -- THROW
      have e5 : ¬ σ.1 0 t k = 5 := by rw [ej]; decide
      have hX' : X = (4, x_sW σ (σ.1 1 t k)) := by
        rw [← hX, ej]
        rfl
      subst hX'
      have e : m_work w d t k q ν = m_end w d t q 1 (σ.1 1 t k) (m_sA ν 10 d (nI (k + 1))) := by
        unfold m_work
        rw [if_neg hkne, if_neg (by rw [ho, ej]; decide), if_neg (by rw [ho, ej]; decide), if_pos (by rw [ho, ej]; rfl), hn]
      exact stop _ _ (m_Rs.st step (m_Rs.rf _)) e (show ¬ (4 : Int32) = 0 by decide) (hR0.x rfl rfl) ⟨fun h => absurd h e5, fun _ => r_G.kp' (x_K_sW _ _) (m_sA_na _ _ _ (by decide)) hG⟩ hB0
    · -- BREAK
      have e5 : ¬ σ.1 0 t k = 5 := by rw [ej]; decide
      have hX' : X = (2, x_sW σ (σ.1 1 t k)) := by
        rw [← hX, ej]
        rfl
      subst hX'
      have e : m_work w d t k q ν = m_end w d t q 2 (σ.1 1 t k) (m_sA ν 10 d (nI (k + 1))) := by
        unfold m_work
        rw [if_neg hkne, if_neg (by rw [ho, ej]; decide), if_neg (by rw [ho, ej]; decide), if_neg (by rw [ho, ej]; decide), if_pos (by rw [ho, ej]; rfl), hn]
      exact stop _ _ (m_Rs.st step (m_Rs.rf _)) e (show ¬ (2 : Int32) = 0 by decide) (hR0.x rfl rfl) ⟨fun h => absurd h e5, fun _ => r_G.kp' (x_K_sW _ _) (m_sA_na _ _ _ (by decide)) hG⟩ hB0
    · -- TRY
      have e5 : ¬ σ.1 0 t k = 5 := by rw [ej]; decide
      have hX' : X = (0, x_niw w (x_rn (x_start n w) w (σ.1 1 t k &&& 7).toNatClampNeg σ).1 (x_rn (x_start n w) w (σ.1 1 t k &&& 7).toNatClampNeg σ).2) := by
        rw [← hX, ej]
        rfl
      have e : m_work w d t k q ν = m_begin w (d + 1) (ν.1 1 (5 * t + k) &&& 7).toNatClampNeg (m_sA (m_sA ν 10 d (nI (k + 1))) 9 d 3) := by
        unfold m_work
        rw [if_neg hkne, if_neg (by rw [ho, ej]; decide), if_neg (by rw [ho, ej]; decide), if_neg (by rw [ho, ej]; decide), if_neg (by rw [ho, ej]; decide), if_pos (by rw [ho, ej]; rfl)]
      rw [e] at step
      obtain ⟨ν2, g1, g2, g3, g4, g5, g6, g7, g8, g9, g10⟩ := use 3 (by decide) (by decide)
      have hKY := x_K_start n w (some (σ.1 1 t k &&& 7).toNatClampNeg) σ
      have gG : r_G (x_start n w (some (σ.1 1 t k &&& 7).toNatClampNeg) σ).2 ν2 d t (k + 1) q := ⟨fun h => absurd (by rw [← hKY.2.1]; exact h) e5, fun _ => r_G.kp hKY (fun p hp => g9 p (by omega)) hG⟩
      unfold x_rn at hX'
      generalize x_start n w (some (σ.1 1 t k &&& 7).toNatClampNeg) σ = Y at hX' g2 g3 g4 hKY gG
      have fin : ∀ (v : Int32) (τ : xT), m_ans w d t k q ν2 = m_sA (m_note w v ν2) 9 d 1 → X = (0, τ) → τ.1 = (x_note w v Y.2).1 → τ.2.1 = (x_note w v Y.2).2.1 → ∃ ν', m_Rs ν ν' ∧ r_Q d ν (r_how (if X.1 = 0 then x_run (x_start n w) w t r (k + 1) X.2 else (X.1, k + 1, X.2)).1, r_fin w t (r_how (if X.1 = 0 then x_run (x_start n w) w t r (k + 1) X.2 else (X.1, k + 1, X.2)).1) (x_guards w t (if X.1 = 0 then x_run (x_start n w) w t r (k + 1) X.2 else (X.1, k + 1, X.2)).2.1 (if X.1 = 0 then x_run (x_start n w) w t r (k + 1) X.2 else (X.1, k + 1, X.2)).2.2)) ν' := by
        intro v τ e2 hx h1 h2
        rw [e2] at g7
        have hKt : x_K Y.2 τ := by
          have := x_K_note w v Y.2
          exact ⟨by rw [h2]; exact this.1, by rw [h1]; exact this.2.1, by rw [h1]; exact this.2.2⟩
        refine cont _ q (m_Rs.st step (g1.tr (m_Rs.st g7 (m_Rs.rf _)))) (by rw [hx]) (by rw [hx]; exact ((r_note v g2 hw).x h1 h2).m (fun a ha => by rw [m_sA_na _ _ _ (show a ≠ 9 by omega)])) (hat ?_ ?_ ?_ ?_ ?_ hq5) ?_ (by rw [hx]; exact r_G.kp' hKt (by rw [m_sA_na _ _ _ (show 12 ≠ 9 by decide), m_note_a _ _ _ (show 12 ≠ 5 by decide) (show 12 ≠ 6 by decide)]) gG) (g8.tr ((r_B.nt _ _ _).tr (r_B.sa _ (Or.inr (Or.inl ⟨by decide, Nat.le_refl d⟩)))))
        · show (m_note w v ν2).2 0 = nI w
          rw [m_note_i]; exact g5.1
        · show (m_note w v ν2).2 1 = nI (d + 1)
          rw [m_note_i]; exact g5.2.1
        · rw [m_sA_na _ _ _ (show 8 ≠ 9 by decide), m_note_a _ _ _ (show 8 ≠ 5 by decide) (show 8 ≠ 6 by decide)]; exact g5.2.2.1
        · rw [m_sA_na _ _ _ (show 10 ≠ 9 by decide), m_note_a _ _ _ (show 10 ≠ 5 by decide) (show 10 ≠ 6 by decide)]; exact g5.2.2.2.1
        · rw [m_sA_na _ _ _ (show 11 ≠ 9 by decide), m_note_a _ _ _ (show 11 ≠ 5 by decide) (show 11 ≠ 6 by decide)]; exact g5.2.2.2.2.1
        · rw [m_sA_at]
      have hph3 : ¬ (¬ ν2.2 2 = 0 ∧ ν2.1 9 d = 2) := fun h => absurd (g6.symm.trans h.2) (by decide)
      by_cases y0 : Y.1 = 0
      · rw [if_pos y0] at hX'
        refine fin (Y.2.1 3 w (σ.1 1 t k &&& 7).toNatClampNeg) _ ?_ hX' ?_ ?_
        · unfold m_ans
          rw [if_neg hph3, if_pos (by rw [g3]; exact y0), g10, (g2.2.2.1 w _ hw hJ.2).2]
        · unfold x_niw
          rw [if_pos y0]
        · unfold x_niw
          rw [if_pos y0]
      · rw [if_neg y0] at hX'
        refine fin (1000 + 100 * Y.1 + (Y.2.2.2.2 &&& 63)) _ ?_ hX' ?_ ?_
        · unfold m_ans
          rw [if_neg hph3, if_neg (by rw [g3]; exact y0), g3, g4]
        · unfold x_niw
          rw [if_neg y0]
          rfl
        · unfold x_niw
          rw [if_neg y0]
          rfl
    · -- GUARD
      have e5 : σ.1 0 t k = 5 := by rw [ej]; rfl
      have hX' : X = (0, σ) := by
        rw [← hX, ej]
        rfl
      subst hX'
      have e : m_work w d t k q ν = m_sA (m_sA (m_sA ν 10 d (nI (k + 1))) 12 (5 * d + q) (σ.1 1 t k)) 11 d (nI (q + 1)) := by
        unfold m_work
        rw [if_neg hkne, if_neg (by rw [ho, ej]; decide), if_neg (by rw [ho, ej]; decide), if_neg (by rw [ho, ej]; decide), if_neg (by rw [ho, ej]; decide), if_neg (by rw [ho, ej]; decide), hn]
      rw [e] at step
      refine cont _ (q + 1) (m_Rs.st step (m_Rs.rf _)) rfl (hR.m (fun a ha => by rw [m_sA_na _ _ _ (show a ≠ 11 by omega), m_sA_na _ _ _ (show a ≠ 12 by omega), m_sA_na _ _ _ (show a ≠ 10 by omega)])) (hat a0 a1 ?_ ?_ ?_ (by omega)) ?_ ⟨fun _ => ⟨q, rfl, ?_, r_G.kp (x_K.rf σ) (fun p hp => ?_) hG⟩, fun h => absurd e5 h⟩ ((hB0.tr (r_B.sa _ (Or.inr (Or.inr ⟨rfl, by omega⟩)))).tr (r_B.sa _ (Or.inr (Or.inl ⟨by decide, Nat.le_refl d⟩))))
      · rw [m_sA_na _ _ _ (show 8 ≠ 11 by decide), m_sA_na _ _ _ (show 8 ≠ 12 by decide), m_sA_na _ _ _ (show 8 ≠ 10 by decide)]; exact a2
      · rw [m_sA_na _ _ _ (show 10 ≠ 11 by decide), m_sA_na _ _ _ (show 10 ≠ 12 by decide), m_sA_at]
      · rw [m_sA_at]
      · rw [m_sA_na _ _ _ (show 9 ≠ 11 by decide), m_sA_na _ _ _ (show 9 ≠ 12 by decide), m_sA_na _ _ _ (show 9 ≠ 10 by decide)]; exact hph
      · rw [m_sA_na _ _ _ (show 12 ≠ 11 by decide), m_sA_at]
      · rw [m_sA_na _ _ _ (show 12 ≠ 11 by decide), m_sA_ni _ _ _ (show 5 * d + p ≠ 5 * d + q by omega), m_sA_na _ _ _ (show 12 ≠ 10 by decide)]
end SIM
