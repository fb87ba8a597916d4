/-- the last answer stays -/
def x_An (σ τ : xT) : Prop := τ.2.2.1 = σ.2.2.1
theorem x_An.rf (σ : xT) : x_An σ σ := rfl
theorem x_An.tr {σ τ ρ : xT} (h : x_An σ τ) (k : x_An τ ρ) : x_An σ ρ := Eq.trans k h
theorem x_An_note (w : Nat) (v : Int32) (σ : xT) : x_An σ (x_note w v σ) := rfl
theorem x_An_niw (w : Nat) (o : Int32) (σ : xT) : x_An σ (x_niw w o σ) := by
  unfold x_niw
  split
  · rfl
  · rfl
theorem x_An_rn {st : Option Nat → xT → Int32 × xT} (hs : ∀ t σ, x_An σ (st t σ).2) (w t : Nat) (σ : xT) : x_An σ (x_rn st w t σ).2 := by
  unfold x_rn
  split
  · exact (hs _ _).tr (x_An_note _ _ _)
  · exact hs _ _
theorem x_An_obey {st : Option Nat → xT → Int32 × xT} (hs : ∀ t σ, x_An σ (st t σ).2) (w : Nat) (o n : Int32) (σ : xT) : x_An σ (x_obey st w o n σ).2 := by
  unfold x_obey
  split
  · exact x_An_note _ _ _
  · split
    · exact x_An_rn hs _ _ _
    · split
      · rfl
      · split
        · rfl
        · split
          · exact (x_An_rn hs _ _ _).tr (x_An_niw _ _ _)
          · rfl
theorem x_An_run {st : Option Nat → xT → Int32 × xT} (hs : ∀ t σ, x_An σ (st t σ).2) (w t : Nat) : ∀ (r k : Nat) (σ : xT), x_An σ (x_run st w t r k σ).2.2
  | 0, _, σ => x_An.rf σ
  | r + 1, k, σ => by
    unfold x_run
    split
    · exact (x_An_obey hs _ _ _ _).tr (x_An_run hs w t r _ _)
    · exact x_An_obey hs _ _ _ _
theorem x_An_init {st : Option Nat → xT → Int32 × xT} (hs : ∀ t σ, x_An σ (st t σ).2) (w t : Nat) (σ : xT) : x_An σ (x_init st w t σ).2 := by
  have h : x_An σ (x_prog st w t (x_note w (100 + nI t) σ)).2 := ((x_An_note _ _ _).tr (x_An_run hs w t _ 0 _)).tr (congrArg Prod.fst (x_guards_w w t _ _))
  unfold x_init
  simp only
  split
  · exact h
  · exact h
theorem x_An_above {st : Option Nat → xT → Int32 × xT} (hs : ∀ t σ, x_An σ (st t σ).2) (t : Nat) (σ : xT) : x_An σ (x_above st t σ).2 := by
  unfold x_above
  split
  · exact (hs _ _).tr (hs _ _)
  · exact hs _ _
theorem x_An_up {st : Option Nat → xT → Int32 × xT} (hs : ∀ t σ, x_An σ (st t σ).2) (w t : Nat) (σ : xT) : x_An σ (x_up st w t σ).2 := by
  unfold x_up
  split
  · exact (x_An_above hs _ _).tr (x_An_init hs _ _ _)
  · exact x_An_above hs _ _
theorem x_An_start : ∀ (n w : Nat) (t : Option Nat) (σ : xT), x_An σ (x_start n w t σ).2
  | 0, _, _, σ => x_An.rf σ
  | _ + 1, _, none, σ => x_An.rf σ
  | n + 1, w, some t, σ => by
    rw [x_start]
    split
    · rfl
    · split
      · exact x_An_up (st := x_start n w) (fun t σ => x_An_start n w t σ) w t (x_sG σ 2 w t 1)
      · rfl
theorem x_cnt_0 {f : Nat → Int32} (h : ∀ t, t < 8 → ¬ f t = 1) : x_cnt f = 0 := by
  unfold x_cnt
  rw [if_neg (h 0 (by decide)), if_neg (h 1 (by decide)), if_neg (h 2 (by decide)), if_neg (h 3 (by decide)), if_neg (h 4 (by decide)), if_neg (h 5 (by decide)), if_neg (h 6 (by decide)), if_neg (h 7 (by decide))]
theorem r_bM (b q : Int32) : x_bM b q = 0 ↔ (m_in q 0 13 = 0 ∨ (4 < b ∧ (q = 0 ∨ q = 3 ∨ q = 12))) := by
  unfold x_bM
  by_cases h : q = 0 ∨ q = 3 ∨ q = 12
  · have hn : ¬ m_in q 0 13 = 0 := by
      rcases h with rfl | rfl | rfl <;> decide
    rw [if_pos h]
    by_cases h4 : 4 < b
    · rw [if_pos h4]
      exact ⟨fun _ => Or.inr ⟨h4, h⟩, fun _ => rfl⟩
    · rw [if_neg h4]
      exact ⟨fun e => absurd e (by decide), fun e => absurd e (fun e => e.elim hn (fun e => h4 e.1))⟩
  · rw [if_neg h]
    unfold m_in
    exact ⟨fun e => Or.inl e, fun e => e.elim id (fun e => absurd e.2 h)⟩
theorem r_tsb {t j : Nat} (hj : j < 14) : (m_starts j → x_tsb t j = some (m_used t j)) ∧ (¬ m_starts j → x_tsb t j = none) := by
  unfold m_starts
  rcases (show j = 0 ∨ j = 1 ∨ j = 2 ∨ j = 3 ∨ j = 4 ∨ j = 5 ∨ j = 6 ∨ j = 7 ∨ j = 8 ∨ j = 9 ∨ j = 10 ∨ j = 11 ∨ j = 12 ∨ j = 13 by omega) with rfl | rfl | rfl | rfl | rfl | rfl | rfl | rfl | rfl | rfl | rfl | rfl | rfl | rfl
  all_goals first
    | exact ⟨fun _ => rfl, fun h => absurd (by decide) h⟩
    | exact ⟨fun h => absurd h (by decide), fun _ => rfl⟩
theorem r_probeR {σ : xT} {a b q : Int32} (h : m_bad a b q) : x_probe a b q σ = (-1, σ) := by
  unfold x_probe
  by_cases c1 : x_bW a = 0
  · rw [if_pos c1]
  · rw [if_neg c1]
    by_cases c2 : x_bT b = 0
    · rw [if_pos c2]
    · rw [if_neg c2]
      by_cases c3 : x_bM b q = 0
      · rw [if_pos c3]
      · exact absurd ((r_bM b q).mpr (h.elim (fun e => absurd (by rw [← r_bW]; exact e) c1) (fun h => h.elim (fun e => absurd (by rw [← r_bT]; exact e) c2) id))) c3
/-- a use behind its start -/
theorem r_use {σ : xT} {ν : mT} {w t j : Nat} (hw : w < 2) (ht : t < 8) (hj : j < 14) (hR : r_R σ ν) : r_R (x_use w t j σ).2 (m_use w t j ν) ∧ (m_use w t j ν).2 4 = (x_use w t j σ).1 ∧ (∀ k, k ≠ 4 → (m_use w t j ν).2 k = ν.2 k) ∧ x_K σ (x_use w t j σ).2 ∧ (x_use w t j σ).2.1 2 = σ.1 2 ∧ (x_use w t j σ).2.2 = σ.2 := by
  have hv := (hR.2.2.1 w t hw ht).2
  have hv0 := (hR.2.2.1 w 0 hw (by decide)).2
  have other : ∀ (v : Int32), (∀ k, k ≠ 4 → (m_sI ν 4 v).2 k = ν.2 k) := fun v k hk => m_sI_nj ν v hk
  rcases (show j = 0 ∨ j = 1 ∨ j = 2 ∨ j = 3 ∨ j = 4 ∨ j = 5 ∨ j = 6 ∨ j = 7 ∨ j = 8 ∨ j = 9 ∨ j = 10 ∨ j = 11 ∨ j = 12 ∨ j = 13 by omega) with rfl | rfl | rfl | rfl | rfl | rfl | rfl | rfl | rfl | rfl | rfl | rfl | rfl | rfl
  · exact ⟨hR.m (fun _ _ => rfl), rfl, other 1, x_K.rf σ, rfl, rfl⟩
  · exact ⟨hR.m (fun _ _ => rfl), congrArg (· + 1) hv, other _, x_K.rf σ, rfl, rfl⟩
  · exact ⟨hR.m (fun _ _ => rfl), hv, other _, x_K.rf σ, rfl, rfl⟩
  · exact ⟨(r_value (w := w) 7 hR ht).m (fun _ _ => rfl), rfl, fun k hk => m_sI_nj _ _ hk, x_K_sG σ w t 7 (k := 3) (by decide), x_sG_nk σ w t 7 (by decide), rfl⟩
  · exact ⟨hR.m (fun _ _ => rfl), rfl, other _, x_K.rf σ, rfl, rfl⟩
  · exact ⟨hR.m (fun _ _ => rfl), rfl, other _, x_K.rf σ, rfl, rfl⟩
  · exact ⟨hR.m (fun _ _ => rfl), rfl, other 1, x_K.rf σ, rfl, rfl⟩
  · exact ⟨hR.m (fun _ _ => rfl), rfl, other 1, x_K.rf σ, rfl, rfl⟩
  · exact ⟨hR.m (fun _ _ => rfl), congrArg (· + 1) hv, other _, x_K.rf σ, rfl, rfl⟩
  · exact ⟨hR.m (fun _ _ => rfl), congrArg (· + 1) hv, other _, x_K.rf σ, rfl, rfl⟩
  · exact ⟨hR.m (fun _ _ => rfl), congrArg (· + 1) hv0, other _, x_K.rf σ, rfl, rfl⟩
  · exact ⟨hR.m (fun _ _ => rfl), rfl, other _, x_K.rf σ, rfl, rfl⟩
  · exact ⟨hR.m (fun _ _ => rfl), rfl, other 1, x_K.rf σ, rfl, rfl⟩
  · exact ⟨hR.m (fun _ _ => rfl), hv, other _, x_K.rf σ, rfl, rfl⟩
theorem r_probeV {σ : xT} {μ : mT} {a b q : Int32} (h : ¬ m_bad a b q) (hJ : r_J σ μ) : ∃ (w t j : Nat) (ν : mT), w < 2 ∧ t < 8 ∧ j < 14 ∧ a = nI w ∧ b = nI t ∧ q = nI j ∧ ¬ (4 < t ∧ (j = 0 ∨ j = 3 ∨ j = 12)) ∧ ((m_starts j ∧ m_Rs (m_begin w 0 (m_used t j) (m_p0 w μ)) ν ∧ ν.2 1 = nI 0) ∨ (¬ m_starts j ∧ ν = m_p0 w μ)) ∧ (m_res w t j ν).1 = (x_probe a b q σ).1 ∧ r_J (x_probe a b q σ).2 (m_res w t j ν).2 := by
  obtain ⟨hR, hI, hU, hd, ha, hwr⟩ := hJ
  have c1 : ¬ x_bW a = 0 := fun e => h (Or.inl (by rw [r_bW]; exact e))
  have c2 : ¬ x_bT b = 0 := fun e => h (Or.inr (Or.inl (by rw [r_bT]; exact e)))
  have c3 : ¬ x_bM b q = 0 := fun e => h (Or.inr (Or.inr ((r_bM b q).mp e)))
  have h4 : ¬ (4 < b ∧ (q = 0 ∨ q = 3 ∨ q = 12)) := fun e => h (Or.inr (Or.inr (Or.inr e)))
  have ex : x_probe a b q σ = if (x_start 8 a.toNatClampNeg (x_tsb b.toNatClampNeg q.toNatClampNeg) (x_sW σ 0)).1 = 0 then
      ((x_start 8 a.toNatClampNeg (x_tsb b.toNatClampNeg q.toNatClampNeg) (x_sW σ 0)).1,
        x_sA (x_use a.toNatClampNeg b.toNatClampNeg q.toNatClampNeg (x_start 8 a.toNatClampNeg (x_tsb b.toNatClampNeg q.toNatClampNeg) (x_sW σ 0)).2).2 (x_use a.toNatClampNeg b.toNatClampNeg q.toNatClampNeg (x_start 8 a.toNatClampNeg (x_tsb b.toNatClampNeg q.toNatClampNeg) (x_sW σ 0)).2).1)
    else x_start 8 a.toNatClampNeg (x_tsb b.toNatClampNeg q.toNatClampNeg) (x_sW σ 0) := by
    unfold x_probe
    rw [if_neg c1, if_neg c2, if_neg c3]
  obtain ⟨w, hw, rfl⟩ := x_bW_of c1
  obtain ⟨t, ht, rfl⟩ := x_bT_of c2
  obtain ⟨j, hj, rfl⟩ := x_bM_of c3
  rw [nI_clamp (show w < 2 ^ 31 by omega), nI_clamp (show t < 2 ^ 31 by omega), nI_clamp (show j < 2 ^ 31 by omega)] at ex
  have hg : ¬ (4 < t ∧ (j = 0 ∨ j = 3 ∨ j = 12)) := fun e => h4 ⟨nI_lt (a := 4) e.1 (by omega), e.2.elim (fun e => Or.inl (by rw [e]; rfl)) (fun e => Or.inr (e.elim (fun e => Or.inl (by rw [e]; rfl)) (fun e => Or.inr (by rw [e]; rfl))))⟩
  have hu : m_used t j < 8 := by unfold m_used; split <;> omega
  have hR0 : r_R (x_sW σ 0) (m_p0 w μ) := (hR.x rfl rfl).m (fun _ _ => rfl)
  have hI0 : r_I (x_sW σ 0) := r_I.K (x_K_sW σ 0) hI
  have key : ∃ ν, ((m_starts j ∧ m_Rs (m_begin w 0 (m_used t j) (m_p0 w μ)) ν ∧ ν.2 1 = nI 0) ∨ (¬ m_starts j ∧ ν = m_p0 w μ)) ∧ r_Q 0 (m_p0 w μ) (x_start 8 w (x_tsb t j) (x_sW σ 0)) ν := by
    by_cases hs : m_starts j
    · rw [(r_tsb hj).1 hs]
      obtain ⟨ν, g1, g2⟩ := r_sim 8 0 rfl w (x_sW σ 0) (m_p0 w μ) (m_used t j) hw hu hR0 hI0 rfl hd (x_cnt_0 (fun t ht => hU w t hw ht)) rfl
      exact ⟨ν, Or.inl ⟨hs, g1, g2.2.1⟩, g2⟩
    · rw [(r_tsb hj).2 hs, x_start_none]
      exact ⟨_, Or.inr ⟨hs, rfl⟩, hR0, hd, rfl, rfl, r_B.rf 0 _⟩
  obtain ⟨ν, hν, q1, q2, q3, q4, q5⟩ := key
  refine ⟨w, t, j, ν, hw, ht, hj, rfl, rfl, rfl, hg, hν, ?_⟩
  rw [ex]
  have hK := x_K_start 8 w (x_tsb t j) (x_sW σ 0)
  have hUs := x_U_start 8 w (x_tsb t j) (x_sW σ 0)
  have hZ := x_Z_start 8 w (x_tsb t j) (x_sW σ 0)
  have hA := x_An_start 8 w (x_tsb t j) (x_sW σ 0)
  generalize x_start 8 w (x_tsb t j) (x_sW σ 0) = X at q1 q2 q3 q4 q5 hK hUs hZ hA ⊢
  have hIX : r_I X.2 := r_I.K hK hI0
  have hUX : ∀ w' t', w' < 2 → t' < 8 → ¬ X.2.1 2 w' t' = 1 := fun w' t' h1 h2 e => hU w' t' h1 h2 ((hUs w' t').mp e)
  unfold m_res
  by_cases x0 : X.1 = 0
  · rw [if_pos x0, if_pos (by rw [q3]; exact x0)]
    have hw0 : X.2.2.2.2 = 0 := hZ.2 rfl x0
    have ewr : m_wr ν = m_sI ν 5 0 := by
      unfold m_wr
      rw [if_pos (by rw [q3]; exact x0)]
    rw [ewr]
    obtain ⟨u1, u2, u3, u4, u5, u6⟩ := r_use (σ := X.2) (ν := m_sI ν 5 0) hw ht hj (q1.m (fun _ _ => rfl))
    refine ⟨x0.symm, u1.x rfl rfl, r_I.K (u4.tr (x_K_sA _ _)) hIX, fun w' t' h1 h2 e => hUX w' t' h1 h2 (by rw [← u5]; exact e), ?_, u2, ?_⟩
    · rw [u3 1 (by decide)]
      exact q2
    · rw [u3 5 (by decide)]
      show (0 : Int32) = (x_use w t j X.2).2.2.2.2
      rw [u6, hw0]
  · rw [if_neg x0, if_neg (by rw [q3]; exact x0)]
    have ewr : m_wr ν = m_sI ν 5 (ν.2 3) := by
      unfold m_wr
      rw [if_neg (by rw [q3]; exact x0)]
    rw [ewr]
    refine ⟨q3, q1.m (fun _ _ => rfl), hIX, hUX, q2, ?_, ?_⟩
    · show ν.2 4 = X.2.2.2.1
      rw [q5.2.2.2.1, hA]
      exact ha
    · show ν.2 3 = X.2.2.2.2
      exact q4
