/-! CLASS AND REFERENCE HOLD THE SAME -/
def r_R (σ : xT) (μ : mT) : Prop :=
  (∀ t, t < 8 → μ.1 2 t = σ.2.1 0 t) ∧
  (∀ t k, t < 8 → k < 5 → μ.1 0 (5 * t + k) = σ.1 0 t k ∧ μ.1 1 (5 * t + k) = σ.1 1 t k) ∧
  (∀ w t, w < 2 → t < 8 → μ.1 3 (8 * w + t) = σ.1 2 w t ∧ μ.1 4 (8 * w + t) = σ.1 3 w t) ∧
  (∀ w, w < 2 → μ.1 6 w = σ.2.1 1 w) ∧
  (∀ w i, w < 2 → i < 32 → nI i < σ.2.1 1 w → μ.1 5 (32 * w + i) = σ.1 4 w ((σ.2.1 1 w - 1 - nI i) &&& 31).toNatClampNeg) ∧ m_bef μ
theorem r_R.m {σ : xT} {μ ν : mT} (h : r_R σ μ) (e : ∀ a, a < 8 → ν.1 a = μ.1 a) : r_R σ ν := by
  obtain ⟨h1, h2, h3, h4, h5, h6⟩ := h
  unfold r_R m_bef
  rw [e 0 (by decide), e 1 (by decide), e 2 (by decide), e 3 (by decide), e 4 (by decide), e 5 (by decide), e 6 (by decide), e 7 (by decide)]
  exact ⟨h1, h2, h3, h4, h5, h6⟩
theorem r_R.x {σ τ : xT} {μ : mT} (h : r_R σ μ) (e1 : τ.1 = σ.1) (e2 : τ.2.1 = σ.2.1) : r_R τ μ := by
  unfold r_R
  rw [e1, e2]
  exact h
theorem r_ring0 (c : Int32) : (c + 1 - 1 - nI 0) = c := by
  rw [Int32.add_sub_cancel, nI_0, Int32.sub_zero]
theorem r_ringS (c : Int32) (i : Nat) : (c + 1 - 1 - nI (i + 1)) = c - 1 - nI i := by
  rw [Int32.add_sub_cancel, nI_succ, Int32.sub_sub, Int32.add_comm]
theorem r_cl (x : Int32) : (x &&& 31).toNatClampNeg = x.toBitVec.toNat % 32 := by
  rw [pk_and x (m := 31) 5 rfl, nI_clamp (Nat.lt_of_lt_of_le (Nat.mod_lt _ (by decide)) (by decide))]
theorem r_ringN (c : Int32) (i : Nat) (h : i < 31) : ((c - 1 - nI i) &&& 31).toNatClampNeg ≠ (c &&& 31).toNatClampNeg := by
  rw [r_cl, r_cl, Int32.sub_sub, show (1 : Int32) + nI i = nI (i + 1) by rw [nI_succ, Int32.add_comm]]
  rw [Int32.toBitVec_sub, BitVec.toNat_sub]
  have e : (nI (i + 1)).toBitVec.toNat = i + 1 := pk_tn (by omega)
  rw [e]
  have := c.toBitVec.isLt
  omega
theorem r_lt (c : Int32) (i : Nat) (hi : i < 32) (h : nI (i + 1) < c + 1) : nI i < c := by
  rw [Int32.lt_iff_toInt_lt, nI_toInt (by omega)] at h
  rw [Int32.lt_iff_toInt_lt, nI_toInt (by omega)]
  rw [Int32.toInt_add] at h
  have e : (1 : Int32).toInt = 1 := rfl
  rw [e] at h
  have a := c.toInt_lt
  have b := c.le_toInt
  rw [Int.bmod_def] at h
  split at h <;> omega
theorem r_note {σ : xT} {μ : mT} {w : Nat} (v : Int32) (h : r_R σ μ) (hw : w < 2) : r_R (x_note w v σ) (m_note w v μ) := by
  obtain ⟨h1, h2, h3, h4, h5, h6⟩ := h
  refine ⟨fun t ht => ?_, fun t k ht hk => ?_, fun w' t hw' ht => ?_, fun w' hw' => ?_, fun w' i hw' hi hlt => ?_, fun t ht => ?_⟩
  · rw [m_note_a w v μ (show 2 ≠ 5 by decide) (show 2 ≠ 6 by decide), (x_K_note w v σ).1]
    exact h1 t ht
  · rw [m_note_a w v μ (show 0 ≠ 5 by decide) (show 0 ≠ 6 by decide), m_note_a w v μ (show 1 ≠ 5 by decide) (show 1 ≠ 6 by decide), x_note_g w v σ (show 0 ≠ 4 by decide), x_note_g w v σ (show 1 ≠ 4 by decide)]
    exact h2 t k ht hk
  · rw [m_note_a w v μ (show 3 ≠ 5 by decide) (show 3 ≠ 6 by decide), m_note_a w v μ (show 4 ≠ 5 by decide) (show 4 ≠ 6 by decide), x_note_g w v σ (show 2 ≠ 4 by decide), x_note_g w v σ (show 3 ≠ 4 by decide)]
    exact h3 w' t hw' ht
  · rw [m_note_6, x_note_c, h4 w hw]
    split
    · rfl
    · exact h4 w' hw'
  · rw [x_note_c] at hlt ⊢
    rw [m_note_5]
    have hx : ∀ j, (x_note w v σ).1 4 w' j = if w' = w ∧ j = (σ.2.1 1 w &&& 31).toNatClampNeg then v else σ.1 4 w' j := fun j => by
      show (x_sG σ 4 w _ v).1 4 w' j = _
      by_cases e : w' = w ∧ j = (σ.2.1 1 w &&& 31).toNatClampNeg
      · rw [if_pos e]
        obtain ⟨rfl, rfl⟩ := e
        exact x_sG_at _ _ _ _ _
      · rw [if_neg e]
        exact x_sG_ne _ _ (fun q => e q.2)
    rw [hx]
    by_cases e : w' = w
    · subst e
      rw [if_pos rfl] at hlt ⊢
      cases i with
      | zero =>
        rw [if_pos (by omega), r_ring0, if_pos ⟨rfl, rfl⟩]
      | succ i =>
        rw [if_neg (by omega), if_pos (by omega), r_ringS, if_neg (fun q => r_ringN _ _ (by omega) q.2)]
        exact h5 w' i hw' (by omega) (r_lt _ _ (by omega) hlt)
    · rw [if_neg e] at hlt ⊢
      rw [if_neg (by omega), if_neg (by omega), if_neg (fun q => e q.1)]
      exact h5 w' i hw' hi hlt
  · rw [m_note_a w v μ (show 7 ≠ 5 by decide) (show 7 ≠ 6 by decide)]
    exact h6 t ht
theorem r_state {σ : xT} {μ : mT} {w t : Nat} (v : Int32) (h : r_R σ μ) (ht : t < 8) : r_R (x_sG σ 2 w t v) (m_sA μ 3 (8 * w + t) v) := by
  obtain ⟨h1, h2, h3, h4, h5, h6⟩ := h
  refine ⟨fun t' ht' => ?_, fun t' k ht' hk => ?_, fun w' t' hw' ht' => ?_, fun w' hw' => ?_, fun w' i hw' hi hlt => ?_, fun t' ht' => ?_⟩
  · rw [m_sA_na _ _ _ (show 2 ≠ 3 by decide)]
    exact h1 t' ht'
  · rw [m_sA_na _ _ _ (show 0 ≠ 3 by decide), m_sA_na _ _ _ (show 1 ≠ 3 by decide), x_sG_nk _ _ _ _ (show 0 ≠ 2 by decide), x_sG_nk _ _ _ _ (show 1 ≠ 2 by decide)]
    exact h2 t' k ht' hk
  · rw [m_sA_na _ _ _ (show 4 ≠ 3 by decide), x_sG_nk _ _ _ _ (show 3 ≠ 2 by decide)]
    by_cases e : w' = w ∧ t' = t
    · obtain ⟨rfl, rfl⟩ := e
      rw [m_sA_at, x_sG_at]
      exact ⟨rfl, (h3 _ _ hw' ht').2⟩
    · rw [m_sA_ni _ _ _ (show 8 * w' + t' ≠ 8 * w + t by omega), x_sG_ne _ _ (fun q => e ⟨q.2.1, q.2.2⟩)]
      exact h3 w' t' hw' ht'
  · rw [m_sA_na _ _ _ (show 6 ≠ 3 by decide)]
    exact h4 w' hw'
  · rw [m_sA_na _ _ _ (show 5 ≠ 3 by decide), x_sG_nk _ _ _ _ (show 4 ≠ 2 by decide)]
    exact h5 w' i hw' hi hlt
  · rw [m_sA_na _ _ _ (show 7 ≠ 3 by decide)]
    exact h6 t' ht'
theorem r_value {σ : xT} {μ : mT} {w t : Nat} (v : Int32) (h : r_R σ μ) (ht : t < 8) : r_R (x_sG σ 3 w t v) (m_sA μ 4 (8 * w + t) v) := by
  obtain ⟨h1, h2, h3, h4, h5, h6⟩ := h
  refine ⟨fun t' ht' => ?_, fun t' k ht' hk => ?_, fun w' t' hw' ht' => ?_, fun w' hw' => ?_, fun w' i hw' hi hlt => ?_, fun t' ht' => ?_⟩
  · rw [m_sA_na _ _ _ (show 2 ≠ 4 by decide)]
    exact h1 t' ht'
  · rw [m_sA_na _ _ _ (show 0 ≠ 4 by decide), m_sA_na _ _ _ (show 1 ≠ 4 by decide), x_sG_nk _ _ _ _ (show 0 ≠ 3 by decide), x_sG_nk _ _ _ _ (show 1 ≠ 3 by decide)]
    exact h2 t' k ht' hk
  · rw [m_sA_na _ _ _ (show 3 ≠ 4 by decide), x_sG_nk _ _ _ _ (show 2 ≠ 3 by decide)]
    by_cases e : w' = w ∧ t' = t
    · obtain ⟨rfl, rfl⟩ := e
      rw [m_sA_at, x_sG_at]
      exact ⟨(h3 _ _ hw' ht').1, rfl⟩
    · rw [m_sA_ni _ _ _ (show 8 * w' + t' ≠ 8 * w + t by omega), x_sG_ne _ _ (fun q => e ⟨q.2.1, q.2.2⟩)]
      exact h3 w' t' hw' ht'
  · rw [m_sA_na _ _ _ (show 6 ≠ 4 by decide)]
    exact h4 w' hw'
  · rw [m_sA_na _ _ _ (show 5 ≠ 4 by decide), x_sG_nk _ _ _ _ (show 4 ≠ 3 by decide)]
    exact h5 w' i hw' hi hlt
  · rw [m_sA_na _ _ _ (show 7 ≠ 4 by decide)]
    exact h6 t' ht'
theorem x_sG_comm (σ : xT) (w t w' t' : Nat) (u v : Int32) : x_sG (x_sG σ 2 w t u) 3 w' t' v = x_sG (x_sG σ 3 w' t' v) 2 w t u := by
  refine Prod.ext (funext fun a => funext fun b => funext fun c => ?_) rfl
  by_cases h2 : a = 2
  · subst h2
    rw [x_sG_nk _ _ _ _ (show 2 ≠ 3 by decide)]
    by_cases e : b = w ∧ c = t
    · obtain ⟨rfl, rfl⟩ := e
      rw [x_sG_at, x_sG_at]
    · rw [x_sG_ne _ _ (fun q => e q.2), x_sG_ne _ _ (fun q => e q.2), x_sG_nk _ _ _ _ (show 2 ≠ 3 by decide)]
  · rw [x_sG_nk (x_sG σ 3 w' t' v) _ _ _ h2]
    by_cases e : a = 3 ∧ b = w' ∧ c = t'
    · obtain ⟨rfl, rfl, rfl⟩ := e
      rw [x_sG_at, x_sG_at]
    · rw [x_sG_ne _ _ e, x_sG_ne _ _ e, x_sG_nk _ _ _ _ h2]
/-- the guards that were met among the first k orders, as the frame d of the reference keeps them -/
def r_G (σ : xT) (ν : mT) (d t : Nat) : Nat → Nat → Prop
  | 0, q => q = 0
  | k + 1, q => (σ.1 0 t k = 5 → ∃ p, q = p + 1 ∧ ν.1 12 (5 * d + p) = σ.1 1 t k ∧ r_G σ ν d t k p) ∧ (¬ σ.1 0 t k = 5 → r_G σ ν d t k q)
theorem r_G_le {σ : xT} {ν : mT} {d t : Nat} : ∀ {k q : Nat}, r_G σ ν d t k q → q ≤ k
  | 0, q, h => by
    have : q = 0 := h
    omega
  | k + 1, q, h => by
    by_cases e : σ.1 0 t k = 5
    · obtain ⟨p, rfl, -, h2⟩ := h.1 e
      have := r_G_le h2
      omega
    · have := r_G_le (h.2 e)
      omega
theorem r_G.kp {σ τ : xT} {ν ρ : mT} {d t : Nat} (hx : x_K σ τ) : ∀ {k q : Nat}, (∀ p, p < q → ρ.1 12 (5 * d + p) = ν.1 12 (5 * d + p)) → r_G σ ν d t k q → r_G τ ρ d t k q
  | 0, _, _, h => h
  | k + 1, q, hm, h => by
    refine ⟨fun e => ?_, fun e => ?_⟩
    · rw [hx.2.1] at e
      obtain ⟨p, e1, e2, e3⟩ := h.1 e
      exact ⟨p, e1, by rw [hm p (by omega), hx.2.2]; exact e2, r_G.kp hx (fun p' h' => hm p' (by omega)) e3⟩
    · rw [hx.2.1] at e
      exact r_G.kp hx hm (h.2 e)
theorem r_G.kp' {σ τ : xT} {ν ρ : mT} {d t k q : Nat} (hx : x_K σ τ) (hm : ρ.1 12 = ν.1 12) (h : r_G σ ν d t k q) : r_G τ ρ d t k q := r_G.kp hx (fun p _ => by rw [hm]) h
theorem r_guards {w d t : Nat} (hw : w < 2) : ∀ {k q : Nat} {σ : xT} {μ : mT}, r_R σ μ → r_G σ μ d t k q → r_R (x_guards w t k σ) (m_gs w d q μ)
  | 0, q, σ, μ, h, hg => by
    have : q = 0 := hg
    subst this
    exact h
  | k + 1, q, σ, μ, h, hg => by
    unfold x_guards
    by_cases e : σ.1 0 t k = 5
    · obtain ⟨p, rfl, e2, e3⟩ := hg.1 e
      rw [if_pos e]
      unfold m_gs
      rw [e2]
      exact r_guards hw (r_note _ h hw) (r_G.kp' (x_K_note _ _ _) (m_note_a _ _ _ (by decide) (by decide)) e3)
    · rw [if_neg e]
      exact r_guards hw h (hg.2 e)
