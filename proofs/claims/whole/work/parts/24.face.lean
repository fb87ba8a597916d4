/-! CALL BY CALL: the same answers, and they go on holding the same -/
def r_J (σ : xT) (μ : mT) : Prop := r_R σ μ ∧ r_I σ ∧ (∀ w t, w < 2 → t < 8 → ¬ σ.1 2 w t = 1) ∧ μ.2 1 = nI 0 ∧ μ.2 4 = σ.2.2.1 ∧ μ.2 5 = σ.2.2.2
theorem r_ltI (a : Int32) (n : Nat) (hn : n < 2 ^ 30) : nI n < a ↔ nI (n + 1) ≤ a := by
  rw [Int32.lt_iff_toInt_lt, Int32.le_iff_toInt_le, nI_toInt (by omega), nI_toInt (by omega)]
  omega
theorem r_in (a : Int32) (n : Nat) (hn : n < 2 ^ 30) : m_in a (nI 0) (nI n) = if a < 0 then 0 else if nI (n + 1) ≤ a then 0 else 1 := by
  unfold m_in
  rw [nI_0]
  by_cases h : a < 0
  · rw [if_pos h, if_pos h]
  · rw [if_neg h, if_neg h]
    by_cases h2 : nI n < a
    · rw [if_pos h2, if_pos ((r_ltI a n hn).mp h2)]
    · rw [if_neg h2, if_neg (fun q => h2 ((r_ltI a n hn).mpr q))]
theorem r_bW (a : Int32) : m_in a 0 1 = x_bW a := r_in a 1 (by decide)
theorem r_bT (a : Int32) : m_in a 0 7 = x_bT a := r_in a 7 (by decide)
theorem r_okm {σ : xT} {μ : mT} (h : r_R σ μ) (k : r_I σ) : ∀ t, t < 8 → ∃ z : Nat, z ≤ 5 ∧ μ.1 2 t = nI z := fun t ht => by
  obtain ⟨z, hz, e⟩ := k.1 t ht
  exact ⟨z, hz, by rw [h.1 t ht]; exact e⟩
theorem r_order {σ : xT} {μ : mT} (a o n : Int32) (h : r_J σ μ) : (m_order a o n μ).1 = (x_order a o n σ).1 ∧ r_J (x_order a o n σ).2 (m_order a o n μ).2 := by
  obtain ⟨hR, hI, hU, hd, ha, hw⟩ := id h
  unfold m_order x_order
  rw [r_bT]
  by_cases c1 : x_bT a = 0
  · rw [if_pos c1, if_pos c1]
    exact ⟨rfl, h⟩
  · rw [if_neg c1, if_neg c1]
    obtain ⟨t, ht, rfl⟩ := x_bT_of c1
    rw [nI_clamp (show t < 2 ^ 31 by omega)]
    have e5 : m_in o 0 5 = if o < 0 then 0 else if nI 6 ≤ o then 0 else 1 := r_in o 5 (by decide)
    have e6 : o ≤ 5 ↔ ¬ nI 6 ≤ o := by
      have := r_ltI o 5 (by decide)
      rw [← this]
      rw [show (5 : Int32) = nI 5 from rfl, Int32.not_lt]
    rw [e5]
    by_cases c2 : o < 0
    · rw [if_pos c2, if_pos c2, if_pos rfl]
      exact ⟨rfl, h⟩
    · rw [if_neg c2, if_neg c2]
      by_cases c3 : o ≤ 5
      · rw [if_pos c3, if_neg (e6.mp c3), if_neg (by decide)]
        obtain ⟨z, hz, e⟩ := hI.1 t ht
        rw [hR.1 t ht, e, nI_clamp (show z < 2 ^ 31 by omega)]
        obtain ⟨j, hj, rfl⟩ := nI_of2 (x := o) (M := 5) (n := 5) rfl c2 c3
        by_cases c4 : z = 5
        · subst c4
          rw [if_pos (show nI 5 = 5 from rfl), if_neg (show ¬ nI 5 < 5 by decide)]
          exact ⟨rfl, h⟩
        · rw [if_neg (show ¬ nI z = 5 from fun q => c4 ((nI_eq (b := 5) (by omega) (by omega)).mp q)), if_pos (show nI z < 5 from nI_lt (b := 5) (by omega) (by omega))]
          refine ⟨rfl, ?_, ?_, hU, hd, ha, hw⟩
          · obtain ⟨h1, h2, h3, h4, h5, h6⟩ := hR
            refine ⟨fun t' ht' => ?_, fun t' k ht' hk => ?_, fun w' t' hw' ht' => ?_, fun w' hw' => ?_, fun w' i hw' hi hlt => ?_, fun t' ht' => ?_⟩
            · by_cases q : t' = t
              · subst q
                rw [m_sA_at, x_sV_at]
              · rw [m_sA_ni _ _ _ q, x_sV_ne _ _ (fun p => q p.2), m_sA_na _ _ _ (show 2 ≠ 1 by decide), m_sA_na _ _ _ (show 2 ≠ 0 by decide)]
                exact h1 t' ht'
            · show (m_sA (m_sA (m_sA μ 0 (5 * t + z) (nI j)) 1 (5 * t + z) n) 2 t (nI z + 1)).1 0 (5 * t' + k) = (x_sG (x_sG σ 0 t z (nI j)) 1 t z n).1 0 t' k ∧ (m_sA (m_sA (m_sA μ 0 (5 * t + z) (nI j)) 1 (5 * t + z) n) 2 t (nI z + 1)).1 1 (5 * t' + k) = (x_sG (x_sG σ 0 t z (nI j)) 1 t z n).1 1 t' k
              rw [m_sA_na _ _ _ (show 0 ≠ 2 by decide), m_sA_na _ _ _ (show 0 ≠ 1 by decide), m_sA_na _ _ _ (show 1 ≠ 2 by decide), x_sG_nk _ _ _ _ (show 0 ≠ 1 by decide)]
              by_cases q : t' = t ∧ k = z
              · obtain ⟨rfl, rfl⟩ := q
                rw [m_sA_at, m_sA_at, x_sG_at, x_sG_at]
                exact ⟨rfl, rfl⟩
              · rw [m_sA_ni _ _ _ (show 5 * t' + k ≠ 5 * t + z by omega), m_sA_ni _ _ _ (show 5 * t' + k ≠ 5 * t + z by omega), x_sG_ne _ _ (fun p => q p.2), x_sG_ne _ _ (fun p => q p.2), m_sA_na _ _ _ (show 1 ≠ 0 by decide), x_sG_nk _ _ _ _ (show 1 ≠ 0 by decide)]
                exact h2 t' k ht' hk
            · show (m_sA (m_sA (m_sA μ 0 (5 * t + z) (nI j)) 1 (5 * t + z) n) 2 t (nI z + 1)).1 3 (8 * w' + t') = (x_sG (x_sG σ 0 t z (nI j)) 1 t z n).1 2 w' t' ∧ (m_sA (m_sA (m_sA μ 0 (5 * t + z) (nI j)) 1 (5 * t + z) n) 2 t (nI z + 1)).1 4 (8 * w' + t') = (x_sG (x_sG σ 0 t z (nI j)) 1 t z n).1 3 w' t'
              rw [m_sA_na _ _ _ (show 3 ≠ 2 by decide), m_sA_na _ _ _ (show 3 ≠ 1 by decide), m_sA_na _ _ _ (show 3 ≠ 0 by decide), m_sA_na _ _ _ (show 4 ≠ 2 by decide), m_sA_na _ _ _ (show 4 ≠ 1 by decide), m_sA_na _ _ _ (show 4 ≠ 0 by decide), x_sG_nk _ _ _ _ (show 2 ≠ 1 by decide), x_sG_nk _ _ _ _ (show 2 ≠ 0 by decide), x_sG_nk _ _ _ _ (show 3 ≠ 1 by decide), x_sG_nk _ _ _ _ (show 3 ≠ 0 by decide)]
              exact h3 w' t' hw' ht'
            · rw [m_sA_na _ _ _ (show 6 ≠ 2 by decide), m_sA_na _ _ _ (show 6 ≠ 1 by decide), m_sA_na _ _ _ (show 6 ≠ 0 by decide), x_sV_ne _ _ (fun p => absurd p.1 (by decide))]
              exact h4 w' hw'
            · rw [x_sV_ne _ _ (fun p => absurd p.1 (by decide))] at hlt ⊢
              show (m_sA (m_sA (m_sA μ 0 (5 * t + z) (nI j)) 1 (5 * t + z) n) 2 t (nI z + 1)).1 5 (32 * w' + i) = (x_sG (x_sG σ 0 t z (nI j)) 1 t z n).1 4 w' _
              rw [m_sA_na _ _ _ (show 5 ≠ 2 by decide), m_sA_na _ _ _ (show 5 ≠ 1 by decide), m_sA_na _ _ _ (show 5 ≠ 0 by decide), x_sG_nk _ _ _ _ (show 4 ≠ 1 by decide), x_sG_nk _ _ _ _ (show 4 ≠ 0 by decide)]
              exact h5 w' i hw' hi hlt
            · rw [m_sA_na _ _ _ (show 7 ≠ 2 by decide), m_sA_na _ _ _ (show 7 ≠ 1 by decide), m_sA_na _ _ _ (show 7 ≠ 0 by decide)]
              exact h6 t' ht'
          · refine ⟨fun t' ht' => ?_, fun t' k ht' hk => ?_⟩
            · by_cases q : t' = t
              · subst q
                exact ⟨z + 1, by omega, by rw [x_sV_at, nI_1]⟩
              · rw [x_sV_ne _ _ (fun p => q p.2)]
                exact hI.1 t' ht'
            · show ∃ j', j' ≤ 5 ∧ (x_sG (x_sG σ 0 t z (nI j)) 1 t z n).1 0 t' k = nI j'
              rw [x_sG_nk _ _ _ _ (show 0 ≠ 1 by decide)]
              by_cases q : t' = t ∧ k = z
              · obtain ⟨rfl, rfl⟩ := q
                exact ⟨j, hj, x_sG_at _ _ _ _ _⟩
              · rw [x_sG_ne _ _ (fun p => q p.2)]
                exact hI.2 t' k ht' hk
      · rw [if_neg c3, if_pos (Classical.byContradiction (fun q => c3 (e6.mpr q))), if_pos rfl]
        exact ⟨rfl, h⟩
theorem r_noOrders {σ : xT} {μ : mT} (a : Int32) (h : r_J σ μ) : (m_noOrders a μ).1 = (x_noOrders a σ).1 ∧ r_J (x_noOrders a σ).2 (m_noOrders a μ).2 := by
  obtain ⟨hR, hI, hU, hd, ha, hw⟩ := id h
  unfold m_noOrders x_noOrders
  rw [r_bT]
  by_cases c1 : x_bT a = 0
  · rw [if_pos c1, if_pos c1]
    exact ⟨rfl, h⟩
  · rw [if_neg c1, if_neg c1]
    obtain ⟨t, ht, rfl⟩ := x_bT_of c1
    rw [nI_clamp (show t < 2 ^ 31 by omega)]
    refine ⟨hR.1 t ht, ?_, ?_, hU, hd, ha, hw⟩
    · obtain ⟨h1, h2, h3, h4, h5, h6⟩ := hR
      refine ⟨fun t' ht' => ?_, fun t' k ht' hk => ?_, fun w' t' hw' ht' => ?_, fun w' hw' => ?_, fun w' i hw' hi hlt => ?_, fun t' ht' => ?_⟩
      · by_cases q : t' = t
        · subst q
          rw [m_sA_at, x_sV_at]
        · rw [m_sA_ni _ _ _ q, x_sV_ne _ _ (fun p => q p.2)]
          exact h1 t' ht'
      · rw [m_sA_na _ _ _ (show 0 ≠ 2 by decide), m_sA_na _ _ _ (show 1 ≠ 2 by decide)]
        exact h2 t' k ht' hk
      · rw [m_sA_na _ _ _ (show 3 ≠ 2 by decide), m_sA_na _ _ _ (show 4 ≠ 2 by decide)]
        exact h3 w' t' hw' ht'
      · rw [m_sA_na _ _ _ (show 6 ≠ 2 by decide), x_sV_ne _ _ (fun p => absurd p.1 (by decide))]
        exact h4 w' hw'
      · rw [x_sV_ne _ _ (fun p => absurd p.1 (by decide))] at hlt ⊢
        rw [m_sA_na _ _ _ (show 5 ≠ 2 by decide)]
        exact h5 w' i hw' hi hlt
      · rw [m_sA_na _ _ _ (show 7 ≠ 2 by decide)]
        exact h6 t' ht'
    · refine ⟨fun t' ht' => ?_, fun t' k ht' hk => hI.2 t' k ht' hk⟩
      by_cases q : t' = t
      · subst q
        exact ⟨0, by omega, by rw [x_sV_at, nI_0]⟩
      · rw [x_sV_ne _ _ (fun p => q p.2)]
        exact hI.1 t' ht'
theorem r_bld {w : Nat} (hw : w < 2) : ∀ (r k : Nat) (σ : xT) (μ : mT), k + r = 8 → r_R σ μ → r_R (x_bld w r k σ) (m_bld w r k μ)
  | 0, _, _, _, _, h => h
  | r + 1, k, σ, μ, hk, h => by
    unfold x_bld m_bld
    exact r_bld hw r (k + 1) _ _ (by omega) (r_value (w := w) 0 (r_state (w := w) 0 h (by omega)) (by omega))
theorem x_K_bld (w : Nat) : ∀ (r k : Nat) (σ : xT), x_K σ (x_bld w r k σ)
  | 0, _, σ => x_K.rf σ
  | r + 1, k, σ => by
    unfold x_bld
    exact x_K.tr (x_K.tr (x_K_sG σ w k 0 (k := 2) (by decide)) (x_K_sG _ w k 0 (k := 3) (by decide))) (x_K_bld w r (k + 1) _)
theorem x_bld_2 (w : Nat) : ∀ (r k : Nat) (σ : xT), (∀ w' t, w' < 2 → t < 8 → ¬ σ.1 2 w' t = 1) → ∀ w' t, w' < 2 → t < 8 → ¬ (x_bld w r k σ).1 2 w' t = 1
  | 0, _, _, h => h
  | r + 1, k, σ, h => by
    unfold x_bld
    refine x_bld_2 w r (k + 1) _ (fun w' t hw' ht => ?_)
    rw [x_sG_nk _ _ _ _ (show 2 ≠ 3 by decide)]
    by_cases q : w' = w ∧ t = k
    · obtain ⟨rfl, rfl⟩ := q
      rw [x_sG_at]
      decide
    · rw [x_sG_ne _ _ (fun p => q p.2)]
      exact h w' t hw' ht
theorem x_bld_w (w : Nat) : ∀ (r k : Nat) (σ : xT), (x_bld w r k σ).2 = σ.2
  | 0, _, _ => rfl
  | r + 1, k, σ => by
    unfold x_bld
    rw [x_bld_w w r (k + 1) _]
    rfl
theorem m_bld_i (w : Nat) : ∀ (r k : Nat) (μ : mT), (m_bld w r k μ).2 = μ.2
  | 0, _, _ => rfl
  | r + 1, k, μ => by
    unfold m_bld
    rw [m_bld_i w r (k + 1) _]
    rfl
theorem r_build {σ : xT} {μ : mT} (a : Int32) (h : r_J σ μ) : (m_build a μ).1 = (x_build a σ).1 ∧ r_J (x_build a σ).2 (m_build a μ).2 := by
  obtain ⟨hR, hI, hU, hd, ha, hw⟩ := id h
  unfold m_build x_build
  rw [r_bW]
  by_cases c1 : x_bW a = 0
  · rw [if_pos c1, if_pos c1]
    exact ⟨rfl, h⟩
  · rw [if_neg c1, if_neg c1]
    obtain ⟨w, hw2, rfl⟩ := x_bW_of c1
    rw [nI_clamp (show w < 2 ^ 31 by omega)]
    have hR2 := r_bld hw2 8 0 σ μ (by omega) hR
    have hK2 := x_K_bld w 8 0 σ
    refine ⟨rfl, ?_, r_I.K (hK2.tr (x_K_sV _ w 0 (k := 1) (by decide))) hI, x_bld_2 w 8 0 σ hU, ?_, ?_, ?_⟩
    · obtain ⟨h1, h2, h3, h4, h5, h6⟩ := hR2
      refine ⟨fun t' ht' => ?_, fun t' k ht' hk => ?_, fun w' t' hw' ht' => ?_, fun w' hw' => ?_, fun w' i hw' hi hlt => ?_, fun t' ht' => ?_⟩
      · rw [m_sA_na _ _ _ (show 2 ≠ 6 by decide), x_sV_ne _ _ (fun p => absurd p.1 (by decide))]
        exact h1 t' ht'
      · rw [m_sA_na _ _ _ (show 0 ≠ 6 by decide), m_sA_na _ _ _ (show 1 ≠ 6 by decide)]
        exact h2 t' k ht' hk
      · rw [m_sA_na _ _ _ (show 3 ≠ 6 by decide), m_sA_na _ _ _ (show 4 ≠ 6 by decide)]
        exact h3 w' t' hw' ht'
      · by_cases q : w' = w
        · subst q
          rw [m_sA_at, x_sV_at]
        · rw [m_sA_ni _ _ _ q, x_sV_ne _ _ (fun p => q p.2)]
          exact h4 w' hw'
      · by_cases q : w' = w
        · subst q
          rw [x_sV_at] at hlt
          exact absurd hlt (nI_pos (by omega))
        · rw [x_sV_ne _ _ (fun p => q p.2)] at hlt ⊢
          rw [m_sA_na _ _ _ (show 5 ≠ 6 by decide)]
          exact h5 w' i hw' hi hlt
      · rw [m_sA_na _ _ _ (show 7 ≠ 6 by decide)]
        exact h6 t' ht'
    · show (m_bld w 8 0 μ).2 1 = nI 0
      rw [m_bld_i]
      exact hd
    · show (m_bld w 8 0 μ).2 4 = (x_bld w 8 0 σ).2.2.1
      rw [m_bld_i, x_bld_w]
      exact ha
    · show (m_bld w 8 0 μ).2 5 = (x_bld w 8 0 σ).2.2.2
      rw [m_bld_i, x_bld_w]
      exact hw
theorem r_events {σ : xT} {μ : mT} (a : Int32) (h : r_J σ μ) : (m_events a μ).1 = (x_events a σ).1 ∧ r_J (x_events a σ).2 (m_events a μ).2 := by
  obtain ⟨hR, hI, hU, hd, ha, hw⟩ := id h
  unfold m_events x_events
  rw [r_bW]
  by_cases c1 : x_bW a = 0
  · rw [if_pos c1, if_pos c1]
    exact ⟨rfl, h⟩
  · rw [if_neg c1, if_neg c1]
    obtain ⟨w, hw2, rfl⟩ := x_bW_of c1
    rw [nI_clamp (show w < 2 ^ 31 by omega)]
    exact ⟨hR.2.2.2.1 w hw2, h⟩
theorem r_event {σ : xT} {μ : mT} (a i : Int32) (h : r_J σ μ) : (m_event a i μ).1 = (x_event a i σ).1 ∧ r_J (x_event a i σ).2 (m_event a i μ).2 := by
  obtain ⟨hR, hI, hU, hd, ha, hw⟩ := id h
  unfold m_event x_event
  rw [r_bW]
  by_cases c1 : x_bW a = 0
  · rw [if_pos c1, if_pos c1]
    exact ⟨rfl, h⟩
  · rw [if_neg c1, if_neg c1]
    obtain ⟨w, hw2, rfl⟩ := x_bW_of c1
    rw [nI_clamp (show w < 2 ^ 31 by omega)]
    have e : m_in i 0 31 = if i < 0 then 0 else if nI 32 ≤ i then 0 else 1 := r_in i 31 (by decide)
    rw [e]
    by_cases c2 : i < 0
    · rw [if_pos c2, if_pos c2, if_pos rfl]
      exact ⟨rfl, h⟩
    · rw [if_neg c2, if_neg c2]
      by_cases c3 : nI 32 ≤ i
      · rw [if_pos c3, if_pos rfl, if_pos (show (32 : Int32) ≤ i from c3)]
        exact ⟨rfl, h⟩
      · rw [if_neg c3, if_neg (by decide), if_neg (show ¬ (32 : Int32) ≤ i from c3), hR.2.2.2.1 w hw2]
        obtain ⟨k, hk, rfl⟩ := nI_of c2
        have hk32 : k < 32 := Nat.lt_of_not_le (fun q => c3 (nI_le q hk))
        by_cases c4 : nI k < σ.2.1 1 w
        · rw [if_pos c4, if_neg (Int32.not_le.mpr c4), nI_clamp hk]
          exact ⟨hR.2.2.2.2.1 w k hw2 hk32 c4, h⟩
        · rw [if_neg c4, if_pos (Int32.not_lt.mp c4)]
          exact ⟨rfl, h⟩
