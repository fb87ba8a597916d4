/-! more of the class's functions: which types are UNDER WAY; what a start answers -/
theorem x_sG_at (σ : xT) (k i j : Nat) (v : Int32) : (x_sG σ k i j v).1 k i j = v := by simp [x_sG, upd]
theorem x_sG_ne (σ : xT) {k i j a b c : Nat} (v : Int32) (h : ¬ (a = k ∧ b = i ∧ c = j)) : (x_sG σ k i j v).1 a b c = σ.1 a b c := by
  simp only [x_sG]
  by_cases h1 : a = k ∧ b = i
  · obtain ⟨rfl, rfl⟩ := h1
    rw [if_pos ⟨rfl, rfl⟩]
    simp only [upd]
    rw [if_neg (fun q => h ⟨rfl, rfl, q⟩)]
  · rw [if_neg h1]
theorem x_sG_nk (σ : xT) {k a : Nat} (i j : Nat) (v : Int32) (h : a ≠ k) : (x_sG σ k i j v).1 a = σ.1 a := by
  funext b
  simp only [x_sG]
  rw [if_neg (fun q => h q.1)]
theorem x_sV_at (σ : xT) (k i : Nat) (v : Int32) : (x_sV σ k i v).2.1 k i = v := by simp [x_sV, upd]
theorem x_sV_ne (σ : xT) {k i a b : Nat} (v : Int32) (h : ¬ (a = k ∧ b = i)) : (x_sV σ k i v).2.1 a b = σ.2.1 a b := by
  simp only [x_sV]
  by_cases h1 : a = k
  · subst h1
    rw [if_pos rfl]
    simp only [upd]
    rw [if_neg (fun q => h ⟨rfl, q⟩)]
  · rw [if_neg h1]
theorem x_note_g (w : Nat) (v : Int32) (σ : xT) {a : Nat} (h : a ≠ 4) : (x_note w v σ).1 a = σ.1 a := by
  unfold x_note
  show (x_sG σ 4 w _ v).1 a = σ.1 a
  exact x_sG_nk σ _ _ _ h
theorem x_note_w (w : Nat) (v : Int32) (σ : xT) : (x_note w v σ).2.2 = σ.2.2 := rfl
theorem x_note_c (w : Nat) (v : Int32) (σ : xT) (e : Nat) : (x_note w v σ).2.1 1 e = if e = w then σ.2.1 1 w + 1 else σ.2.1 1 e := by
  unfold x_note
  by_cases h : e = w
  · subst h
    rw [if_pos rfl, x_sV_at]
  · rw [if_neg h, x_sV_ne _ _ (fun q => h q.2)]
    rfl
theorem x_guards_g (w t : Nat) : ∀ (i : Nat) (σ : xT) {a : Nat}, a ≠ 4 → (x_guards w t i σ).1 a = σ.1 a
  | 0, _, _, _ => rfl
  | i + 1, σ, a, h => by
    unfold x_guards
    rw [x_guards_g w t i _ h]
    split
    · exact x_note_g _ _ _ h
    · rfl
theorem x_guards_w (w t : Nat) : ∀ (i : Nat) (σ : xT), (x_guards w t i σ).2.2 = σ.2.2
  | 0, _ => rfl
  | i + 1, σ => by
    unfold x_guards
    rw [x_guards_w w t i _]
    split
    · rfl
    · rfl
/-- the same types are UNDER WAY -/
def x_U (σ τ : xT) : Prop := ∀ w t, τ.1 2 w t = 1 ↔ σ.1 2 w t = 1
theorem x_U.rf (σ : xT) : x_U σ σ := fun _ _ => Iff.rfl
theorem x_U.tr {σ τ ρ : xT} (h : x_U σ τ) (k : x_U τ ρ) : x_U σ ρ := fun w t => (k w t).trans (h w t)
theorem x_U.of {σ τ : xT} (h : τ.1 2 = σ.1 2) : x_U σ τ := fun w t => by rw [h]
theorem x_U_note (w : Nat) (v : Int32) (σ : xT) : x_U σ (x_note w v σ) := x_U.of (x_note_g w v σ (by decide))
theorem x_U_niw (w : Nat) (o : Int32) (σ : xT) : x_U σ (x_niw w o σ) := by
  unfold x_niw
  split
  · exact x_U.rf σ
  · exact x_U.tr (x_U_note w (1000 + 100 * o + (σ.2.2.2 &&& 63)) σ) (x_U.of rfl)
theorem x_U_rn {st : Option Nat → xT → Int32 × xT} (hs : ∀ t σ, x_U σ (st t σ).2) (w t : Nat) (σ : xT) : x_U σ (x_rn st w t σ).2 := by
  unfold x_rn
  split
  · exact (hs _ _).tr (x_U_note _ _ _)
  · exact hs _ _
theorem x_U_obey {st : Option Nat → xT → Int32 × xT} (hs : ∀ t σ, x_U σ (st t σ).2) (w : Nat) (o n : Int32) (σ : xT) : x_U σ (x_obey st w o n σ).2 := by
  unfold x_obey
  split
  · exact x_U_note _ _ _
  · split
    · exact x_U_rn hs _ _ _
    · split
      · exact x_U.rf σ
      · split
        · exact x_U.rf σ
        · split
          · exact (x_U_rn hs _ _ _).tr (x_U_niw _ _ _)
          · exact x_U.rf σ
theorem x_U_run {st : Option Nat → xT → Int32 × xT} (hs : ∀ t σ, x_U σ (st t σ).2) (w t : Nat) : ∀ (r k : Nat) (σ : xT), x_U σ (x_run st w t r k σ).2.2
  | 0, _, σ => x_U.rf σ
  | r + 1, k, σ => by
    unfold x_run
    split
    · exact (x_U_obey hs _ _ _ _).tr (x_U_run hs w t r _ _)
    · exact x_U_obey hs _ _ _ _
theorem x_U_init {st : Option Nat → xT → Int32 × xT} (hs : ∀ t σ, x_U σ (st t σ).2) (w t : Nat) (σ : xT) : x_U σ (x_init st w t σ).2 := by
  have h : x_U σ (x_prog st w t (x_note w (100 + nI t) σ)).2 := ((x_U_note _ _ _).tr (x_U_run hs w t _ 0 _)).tr (x_U.of (x_guards_g w t _ _ (by decide)))
  unfold x_init
  simp only
  split
  · exact h.tr (x_U.of (x_sG_nk _ _ _ _ (by decide)))
  · exact h
theorem x_U_above {st : Option Nat → xT → Int32 × xT} (hs : ∀ t σ, x_U σ (st t σ).2) (t : Nat) (σ : xT) : x_U σ (x_above st t σ).2 := by
  unfold x_above
  split
  · exact (hs _ _).tr (hs _ _)
  · exact hs _ _
theorem x_U_up {st : Option Nat → xT → Int32 × xT} (hs : ∀ t σ, x_U σ (st t σ).2) (w t : Nat) (σ : xT) : x_U σ (x_up st w t σ).2 := by
  unfold x_up
  split
  · exact (x_U_above hs _ _).tr (x_U_init hs _ _ _)
  · exact x_U_above hs _ _
theorem x_U_start : ∀ (n w : Nat) (t : Option Nat) (σ : xT), x_U σ (x_start n w t σ).2
  | 0, _, _, σ => x_U.rf σ
  | _ + 1, _, none, σ => x_U.rf σ
  | n + 1, w, some t, σ => by
    rw [x_start]
    split
    · exact x_U.rf σ
    · split
      · rename_i h0
        have h := x_U_up (st := x_start n w) (fun t σ => x_U_start n w t σ) w t (x_sG σ 2 w t 1)
        intro w' t'
        by_cases e : w' = w ∧ t' = t
        · obtain ⟨rfl, rfl⟩ := e
          rw [x_sG_at, h0]
          constructor
          · intro q
            split at q <;> exact absurd q (by decide)
          · intro q
            exact absurd q (by decide)
        · rw [x_sG_ne _ _ (fun q => e q.2), h w' t', x_sG_ne _ _ (fun q => e q.2)]
      · exact x_U.rf σ
/-- what a start answers: never THROWN; and where it answers 0, nothing is wrong -/
def x_Z (σ : xT) (r : Int32 × xT) : Prop := ¬ r.1 = 4 ∧ (σ.2.2.2 = 0 → r.1 = 0 → r.2.2.2.2 = 0)
theorem x_Z_rn {st : Option Nat → xT → Int32 × xT} (hs : ∀ t σ, x_Z σ (st t σ)) (w t : Nat) (σ : xT) : x_Z σ (x_rn st w t σ) := by
  unfold x_rn
  split
  · exact ⟨(hs _ _).1, fun a b => (hs (some t) σ).2 a b⟩
  · exact hs _ _
theorem x_Z_obey {st : Option Nat → xT → Int32 × xT} (hs : ∀ t σ, x_Z σ (st t σ)) (w : Nat) (o n : Int32) (σ : xT) (h : σ.2.2.2 = 0) (h0 : (x_obey st w o n σ).1 = 0) : (x_obey st w o n σ).2.2.2.2 = 0 := by
  unfold x_obey at h0 ⊢
  split at h0
  · rename_i c
    rw [if_pos c]
    exact h
  · rename_i c
    rw [if_neg c]
    split at h0
    · rename_i c
      rw [if_pos c]
      exact (x_Z_rn hs _ _ _).2 h h0
    · rename_i c
      rw [if_neg c]
      split at h0
      · exact absurd (show (4 : Int32) = 0 from h0) (by decide)
      · rename_i c
        rw [if_neg c]
        split at h0
        · exact absurd (show (2 : Int32) = 0 from h0) (by decide)
        · rename_i c
          rw [if_neg c]
          split at h0
          · rename_i c
            rw [if_pos c]
            unfold x_niw
            split
            · rename_i e
              exact (x_Z_rn hs _ _ _).2 h e
            · rfl
          · rename_i c
            rw [if_neg c]
            exact h
theorem x_Z_run {st : Option Nat → xT → Int32 × xT} (hs : ∀ t σ, x_Z σ (st t σ)) (w t : Nat) : ∀ (r k : Nat) (σ : xT), σ.2.2.2 = 0 → (x_run st w t r k σ).1 = 0 → (x_run st w t r k σ).2.2.2.2.2 = 0
  | 0, _, σ, h, _ => h
  | r + 1, k, σ, h, h0 => by
    unfold x_run at h0 ⊢
    split
    · rename_i c
      rw [if_pos c] at h0
      exact x_Z_run hs w t r _ _ (x_Z_obey hs _ _ _ _ h c) h0
    · rename_i c
      rw [if_neg c] at h0
      exact absurd h0 c
theorem x_Z_init {st : Option Nat → xT → Int32 × xT} (hs : ∀ t σ, x_Z σ (st t σ)) (w t : Nat) (σ : xT) : x_Z σ (x_init st w t σ) := by
  unfold x_init x_Z
  simp only
  constructor
  · split
    · decide
    · assumption
  · intro h h0
    split at h0
    · exact absurd h0 (by decide)
    · rw [if_pos h0]
      show (x_prog st w t (x_note w (100 + nI t) σ)).2.2.2.2 = 0
      unfold x_prog at h0 ⊢
      simp only at h0 ⊢
      rw [x_guards_w]
      exact x_Z_run hs w t _ 0 _ h h0
theorem x_Z_above {st : Option Nat → xT → Int32 × xT} (hs : ∀ t σ, x_Z σ (st t σ)) (t : Nat) (σ : xT) : x_Z σ (x_above st t σ) := by
  unfold x_above
  split
  · rename_i c
    exact ⟨(hs _ _).1, fun h h0 => (hs _ _).2 ((hs _ _).2 h c) h0⟩
  · exact hs _ _
theorem x_Z_up {st : Option Nat → xT → Int32 × xT} (hs : ∀ t σ, x_Z σ (st t σ)) (w t : Nat) (σ : xT) : x_Z σ (x_up st w t σ) := by
  unfold x_up
  split
  · rename_i c
    exact ⟨(x_Z_init hs _ _ _).1, fun h h0 => (x_Z_init hs _ _ _).2 ((x_Z_above hs _ _).2 h c) h0⟩
  · exact x_Z_above hs _ _
theorem x_Z_start : ∀ (n w : Nat) (t : Option Nat) (σ : xT), x_Z σ (x_start n w t σ)
  | 0, _, _, σ => ⟨show ¬ (0 : Int32) = 4 by decide, fun h _ => h⟩
  | _ + 1, _, none, σ => ⟨show ¬ (0 : Int32) = 4 by decide, fun h _ => h⟩
  | n + 1, w, some t, σ => by
    rw [x_start]
    split
    · exact ⟨show ¬ (3 : Int32) = 4 by decide, fun _ h => absurd (show (3 : Int32) = 0 from h) (by decide)⟩
    · split
      · have h := x_Z_up (st := x_start n w) (fun t σ => x_Z_start n w t σ) w t (x_sG σ 2 w t 1)
        exact ⟨h.1, fun a b => h.2 a b⟩
      · exact ⟨show ¬ (0 : Int32) = 4 by decide, fun h _ => h⟩
