/-! THE CLASS, AS FUNCTIONS ON ITS STATE: grids 0 orders, 1 numbers, 2 states, 3 values, 4 lastEvents; rows 0 programSizes, 1 eventCounts; lastAnswer; wrongNumber -/
abbrev xT : Type := (Nat → Nat → Nat → Int32) × (Nat → Nat → Int32) × Int32 × Int32
def x_sG (σ : xT) (k i j : Nat) (v : Int32) : xT := (fun a b => if a = k ∧ b = i then upd (σ.1 k i) j v else σ.1 a b, σ.2)
def x_sV (σ : xT) (k i : Nat) (v : Int32) : xT := (σ.1, fun a => if a = k then upd (σ.2.1 k) i v else σ.2.1 a, σ.2.2)
def x_sA (σ : xT) (v : Int32) : xT := (σ.1, σ.2.1, v, σ.2.2.2)
def x_sW (σ : xT) (v : Int32) : xT := (σ.1, σ.2.1, σ.2.2.1, v)
def x_I : Option Nat → Int32
  | none => -1
  | some j => nI j
def x_sup (t : Nat) : Option Nat := if t = 1 then some 0 else if t = 2 then some 1 else if t = 4 then some 3 else none
def x_ifc (t : Nat) : Option Nat := if t = 2 then some 5 else if t = 4 then some 5 else none
def x_note (w : Nat) (v : Int32) (σ : xT) : xT := x_sV (x_sG σ 4 w ((σ.2.1 1 w &&& 31).toNatClampNeg) v) 1 w (σ.2.1 1 w + 1)
def x_niw (w : Nat) (o : Int32) (σ : xT) : xT := if o = 0 then σ else x_sW (x_note w (1000 + 100 * o + (σ.2.2.2 &&& 63)) σ) 0
def x_guards (w t : Nat) : Nat → xT → xT
  | 0, σ => σ
  | i + 1, σ => x_guards w t i (if σ.1 0 t i = 5 then x_note w (σ.1 1 t i) σ else σ)
def x_rn (st : Option Nat → xT → Int32 × xT) (w t : Nat) (σ : xT) : Int32 × xT := if (st (some t) σ).1 = 0 then ((st (some t) σ).1, x_note w ((st (some t) σ).2.1 3 w t) (st (some t) σ).2) else st (some t) σ
def x_obey (st : Option Nat → xT → Int32 × xT) (w : Nat) (o n : Int32) (σ : xT) : Int32 × xT :=
  if o = 0 then (0, x_note w n σ)
  else if o = 1 then x_rn st w (n &&& 7).toNatClampNeg σ
  else if o = 2 then (4, x_sW σ n)
  else if o = 3 then (2, x_sW σ n)
  else if o = 4 then (0, x_niw w (x_rn st w (n &&& 7).toNatClampNeg σ).1 (x_rn st w (n &&& 7).toNatClampNeg σ).2)
  else (0, σ)
/-- the program's orders from place k on, r of them left: what went wrong, how many were reached, the state -/
def x_run (st : Option Nat → xT → Int32 × xT) (w t : Nat) : Nat → Nat → xT → Int32 × Nat × xT
  | 0, k, σ => (0, k, σ)
  | r + 1, k, σ => if (x_obey st w (σ.1 0 t k) (σ.1 1 t k) σ).1 = 0 then x_run st w t r (k + 1) (x_obey st w (σ.1 0 t k) (σ.1 1 t k) σ).2 else ((x_obey st w (σ.1 0 t k) (σ.1 1 t k) σ).1, k + 1, (x_obey st w (σ.1 0 t k) (σ.1 1 t k) σ).2)
def x_prog (st : Option Nat → xT → Int32 × xT) (w t : Nat) (σ : xT) : Int32 × xT := ((x_run st w t (σ.2.1 0 t).toNatClampNeg 0 σ).1, x_guards w t (x_run st w t (σ.2.1 0 t).toNatClampNeg 0 σ).2.1 (x_run st w t (σ.2.1 0 t).toNatClampNeg 0 σ).2.2)
def x_init (st : Option Nat → xT → Int32 × xT) (w t : Nat) (σ : xT) : Int32 × xT :=
  let r := x_prog st w t (x_note w (100 + nI t) σ)
  (if r.1 = 4 then 1 else r.1, if r.1 = 0 then x_sG r.2 3 w t (10 * nI t + r.2.2.1 1 w) else r.2)
def x_above (st : Option Nat → xT → Int32 × xT) (t : Nat) (σ : xT) : Int32 × xT := if (st (x_sup t) σ).1 = 0 then st (x_ifc t) (st (x_sup t) σ).2 else st (x_sup t) σ
def x_up (st : Option Nat → xT → Int32 × xT) (w t : Nat) (σ : xT) : Int32 × xT := if (x_above st t σ).1 = 0 then x_init st w t (x_above st t σ).2 else x_above st t σ
def x_start : Nat → Nat → Option Nat → xT → Int32 × xT
  | 0, _, _, σ => (0, σ)
  | _ + 1, _, none, σ => (0, σ)
  | n + 1, w, some t, σ =>
    if σ.1 2 w t = 3 then (3, x_sW σ 0)
    else if σ.1 2 w t = 0 then
      ((x_up (x_start n w) w t (x_sG σ 2 w t 1)).1, x_sG (x_up (x_start n w) w t (x_sG σ 2 w t 1)).2 2 w t (if (x_up (x_start n w) w t (x_sG σ 2 w t 1)).1 = 0 then 2 else 3))
    else (0, σ)
/-- the numbers of a world and of a type -/
def x_isW (w : Int32) : Prop := ¬ w < 0 ∧ ¬ 2 ≤ w
def x_isT (t : Int32) : Prop := ¬ t < 0 ∧ ¬ 8 ≤ t
/-- programs are of at most five orders -/
def x_ok (σ : xT) : Prop := ∀ t, t < 8 → ∃ n : Nat, n ≤ 5 ∧ σ.2.1 0 t = nI n
/-- programs stay -/
def x_K (σ τ : xT) : Prop := τ.2.1 0 = σ.2.1 0 ∧ τ.1 0 = σ.1 0 ∧ τ.1 1 = σ.1 1
theorem x_K.rf (σ : xT) : x_K σ σ := ⟨rfl, rfl, rfl⟩
theorem x_K.tr {σ τ ρ : xT} (h : x_K σ τ) (k : x_K τ ρ) : x_K σ ρ := ⟨k.1.trans h.1, k.2.1.trans h.2.1, k.2.2.trans h.2.2⟩
theorem x_K.ok {σ τ : xT} (h : x_K σ τ) (k : x_ok σ) : x_ok τ := fun t ht => by rw [h.1]; exact k t ht
theorem x_K_sG (σ : xT) {k : Nat} (i j : Nat) (v : Int32) (h : 2 ≤ k) : x_K σ (x_sG σ k i j v) := by
  refine ⟨rfl, ?_, ?_⟩ <;> funext b <;> simp only [x_sG] <;> rw [if_neg (fun q => by omega)]
theorem x_K_sV (σ : xT) {k : Nat} (i : Nat) (v : Int32) (h : 1 ≤ k) : x_K σ (x_sV σ k i v) := by
  refine ⟨?_, rfl, rfl⟩
  simp only [x_sV]
  rw [if_neg (fun q => by omega)]
theorem x_K_sW (σ : xT) (v : Int32) : x_K σ (x_sW σ v) := ⟨rfl, rfl, rfl⟩
theorem x_K_sA (σ : xT) (v : Int32) : x_K σ (x_sA σ v) := ⟨rfl, rfl, rfl⟩
theorem x_K_note (w : Nat) (v : Int32) (σ : xT) : x_K σ (x_note w v σ) := (x_K_sG σ _ _ _ (by omega)).tr (x_K_sV _ _ _ (by omega))
theorem x_K_niw (w : Nat) (o : Int32) (σ : xT) : x_K σ (x_niw w o σ) := by
  unfold x_niw
  split
  · exact x_K.rf σ
  · exact (x_K_note _ _ _).tr (x_K_sW _ _)
theorem x_K_guards (w t : Nat) : ∀ (i : Nat) (σ : xT), x_K σ (x_guards w t i σ)
  | 0, σ => x_K.rf σ
  | i + 1, σ => by
    unfold x_guards
    refine x_K.tr ?_ (x_K_guards w t i _)
    split
    · exact x_K_note _ _ _
    · exact x_K.rf σ
theorem x_K_rn {st : Option Nat → xT → Int32 × xT} (hs : ∀ t σ, x_K σ (st t σ).2) (w t : Nat) (σ : xT) : x_K σ (x_rn st w t σ).2 := by
  unfold x_rn
  split
  · exact (hs _ _).tr (x_K_note _ _ _)
  · exact hs _ _
theorem x_K_obey {st : Option Nat → xT → Int32 × xT} (hs : ∀ t σ, x_K σ (st t σ).2) (w : Nat) (o n : Int32) (σ : xT) : x_K σ (x_obey st w o n σ).2 := by
  unfold x_obey
  split
  · exact x_K_note _ _ _
  · split
    · exact x_K_rn hs _ _ _
    · split
      · exact x_K_sW _ _
      · split
        · exact x_K_sW _ _
        · split
          · exact (x_K_rn hs _ _ _).tr (x_K_niw _ _ _)
          · exact x_K.rf σ
theorem x_K_run {st : Option Nat → xT → Int32 × xT} (hs : ∀ t σ, x_K σ (st t σ).2) (w t : Nat) : ∀ (r k : Nat) (σ : xT), x_K σ (x_run st w t r k σ).2.2
  | 0, _, σ => x_K.rf σ
  | r + 1, k, σ => by
    unfold x_run
    split
    · exact (x_K_obey hs _ _ _ _).tr (x_K_run hs w t r _ _)
    · exact x_K_obey hs _ _ _ _
theorem x_K_prog {st : Option Nat → xT → Int32 × xT} (hs : ∀ t σ, x_K σ (st t σ).2) (w t : Nat) (σ : xT) : x_K σ (x_prog st w t σ).2 := (x_K_run hs w t _ 0 σ).tr (x_K_guards w t _ _)
theorem x_K_init {st : Option Nat → xT → Int32 × xT} (hs : ∀ t σ, x_K σ (st t σ).2) (w t : Nat) (σ : xT) : x_K σ (x_init st w t σ).2 := by
  have h : x_K σ (x_prog st w t (x_note w (100 + nI t) σ)).2 := (x_K_note _ _ _).tr (x_K_prog hs _ _ _)
  unfold x_init
  simp only
  split
  · exact h.tr (x_K_sG _ _ _ _ (by omega))
  · exact h
theorem x_K_above {st : Option Nat → xT → Int32 × xT} (hs : ∀ t σ, x_K σ (st t σ).2) (t : Nat) (σ : xT) : x_K σ (x_above st t σ).2 := by
  unfold x_above
  split
  · exact (hs _ _).tr (hs _ _)
  · exact hs _ _
theorem x_K_up {st : Option Nat → xT → Int32 × xT} (hs : ∀ t σ, x_K σ (st t σ).2) (w t : Nat) (σ : xT) : x_K σ (x_up st w t σ).2 := by
  unfold x_up
  split
  · exact (x_K_above hs _ _).tr (x_K_init hs _ _ _)
  · exact x_K_above hs _ _
theorem x_K_start : ∀ (n w : Nat) (t : Option Nat) (σ : xT), x_K σ (x_start n w t σ).2
  | 0, _, _, σ => x_K.rf σ
  | _ + 1, _, none, σ => x_K.rf σ
  | n + 1, w, some t, σ => by
    unfold x_start
    split
    · exact x_K_sW _ _
    · split
      · exact ((x_K_sG σ _ _ _ (by omega)).tr (x_K_up (fun t σ => x_K_start n w t σ) _ _ _)).tr (x_K_sG _ _ _ _ (by omega))
      · exact x_K.rf σ
