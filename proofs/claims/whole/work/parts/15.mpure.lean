/-! THE REFERENCE, AS FUNCTIONS ON ITS STATE -/
def m_shift (w : Nat) : Nat → mT → mT
  | 0, μ => μ
  | k + 1, μ => m_shift w k (m_sA μ 5 (32 * w + (k + 1)) (μ.1 5 (32 * w + k)))
def m_note (w : Nat) (v : Int32) (μ : mT) : mT := m_sA (m_sA (m_shift w 31 μ) 5 (32 * w) v) 6 w ((m_sA (m_shift w 31 μ) 5 (32 * w) v).1 6 w + 1)
def m_beg (w t : Nat) (μ : mT) : mT := m_sI (m_sI μ 2 (if μ.1 3 (8 * w + t) = 3 then 3 else 0)) 3 0
def m_begin (w d t : Nat) (μ : mT) : mT := if μ.1 3 (8 * w + t) = 0 then m_sI (m_sA (m_sA (m_sA (m_sA (m_sA (m_beg w t μ) 3 (8 * w + t) 1) 8 d (nI t)) 9 d 0) 10 d 0) 11 d 0) 1 (nI (d + 1)) else m_beg w t μ
def m_gs (w d : Nat) : Nat → mT → mT
  | 0, μ => μ
  | k + 1, μ => m_gs w d k (m_note w (μ.1 12 (5 * d + k)) μ)
def m_fin (w t : Nat) (how n : Int32) (μ : mT) : mT := m_sI (m_sI (if how = 0 then m_sA (m_sA μ 3 (8 * w + t) 2) 4 (8 * w + t) (10 * nI t + (m_sA μ 3 (8 * w + t) 2).1 6 w) else m_sA μ 3 (8 * w + t) 3) 2 how) 3 n
def m_end (w d t q : Nat) (how n : Int32) (μ : mT) : mT := m_fin w t how n (m_gs w d q (m_sI μ 1 (nI d)))
def m_go (w d t : Nat) (μ : mT) : mT := m_note w (100 + nI t) (m_sA (m_sA μ 9 d 1) 10 d 0)
def m_nx (t x : Nat) : Option Nat := if x = 0 then x_sup t else if x = 1 then x_ifc t else none
def m_fst (w d t x : Nat) (μ : mT) : Option Nat → mT
  | some j => m_begin w (d + 1) j (m_sA μ 10 d (nI (x + 1)))
  | none => if x = 2 ∨ x_sup t = none then m_go w d t (m_sA μ 10 d (nI (x + 1))) else m_sI (m_sA μ 10 d (nI (x + 1))) 2 0
def m_first (w d t x q : Nat) (μ : mT) : mT := if ¬ x = 0 ∧ ¬ μ.2 2 = 0 then m_end w d t q (μ.2 2) (μ.2 3) μ else m_fst w d t x μ (m_nx t x)
def m_work (w d t k q : Nat) (μ : mT) : mT :=
  if nI k = μ.1 2 t then m_end w d t q 0 0 μ
  else if μ.1 0 (5 * t + k) = 0 then m_note w (μ.1 1 (5 * t + k)) (m_sA μ 10 d (nI (k + 1)))
  else if μ.1 0 (5 * t + k) = 1 then m_begin w (d + 1) (μ.1 1 (5 * t + k) &&& 7).toNatClampNeg (m_sA (m_sA μ 10 d (nI (k + 1))) 9 d 2)
  else if μ.1 0 (5 * t + k) = 2 then m_end w d t q 1 (μ.1 1 (5 * t + k)) (m_sA μ 10 d (nI (k + 1)))
  else if μ.1 0 (5 * t + k) = 3 then m_end w d t q 2 (μ.1 1 (5 * t + k)) (m_sA μ 10 d (nI (k + 1)))
  else if μ.1 0 (5 * t + k) = 4 then m_begin w (d + 1) (μ.1 1 (5 * t + k) &&& 7).toNatClampNeg (m_sA (m_sA μ 10 d (nI (k + 1))) 9 d 3)
  else m_sA (m_sA (m_sA μ 10 d (nI (k + 1))) 12 (5 * d + q) (μ.1 1 (5 * t + k))) 11 d (nI (q + 1))
/-- next is k + 1 -/
def m_ans (w d t k q : Nat) (μ : mT) : mT :=
  if ¬ μ.2 2 = 0 ∧ μ.1 9 d = 2 then m_end w d t q (μ.2 2) (μ.2 3) μ
  else m_sA (m_note w (if μ.2 2 = 0 then μ.1 4 (8 * w + (μ.1 1 (5 * t + k) &&& 7).toNatClampNeg) else 1000 + 100 * μ.2 2 + (μ.2 3 &&& 63)) μ) 9 d 1
def m_bb : Option Nat → Nat
  | none => 0
  | some j => j + 1
/-- the row 'before' -/
def m_bef (μ : mT) : Prop := ∀ t, t < 8 → μ.1 7 (2 * t) = nI (m_bb (x_sup t)) ∧ μ.1 7 (2 * t + 1) = nI (m_bb (x_ifc t))
/-- the topmost frame d: its type, what is next, how many guards -/
def m_At (w d t x q : Nat) (μ : mT) : Prop := μ.2 0 = nI w ∧ μ.2 1 = nI (d + 1) ∧ μ.1 8 d = nI t ∧ μ.1 10 d = nI x ∧ μ.1 11 d = nI q ∧ w < 2 ∧ d < 8 ∧ t < 8 ∧ q ≤ 5
/-- one turn of the loop of run -/
def m_Ok1 (μ ν : mT) : Prop := ∃ w d t x q : Nat, m_At w d t x q μ ∧
  ((μ.1 9 d = 0 ∧ x ≤ 2 ∧ m_bef μ ∧ ν = m_first w d t x q μ) ∨
   (μ.1 9 d = 1 ∧ q ≤ x ∧ (∃ z, z ≤ 5 ∧ μ.1 2 t = nI z ∧ x ≤ z) ∧ ν = m_work w d t x q μ) ∨
   (¬ μ.1 9 d = 0 ∧ ¬ μ.1 9 d = 1 ∧ ∃ k, x = k + 1 ∧ k < 5 ∧ ν = m_ans w d t k q μ))
def m_Runs : Nat → mT → mT → Prop
  | 0, μ, ν => ν = μ
  | n + 1, μ, ν => ∃ ρ, m_Ok1 μ ρ ∧ m_Runs n ρ ν
def m_Rs (μ ν : mT) : Prop := ∃ n, m_Runs n μ ν
theorem m_Rs.rf (μ : mT) : m_Rs μ μ := ⟨0, rfl⟩
theorem m_Rs.st {μ ρ ν : mT} (h : m_Ok1 μ ρ) (k : m_Rs ρ ν) : m_Rs μ ν := by
  obtain ⟨n, hn⟩ := k
  exact ⟨n + 1, ρ, h, hn⟩
theorem m_Runs_tr : ∀ (n : Nat) {μ ρ ν : mT}, m_Runs n μ ρ → m_Rs ρ ν → m_Rs μ ν
  | 0, _, _, _, h, k => by
    cases h
    exact k
  | n + 1, _, _, _, ⟨_, h1, h2⟩, k => m_Rs.st h1 (m_Runs_tr n h2 k)
theorem m_Rs.tr {μ ρ ν : mT} (h : m_Rs μ ρ) (k : m_Rs ρ ν) : m_Rs μ ν := by
  obtain ⟨n, hn⟩ := h
  exact m_Runs_tr n hn k
/-! reads behind writes -/
theorem m_sA_at (μ : mT) (a i : Nat) (v : Int32) : (m_sA μ a i v).1 a i = v := by simp [m_sA, upd]
theorem m_sA_ni (μ : mT) (a : Nat) {i j : Nat} (v : Int32) (h : j ≠ i) : (m_sA μ a i v).1 a j = μ.1 a j := by simp [m_sA, upd, h]
theorem m_sA_na (μ : mT) {a b : Nat} (i : Nat) (v : Int32) (h : b ≠ a) : (m_sA μ a i v).1 b = μ.1 b := by simp [m_sA, h]
theorem m_sI_at (μ : mT) (j : Nat) (v : Int32) : (m_sI μ j v).2 j = v := by simp [m_sI, upd]
theorem m_sI_nj (μ : mT) {j k : Nat} (v : Int32) (h : k ≠ j) : (m_sI μ j v).2 k = μ.2 k := by simp [m_sI, upd, h]
theorem m_shift_a (w : Nat) : ∀ (k : Nat) (μ : mT) (a : Nat), a ≠ 5 → (m_shift w k μ).1 a = μ.1 a
  | 0, _, _, _ => rfl
  | k + 1, μ, a, h => by
    unfold m_shift
    rw [m_shift_a w k _ a h, m_sA_na _ _ _ h]
theorem m_shift_i (w : Nat) : ∀ (k : Nat) (μ : mT), (m_shift w k μ).2 = μ.2
  | 0, _ => rfl
  | k + 1, μ => by
    unfold m_shift
    rw [m_shift_i w k _]
    rfl
theorem m_shift_5 (w : Nat) : ∀ (k : Nat) (μ : mT) (e : Nat), (m_shift w k μ).1 5 e = if 32 * w + 1 ≤ e ∧ e ≤ 32 * w + k then μ.1 5 (e - 1) else μ.1 5 e
  | 0, μ, e => by
    rw [if_neg (by omega)]
    rfl
  | k + 1, μ, e => by
    unfold m_shift
    rw [m_shift_5 w k _ e]
    by_cases h : 32 * w + 1 ≤ e ∧ e ≤ 32 * w + k
    · rw [if_pos h, if_pos (by omega), m_sA_ni _ _ _ (by omega)]
    · rw [if_neg h]
      by_cases h2 : e = 32 * w + (k + 1)
      · subst h2
        rw [m_sA_at, if_pos (by omega)]
        congr 1
      · rw [if_neg (by omega), m_sA_ni _ _ _ h2]
theorem m_note_a (w : Nat) (v : Int32) (μ : mT) {a : Nat} (h5 : a ≠ 5) (h6 : a ≠ 6) : (m_note w v μ).1 a = μ.1 a := by
  unfold m_note
  rw [m_sA_na _ _ _ h6, m_sA_na _ _ _ h5, m_shift_a w 31 μ a h5]
theorem m_note_i (w : Nat) (v : Int32) (μ : mT) : (m_note w v μ).2 = μ.2 := m_shift_i w 31 μ
theorem m_note_6 (w : Nat) (v : Int32) (μ : mT) (e : Nat) : (m_note w v μ).1 6 e = if e = w then μ.1 6 w + 1 else μ.1 6 e := by
  unfold m_note
  by_cases h : e = w
  · subst h
    rw [if_pos rfl, m_sA_at, m_sA_na _ _ _ (show 6 ≠ 5 by decide), m_shift_a _ _ _ _ (show 6 ≠ 5 by decide)]
  · rw [if_neg h, m_sA_ni _ _ _ h, m_sA_na _ _ _ (show 6 ≠ 5 by decide), m_shift_a _ _ _ _ (show 6 ≠ 5 by decide)]
theorem m_note_5 (w : Nat) (v : Int32) (μ : mT) (e : Nat) : (m_note w v μ).1 5 e = if e = 32 * w then v else if 32 * w + 1 ≤ e ∧ e ≤ 32 * w + 31 then μ.1 5 (e - 1) else μ.1 5 e := by
  unfold m_note
  rw [m_sA_na _ _ _ (show 5 ≠ 6 by decide)]
  by_cases h : e = 32 * w
  · subst h
    rw [if_pos rfl, m_sA_at]
  · rw [if_neg h, m_sA_ni _ _ _ h, m_shift_5]
theorem m_gs_a (w d : Nat) : ∀ (k : Nat) (μ : mT) {a : Nat}, a ≠ 5 → a ≠ 6 → (m_gs w d k μ).1 a = μ.1 a
  | 0, _, _, _, _ => rfl
  | k + 1, μ, a, h5, h6 => by
    unfold m_gs
    rw [m_gs_a w d k _ h5 h6, m_note_a _ _ _ h5 h6]
theorem m_gs_i (w d : Nat) : ∀ (k : Nat) (μ : mT), (m_gs w d k μ).2 = μ.2
  | 0, _ => rfl
  | k + 1, μ => by
    unfold m_gs
    rw [m_gs_i w d k _, m_note_i]
