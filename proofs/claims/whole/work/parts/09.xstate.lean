/-! THE CLASS'S WORLD: 30 cells, in the order in which its constructor makes them: 0 the object; a grid is its outer row and then its rows -/
def x_n (k : Nat) : Nat := if k < 2 then 8 else 2
def x_k (k : Nat) : Nat := if k < 2 then 5 else if k < 4 then 8 else 32
def x_u (k : Nat) : Nat := if k = 0 then 1 else if k = 1 then 10 else if k = 2 then 20 else if k = 3 then 23 else 26
def x_o (k : Nat) : Nat := if k = 0 then 2 else if k = 1 then 11 else if k = 2 then 21 else if k = 3 then 24 else 27
def x_v (k : Nat) : Nat := if k = 0 then 8 else 2
def x_p (k : Nat) : Nat := if k = 0 then 19 else 29
def x_fs (g : Nat → Nat) (σ : xT) : List Value := [.ref (g 1), .ref (g 10), .ref (g 19), .ref (g 20), .ref (g 23), .ref (g 26), .ref (g 29), .int σ.2.2.1, .int σ.2.2.2]
def x_q (cJ : ClassId) (g : Nat → Nat) (k : Nat) : va_E := .inl (cJ, x_n k, .inr (.inr (.inr (.inr (fun i => if i < x_n k then some (g (x_o k + i)) else none)))))
def x_r (cI : ClassId) (σ : xT) (k i : Nat) : va_E := .inl (cI, x_k k, .inl (σ.1 k i))
def x_w (cI : ClassId) (σ : xT) (k : Nat) : va_E := .inl (cI, x_v k, .inl (σ.2.1 k))
def x_E (cI cJ : ClassId) (g : Nat → Nat) (σ : xT) (k : Nat) : va_E :=
  if k = 0 then .inr (0, x_fs g σ)
  else if k = 1 then x_q cJ g 0 else if k < 10 then x_r cI σ 0 (k - 2)
  else if k = 10 then x_q cJ g 1 else if k < 19 then x_r cI σ 1 (k - 11)
  else if k = 19 then x_w cI σ 0
  else if k = 20 then x_q cJ g 2 else if k < 23 then x_r cI σ 2 (k - 21)
  else if k = 23 then x_q cJ g 3 else if k < 26 then x_r cI σ 3 (k - 24)
  else if k = 26 then x_q cJ g 4 else if k < 29 then x_r cI σ 4 (k - 27)
  else x_w cI σ 1
section XE
variable {cI cJ : ClassId} {g : Nat → Nat} {σ : xT}
theorem x_E_0 : x_E cI cJ g σ 0 = .inr (0, x_fs g σ) := rfl
theorem x_E_v {k : Nat} (h : k < 2) : x_E cI cJ g σ (x_p k) = .inl (cI, x_v k, .inl (σ.2.1 k)) := by
  rcases (show k = 0 ∨ k = 1 by omega) with rfl | rfl <;> rfl
theorem x_E_o {k : Nat} (h : k < 5) : x_E cI cJ g σ (x_u k) = .inl (cJ, x_n k, .inr (.inr (.inr (.inr (fun i => if i < x_n k then some (g (x_o k + i)) else none))))) := by
  rcases (show k = 0 ∨ k = 1 ∨ k = 2 ∨ k = 3 ∨ k = 4 by omega) with rfl | rfl | rfl | rfl | rfl <;> rfl
theorem x_E_r {k i : Nat} (h : k < 5) (hi : i < x_n k) : x_E cI cJ g σ (x_o k + i) = .inl (cI, x_k k, .inl (σ.1 k i)) := by
  rcases (show k = 0 ∨ k = 1 ∨ k = 2 ∨ k = 3 ∨ k = 4 by omega) with rfl | rfl | rfl | rfl | rfl
  · have hi : i < 8 := hi
    rcases (show i = 0 ∨ i = 1 ∨ i = 2 ∨ i = 3 ∨ i = 4 ∨ i = 5 ∨ i = 6 ∨ i = 7 by omega) with rfl | rfl | rfl | rfl | rfl | rfl | rfl | rfl <;> rfl
  · have hi : i < 8 := hi
    rcases (show i = 0 ∨ i = 1 ∨ i = 2 ∨ i = 3 ∨ i = 4 ∨ i = 5 ∨ i = 6 ∨ i = 7 by omega) with rfl | rfl | rfl | rfl | rfl | rfl | rfl | rfl <;> rfl
  · have hi : i < 2 := hi
    rcases (show i = 0 ∨ i = 1 by omega) with rfl | rfl <;> rfl
  · have hi : i < 2 := hi
    rcases (show i = 0 ∨ i = 1 by omega) with rfl | rfl <;> rfl
  · have hi : i < 2 := hi
    rcases (show i = 0 ∨ i = 1 by omega) with rfl | rfl <;> rfl
theorem x_r_lt {k i : Nat} (h : k < 5) (hi : i < x_n k) : x_o k + i < 30 := by
  rcases (show k = 0 ∨ k = 1 ∨ k = 2 ∨ k = 3 ∨ k = 4 by omega) with rfl | rfl | rfl | rfl | rfl
  · have hi : i < 8 := hi
    show 2 + i < 30
    omega
  · have hi : i < 8 := hi
    show 11 + i < 30
    omega
  · have hi : i < 2 := hi
    show 21 + i < 30
    omega
  · have hi : i < 2 := hi
    show 24 + i < 30
    omega
  · have hi : i < 2 := hi
    show 27 + i < 30
    omega
theorem x_u_lt {k : Nat} (h : k < 5) : x_u k < 30 := by
  rcases (show k = 0 ∨ k = 1 ∨ k = 2 ∨ k = 3 ∨ k = 4 by omega) with rfl | rfl | rfl | rfl | rfl <;> decide
theorem x_p_lt {k : Nat} (h : k < 2) : x_p k < 30 := by
  rcases (show k = 0 ∨ k = 1 by omega) with rfl | rfl <;> decide
/-- two states that agree at a place's content agree at the place -/
theorem x_E_by {τ : xT} (k : Nat) (h0 : k = 0 → x_fs g σ = x_fs g τ) (hr : ∀ b i, k = x_o b + i → b < 5 → i < x_n b → σ.1 b i = τ.1 b i) (hv : ∀ b, k = x_p b → b < 2 → σ.2.1 b = τ.2.1 b) (hk : k < 30) : x_E cI cJ g σ k = x_E cI cJ g τ k := by
  have er : ∀ b i, k = x_o b + i → b < 5 → i < x_n b → x_r cI σ b i = x_r cI τ b i := fun b i h1 h2 h3 => by
    unfold x_r
    rw [hr b i h1 h2 h3]
  have ev : ∀ b, k = x_p b → b < 2 → x_w cI σ b = x_w cI τ b := fun b h1 h2 => by
    unfold x_w
    rw [hv b h1 h2]
  unfold x_E
  by_cases k0 : k = 0
  · rw [if_pos k0, if_pos k0, h0 k0]
  rw [if_neg k0, if_neg k0]
  by_cases k1 : k = 1
  · rw [if_pos k1, if_pos k1]
  rw [if_neg k1, if_neg k1]
  by_cases k2 : k < 10
  · rw [if_pos k2, if_pos k2, er 0 (k - 2) (show k = 2 + (k - 2) by omega) (by decide) (show k - 2 < 8 by omega)]
  rw [if_neg k2, if_neg k2]
  by_cases k3 : k = 10
  · rw [if_pos k3, if_pos k3]
  rw [if_neg k3, if_neg k3]
  by_cases k4 : k < 19
  · rw [if_pos k4, if_pos k4, er 1 (k - 11) (show k = 11 + (k - 11) by omega) (by decide) (show k - 11 < 8 by omega)]
  rw [if_neg k4, if_neg k4]
  by_cases k5 : k = 19
  · rw [if_pos k5, if_pos k5, ev 0 k5 (by decide)]
  rw [if_neg k5, if_neg k5]
  by_cases k6 : k = 20
  · rw [if_pos k6, if_pos k6]
  rw [if_neg k6, if_neg k6]
  by_cases k7 : k < 23
  · rw [if_pos k7, if_pos k7, er 2 (k - 21) (show k = 21 + (k - 21) by omega) (by decide) (show k - 21 < 2 by omega)]
  rw [if_neg k7, if_neg k7]
  by_cases k8 : k = 23
  · rw [if_pos k8, if_pos k8]
  rw [if_neg k8, if_neg k8]
  by_cases k9 : k < 26
  · rw [if_pos k9, if_pos k9, er 3 (k - 24) (show k = 24 + (k - 24) by omega) (by decide) (show k - 24 < 2 by omega)]
  rw [if_neg k9, if_neg k9]
  by_cases k10 : k = 26
  · rw [if_pos k10, if_pos k10]
  rw [if_neg k10, if_neg k10]
  by_cases k11 : k < 29
  · rw [if_pos k11, if_pos k11, er 4 (k - 27) (show k = 27 + (k - 27) by omega) (by decide) (show k - 27 < 2 by omega)]
  rw [if_neg k11, if_neg k11]
  rw [ev 1 (show k = 29 by omega) (by decide)]
theorem x_up_G {a i j : Nat} {v : Int32} (h : a < 5) (hi : i < x_n a) : ∀ k, k < 30 → va_up (x_E cI cJ g σ) (x_o a + i) (.inl (cI, x_k a, .inl (upd (σ.1 a i) j v))) k = x_E cI cJ g (x_sG σ a i j v) k := by
  intro k hk
  by_cases e : k = x_o a + i
  · subst e
    rw [va_up_self, x_E_r h hi]
    simp [x_sG]
  · rw [va_up_ne _ _ e]
    refine x_E_by k (fun _ => rfl) (fun b r hr _ _ => ?_) (fun _ _ _ => rfl) hk
    simp only [x_sG]
    rw [if_neg]
    rintro ⟨rfl, rfl⟩
    exact e hr
theorem x_up_V {a i : Nat} {v : Int32} (h : a < 2) : ∀ k, k < 30 → va_up (x_E cI cJ g σ) (x_p a) (.inl (cI, x_v a, .inl (upd (σ.2.1 a) i v))) k = x_E cI cJ g (x_sV σ a i v) k := by
  intro k hk
  by_cases e : k = x_p a
  · subst e
    rw [va_up_self, x_E_v h]
    simp [x_sV]
  · rw [va_up_ne _ _ e]
    refine x_E_by k (fun _ => rfl) (fun _ _ _ _ _ => rfl) (fun b hb _ => ?_) hk
    simp only [x_sV]
    rw [if_neg]
    rintro rfl
    exact e hb
theorem x_up_A {v : Int32} : ∀ k, k < 30 → va_up (x_E cI cJ g σ) 0 (.inr (0, (x_fs g σ).set 7 (.int v))) k = x_E cI cJ g (x_sA σ v) k := by
  intro k hk
  by_cases e : k = 0
  · subst e
    rw [va_up_self]
    rfl
  · rw [va_up_ne _ _ e]
    exact x_E_by k (fun h => absurd h e) (fun _ _ _ _ _ => rfl) (fun _ _ _ => rfl) hk
theorem x_up_W {v : Int32} : ∀ k, k < 30 → va_up (x_E cI cJ g σ) 0 (.inr (0, (x_fs g σ).set 8 (.int v))) k = x_E cI cJ g (x_sW σ v) k := by
  intro k hk
  by_cases e : k = 0
  · subst e
    rw [va_up_self]
    rfl
  · rw [va_up_ne _ _ e]
    exact x_E_by k (fun h => absurd h e) (fun _ _ _ _ _ => rfl) (fun _ _ _ => rfl) hk
end XE
/-- the two written rows of the class: superclasses, interfaces to start -/
def x_St (tS tJ : Nat) (g : Nat → Nat) (U : State) : Prop := va_Z "StartupProbes" "SUPERCLASS" "[I" (.ref tS) (fw_A 30 g) U U.heap ∧ va_T .int tS 8 (fun j => .int (x_I (x_sup j))) (fw_A 30 g) U U.heap ∧ va_Z "StartupProbes" "STARTED_INTERFACE" "[I" (.ref tJ) (fw_A 30 g) U U.heap ∧ va_T .int tJ 8 (fun j => .int (x_I (x_ifc j))) (fw_A 30 g) U U.heap
def x_C (D : va_G) (cI cJ : ClassId) (g : Nat → Nat) (tS tJ : Nat) (s : State) : Prop := fw_C D vwCl [(cI, .int), (cJ, .array .int)] 30 g s ∧ x_St tS tJ g s
def x_P (D : va_G) (cI cJ : ClassId) (g : Nat → Nat) (s : State) (H : Heap) (locs : List Loc) (σ : xT) : Prop := fw_P D vwCl 30 g s H locs (x_E cI cJ g σ)
def x_Pre (D : va_G) (cI cJ : ClassId) (g : Nat → Nat) (tS tJ : Nat) (σ : xT) (U : State) : Prop := va_P D vwCl (fw 30 g (x_E cI cJ g σ)) U.heap ∧ x_C D cI cJ g tS tJ U
theorem x_C.moved {D : va_G} {cI cJ : ClassId} {g : Nat → Nat} {tS tJ : Nat} {s U : State} (hC : x_C D cI cJ g tS tJ s) (hvm : s.vm.Alike U.vm) (hz : ∀ a : Nat, a < s.heap.size → ¬ fw_A 30 g a → U.heap[a]? = s.heap[a]?) : x_C D cI cJ g tS tJ U := by
  obtain ⟨⟨hK, hJ⟩, h1, h2, h3, h4⟩ := hC
  exact ⟨⟨va_K.moved hvm hK, hJ⟩, (va_Z.moved hvm h1).kept hz, (va_T.moved hvm h2).kept hz, (va_Z.moved hvm h3).kept hz, (va_T.moved hvm h4).kept hz⟩
theorem x_Pre.at {D : va_G} {cI cJ : ClassId} {g : Nat → Nat} {tS tJ : Nat} {s : State} {H : Heap} {locs : List Loc} {σ : xT} (hC : x_C D cI cJ g tS tJ s) (hp : x_P D cI cJ g s H locs σ) : ∀ U : State, U.heap = H → s.WarmedH U.vm → x_Pre D cI cJ g tS tJ σ U := fun U hU hW => by
  refine ⟨by rw [hU]; exact hp.1, hC.moved hW.alike fun a h1 h2 => ?_⟩
  rw [hU]
  exact hp.2.2.1 a h1 h2
theorem x_blind {D : va_G} {cI cJ : ClassId} {g : Nat → Nat} {tS tJ : Nat} {σ : xT} {av : List Value} : FrameBlind (va_Pc av (x_Pre D cI cJ g tS tJ σ)) := fun a U f mk q => ⟨q.1, q.2.1, q.2.2.moved (U := U.calling f mk a) (Vm.Alike.refl U.vm) (fun _ _ _ => rfl)⟩
/-- a contract of a method of the class that answers an int: its answer and the new state are F -/
def x_Mi (l : Launch) (y : MethodName) (ws : List Cond) (rm : Room) (D : va_G) (cI cJ : ClassId) (g : Nat → Nat) (tS tJ : Nat) (σ : xT) (As : List Value) (F : Int32 × xT) : Prop := Met l y ws rm (va_Pc (.ref (g 0) :: As) (x_Pre D cI cJ g tS tJ σ)) (va_Qi (fun r τ => (r, τ) = F) (fun τ t => va_P D vwCl (fw 30 g (x_E cI cJ g τ)) t.heap) (fw_A 30 g)) 0 0 (fw_A 30 g)
def x_Mv (l : Launch) (y : MethodName) (ws : List Cond) (rm : Room) (D : va_G) (cI cJ : ClassId) (g : Nat → Nat) (tS tJ : Nat) (σ : xT) (As : List Value) (F : xT) : Prop := Met l y ws rm (va_Pc (.ref (g 0) :: As) (x_Pre D cI cJ g tS tJ σ)) (va_Qv (fun τ => τ = F) (fun τ t => va_P D vwCl (fw 30 g (x_E cI cJ g τ)) t.heap) (fw_A 30 g)) 0 0 (fw_A 30 g)
/-- a static method that answers an int (or a boolean) out of its arguments alone -/
def x_Ms (l : Launch) (y : MethodName) (ws : List Cond) (As : List Value) (r : Int32) : Prop := Met l y ws { frames := 0, cells := 0, slots := 0, locals := 0 } (va_Pc As (fun _ => True)) (vp_Si (fun v => v = r)) 0 0 (fun _ => False)
section XR
variable {p : Program} {l : Launch} {e : Env} {R : Room} {s : State} {m : MethodId} {args : Array Value} {below : List Frame} {meth : Method} {c : Code} {H : Heap} {locs : List Loc} {cells slots : Nat} {Q : State → Prop}
variable {cc : ByteArray} {pc : Nat} {ls : Array Slot} {rest : List Value} {D : va_G} {cI cJ : ClassId} {g : Nat → Nat} {tS tJ : Nat} {σ : xT}
theorem x_get (hx : p.tables.exec = Jvm.exec) (hb : c.code = cc) (hts : ∀ w ∈ lw_g, w.before args s = true) (hown : s.vm.findClass RX0 = some m.cls) (hC : x_C D cI cJ g tS tJ s) (hp : x_P D cI cJ g s H locs σ) {index : Nat} (k : Nat) (hk : k < 9) (hlink : Cond.fieldLink RX0 index (TX0 k).1 (TX0 k).2.1 (TX0 k).2.2.1 ∈ lw_g) {v : Value} (hv : (x_fs g σ)[k]? = some v) (hdg : decode cc pc = .ok (.getfield index, 3)) (kk : W p l e R s m args below meth c H locs cells slots Q (F0 m (pc + 3) ls (v :: rest))) : W p l e R s m args below meth c H locs cells slots Q (F0 m pc ls (.ref (g 0) :: rest)) :=
  fr_get (C := RX0) (T := TX0) (M := 9) hx hb hts x_inT hown hC.1 hp 0 (by omega) x_E_0 rfl k hk (hts _ hlink) hv hdg kk
theorem x_putA (hx : p.tables.exec = Jvm.exec) (hb : c.code = cc) (hts : ∀ w ∈ lw_g, w.before args s = true) (hown : s.vm.findClass RX0 = some m.cls) (hC : x_C D cI cJ g tS tJ s) (hp : x_P D cI cJ g s H locs σ) {index : Nat} (hlink : Cond.fieldLink RX0 index (TX0 7).1 (TX0 7).2.1 (TX0 7).2.2.1 ∈ lw_g) {v : Int32} (hdg : decode cc pc = .ok (.putfield index, 3)) (kk : ∀ (H1 : Heap) (locs1 : List Loc), x_P D cI cJ g s H1 locs1 (x_sA σ v) → W p l e R s m args below meth c H1 locs1 cells slots Q (F0 m (pc + 3) ls rest)) : W p l e R s m args below meth c H locs cells slots Q (F0 m pc ls (.int v :: .ref (g 0) :: rest)) :=
  fr_put (C := RX0) (T := TX0) (M := 9) (ty := .int) hx hb hts x_inT tyX0 x_tyT x_nmT hown hC.1 hp 0 (by omega) x_E_0 rfl 7 (by omega) (hts _ hlink) rfl (by decide +kernel) rfl rfl (Nat.le_of_ble_eq_true rfl) hdg (fun H1 locs1 a => kk H1 locs1 (fw_P.to a x_up_A))
theorem x_putW (hx : p.tables.exec = Jvm.exec) (hb : c.code = cc) (hts : ∀ w ∈ lw_g, w.before args s = true) (hown : s.vm.findClass RX0 = some m.cls) (hC : x_C D cI cJ g tS tJ s) (hp : x_P D cI cJ g s H locs σ) {index : Nat} (hlink : Cond.fieldLink RX0 index (TX0 8).1 (TX0 8).2.1 (TX0 8).2.2.1 ∈ lw_g) {v : Int32} (hdg : decode cc pc = .ok (.putfield index, 3)) (kk : ∀ (H1 : Heap) (locs1 : List Loc), x_P D cI cJ g s H1 locs1 (x_sW σ v) → W p l e R s m args below meth c H1 locs1 cells slots Q (F0 m (pc + 3) ls rest)) : W p l e R s m args below meth c H locs cells slots Q (F0 m pc ls (.int v :: .ref (g 0) :: rest)) :=
  fr_put (C := RX0) (T := TX0) (M := 9) (ty := .int) hx hb hts x_inT tyX0 x_tyT x_nmT hown hC.1 hp 0 (by omega) x_E_0 rfl 8 (by omega) (hts _ hlink) rfl (by decide +kernel) rfl rfl (Nat.le_of_ble_eq_true rfl) hdg (fun H1 locs1 a => kk H1 locs1 (fw_P.to a x_up_W))
theorem x_ald (k : Nat) {i : Nat} (hx : p.tables.exec = Jvm.exec) (hb : c.code = cc) (hC : x_C D cI cJ g tS tJ s) (hp : x_P D cI cJ g s H locs σ) (hk : k < 5) (hi : i < x_n k) (hdg : decode cc pc = .ok (.aaload, 1)) (kk : W p l e R s m args below meth c H locs cells slots Q (F0 m (pc + 1) ls (.ref (g (x_o k + i)) :: rest))) : W p l e R s m args below meth c H locs cells slots Q (F0 m pc ls (.int (nI i) :: .ref (g (x_u k)) :: rest)) :=
  have h8 : x_n k ≤ 8 := by unfold x_n; split <;> omega
  fr_aald (t := .int) hx hb hC.1 hp (x_u k) 1 (x_u_lt hk) (x_E_o hk) rfl (vp_in_nI hi (by omega)) (by rw [nI_clamp (by omega), if_pos hi]) hdg kk
theorem x_ild (k i : Nat) {j : Int32} (hx : p.tables.exec = Jvm.exec) (hb : c.code = cc) (hC : x_C D cI cJ g tS tJ s) (hp : x_P D cI cJ g s H locs σ) (hk : k < 5) (hi : i < x_n k) (hj : vp_in j (x_k k)) (hdg : decode cc pc = .ok (.iaload, 1)) (kk : W p l e R s m args below meth c H locs cells slots Q (F0 m (pc + 1) ls (.int (σ.1 k i j.toNatClampNeg) :: rest))) : W p l e R s m args below meth c H locs cells slots Q (F0 m pc ls (.int j :: .ref (g (x_o k + i)) :: rest)) :=
  fr_iald hx hb hC.1 hp (x_o k + i) 0 (x_r_lt hk hi) (x_E_r hk hi) rfl hj hdg kk
theorem x_ist (k i : Nat) {j v : Int32} (hx : p.tables.exec = Jvm.exec) (hb : c.code = cc) (hC : x_C D cI cJ g tS tJ s) (hp : x_P D cI cJ g s H locs σ) (hk : k < 5) (hi : i < x_n k) (hj : vp_in j (x_k k)) (hdg : decode cc pc = .ok (.iastore, 1)) (kk : ∀ (H1 : Heap) (locs1 : List Loc), x_P D cI cJ g s H1 locs1 (x_sG σ k i j.toNatClampNeg v) → W p l e R s m args below meth c H1 locs1 cells slots Q (F0 m (pc + 1) ls rest)) : W p l e R s m args below meth c H locs cells slots Q (F0 m pc ls (.int v :: .int j :: .ref (g (x_o k + i)) :: rest)) :=
  fr_iast hx hb hC.1 hp (x_o k + i) 0 (x_r_lt hk hi) (x_E_r hk hi) rfl hj hdg (fun H1 locs1 a => kk H1 locs1 (fw_P.to a (x_up_G hk hi)))
theorem x_ildN (k i j : Nat) (hx : p.tables.exec = Jvm.exec) (hb : c.code = cc) (hC : x_C D cI cJ g tS tJ s) (hp : x_P D cI cJ g s H locs σ) (hk : k < 5) (hi : i < x_n k) (hj : j < x_k k) (hdg : decode cc pc = .ok (.iaload, 1)) (kk : W p l e R s m args below meth c H locs cells slots Q (F0 m (pc + 1) ls (.int (σ.1 k i j) :: rest))) : W p l e R s m args below meth c H locs cells slots Q (F0 m pc ls (.int (nI j) :: .ref (g (x_o k + i)) :: rest)) :=
  have h8 : x_k k ≤ 32 := by unfold x_k; (repeat' split) <;> omega
  x_ild k i hx hb hC hp hk hi (vp_in_nI hj (by omega)) hdg (by rw [nI_clamp (by omega)]; exact kk)
theorem x_istN (k i j : Nat) {v : Int32} (hx : p.tables.exec = Jvm.exec) (hb : c.code = cc) (hC : x_C D cI cJ g tS tJ s) (hp : x_P D cI cJ g s H locs σ) (hk : k < 5) (hi : i < x_n k) (hj : j < x_k k) (hdg : decode cc pc = .ok (.iastore, 1)) (kk : ∀ (H1 : Heap) (locs1 : List Loc), x_P D cI cJ g s H1 locs1 (x_sG σ k i j v) → W p l e R s m args below meth c H1 locs1 cells slots Q (F0 m (pc + 1) ls rest)) : W p l e R s m args below meth c H locs cells slots Q (F0 m pc ls (.int v :: .int (nI j) :: .ref (g (x_o k + i)) :: rest)) :=
  have h8 : x_k k ≤ 32 := by unfold x_k; (repeat' split) <;> omega
  x_ist k i hx hb hC hp hk hi (vp_in_nI hj (by omega)) hdg (by rw [nI_clamp (by omega)]; exact kk)
theorem x_vld (k i : Nat) (hx : p.tables.exec = Jvm.exec) (hb : c.code = cc) (hC : x_C D cI cJ g tS tJ s) (hp : x_P D cI cJ g s H locs σ) (hk : k < 2) (hi : i < x_v k) (hdg : decode cc pc = .ok (.iaload, 1)) (kk : W p l e R s m args below meth c H locs cells slots Q (F0 m (pc + 1) ls (.int (σ.2.1 k i) :: rest))) : W p l e R s m args below meth c H locs cells slots Q (F0 m pc ls (.int (nI i) :: .ref (g (x_p k)) :: rest)) :=
  have h8 : x_v k ≤ 8 := by unfold x_v; split <;> omega
  fr_iald hx hb hC.1 hp (x_p k) 0 (x_p_lt hk) (x_E_v hk) rfl (vp_in_nI hi (by omega)) hdg (by rw [nI_clamp (by omega)]; exact kk)
theorem x_vst (k i : Nat) {v : Int32} (hx : p.tables.exec = Jvm.exec) (hb : c.code = cc) (hC : x_C D cI cJ g tS tJ s) (hp : x_P D cI cJ g s H locs σ) (hk : k < 2) (hi : i < x_v k) (hdg : decode cc pc = .ok (.iastore, 1)) (kk : ∀ (H1 : Heap) (locs1 : List Loc), x_P D cI cJ g s H1 locs1 (x_sV σ k i v) → W p l e R s m args below meth c H1 locs1 cells slots Q (F0 m (pc + 1) ls rest)) : W p l e R s m args below meth c H locs cells slots Q (F0 m pc ls (.int v :: .int (nI i) :: .ref (g (x_p k)) :: rest)) :=
  have h8 : x_v k ≤ 8 := by unfold x_v; split <;> omega
  fr_iast hx hb hC.1 hp (x_p k) 0 (x_p_lt hk) (x_E_v hk) rfl (vp_in_nI hi (by omega)) hdg (fun H1 locs1 a => kk H1 locs1 (by rw [nI_clamp (by omega)] at a; exact fw_P.to a (x_up_V hk)))
theorem x_callN (As : List Value) {Fi : Int32 × xT} {y : MethodName} {bytes : ByteArray} {maxL nL index n : Nat} {rm : Room} {st0 : List Value} (hx : p.tables.exec = Jvm.exec) (hb : c.code = cc) (hml : c.maxLocals = nL) (hown : s.vm.findClass RX0 = some m.cls) (hts : ∀ w ∈ lw_g, w.before args s = true) (hC : x_C D cI cJ g tS tJ s) (hp : x_P D cI cJ g s H locs σ) (hM : x_Mi l y (.code y bytes maxL (some .int) :: lw_g) rm D cI cJ g tS tJ σ As Fi) (hG : GoodIn lw_g (wsV RX0 index RX0 y (.code y bytes maxL (some .int) :: lw_g))) (hd : y.cls = RX0 ∧ y.cls ≠ "java/lang/invoke/MethodHandle" ∧ y.cls ≠ "java/lang/invoke/VarHandle" ∧ (parseMethodDescriptor y.desc).map (fun d => d.parameters.length) = some n) (hrm : rm.cells = 0 ∧ rm.slots = 0 ∧ rm.frames + 1 ≤ R.frames ∧ 8 + (maxL + 11) + rm.locals ≤ R.locals) (hn : As.length = n) (hsize : ls.size = nL) (hst : st0 = As.reverse ++ .ref (g 0) :: rest) (hW : (rest.map fun v => v.category).sum ≤ 8) (hf : cells ≤ R.cells ∧ slots ≤ R.slots) (hdg : decode cc pc = .ok (.invokevirtual index, 3)) (kk : ∀ (H1 : Heap) (locs1 : List Loc), x_P D cI cJ g s H1 locs1 Fi.2 → W p l e R s m args below meth c H1 locs1 cells slots Q (F0 m (pc + 3) ls (.int Fi.1 :: rest))) : W p l e R s m args below meth c H locs cells slots Q (F0 m pc ls st0) := by
  subst hst
  refine va_calli (va_runV (As := As) (rest := rest) ⟨hx, hb, hml, hown, hts⟩ hM (cwV n hts hG rfl hrm.1 hrm.2.1 hd hrm.2.2) ⟨x_blind, va_recv hC.1.1 hp.1 (ci := 0) (q0 := 0) rfl (by rw [fw_at (by omega)]; rfl), fun U hU hW => ⟨rfl, x_Pre.at hC hp U hU hW⟩⟩ rfl hn hsize rfl (lv_room hW) hdg hf) hp.2 (fun _ _ h => h) (fun _ h => h) (fun r τ t H1 locs1 ht hvm hw hB hz1 hk1 hS => ?_)
  subst hw
  rw [ht] at hB
  exact kk H1 locs1 ⟨hB, hS⟩
theorem x_callV (As : List Value) {Fv : xT} {y : MethodName} {bytes : ByteArray} {maxL nL index n : Nat} {rm : Room} {st0 : List Value} (hx : p.tables.exec = Jvm.exec) (hb : c.code = cc) (hml : c.maxLocals = nL) (hown : s.vm.findClass RX0 = some m.cls) (hts : ∀ w ∈ lw_g, w.before args s = true) (hC : x_C D cI cJ g tS tJ s) (hp : x_P D cI cJ g s H locs σ) (hM : x_Mv l y (.code y bytes maxL none :: lw_g) rm D cI cJ g tS tJ σ As Fv) (hG : GoodIn lw_g (wsV RX0 index RX0 y (.code y bytes maxL none :: lw_g))) (hd : y.cls = RX0 ∧ y.cls ≠ "java/lang/invoke/MethodHandle" ∧ y.cls ≠ "java/lang/invoke/VarHandle" ∧ (parseMethodDescriptor y.desc).map (fun d => d.parameters.length) = some n) (hrm : rm.cells = 0 ∧ rm.slots = 0 ∧ rm.frames + 1 ≤ R.frames ∧ 8 + (maxL + 11) + rm.locals ≤ R.locals) (hn : As.length = n) (hsize : ls.size = nL) (hst : st0 = As.reverse ++ .ref (g 0) :: rest) (hW : (rest.map fun v => v.category).sum ≤ 8) (hf : cells ≤ R.cells ∧ slots ≤ R.slots) (hdg : decode cc pc = .ok (.invokevirtual index, 3)) (kk : ∀ (H1 : Heap) (locs1 : List Loc), x_P D cI cJ g s H1 locs1 Fv → W p l e R s m args below meth c H1 locs1 cells slots Q (F0 m (pc + 3) ls rest)) : W p l e R s m args below meth c H locs cells slots Q (F0 m pc ls st0) := by
  subst hst
  refine va_callv (va_runV (As := As) (rest := rest) ⟨hx, hb, hml, hown, hts⟩ hM (cwV n hts hG rfl hrm.1 hrm.2.1 hd hrm.2.2) ⟨x_blind, va_recv hC.1.1 hp.1 (ci := 0) (q0 := 0) rfl (by rw [fw_at (by omega)]; rfl), fun U hU hW => ⟨rfl, x_Pre.at hC hp U hU hW⟩⟩ rfl hn hsize rfl (lv_room hW) hdg hf) hp.2 (fun _ _ h => h) (fun _ h => h) (fun τ t H1 locs1 ht hvm hw hB hz1 hk1 hS => ?_)
  subst hw
  rw [ht] at hB
  exact kk H1 locs1 ⟨hB, hS⟩
theorem x_callS (As : List Value) {r : Int32} {y : MethodName} {bytes : ByteArray} {maxL nL index n : Nat} {ret : Option FieldType} {own : String} {st0 : List Value} (hx : p.tables.exec = Jvm.exec) (hb : c.code = cc) (hml : c.maxLocals = nL) (hown : s.vm.findClass own = some m.cls) (hts : ∀ w ∈ lw_g, w.before args s = true) (hM : x_Ms l y (.code y bytes maxL ret :: lw_g) As r) (hG : GoodIn lw_g (wsS own index y (.code y bytes maxL ret :: lw_g))) (hd : y.cls = own ∧ y.cls ≠ "java/lang/invoke/MethodHandle" ∧ y.cls ≠ "java/lang/invoke/VarHandle" ∧ (parseMethodDescriptor y.desc).map (fun d => d.parameters.length) = some n) (hrm : 0 + 1 ≤ R.frames ∧ 8 + (maxL + 11) + 0 ≤ R.locals) (hn : As.length = n) (hsize : ls.size = nL) (hst : st0 = As.reverse ++ rest) (hW : (rest.map fun v => v.category).sum ≤ 8) (hf : cells ≤ R.cells ∧ slots ≤ R.slots) (hdg : decode cc pc = .ok (.invokestatic index, 3)) (kk : W p l e R s m args below meth c H locs cells slots Q (F0 m (pc + 3) ls (.int r :: rest))) : W p l e R s m args below meth c H locs cells slots Q (F0 m pc ls st0) := by
  subst hst
  refine vp_callSi (W.runS (As := As) (rest := rest) ⟨hx, hb, hml, hown, hts⟩ hM (cwS n hts hG rfl rfl rfl hd hrm) ⟨fun a U g mk q => q, fun U hU hW => ⟨rfl, trivial⟩⟩ rfl hn hsize rfl (lv_room hW) hdg hf) (fun v hv => ?_)
  subst hv
  exact kk
theorem x_ireti {v : Int32} {τ : xT} {F : Int32 × xT} (hx : p.tables.exec = Jvm.exec) (hb : c.code = cc) (hr : meth.sig.returnType = some .int) (hlk : meth.locks = false) (hp : x_P D cI cJ g s H locs τ) (hF : (v, τ) = F) (hdg : decode cc pc = .ok (.ireturn, 1)) : W p l e R s m args below meth c H locs cells slots (MQ below (va_Qi (fun r τ => (r, τ) = F) (fun τ t => va_P D vwCl (fw 30 g (x_E cI cJ g τ)) t.heap) (fw_A 30 g)) args s cells slots (fw_A 30 g)) (F0 m pc ls [.int v]) :=
  W.iret hx hb hr (fun t ht hW => ⟨⟨v, τ, rfl, hF, by show va_P D vwCl (fw 30 g (x_E cI cJ g τ)) t.heap; rw [ht]; exact hp.1⟩, hp.2.F ht⟩) hp.2.2.2 hdg hlk
theorem x_vret {τ F : xT} (hx : p.tables.exec = Jvm.exec) (hb : c.code = cc) (hr : meth.sig.returnType = none) (hlk : meth.locks = false) (hp : x_P D cI cJ g s H locs τ) (hF : τ = F) (hdg : decode cc pc = .ok (.return_, 1)) : W p l e R s m args below meth c H locs cells slots (MQ below (va_Qv (fun τ => τ = F) (fun τ t => va_P D vwCl (fw 30 g (x_E cI cJ g τ)) t.heap) (fw_A 30 g)) args s cells slots (fw_A 30 g)) (F0 m pc ls []) :=
  W.vret hx hb hr (fun t ht hW => ⟨⟨τ, rfl, hF, by show va_P D vwCl (fw 30 g (x_E cI cJ g τ)) t.heap; rw [ht]; exact hp.1⟩, hp.2.F ht⟩) hp.2.2.2 hdg hlk
theorem x_sret {v r : Int32} {ty : FieldType} (hx : p.tables.exec = Jvm.exec) (hb : c.code = cc) (hr : meth.sig.returnType = some ty) (hnw : narrow ty (.int v) = .int v) (hlk : meth.locks = false) (hF : v = r) (hdg : decode cc pc = .ok (.ireturn, 1)) : W p l e R s m args below meth c s.heap [] cells slots (MQ below (vp_Si (fun v => v = r)) args s cells slots (fun _ => False)) (F0 m pc ls [.int v]) :=
  W.zret hx hb hr hnw (fun t ht hW => ⟨v, rfl, hF, ht⟩) (fun q h => by cases h) hdg hlk
end XR
/-- a method's entry -/
theorem x_bodyi {l : Launch} {y : MethodName} {cc : ByteArray} {maxL : Nat} {rm : Room} {D : va_G} {cI cJ : ClassId} {g : Nat → Nat} {tS tJ : Nat} {σ : xT} {As : List Value} {F : Int32 × xT} (hy : plainName y.cls = true) (hyc : y.cls = RX0) (hlen : (lg_sl (.ref (g 0) :: As)).length ≤ maxL)
    (body : ∀ (p : Program) (e : Env) (s : State) (m : MethodId) (below : List Frame) (meth : Method) (c : Code), p.tables.exec = Jvm.exec → c.code = cc → c.maxLocals = maxL → meth.sig.returnType = some .int → meth.locks = false → s.vm.findClass RX0 = some m.cls → (∀ w ∈ lw_g, w.before (Value.ref (g 0) :: As).toArray s = true) → x_C D cI cJ g tS tJ s → x_P D cI cJ g s s.heap [] σ → ∀ ls : Array Slot, lv_has ls maxL (lv_args 0 (.ref (g 0) :: As)) →
      W p l e rm s m (Value.ref (g 0) :: As).toArray below meth c s.heap [] 0 0 (MQ below (va_Qi (fun r τ => (r, τ) = F) (fun τ t => va_P D vwCl (fw 30 g (x_E cI cJ g τ)) t.heap) (fw_A 30 g)) (Value.ref (g 0) :: As).toArray s 0 0 (fw_A 30 g)) (F0 m 0 ls [])) : x_Mi l y (.code y cc maxL (some .int) :: lw_g) rm D cI cJ g tS tJ σ As F := by
  refine Met.ofW (cc := cc) (maxL := maxL) (ret := some .int) hy rfl ?_
  intro p e s m args below meth c s₁ B hml hv
  obtain ⟨rfl, hP, hC⟩ := hv
  have hts := atoms_spec (ws := .code y cc maxL (some .int) :: lw_g) B.pre
  have hown : s.vm.findClass RX0 = some m.cls := hyc ▸ findClass_of_methodNamed B.named
  have hl := lv_entry (.ref (g 0) :: As) (n := maxL) hlen
  rw [lg_entry_eq]
  generalize (lg_sl (.ref (g 0) :: As) ++ List.replicate (maxL - (lg_sl (.ref (g 0) :: As)).length) Slot.unset).toArray = ls at hl ⊢
  exact body p e s m below meth c B.exec B.bytes hml B.returns B.notSynchronized hown (fun w h => hts w (List.mem_cons_of_mem _ h)) hC ⟨hP, va_S.rf⟩ ls hl
theorem x_bodyv {l : Launch} {y : MethodName} {cc : ByteArray} {maxL : Nat} {rm : Room} {D : va_G} {cI cJ : ClassId} {g : Nat → Nat} {tS tJ : Nat} {σ : xT} {As : List Value} {F : xT} (hy : plainName y.cls = true) (hyc : y.cls = RX0) (hlen : (lg_sl (.ref (g 0) :: As)).length ≤ maxL)
    (body : ∀ (p : Program) (e : Env) (s : State) (m : MethodId) (below : List Frame) (meth : Method) (c : Code), p.tables.exec = Jvm.exec → c.code = cc → c.maxLocals = maxL → meth.sig.returnType = none → meth.locks = false → s.vm.findClass RX0 = some m.cls → (∀ w ∈ lw_g, w.before (Value.ref (g 0) :: As).toArray s = true) → x_C D cI cJ g tS tJ s → x_P D cI cJ g s s.heap [] σ → ∀ ls : Array Slot, lv_has ls maxL (lv_args 0 (.ref (g 0) :: As)) →
      W p l e rm s m (Value.ref (g 0) :: As).toArray below meth c s.heap [] 0 0 (MQ below (va_Qv (fun τ => τ = F) (fun τ t => va_P D vwCl (fw 30 g (x_E cI cJ g τ)) t.heap) (fw_A 30 g)) (Value.ref (g 0) :: As).toArray s 0 0 (fw_A 30 g)) (F0 m 0 ls [])) : x_Mv l y (.code y cc maxL none :: lw_g) rm D cI cJ g tS tJ σ As F := by
  refine Met.ofW (cc := cc) (maxL := maxL) (ret := none) hy rfl ?_
  intro p e s m args below meth c s₁ B hml hv
  obtain ⟨rfl, hP, hC⟩ := hv
  have hts := atoms_spec (ws := .code y cc maxL none :: lw_g) B.pre
  have hown : s.vm.findClass RX0 = some m.cls := hyc ▸ findClass_of_methodNamed B.named
  have hl := lv_entry (.ref (g 0) :: As) (n := maxL) hlen
  rw [lg_entry_eq]
  generalize (lg_sl (.ref (g 0) :: As) ++ List.replicate (maxL - (lg_sl (.ref (g 0) :: As)).length) Slot.unset).toArray = ls at hl ⊢
  exact body p e s m below meth c B.exec B.bytes hml B.returns B.notSynchronized hown (fun w h => hts w (List.mem_cons_of_mem _ h)) hC ⟨hP, va_S.rf⟩ ls hl
theorem x_bodys {l : Launch} {y : MethodName} {cc : ByteArray} {maxL : Nat} {ret : Option FieldType} {As : List Value} {r : Int32} (hy : plainName y.cls = true) (hlen : (lg_sl As).length ≤ maxL)
    (body : ∀ (p : Program) (e : Env) (s : State) (m : MethodId) (below : List Frame) (meth : Method) (c : Code), p.tables.exec = Jvm.exec → c.code = cc → c.maxLocals = maxL → meth.sig.returnType = ret → meth.locks = false → s.vm.findClass y.cls = some m.cls → (∀ w ∈ lw_g, w.before As.toArray s = true) → ∀ ls : Array Slot, lv_has ls maxL (lv_args 0 As) →
      W p l e { frames := 0, cells := 0, slots := 0, locals := 0 } s m As.toArray below meth c s.heap [] 0 0 (MQ below (vp_Si (fun v => v = r)) As.toArray s 0 0 (fun _ => False)) (F0 m 0 ls [])) : x_Ms l y (.code y cc maxL ret :: lw_g) As r := by
  refine Met.ofW (cc := cc) (maxL := maxL) (ret := ret) hy rfl ?_
  intro p e s m args below meth c s₁ B hml hv
  obtain ⟨rfl, -⟩ := hv
  have hts := atoms_spec (ws := .code y cc maxL ret :: lw_g) B.pre
  have hl := lv_entry As (n := maxL) hlen
  rw [lg_entry_eq]
  generalize (lg_sl As ++ List.replicate (maxL - (lg_sl As).length) Slot.unset).toArray = ls at hl ⊢
  exact body p e s m below meth c B.exec B.bytes hml B.returns B.notSynchronized (findClass_of_methodNamed B.named) (fun w h => hts w (List.mem_cons_of_mem _ h)) ls hl
