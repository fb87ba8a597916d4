/-! THE REFERENCE'S WORLD: 14 cells: the object and its 13 rows (0 order, 1 number, 2 size, 3 state, 4 value, 5 event, 6 events, 7 before, 8 at, 9 phase, 10 next, 11 guards, 12 guard); its numbers: 0 world, 1 depth, 2 kind, 3 told, 4 answer, 5 wrong -/
abbrev mT : Type := (Nat → Nat → Int32) × (Nat → Int32)
def m_sA (μ : mT) (a i : Nat) (v : Int32) : mT := (fun b => if b = a then upd (μ.1 a) i v else μ.1 b, μ.2)
def m_sI (μ : mT) (j : Nat) (v : Int32) : mT := (μ.1, upd μ.2 j v)
def m_n (a : Nat) : Nat := if a < 2 then 40 else if a = 2 then 8 else if a < 5 then 16 else if a = 5 then 64 else if a = 6 then 2 else if a = 7 then 16 else if a < 12 then 9 else 45
def m_fs (g : Nat → Nat) (μ : mT) : List Value := [.ref (g 1), .ref (g 2), .ref (g 3), .ref (g 4), .ref (g 5), .ref (g 6), .ref (g 7), .ref (g 8), .int (μ.2 0), .int (μ.2 1), .ref (g 9), .ref (g 10), .ref (g 11), .ref (g 12), .ref (g 13), .int (μ.2 2), .int (μ.2 3), .int (μ.2 4), .int (μ.2 5)]
/-- the slot of a number; of a row -/
def m_si (j : Nat) : Nat := if j < 2 then 8 + j else 13 + j
def m_sr (a : Nat) : Nat := if a < 8 then a else a + 2
def m_E (cI : ClassId) (g : Nat → Nat) (μ : mT) (k : Nat) : va_E := if k = 0 then .inr (1, m_fs g μ) else .inl (cI, m_n (k - 1), .inl (μ.1 (k - 1)))
section ME
variable {cI : ClassId} {g : Nat → Nat} {μ : mT}
theorem m_E_0 : m_E cI g μ 0 = .inr (1, m_fs g μ) := rfl
theorem m_E_r (a : Nat) : m_E cI g μ (a + 1) = .inl (cI, m_n a, .inl (μ.1 a)) := rfl
theorem m_up_A {a i : Nat} {v : Int32} : ∀ k, k < 14 → va_up (m_E cI g μ) (a + 1) (.inl (cI, m_n a, .inl (upd (μ.1 a) i v))) k = m_E cI g (m_sA μ a i v) k := by
  intro k hk
  by_cases e : k = a + 1
  · subst e
    rw [va_up_self, m_E_r]
    simp [m_sA]
  · rw [va_up_ne _ _ e]
    unfold m_E
    split
    · rfl
    · have : (m_sA μ a i v).1 (k - 1) = μ.1 (k - 1) := by
        simp only [m_sA]
        rw [if_neg (by omega)]
      rw [this]
theorem m_up_I {j : Nat} (hj : j < 6) {v : Int32} : ∀ k, k < 14 → va_up (m_E cI g μ) 0 (.inr (1, (m_fs g μ).set (m_si j) (.int v))) k = m_E cI g (m_sI μ j v) k := by
  intro k hk
  by_cases e : k = 0
  · subst e
    rw [va_up_self]
    rcases (show j = 0 ∨ j = 1 ∨ j = 2 ∨ j = 3 ∨ j = 4 ∨ j = 5 by omega) with rfl | rfl | rfl | rfl | rfl | rfl <;> rfl
  · rw [va_up_ne _ _ e]
    unfold m_E
    rw [if_neg e, if_neg e]
    rfl
theorem m_n_le (a : Nat) : m_n a ≤ 64 := by
  unfold m_n
  repeat' split
  all_goals omega
end ME
def m_C (D : va_G) (cI : ClassId) (g : Nat → Nat) (s : State) : Prop := fw_C D vwCl [(cI, .int)] 14 g s
def m_P (D : va_G) (cI : ClassId) (g : Nat → Nat) (s : State) (H : Heap) (locs : List Loc) (μ : mT) : Prop := fw_P D vwCl 14 g s H locs (m_E cI g μ)
def m_Pre (D : va_G) (cI : ClassId) (g : Nat → Nat) (μ : mT) (U : State) : Prop := va_P D vwCl (fw 14 g (m_E cI g μ)) U.heap ∧ m_C D cI g U
theorem m_C.moved {D : va_G} {cI : ClassId} {g : Nat → Nat} {s U : State} (hC : m_C D cI g s) (hvm : s.vm.Alike U.vm) : m_C D cI g U := ⟨va_K.moved hvm hC.1, hC.2⟩
theorem m_Pre.at {D : va_G} {cI : ClassId} {g : Nat → Nat} {s : State} {H : Heap} {locs : List Loc} {μ : mT} (hC : m_C D cI g s) (hp : m_P D cI g s H locs μ) : ∀ U : State, U.heap = H → s.WarmedH U.vm → m_Pre D cI g μ U := fun U hU hW => ⟨by rw [hU]; exact hp.1, hC.moved hW.alike⟩
theorem m_blind {D : va_G} {cI : ClassId} {g : Nat → Nat} {μ : mT} {av : List Value} : FrameBlind (va_Pc av (m_Pre D cI g μ)) := fun a U f mk q => ⟨q.1, q.2.1, q.2.2.moved (U := U.calling f mk a) (Vm.Alike.refl U.vm)⟩
def m_Mi (l : Launch) (y : MethodName) (ws : List Cond) (rm : Room) (D : va_G) (cI : ClassId) (g : Nat → Nat) (μ : mT) (As : List Value) (F : Int32 × mT) : Prop := Met l y ws rm (va_Pc (.ref (g 0) :: As) (m_Pre D cI g μ)) (va_Qi (fun r ν => (r, ν) = F) (fun ν t => va_P D vwCl (fw 14 g (m_E cI g ν)) t.heap) (fw_A 14 g)) 0 0 (fw_A 14 g)
def m_Mv (l : Launch) (y : MethodName) (ws : List Cond) (rm : Room) (D : va_G) (cI : ClassId) (g : Nat → Nat) (μ : mT) (As : List Value) (F : mT) : Prop := Met l y ws rm (va_Pc (.ref (g 0) :: As) (m_Pre D cI g μ)) (va_Qv (fun ν => ν = F) (fun ν t => va_P D vwCl (fw 14 g (m_E cI g ν)) t.heap) (fw_A 14 g)) 0 0 (fw_A 14 g)
section MR
variable {p : Program} {l : Launch} {e : Env} {R : Room} {s : State} {m : MethodId} {args : Array Value} {below : List Frame} {meth : Method} {c : Code} {H : Heap} {locs : List Loc} {cells slots : Nat} {Q : State → Prop}
variable {cc : ByteArray} {pc : Nat} {ls : Array Slot} {rest : List Value} {D : va_G} {cI : ClassId} {g : Nat → Nat} {μ : mT}
theorem m_get (a : Nat) (ha : a < 13) (hx : p.tables.exec = Jvm.exec) (hb : c.code = cc) (hts : ∀ w ∈ lw_g, w.before args s = true) (hown : s.vm.findClass RX1 = some m.cls) (hC : m_C D cI g s) (hp : m_P D cI g s H locs μ) {index : Nat} (hlink : Cond.fieldLink RX1 index (TX1 (m_sr a)).1 (TX1 (m_sr a)).2.1 (TX1 (m_sr a)).2.2.1 ∈ lw_g) (hdg : decode cc pc = .ok (.getfield index, 3)) (kk : W p l e R s m args below meth c H locs cells slots Q (F0 m (pc + 3) ls (.ref (g (a + 1)) :: rest))) : W p l e R s m args below meth c H locs cells slots Q (F0 m pc ls (.ref (g 0) :: rest)) :=
  fr_get (C := RX1) (T := TX1) (M := 19) hx hb hts m_inT hown hC hp 0 (by omega) m_E_0 rfl (m_sr a) (by unfold m_sr; split <;> omega) (hts _ hlink) (by rcases (show a = 0 ∨ a = 1 ∨ a = 2 ∨ a = 3 ∨ a = 4 ∨ a = 5 ∨ a = 6 ∨ a = 7 ∨ a = 8 ∨ a = 9 ∨ a = 10 ∨ a = 11 ∨ a = 12 by omega) with rfl | rfl | rfl | rfl | rfl | rfl | rfl | rfl | rfl | rfl | rfl | rfl | rfl <;> rfl) hdg kk
theorem m_geti (j : Nat) (v : Int32) (hj : j < 6) (hv : μ.2 j = v) (hx : p.tables.exec = Jvm.exec) (hb : c.code = cc) (hts : ∀ w ∈ lw_g, w.before args s = true) (hown : s.vm.findClass RX1 = some m.cls) (hC : m_C D cI g s) (hp : m_P D cI g s H locs μ) {index : Nat} (hlink : Cond.fieldLink RX1 index (TX1 (m_si j)).1 (TX1 (m_si j)).2.1 (TX1 (m_si j)).2.2.1 ∈ lw_g) (hdg : decode cc pc = .ok (.getfield index, 3)) (kk : W p l e R s m args below meth c H locs cells slots Q (F0 m (pc + 3) ls (.int v :: rest))) : W p l e R s m args below meth c H locs cells slots Q (F0 m pc ls (.ref (g 0) :: rest)) := by
  subst hv
  exact fr_get (C := RX1) (T := TX1) (M := 19) hx hb hts m_inT hown hC hp 0 (by omega) m_E_0 rfl (m_si j) (by unfold m_si; split <;> omega) (hts _ hlink) (by rcases (show j = 0 ∨ j = 1 ∨ j = 2 ∨ j = 3 ∨ j = 4 ∨ j = 5 by omega) with rfl | rfl | rfl | rfl | rfl | rfl <;> rfl) hdg kk
theorem m_puti (j : Nat) (hj : j < 6) (hx : p.tables.exec = Jvm.exec) (hb : c.code = cc) (hts : ∀ w ∈ lw_g, w.before args s = true) (hown : s.vm.findClass RX1 = some m.cls) (hC : m_C D cI g s) (hp : m_P D cI g s H locs μ) {index : Nat} (hlink : Cond.fieldLink RX1 index (TX1 (m_si j)).1 (TX1 (m_si j)).2.1 (TX1 (m_si j)).2.2.1 ∈ lw_g) {v : Int32} (hdg : decode cc pc = .ok (.putfield index, 3)) (kk : ∀ (H1 : Heap) (locs1 : List Loc), m_P D cI g s H1 locs1 (m_sI μ j v) → W p l e R s m args below meth c H1 locs1 cells slots Q (F0 m (pc + 3) ls rest)) : W p l e R s m args below meth c H locs cells slots Q (F0 m pc ls (.int v :: .ref (g 0) :: rest)) :=
  fr_put (C := RX1) (T := TX1) (M := 19) (ty := .int) hx hb hts m_inT tyX1 m_tyT m_nmT hown hC hp 0 (by omega) m_E_0 rfl (m_si j) (by unfold m_si; split <;> omega) (hts _ hlink) (by rcases (show j = 0 ∨ j = 1 ∨ j = 2 ∨ j = 3 ∨ j = 4 ∨ j = 5 by omega) with rfl | rfl | rfl | rfl | rfl | rfl <;> rfl) (by rcases (show j = 0 ∨ j = 1 ∨ j = 2 ∨ j = 3 ∨ j = 4 ∨ j = 5 by omega) with rfl | rfl | rfl | rfl | rfl | rfl <;> decide +kernel) rfl rfl (by show m_si j < 19; unfold m_si; split <;> omega) hdg (fun H1 locs1 a => kk H1 locs1 (fw_P.to a (m_up_I hj)))
theorem m_ild (a n : Nat) {i : Int32} (v : Int32) (ha : a < 13) (hi : i = nI n) (hn : n < m_n a) (hv : μ.1 a n = v) (hx : p.tables.exec = Jvm.exec) (hb : c.code = cc) (hC : m_C D cI g s) (hp : m_P D cI g s H locs μ) (hdg : decode cc pc = .ok (.iaload, 1)) (kk : W p l e R s m args below meth c H locs cells slots Q (F0 m (pc + 1) ls (.int v :: rest))) : W p l e R s m args below meth c H locs cells slots Q (F0 m pc ls (.int i :: .ref (g (a + 1)) :: rest)) := by
  subst hi
  subst hv
  have h8 := m_n_le a
  exact fr_iald hx hb hC hp (a + 1) 0 (by omega) (m_E_r a) rfl (vp_in_nI hn (by omega)) hdg (by rw [nI_clamp (by omega)]; exact kk)
theorem m_ist (a n : Nat) {i : Int32} (ha : a < 13) (hi : i = nI n) (hn : n < m_n a) {v : Int32} (hx : p.tables.exec = Jvm.exec) (hb : c.code = cc) (hC : m_C D cI g s) (hp : m_P D cI g s H locs μ) (hdg : decode cc pc = .ok (.iastore, 1)) (kk : ∀ (H1 : Heap) (locs1 : List Loc), m_P D cI g s H1 locs1 (m_sA μ a n v) → W p l e R s m args below meth c H1 locs1 cells slots Q (F0 m (pc + 1) ls rest)) : W p l e R s m args below meth c H locs cells slots Q (F0 m pc ls (.int v :: .int i :: .ref (g (a + 1)) :: rest)) := by
  subst hi
  have h8 := m_n_le a
  exact fr_iast hx hb hC hp (a + 1) 0 (by omega) (m_E_r a) rfl (vp_in_nI hn (by omega)) hdg (fun H1 locs1 q => kk H1 locs1 (by rw [nI_clamp (by omega)] at q; exact fw_P.to q m_up_A))
theorem m_callN (As : List Value) {Fi : Int32 × mT} {y : MethodName} {bytes : ByteArray} {maxL nL index n : Nat} {rm : Room} {st0 : List Value} (hx : p.tables.exec = Jvm.exec) (hb : c.code = cc) (hml : c.maxLocals = nL) (hown : s.vm.findClass RX1 = some m.cls) (hts : ∀ w ∈ lw_g, w.before args s = true) (hC : m_C D cI g s) (hp : m_P D cI g s H locs μ) (hM : m_Mi l y (.code y bytes maxL (some .int) :: lw_g) rm D cI g μ As Fi) (hG : GoodIn lw_g (wsV RX1 index RX1 y (.code y bytes maxL (some .int) :: lw_g))) (hd : y.cls = RX1 ∧ y.cls ≠ "java/lang/invoke/MethodHandle" ∧ y.cls ≠ "java/lang/invoke/VarHandle" ∧ (parseMethodDescriptor y.desc).map (fun d => d.parameters.length) = some n) (hrm : rm.cells = 0 ∧ rm.slots = 0 ∧ rm.frames + 1 ≤ R.frames ∧ 8 + (maxL + 11) + rm.locals ≤ R.locals) (hn : As.length = n) (hsize : ls.size = nL) (hst : st0 = As.reverse ++ .ref (g 0) :: rest) (hW : (rest.map fun v => v.category).sum ≤ 8) (hf : cells ≤ R.cells ∧ slots ≤ R.slots) (hdg : decode cc pc = .ok (.invokevirtual index, 3)) (kk : ∀ (H1 : Heap) (locs1 : List Loc), m_P D cI g s H1 locs1 Fi.2 → W p l e R s m args below meth c H1 locs1 cells slots Q (F0 m (pc + 3) ls (.int Fi.1 :: rest))) : W p l e R s m args below meth c H locs cells slots Q (F0 m pc ls st0) := by
  subst hst
  refine va_calli (va_runV (As := As) (rest := rest) ⟨hx, hb, hml, hown, hts⟩ hM (cwV n hts hG rfl hrm.1 hrm.2.1 hd hrm.2.2) ⟨m_blind, va_recv hC.1 hp.1 (ci := 1) (q0 := 0) rfl (by rw [fw_at (by omega)]; rfl), fun U hU hW => ⟨rfl, m_Pre.at hC hp U hU hW⟩⟩ rfl hn hsize rfl (lv_room hW) hdg hf) hp.2 (fun _ _ h => h) (fun _ h => h) (fun r ν t H1 locs1 ht hvm hw hB hz1 hk1 hS => ?_)
  subst hw
  rw [ht] at hB
  exact kk H1 locs1 ⟨hB, hS⟩
theorem m_callV (As : List Value) {Fv : mT} {y : MethodName} {bytes : ByteArray} {maxL nL index n : Nat} {rm : Room} {st0 : List Value} (hx : p.tables.exec = Jvm.exec) (hb : c.code = cc) (hml : c.maxLocals = nL) (hown : s.vm.findClass RX1 = some m.cls) (hts : ∀ w ∈ lw_g, w.before args s = true) (hC : m_C D cI g s) (hp : m_P D cI g s H locs μ) (hM : m_Mv l y (.code y bytes maxL none :: lw_g) rm D cI g μ As Fv) (hG : GoodIn lw_g (wsV RX1 index RX1 y (.code y bytes maxL none :: lw_g))) (hd : y.cls = RX1 ∧ y.cls ≠ "java/lang/invoke/MethodHandle" ∧ y.cls ≠ "java/lang/invoke/VarHandle" ∧ (parseMethodDescriptor y.desc).map (fun d => d.parameters.length) = some n) (hrm : rm.cells = 0 ∧ rm.slots = 0 ∧ rm.frames + 1 ≤ R.frames ∧ 8 + (maxL + 11) + rm.locals ≤ R.locals) (hn : As.length = n) (hsize : ls.size = nL) (hst : st0 = As.reverse ++ .ref (g 0) :: rest) (hW : (rest.map fun v => v.category).sum ≤ 8) (hf : cells ≤ R.cells ∧ slots ≤ R.slots) (hdg : decode cc pc = .ok (.invokevirtual index, 3)) (kk : ∀ (H1 : Heap) (locs1 : List Loc), m_P D cI g s H1 locs1 Fv → W p l e R s m args below meth c H1 locs1 cells slots Q (F0 m (pc + 3) ls rest)) : W p l e R s m args below meth c H locs cells slots Q (F0 m pc ls st0) := by
  subst hst
  refine va_callv (va_runV (As := As) (rest := rest) ⟨hx, hb, hml, hown, hts⟩ hM (cwV n hts hG rfl hrm.1 hrm.2.1 hd hrm.2.2) ⟨m_blind, va_recv hC.1 hp.1 (ci := 1) (q0 := 0) rfl (by rw [fw_at (by omega)]; rfl), fun U hU hW => ⟨rfl, m_Pre.at hC hp U hU hW⟩⟩ rfl hn hsize rfl (lv_room hW) hdg hf) hp.2 (fun _ _ h => h) (fun _ h => h) (fun ν t H1 locs1 ht hvm hw hB hz1 hk1 hS => ?_)
  subst hw
  rw [ht] at hB
  exact kk H1 locs1 ⟨hB, hS⟩
theorem m_ireti {v : Int32} {ν : mT} {F : Int32 × mT} (hx : p.tables.exec = Jvm.exec) (hb : c.code = cc) (hr : meth.sig.returnType = some .int) (hlk : meth.locks = false) (hp : m_P D cI g s H locs ν) (hF : (v, ν) = F) (hdg : decode cc pc = .ok (.ireturn, 1)) : W p l e R s m args below meth c H locs cells slots (MQ below (va_Qi (fun r ν => (r, ν) = F) (fun ν t => va_P D vwCl (fw 14 g (m_E cI g ν)) t.heap) (fw_A 14 g)) args s cells slots (fw_A 14 g)) (F0 m pc ls [.int v]) :=
  W.iret hx hb hr (fun t ht hW => ⟨⟨v, ν, rfl, hF, by show va_P D vwCl (fw 14 g (m_E cI g ν)) t.heap; rw [ht]; exact hp.1⟩, hp.2.F ht⟩) hp.2.2.2 hdg hlk
theorem m_vret {ν F : mT} (hx : p.tables.exec = Jvm.exec) (hb : c.code = cc) (hr : meth.sig.returnType = none) (hlk : meth.locks = false) (hp : m_P D cI g s H locs ν) (hF : ν = F) (hdg : decode cc pc = .ok (.return_, 1)) : W p l e R s m args below meth c H locs cells slots (MQ below (va_Qv (fun ν => ν = F) (fun ν t => va_P D vwCl (fw 14 g (m_E cI g ν)) t.heap) (fw_A 14 g)) args s cells slots (fw_A 14 g)) (F0 m pc ls []) :=
  W.vret hx hb hr (fun t ht hW => ⟨⟨ν, rfl, hF, by show va_P D vwCl (fw 14 g (m_E cI g ν)) t.heap; rw [ht]; exact hp.1⟩, hp.2.F ht⟩) hp.2.2.2 hdg hlk
end MR
theorem m_bodyi {l : Launch} {y : MethodName} {cc : ByteArray} {maxL : Nat} {rm : Room} {D : va_G} {cI : ClassId} {g : Nat → Nat} {μ : mT} {As : List Value} {F : Int32 × mT} (hy : plainName y.cls = true) (hyc : y.cls = RX1) (hlen : (lg_sl (.ref (g 0) :: As)).length ≤ maxL)
    (body : ∀ (p : Program) (e : Env) (s : State) (m : MethodId) (below : List Frame) (meth : Method) (c : Code), p.tables.exec = Jvm.exec → c.code = cc → c.maxLocals = maxL → meth.sig.returnType = some .int → meth.locks = false → s.vm.findClass RX1 = some m.cls → (∀ w ∈ lw_g, w.before (Value.ref (g 0) :: As).toArray s = true) → m_C D cI g s → m_P D cI g s s.heap [] μ → ∀ ls : Array Slot, lv_has ls maxL (lv_args 0 (.ref (g 0) :: As)) →
      W p l e rm s m (Value.ref (g 0) :: As).toArray below meth c s.heap [] 0 0 (MQ below (va_Qi (fun r ν => (r, ν) = F) (fun ν t => va_P D vwCl (fw 14 g (m_E cI g ν)) t.heap) (fw_A 14 g)) (Value.ref (g 0) :: As).toArray s 0 0 (fw_A 14 g)) (F0 m 0 ls [])) : m_Mi l y (.code y cc maxL (some .int) :: lw_g) rm D cI g μ As F := by
  refine Met.ofW (cc := cc) (maxL := maxL) (ret := some .int) hy rfl ?_
  intro p e s m args below meth c s₁ B hml hv
  obtain ⟨rfl, hP, hC⟩ := hv
  have hts := atoms_spec (ws := .code y cc maxL (some .int) :: lw_g) B.pre
  have hown : s.vm.findClass RX1 = some m.cls := hyc ▸ findClass_of_methodNamed B.named
  have hl := lv_entry (.ref (g 0) :: As) (n := maxL) hlen
  rw [lg_entry_eq]
  generalize (lg_sl (.ref (g 0) :: As) ++ List.replicate (maxL - (lg_sl (.ref (g 0) :: As)).length) Slot.unset).toArray = ls at hl ⊢
  exact body p e s m below meth c B.exec B.bytes hml B.returns B.notSynchronized hown (fun w h => hts w (List.mem_cons_of_mem _ h)) hC ⟨hP, va_S.rf⟩ ls hl
theorem m_bodyv {l : Launch} {y : MethodName} {cc : ByteArray} {maxL : Nat} {rm : Room} {D : va_G} {cI : ClassId} {g : Nat → Nat} {μ : mT} {As : List Value} {F : mT} (hy : plainName y.cls = true) (hyc : y.cls = RX1) (hlen : (lg_sl (.ref (g 0) :: As)).length ≤ maxL)
    (body : ∀ (p : Program) (e : Env) (s : State) (m : MethodId) (below : List Frame) (meth : Method) (c : Code), p.tables.exec = Jvm.exec → c.code = cc → c.maxLocals = maxL → meth.sig.returnType = none → meth.locks = false → s.vm.findClass RX1 = some m.cls → (∀ w ∈ lw_g, w.before (Value.ref (g 0) :: As).toArray s = true) → m_C D cI g s → m_P D cI g s s.heap [] μ → ∀ ls : Array Slot, lv_has ls maxL (lv_args 0 (.ref (g 0) :: As)) →
      W p l e rm s m (Value.ref (g 0) :: As).toArray below meth c s.heap [] 0 0 (MQ below (va_Qv (fun ν => ν = F) (fun ν t => va_P D vwCl (fw 14 g (m_E cI g ν)) t.heap) (fw_A 14 g)) (Value.ref (g 0) :: As).toArray s 0 0 (fw_A 14 g)) (F0 m 0 ls [])) : m_Mv l y (.code y cc maxL none :: lw_g) rm D cI g μ As F := by
  refine Met.ofW (cc := cc) (maxL := maxL) (ret := none) hy rfl ?_
  intro p e s m args below meth c s₁ B hml hv
  obtain ⟨rfl, hP, hC⟩ := hv
  have hts := atoms_spec (ws := .code y cc maxL none :: lw_g) B.pre
  have hown : s.vm.findClass RX1 = some m.cls := hyc ▸ findClass_of_methodNamed B.named
  have hl := lv_entry (.ref (g 0) :: As) (n := maxL) hlen
  rw [lg_entry_eq]
  generalize (lg_sl (.ref (g 0) :: As) ++ List.replicate (maxL - (lg_sl (.ref (g 0) :: As)).length) Slot.unset).toArray = ls at hl ⊢
  exact body p e s m below meth c B.exec B.bytes hml B.returns B.notSynchronized hown (fun w h => hts w (List.mem_cons_of_mem _ h)) hC ⟨hP, va_S.rf⟩ ls hl
