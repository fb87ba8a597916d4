/-! FIXED WORLDS: N cells at the addresses g 0 .. g (N-1) with contents E; nothing below makes a cell -/
def fw (N : Nat) (g : Nat → Nat) (E : Nat → va_E) : va_W := (List.range N).map (fun k => (g k, E k))
def fw_A (N : Nat) (g : Nat → Nat) : Nat → Prop := fun q => ∃ k, k < N ∧ q = g k
def fw_J (N : Nat) (g : Nat → Nat) : Prop := ∀ i j, i < N → j < N → g i = g j → i = j
theorem fw_at {N : Nat} {g : Nat → Nat} {E : Nat → va_E} {k : Nat} (h : k < N) : (fw N g E)[k]? = some (g k, E k) := by
  unfold fw
  rw [List.getElem?_map, List.getElem?_range h]
  rfl
theorem fw_len {N : Nat} {g : Nat → Nat} {E : Nat → va_E} : (fw N g E).length = N := by
  unfold fw
  rw [List.length_map, List.length_range]
theorem fw_of {N : Nat} {g : Nat → Nat} {E : Nat → va_E} {k : Nat} {q : Nat × va_E} (h : (fw N g E)[k]? = some q) : k < N ∧ q = (g k, E k) := by
  have hk : k < N := by
    have := (List.getElem?_eq_some_iff.mp h).1
    rw [fw_len] at this
    exact this
  rw [fw_at hk] at h
  exact ⟨hk, (Option.some.inj h).symm⟩
theorem fw_set {N : Nat} {g : Nat → Nat} {E : Nat → va_E} {k : Nat} {e : va_E} (hk : k < N) : (fw N g E).set k (g k, e) = fw N g (va_up E k e) := by
  apply List.ext_getElem?
  intro j
  by_cases hj : j < N
  · by_cases e1 : j = k
    · subst e1
      rw [List.getElem?_set_self (by rw [fw_len]; exact hj), fw_at hj, va_up_self]
    · rw [List.getElem?_set_ne (Ne.symm e1), fw_at hj, fw_at hj, va_up_ne _ _ e1]
  · rw [List.getElem?_eq_none (by rw [List.length_set, fw_len]; omega), List.getElem?_eq_none (by rw [fw_len]; omega)]
theorem fw_D {N : Nat} {g : Nat → Nat} {E : Nat → va_E} (h : fw_J N g) : va_D (fw_A N g) (fw N g E) := by
  refine ⟨fun i j p q hi hj e => ?_, fun k q hk => ?_⟩
  · obtain ⟨h1, rfl⟩ := fw_of hi
    obtain ⟨h2, rfl⟩ := fw_of hj
    exact h i j h1 h2 e
  · obtain ⟨h1, rfl⟩ := fw_of hk
    exact ⟨k, h1, rfl⟩
theorem fw_eq {N : Nat} {g : Nat → Nat} {E E' : Nat → va_E} (h : ∀ k, k < N → E k = E' k) : fw N g E = fw N g E' := by
  unfold fw
  exact List.map_congr_left (fun k hk => by rw [h k (List.mem_range.mp hk)])
/-- the world on the heap H; nothing outside it written since the start s -/
def fw_P (D : va_G) (cl : List vw_C) (N : Nat) (g : Nat → Nat) (s : State) (H : Heap) (locs : List Loc) (E : Nat → va_E) : Prop := va_P D cl (fw N g E) H ∧ va_S (fw_A N g) s.heap H locs
/-- what stays while a method runs -/
def fw_C (D : va_G) (cl : List vw_C) (tys : List (ClassId × FieldType)) (N : Nat) (g : Nat → Nat) (s : State) : Prop := va_K D cl tys s ∧ fw_J N g
theorem fw_P.to {D : va_G} {cl : List vw_C} {N : Nat} {g : Nat → Nat} {s : State} {H : Heap} {locs : List Loc} {E E' : Nat → va_E} (h : fw_P D cl N g s H locs E) (he : ∀ k, k < N → E k = E' k) : fw_P D cl N g s H locs E' := ⟨by rw [← fw_eq he]; exact h.1, h.2⟩
section FW1
variable {p : Program} {l : Launch} {e : Env} {R : Room} {s : State} {m : MethodId} {args : Array Value} {below : List Frame} {meth : Method} {c : Code} {H : Heap} {locs : List Loc} {cells slots : Nat} {Q : State → Prop}
variable {cc : ByteArray} {pc : Nat} {ls : Array Slot} {rest : List Value} {D : va_G} {cl : List vw_C} {tys : List (ClassId × FieldType)} {N : Nat} {g : Nat → Nat} {E : Nat → va_E}
theorem fr_get (hx : p.tables.exec = Jvm.exec) (hb : c.code = cc) {own C : String} {T : u_T} {M ci index : Nat} {Ts : List Cond} (hts : ∀ w ∈ Ts, w.before args s = true) (hin : ∀ w ∈ u_ws C T M, w ∈ Ts) (hown : s.vm.findClass own = some m.cls) (hC : fw_C D cl tys N g s) (hp : fw_P D cl N g s H locs E) (q0 : Nat) (hq : q0 < N) {fs : List Value} (he : E q0 = .inr (ci, fs)) (hc : cl[ci]? = some (C, T, M)) (k : Nat) (hk : k < M) (hlink : (Cond.fieldLink own index (T k).1 (T k).2.1 (T k).2.2.1).before args s = true) {v : Value} (hv : fs[k]? = some v) (hdg : decode cc pc = .ok (.getfield index, 3)) (kk : W p l e R s m args below meth c H locs cells slots Q (F0 m (pc + 3) ls (v :: rest))) : W p l e R s m args below meth c H locs cells slots Q (F0 m pc ls (.ref (g q0) :: rest)) :=
  va_get hx hb hts hin hown hC.1 hp.1 q0 (by rw [fw_at hq, he]) hc k hk hlink (fun _ h => h) hv hdg kk
theorem fr_put (hx : p.tables.exec = Jvm.exec) (hb : c.code = cc) {own C : String} {T : u_T} {M ci index : Nat} {Ts : List Cond} (hts : ∀ w ∈ Ts, w.before args s = true) (hin : ∀ w ∈ u_ws C T M, w ∈ Ts) (ty0 : Nat → FieldType) (hty : ∀ k, k < M → parseFieldDescriptor (T k).2.2.1 = some (ty0 k)) (hnm : ∀ a, a < M → ∀ b, b < M → a ≠ b → (T a).2.1 ≠ (T b).2.1) (hown : s.vm.findClass own = some m.cls) (hC : fw_C D cl tys N g s) (hp : fw_P D cl N g s H locs E) (q0 : Nat) (hq : q0 < N) {fs : List Value} (he : E q0 = .inr (ci, fs)) (hc : cl[ci]? = some (C, T, M)) (k : Nat) (hk : k < M) (hlink : (Cond.fieldLink own index (T k).1 (T k).2.1 (T k).2.2.1).before args s = true) (hfin : (T k).2.2.2 = false) {ty : FieldType} {v : Value} (hd : parseFieldDescriptor (T k).2.2.1 = some ty) (hn : narrow ty v = v) (hfit : fits ty v = true) (hl : k < fs.length) (hdg : decode cc pc = .ok (.putfield index, 3)) (kk : ∀ (H1 : Heap) (locs1 : List Loc), fw_P D cl N g s H1 locs1 (va_up E q0 (.inr (ci, fs.set k v))) → W p l e R s m args below meth c H1 locs1 cells slots Q (F0 m (pc + 3) ls rest)) : W p l e R s m args below meth c H locs cells slots Q (F0 m pc ls (v :: .ref (g q0) :: rest)) :=
  va_put hx hb hts hin ty0 hty hnm hown hC.1 hp.1 (fw_D hC.2) hp.2 q0 (by rw [fw_at hq, he]) hc k hk hlink (fun _ h => h) hfin hd hn hfit hl hdg (fun H1 locs1 a _ b => kk H1 locs1 ⟨by rw [← fw_set hq]; exact a, b⟩)
theorem fr_iald (hx : p.tables.exec = Jvm.exec) (hb : c.code = cc) (hC : fw_C D cl tys N g s) (hp : fw_P D cl N g s H locs E) (q0 t0 : Nat) (hq : q0 < N) {cA : ClassId} {n : Nat} {f : Nat → Int32} (he : E q0 = .inl (cA, n, .inl f)) (ht : tys[t0]? = some (cA, .int)) {i : Int32} (hin : vp_in i n) (hdg : decode cc pc = .ok (.iaload, 1)) (kk : W p l e R s m args below meth c H locs cells slots Q (F0 m (pc + 1) ls (.int (f i.toNatClampNeg) :: rest))) : W p l e R s m args below meth c H locs cells slots Q (F0 m pc ls (.int i :: .ref (g q0) :: rest)) :=
  va_iald hx hb hC.1 hp.1 q0 t0 (by rw [fw_at hq, he]) ht hin hdg kk
theorem fr_iast (hx : p.tables.exec = Jvm.exec) (hb : c.code = cc) (hC : fw_C D cl tys N g s) (hp : fw_P D cl N g s H locs E) (q0 t0 : Nat) (hq : q0 < N) {cA : ClassId} {n : Nat} {f : Nat → Int32} (he : E q0 = .inl (cA, n, .inl f)) (ht : tys[t0]? = some (cA, .int)) {i x : Int32} (hin : vp_in i n) (hdg : decode cc pc = .ok (.iastore, 1)) (kk : ∀ (H1 : Heap) (locs1 : List Loc), fw_P D cl N g s H1 locs1 (va_up E q0 (.inl (cA, n, .inl (upd f i.toNatClampNeg x)))) → W p l e R s m args below meth c H1 locs1 cells slots Q (F0 m (pc + 1) ls rest)) : W p l e R s m args below meth c H locs cells slots Q (F0 m pc ls (.int x :: .int i :: .ref (g q0) :: rest)) :=
  va_iast hx hb hC.1 hp.1 (fw_D hC.2) hp.2 q0 t0 (by rw [fw_at hq, he]) ht hin hdg (fun H1 locs1 a _ b => kk H1 locs1 ⟨by rw [← fw_set hq]; exact a, b⟩)
theorem fr_aald (hx : p.tables.exec = Jvm.exec) (hb : c.code = cc) (hC : fw_C D cl tys N g s) (hp : fw_P D cl N g s H locs E) (q0 t0 : Nat) (hq : q0 < N) {cA : ClassId} {t : FieldType} {n : Nat} {f : Nat → Option Nat} (he : E q0 = .inl (cA, n, .inr (.inr (.inr (.inr f))))) (ht : tys[t0]? = some (cA, .array t)) {i : Int32} (hin : vp_in i n) {a : Nat} (hf : f i.toNatClampNeg = some a) (hdg : decode cc pc = .ok (.aaload, 1)) (kk : W p l e R s m args below meth c H locs cells slots Q (F0 m (pc + 1) ls (.ref a :: rest))) : W p l e R s m args below meth c H locs cells slots Q (F0 m pc ls (.int i :: .ref (g q0) :: rest)) := by
  have hlt : i.toNatClampNeg < n := Nat.not_le.mp fun q => hin (Or.inr q)
  have hc0 : va_at D cl (g q0, .inl (cA, n, .inr (.inr (.inr (.inr f))))) H := hp.1 q0 _ (by rw [fw_at hq, he])
  exact W.aald (v := .ref a) (ty := .array t) hx hb hc0 ((hC.1.2 t0 _ ht).1 n (fun j => va_rf (f j))) rfl (fun q => by cases q) (by show ¬ (i < 0 ∨ (arrV _ _ _).slots.size ≤ _); rw [arrV_size]; exact hin) (by show (arrV _ _ _).slots[_]? = _; rw [arrV_read _ _ hlt, hf]; rfl) rfl rfl hdg kk
end FW1
theorem gd_cons {big ws : List Cond} {w : Cond} (h1 : w ∈ big) (h2 : goodWord w = true) (h : GoodIn big ws) : GoodIn big (w :: ws) := fun v hv => (List.mem_cons.mp hv).elim (fun e => e ▸ ⟨h1, good_of_word h2⟩) (h v)
theorem gd_in {big ws a : List Cond} (h : GoodIn big ws) (hs : ∀ w ∈ big, w ∈ a) : GoodIn a ws := fun v hv => ⟨hs v (h v hv).1, (h v hv).2⟩
