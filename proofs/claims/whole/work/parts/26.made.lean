/-! MAKING THE WORLDS -/
theorem k_AOm {t : FieldType} {u U : State} (hvm : u.vm.Alike U.vm) (h : (Cond.arrayOver (.array t)).before #[] u = true) : (Cond.arrayOver (.array t)).before #[] U = true := by
  have hbare : U.vm.bare = u.vm.bare := by first | exact hvm.bare_eq | exact hvm.bare_eq.symm
  have hx : ∀ comp : ClassId, (U.vm.classes.findIdx? fun (x : Class) => match x.kind with | .array component _ => component == comp | _ => false) = (u.vm.classes.findIdx? fun (x : Class) => match x.kind with | .array component _ => component == comp | _ => false) := fun comp => (va_idx_bare U.vm comp).symm.trans ((congrArg (fun v : Vm => v.classes.findIdx? fun (x : Class) => match x.kind with | .array component _ => component == comp | _ => false) hbare).trans (va_idx_bare u.vm comp))
  have hf : U.vm.findClass ("[" ++ (FieldType.array t).toString) = u.vm.findClass ("[" ++ (FieldType.array t).toString) := by rw [hvm.findClass]
  unfold Cond.before Cond.holds at h ⊢
  simp only [Cond.value] at h ⊢
  rw [hvm.findClass (FieldType.array t).toString]
  cases hc : u.vm.findClass (FieldType.array t).toString with
  | none =>
    rw [hc] at h
    exact h
  | some comp =>
    rw [hc] at h
    have h1 : (((u.vm.classes.findIdx? fun (x : Class) => match x.kind with | .array component _ => component == comp | _ => false).bind fun c => (u.vm.classes[c]?).map fun (k : Class) => match k.kind with | .array _ ty => decide (ty = FieldType.array t) && decide (u.vm.findClass ("[" ++ (FieldType.array t).toString) = some c) | _ => false) == some true) = true := h
    show (((U.vm.classes.findIdx? fun (x : Class) => match x.kind with | .array component _ => component == comp | _ => false).bind fun c => (U.vm.classes[c]?).map fun (k : Class) => match k.kind with | .array _ ty => decide (ty = FieldType.array t) && decide (U.vm.findClass ("[" ++ (FieldType.array t).toString) = some c) | _ => false) == some true) = true
    rw [hx comp]
    generalize (u.vm.classes.findIdx? fun (x : Class) => match x.kind with | .array component _ => component == comp | _ => false) = ix at h1 ⊢
    cases ix with
    | none => exact h1
    | some c =>
      rw [Option.bind_some] at h1 ⊢
      cases hk : u.vm.classes[c]? with
      | none =>
        rw [hk] at h1
        exact absurd (show false = true from h1) (by decide)
      | some k =>
        obtain ⟨k', hk', he⟩ := hvm.2.2 _ _ hk
        have ek : k'.kind = k.kind := by rw [he]
        rw [hk] at h1
        rw [hk', hf]
        simp only [Option.map_some] at h1 ⊢
        rw [ek]
        exact h1
theorem k_rows {N : Nat} {r : Nat → Nat} {f : Nat → va_E} {e : va_E} : va_pl ([] ++ (List.range N).map r) (vr_up f ((List.range N).map r) e) = (List.range N).map (fun i => (r i, e)) := by
  unfold va_pl
  rw [List.nil_append, List.map_map]
  apply List.map_congr_left
  intro i hi
  show (r i, vr_up f _ e (r i)) = (r i, e)
  rw [vr_up_in (List.mem_map.mpr ⟨i, hi, rfl⟩)]
theorem fw_Jof {A : Nat → Prop} {N : Nat} {g : Nat → Nat} {E : Nat → va_E} (h : va_D A (fw N g E)) : fw_J N g := fun i j hi hj e => h.1 i j _ _ (fw_at hi) (fw_at hj) e
theorem fw_Aof {A : Nat → Prop} {N : Nat} {g : Nat → Nat} {E : Nat → va_E} (h : va_D A (fw N g E)) : ∀ k, k < N → A (g k) := fun k hk => h.2 k _ (fw_at hk)
section MK
variable {p : Program} {l : Launch} {e : Env} {R : Room} {s : State} {m : MethodId} {args : Array Value} {below : List Frame} {meth : Method} {c : Code} {H : Heap} {locs : List Loc} {cells slots : Nat} {Q : State → Prop}
variable {cc : ByteArray} {pc : Nat} {ls : Array Slot} {rest : List Value} {D : va_G} {cl : List vw_C} {A : Nat → Prop} {tys : List (ClassId × FieldType)} {H0 : Heap} {cI cJ : ClassId} {X : va_W}
theorem k_mna (hx : p.tables.exec = Jvm.exec) (hb : c.code = cc) {own : String} {index : Nat} (hown : s.vm.findClass own = some m.cls) (hclink : (Cond.classLink own index ("[" ++ (FieldType.array .int).toString)).before args s = true) (hover : (Cond.arrayOver (.array .int)).before args s = true) (harr : (Cond.arrayClass .int).before args s = true) (hK : va_K D cl [(cI, .int), (cJ, .array .int)] s) (hP : va_P D cl X H) (hD : va_D A X) (hS : va_S A H0 H locs) (hA : ∀ q, H0.size ≤ q → A q) {n k : Int32} (N K : Nat) (hn : n = nI N) (hk : k = nI K) (hN : N ≤ 1000) (hKK : K ≤ 1000) (hcells : cells + (1 + N) ≤ R.cells) (hslots : slots + (N + N * K) ≤ R.slots) (hdg : decode cc pc = .ok (.multianewarray index 2, 4))
    (kk : ∀ (q : Nat) (r : Nat → Nat) (H1 : Heap), va_P D cl ((X ++ [(q, .inl (cJ, N, .inr (.inr (.inr (.inr (fun i => if i < N then some (r i) else none))))))]) ++ (List.range N).map (fun i => (r i, .inl (cI, K, .inl (fun _ => 0))))) H1 → va_D A ((X ++ [(q, .inl (cJ, N, .inr (.inr (.inr (.inr (fun i => if i < N then some (r i) else none))))))]) ++ (List.range N).map (fun i => (r i, .inl (cI, K, .inl (fun _ => 0))))) → va_S A H0 H1 locs →
      W p l e R s m args below meth c H1 locs (cells + 1 + N) (slots + N + N * K) Q (F0 m (pc + 4) ls (.ref q :: rest))) : W p l e R s m args below meth c H locs cells slots Q (F0 m pc ls (.int k :: .int n :: rest)) := by
  subst hn
  subst hk
  have hP' : va_P D cl (X ++ va_pl [] (fun _ => .inr (0, []))) H := by
    show va_P D cl (X ++ []) H
    rw [List.append_nil]
    exact hP
  have hD' : va_D A (X ++ va_pl [] (fun _ => .inr (0, []))) := by
    show va_D A (X ++ [])
    rw [List.append_nil]
    exact hD
  refine va_mna (ty := .int) (cy := cI) (L := []) (f := fun _ => .inr (0, [])) (z := (K, .inl (fun _ => 0))) hx hb hown hclink hover harr (hK.2 0 _ rfl).2 hK hP' hD' hS hA (nI_pos (by omega)) (nI_pos (by omega)) (nI_clamp (by omega)) (nI_clamp (by omega)) (by omega) (by show K * 4 ≤ 536870912; omega) (by omega) rfl rfl hcells hslots (fun c => ?_) hdg (fun q r cA H1 _ _ hK' hP1 hD1 hS1 => ?_)
  · exact arrV_new c K (.int 0)
  · have e : cA = cJ := by
      have h1 := (hK'.2 2 _ rfl).2
      have h2 := (hK.2 1 _ rfl).2
      exact Option.some.inj (Eq.trans (Eq.symm h1) h2)
    subst e
    rw [k_rows] at hP1 hD1
    exact kk q r H1 hP1 hD1 hS1
theorem k_newa (hx : p.tables.exec = Jvm.exec) (hb : c.code = cc) (harr : (Cond.arrayClass .int).before args s = true) (hK : va_K D cl tys s) (h0 : tys[0]? = some (cI, .int)) (hP : va_P D cl X H) (hD : va_D A X) (hS : va_S A H0 H locs) (hA : ∀ q, H0.size ≤ q → A q) {n : Int32} (N : Nat) (hn : n = nI N) (hN : N ≤ 1000) (hcells : cells + 1 ≤ R.cells) (hslots : slots + N ≤ R.slots) (hdg : decode cc pc = .ok (.newarray .int, 2))
    (kk : ∀ (q : Nat) (H1 : Heap), va_P D cl (X ++ [(q, .inl (cI, N, .inl (fun _ => 0)))]) H1 → va_D A (X ++ [(q, .inl (cI, N, .inl (fun _ => 0)))]) → va_S A H0 H1 locs →
      W p l e R s m args below meth c H1 locs (cells + 1) (slots + N) Q (F0 m (pc + 2) ls (.ref q :: rest))) : W p l e R s m args below meth c H locs cells slots Q (F0 m pc ls (.int n :: rest)) := by
  subst hn
  refine va_newa (atype := .int) (ty := .int) (a0 := (N, .inl (fun _ => 0))) hx hb harr rfl hK hP hD hS hA (fun _ => rfl) (nI_pos (by omega)) (nI_clamp (by omega)) (by show N * 4 ≤ 536870912; omega) hcells hslots hdg (fun q cA H1 hK' hP1 hD1 hS1 => ?_)
  have e : cA = cI := by
    have h1 := (hK'.2 tys.length (cA, .int) (by simp)).2
    have h2 := (hK.2 0 _ h0).2
    exact Option.some.inj (Eq.trans (Eq.symm h1) h2)
  subst e
  exact kk q H1 hP1 hD1 hS1
end MK
/-- the class as it is made -/
def x_0 : xT := (fun _ _ _ => 0, fun _ _ => 0, 0, 0)
/-- the reference as it is made -/
def m_0 : mT := (fun a => if a = 7 then upd (upd (upd (upd (upd (fun _ => 0) 2 1) 4 2) 5 6) 8 4) 9 6 else fun _ => 0, fun _ => 0)
theorem r_J0 : r_J x_0 m_0 := by
  refine ⟨⟨fun _ _ => rfl, fun _ _ _ _ => ⟨rfl, rfl⟩, fun _ _ _ _ => ⟨rfl, rfl⟩, fun _ _ => rfl, fun w i _ hi h => absurd h (nI_pos (by omega)), fun t ht => ?_⟩, ⟨fun _ _ => ⟨0, by omega, nI_0.symm⟩, fun _ _ _ _ => ⟨0, by omega, nI_0.symm⟩⟩, fun _ _ _ _ => show ¬ (0 : Int32) = 1 by decide, nI_0.symm, rfl, rfl⟩
  rcases (show t = 0 ∨ t = 1 ∨ t = 2 ∨ t = 3 ∨ t = 4 ∨ t = 5 ∨ t = 6 ∨ t = 7 by omega) with rfl | rfl | rfl | rfl | rfl | rfl | rfl | rfl <;> exact ⟨rfl, rfl⟩
