/-! THE CLAIM OUT OF ONE WALK OF THE LAW'S BODY. Your part is whole_start (and what it stands on); all else here is the same for every law, but numbers. -/
def R_law : String := "StartupProbesLaw"
def lw_P (b : Addr) (xs : List Int32) (args : Array Value) (s : State) : Prop := args = #[.ref b] ∧ s.IntsAt b xs ∧ xs.length ≤ 2048 ∧ (Jvm.Cond.and given_1 narrow_1).before args s = true
def lw_Q (_ : Array Value) (s : State) (o : Outcome) (t : State) : Prop := o = .returned (some (.int 1)) ∧ Framed s o t [] 600000 7302250
def lw_Z (below : List Frame) (a : Array Value) (s : State) : State → Prop := fun t => ∃ o, t.status = .running ∧ Ended t below o ∧ lw_Q a s o t
/-- the law's own end, with 1 on the stack, nothing written that was there before, its room as the claim has it -/
theorem lw_ret {p : Program} {l : Launch} {e : Env} {s : State} {m : MethodId} {below : List Frame} {meth : Method} {c : Code} {b : Nat} (hx : p.tables.exec = Jvm.exec) (hb : c.code = code) (hr : meth.sig.returnType = ret) (hlocks : meth.locks = false) {pc : Nat} {H : Heap} {ls : Array Slot} (hdg : decode code pc = .ok (.ireturn, 1)) : W p l e room_1 s m #[Value.ref b] below meth c H [] 600000 7302250 (lw_Z below #[Value.ref b] s) (F0 m pc ls [.int 1]) := by
  intro T hT X
  obtain ⟨fs, hret, hrun, hended, hW, hframe⟩ := X.leave (v := some (.int 1)) (hlocks := hlocks) (fun h => by rw [hr] at h; cases h)
  have hmeth' : T.vm.method? m = some meth := X.method'
  refine ⟨T.setFrames fs, ?_, .returned (some (.int 1)), hrun, hended, rfl, ⟨_, rfl⟩, hW, hframe⟩
  jvm_step X.here [X.here.top, hx, hb, hdg, hmeth', hr, ret, narrow_b1]
  (try refine ⟨rfl, ?_⟩); (try refine ⟨rfl, ?_⟩)
  first | (intro acts; rw [hret _ acts rfl rfl rfl]) | rw [hret _ _ rfl rfl rfl]
  exact Steps.refl _
/-- what holds at the law's entry: the machine, the code, the tables' words (any of lw_tbl by 'hts w (by decide +kernel)'), the script of L ints xs at the cell b, what the Statement gives of the start (any of its parts by flat_of_before) -/
def lw_At (p : Program) (s : State) (m : MethodId) (meth : Method) (c : Code) (b L : Nat) (xs : Nat → Int32) : Prop :=
  p.tables.exec = Jvm.exec ∧ c.code = code ∧ meth.sig.returnType = ret ∧ c.maxLocals = 4 ∧ s.vm.findClass R_law = some m.cls ∧ (∀ w ∈ lw_tbl, w.before #[Value.ref b] s = true) ∧ va_X b L xs s s.heap ∧ b < s.heap.size ∧ meth.locks = false ∧ (Jvm.Cond.and given_1 narrow_1).before #[Value.ref b] s = true

theorem x_c_order : Cond.code yX0_order cX0_order 5 (some .int) ∈ lw_g := lw_gm (List.mem_of_getElem? (i := 62) rfl) rfl
theorem gLX0_order : GoodIn lw_tbl (wsV R_law 13 RX0 yX0_order (.code yX0_order cX0_order 5 (some .int) :: lw_g)) := lw_gl (lw_gc (lw_gm (by decide +kernel) rfl) (lw_gc (lw_gm (by decide +kernel) rfl) (lw_gc (lw_gm (by decide +kernel) rfl) (lw_gc x_ini (lw_gc x_c_order lw_gs)))))
theorem x_c_noOrders : Cond.code yX0_noOrders cX0_noOrders 3 (some .int) ∈ lw_g := lw_gm (List.mem_of_getElem? (i := 69) rfl) rfl
theorem gLX0_noOrders : GoodIn lw_tbl (wsV R_law 18 RX0 yX0_noOrders (.code yX0_noOrders cX0_noOrders 3 (some .int) :: lw_g)) := lw_gl (lw_gc (lw_gm (by decide +kernel) rfl) (lw_gc (lw_gm (by decide +kernel) rfl) (lw_gc (lw_gm (by decide +kernel) rfl) (lw_gc x_ini (lw_gc x_c_noOrders lw_gs)))))
theorem x_c_build : Cond.code yX0_build cX0_build 3 (some .int) ∈ lw_g := lw_gm (List.mem_of_getElem? (i := 73) rfl) rfl
theorem gLX0_build : GoodIn lw_tbl (wsV R_law 23 RX0 yX0_build (.code yX0_build cX0_build 3 (some .int) :: lw_g)) := lw_gl (lw_gc (lw_gm (by decide +kernel) rfl) (lw_gc (lw_gm (by decide +kernel) rfl) (lw_gc (lw_gm (by decide +kernel) rfl) (lw_gc x_ini (lw_gc x_c_build lw_gs)))))
theorem x_c_probe : Cond.code yX0_probe cX0_probe 5 (some .int) ∈ lw_g := lw_gm (List.mem_of_getElem? (i := 80) rfl) rfl
theorem gLX0_probe : GoodIn lw_tbl (wsV R_law 27 RX0 yX0_probe (.code yX0_probe cX0_probe 5 (some .int) :: lw_g)) := lw_gl (lw_gc (lw_gm (by decide +kernel) rfl) (lw_gc (lw_gm (by decide +kernel) rfl) (lw_gc (lw_gm (by decide +kernel) rfl) (lw_gc x_ini (lw_gc x_c_probe lw_gs)))))
theorem x_c_answer : Cond.code yX0_answer cX0_answer 1 (some .int) ∈ lw_g := lw_gm (List.mem_of_getElem? (i := 134) rfl) rfl
theorem gLX0_answer : GoodIn lw_tbl (wsV R_law 31 RX0 yX0_answer (.code yX0_answer cX0_answer 1 (some .int) :: lw_g)) := lw_gl (lw_gc (lw_gm (by decide +kernel) rfl) (lw_gc (lw_gm (by decide +kernel) rfl) (lw_gc (lw_gm (by decide +kernel) rfl) (lw_gc x_ini (lw_gc x_c_answer lw_gs)))))
theorem x_c_wrong : Cond.code yX0_wrong cX0_wrong 1 (some .int) ∈ lw_g := lw_gm (List.mem_of_getElem? (i := 138) rfl) rfl
theorem gLX0_wrong : GoodIn lw_tbl (wsV R_law 36 RX0 yX0_wrong (.code yX0_wrong cX0_wrong 1 (some .int) :: lw_g)) := lw_gl (lw_gc (lw_gm (by decide +kernel) rfl) (lw_gc (lw_gm (by decide +kernel) rfl) (lw_gc (lw_gm (by decide +kernel) rfl) (lw_gc x_ini (lw_gc x_c_wrong lw_gs)))))
theorem x_c_events : Cond.code yX0_events cX0_events 2 (some .int) ∈ lw_g := lw_gm (List.mem_of_getElem? (i := 142) rfl) rfl
theorem gLX0_events : GoodIn lw_tbl (wsV R_law 40 RX0 yX0_events (.code yX0_events cX0_events 2 (some .int) :: lw_g)) := lw_gl (lw_gc (lw_gm (by decide +kernel) rfl) (lw_gc (lw_gm (by decide +kernel) rfl) (lw_gc (lw_gm (by decide +kernel) rfl) (lw_gc x_ini (lw_gc x_c_events lw_gs)))))
theorem x_c_event : Cond.code yX0_event cX0_event 3 (some .int) ∈ lw_g := lw_gm (List.mem_of_getElem? (i := 146) rfl) rfl
theorem gLX0_event : GoodIn lw_tbl (wsV R_law 44 RX0 yX0_event (.code yX0_event cX0_event 3 (some .int) :: lw_g)) := lw_gl (lw_gc (lw_gm (by decide +kernel) rfl) (lw_gc (lw_gm (by decide +kernel) rfl) (lw_gc (lw_gm (by decide +kernel) rfl) (lw_gc x_ini (lw_gc x_c_event lw_gs)))))
theorem x_c_init : Cond.code yX0_init cX0_init 1 none ∈ lw_g := lw_gm (List.mem_of_getElem? (i := 24) rfl) rfl
theorem gLX0_init : GoodIn lw_tbl (.code yX0_init cX0_init 1 none :: lw_g) := lw_gl (lw_gc x_c_init lw_gs)
theorem m_c_order : Cond.code yX1_order cX1_order 4 (some .int) ∈ lw_g := lw_gm (List.mem_of_getElem? (i := 214) rfl) rfl
theorem gLX1_order : GoodIn lw_tbl (wsV R_law 17 RX1 yX1_order (.code yX1_order cX1_order 4 (some .int) :: lw_g)) := lw_gl (lw_gc (lw_gm (by decide +kernel) rfl) (lw_gc (lw_gm (by decide +kernel) rfl) (lw_gc (lw_gm (by decide +kernel) rfl) (lw_gc m_ini (lw_gc m_c_order lw_gs)))))
theorem m_c_noOrders : Cond.code yX1_noOrders cX1_noOrders 3 (some .int) ∈ lw_g := lw_gm (List.mem_of_getElem? (i := 221) rfl) rfl
theorem gLX1_noOrders : GoodIn lw_tbl (wsV R_law 22 RX1 yX1_noOrders (.code yX1_noOrders cX1_noOrders 3 (some .int) :: lw_g)) := lw_gl (lw_gc (lw_gm (by decide +kernel) rfl) (lw_gc (lw_gm (by decide +kernel) rfl) (lw_gc (lw_gm (by decide +kernel) rfl) (lw_gc m_ini (lw_gc m_c_noOrders lw_gs)))))
theorem m_c_build : Cond.code yX1_build cX1_build 3 (some .int) ∈ lw_g := lw_gm (List.mem_of_getElem? (i := 225) rfl) rfl
theorem gLX1_build : GoodIn lw_tbl (wsV R_law 26 RX1 yX1_build (.code yX1_build cX1_build 3 (some .int) :: lw_g)) := lw_gl (lw_gc (lw_gm (by decide +kernel) rfl) (lw_gc (lw_gm (by decide +kernel) rfl) (lw_gc (lw_gm (by decide +kernel) rfl) (lw_gc m_ini (lw_gc m_c_build lw_gs)))))
theorem m_c_probe : Cond.code yX1_probe cX1_probe 7 (some .int) ∈ lw_g := lw_gm (List.mem_of_getElem? (i := 229) rfl) rfl
theorem gLX1_probe : GoodIn lw_tbl (wsV R_law 30 RX1 yX1_probe (.code yX1_probe cX1_probe 7 (some .int) :: lw_g)) := lw_gl (lw_gc (lw_gm (by decide +kernel) rfl) (lw_gc (lw_gm (by decide +kernel) rfl) (lw_gc (lw_gm (by decide +kernel) rfl) (lw_gc m_ini (lw_gc m_c_probe lw_gs)))))
theorem m_c_answer : Cond.code yX1_answer cX1_answer 1 (some .int) ∈ lw_g := lw_gm (List.mem_of_getElem? (i := 261) rfl) rfl
theorem gLX1_answer : GoodIn lw_tbl (wsV R_law 35 RX1 yX1_answer (.code yX1_answer cX1_answer 1 (some .int) :: lw_g)) := lw_gl (lw_gc (lw_gm (by decide +kernel) rfl) (lw_gc (lw_gm (by decide +kernel) rfl) (lw_gc (lw_gm (by decide +kernel) rfl) (lw_gc m_ini (lw_gc m_c_answer lw_gs)))))
theorem m_c_wrong : Cond.code yX1_wrong cX1_wrong 1 (some .int) ∈ lw_g := lw_gm (List.mem_of_getElem? (i := 265) rfl) rfl
theorem gLX1_wrong : GoodIn lw_tbl (wsV R_law 39 RX1 yX1_wrong (.code yX1_wrong cX1_wrong 1 (some .int) :: lw_g)) := lw_gl (lw_gc (lw_gm (by decide +kernel) rfl) (lw_gc (lw_gm (by decide +kernel) rfl) (lw_gc (lw_gm (by decide +kernel) rfl) (lw_gc m_ini (lw_gc m_c_wrong lw_gs)))))
theorem m_c_events : Cond.code yX1_events cX1_events 2 (some .int) ∈ lw_g := lw_gm (List.mem_of_getElem? (i := 269) rfl) rfl
theorem gLX1_events : GoodIn lw_tbl (wsV R_law 43 RX1 yX1_events (.code yX1_events cX1_events 2 (some .int) :: lw_g)) := lw_gl (lw_gc (lw_gm (by decide +kernel) rfl) (lw_gc (lw_gm (by decide +kernel) rfl) (lw_gc (lw_gm (by decide +kernel) rfl) (lw_gc m_ini (lw_gc m_c_events lw_gs)))))
theorem m_c_event : Cond.code yX1_event cX1_event 3 (some .int) ∈ lw_g := lw_gm (List.mem_of_getElem? (i := 273) rfl) rfl
theorem gLX1_event : GoodIn lw_tbl (wsV R_law 48 RX1 yX1_event (.code yX1_event cX1_event 3 (some .int) :: lw_g)) := lw_gl (lw_gc (lw_gm (by decide +kernel) rfl) (lw_gc (lw_gm (by decide +kernel) rfl) (lw_gc (lw_gm (by decide +kernel) rfl) (lw_gc m_ini (lw_gc m_c_event lw_gs)))))
theorem m_c_init : Cond.code yX1_init cX1_init 1 none ∈ lw_g := lw_gm (List.mem_of_getElem? (i := 151) rfl) rfl
theorem gLX1_init : GoodIn lw_tbl (.code yX1_init cX1_init 1 none :: lw_g) := lw_gl (lw_gc m_c_init lw_gs)
/-! THE LAW'S WORLD: the class's cells gx, the reference's cells gm, all new since the law's entry -/
def w_A (s : State) : Nat → Prop := fun q => s.heap.size ≤ q
def w_I (D : va_G) (cI cJ : ClassId) (gx gm : Nat → Nat) (s : State) (H : Heap) (locs : List Loc) (σ : xT) (μ : mT) : Prop := va_P D vwCl (fw 30 gx (x_E cI cJ gx σ)) H ∧ va_P D vwCl (fw 14 gm (m_E cI gm μ)) H ∧ va_S (w_A s) s.heap H locs
def w_St (tS tJ : Nat) (s : State) : Prop := va_Z "StartupProbes" "SUPERCLASS" "[I" (.ref tS) (w_A s) s s.heap ∧ va_T .int tS 8 (fun j => .int (x_I (x_sup j))) (w_A s) s s.heap ∧ va_Z "StartupProbes" "STARTED_INTERFACE" "[I" (.ref tJ) (w_A s) s s.heap ∧ va_T .int tJ 8 (fun j => .int (x_I (x_ifc j))) (w_A s) s s.heap
def w_C (D : va_G) (cI cJ : ClassId) (gx gm : Nat → Nat) (tS tJ : Nat) (s : State) : Prop := va_K D vwCl [(cI, .int), (cJ, .array .int)] s ∧ fw_J 30 gx ∧ fw_J 14 gm ∧ (∀ i, i < 30 → s.heap.size ≤ gx i) ∧ (∀ j, j < 14 → s.heap.size ≤ gm j) ∧ (∀ i j, i < 30 → j < 14 → gx i ≠ gm j) ∧ w_St tS tJ s
section WL
variable {p : Program} {l : Launch} {e : Env} {R : Room} {s : State} {m : MethodId} {args : Array Value} {below : List Frame} {meth : Method} {c : Code} {H : Heap} {locs : List Loc} {cells slots : Nat} {Q : State → Prop}
variable {cc : ByteArray} {pc : Nat} {ls : Array Slot} {rest : List Value} {D : va_G} {cI cJ : ClassId} {gx gm : Nat → Nat} {tS tJ : Nat} {σ : xT} {μ : mT}
theorem w_pre (hC : w_C D cI cJ gx gm tS tJ s) (hI : w_I D cI cJ gx gm s H locs σ μ) : ∀ U : State, U.heap = H → s.WarmedH U.vm → x_Pre D cI cJ gx tS tJ σ U := fun U hU hW => by
  obtain ⟨hK, hJ, -, hgx, -, -, h1, h2, h3, h4⟩ := hC
  have hAB : ∀ q, fw_A 30 gx q → w_A s q := fun q h => by
    obtain ⟨k, hk, rfl⟩ := h
    exact hgx k hk
  have hz : ∀ a : Nat, a < s.heap.size → ¬ fw_A 30 gx a → U.heap[a]? = s.heap[a]? := fun a ha _ => by
    rw [hU]
    exact hI.2.2.2.1 a ha (Nat.not_le.mpr ha)
  exact ⟨by rw [hU]; exact hI.1, ⟨va_K.moved hW.alike hK, hJ⟩, (va_Z.moved hW.alike (h1.narrow hAB)).kept hz, (va_T.moved hW.alike (h2.narrow hAB)).kept hz, (va_Z.moved hW.alike (h3.narrow hAB)).kept hz, (va_T.moved hW.alike (h4.narrow hAB)).kept hz⟩
theorem w_preM (hC : w_C D cI cJ gx gm tS tJ s) (hI : w_I D cI cJ gx gm s H locs σ μ) : ∀ U : State, U.heap = H → s.WarmedH U.vm → m_Pre D cI gm μ U := fun U hU hW => ⟨by rw [hU]; exact hI.2.1, va_K.moved hW.alike (hC.1.sub (tys' := [(cI, .int)]) [0] rfl), hC.2.2.1⟩
theorem w_callX (As : List Value) {Fi : Int32 × xT} {y : MethodName} {bytes : ByteArray} {maxL nL index n : Nat} {rm : Room} {st0 : List Value} (hx : p.tables.exec = Jvm.exec) (hb : c.code = cc) (hml : c.maxLocals = nL) (hown : s.vm.findClass R_law = some m.cls) (hts : ∀ w ∈ lw_tbl, w.before args s = true) (hC : w_C D cI cJ gx gm tS tJ s) (hI : w_I D cI cJ gx gm s H locs σ μ) (hM : x_Mi l y (.code y bytes maxL (some .int) :: lw_g) rm D cI cJ gx tS tJ σ As Fi) (hG : GoodIn lw_tbl (wsV R_law index RX0 y (.code y bytes maxL (some .int) :: lw_g))) (hd : y.cls = RX0 ∧ y.cls ≠ "java/lang/invoke/MethodHandle" ∧ y.cls ≠ "java/lang/invoke/VarHandle" ∧ (parseMethodDescriptor y.desc).map (fun d => d.parameters.length) = some n) (hrm : rm.cells = 0 ∧ rm.slots = 0 ∧ rm.frames + 1 ≤ R.frames ∧ 8 + (maxL + 11) + rm.locals ≤ R.locals) (hn : As.length = n) (hsize : ls.size = nL) (hst : st0 = As.reverse ++ .ref (gx 0) :: rest) (hW : (rest.map fun v => v.category).sum ≤ 8) (hf : cells ≤ R.cells ∧ slots ≤ R.slots) (hdg : decode cc pc = .ok (.invokevirtual index, 3)) (kk : ∀ (H1 : Heap) (locs1 : List Loc), w_I D cI cJ gx gm s H1 locs1 Fi.2 μ → W p l e R s m args below meth c H1 locs1 cells slots Q (F0 m (pc + 3) ls (.int Fi.1 :: rest))) : W p l e R s m args below meth c H locs cells slots Q (F0 m pc ls st0) := by
  subst hst
  have hAB : ∀ q, fw_A 30 gx q → w_A s q := fun q h => by
    obtain ⟨k, hk, rfl⟩ := h
    exact hC.2.2.2.1 k hk
  refine va_calli (va_runV (As := As) (rest := rest) ⟨hx, hb, hml, hown, hts⟩ hM (cwV n hts hG rfl hrm.1 hrm.2.1 hd hrm.2.2) ⟨x_blind, va_recv hC.1 hI.1 (ci := 0) (q0 := 0) rfl (by rw [fw_at (by omega)]; rfl), fun U hU hW => ⟨rfl, w_pre hC hI U hU hW⟩⟩ rfl hn hsize rfl (lv_room hW) hdg hf) hI.2.2 (fun q _ h => hAB q h) (fun q h => hAB q h) (fun r τ t H1 locs1 ht hvm hw hB hz1 hk1 hS => ?_)
  subst hw
  rw [ht] at hB
  refine kk H1 locs1 ⟨hB, hI.2.1.kept (fun k q hq => ?_), hS⟩
  obtain ⟨h1, rfl⟩ := fw_of hq
  refine hk1 _ (hI.2.1 k _ hq).lt (fun h => ?_)
  obtain ⟨i, hi, e⟩ := h
  exact hC.2.2.2.2.2.1 i k hi h1 e.symm
theorem w_callM (As : List Value) {Fi : Int32 × mT} {y : MethodName} {bytes : ByteArray} {maxL nL index n : Nat} {rm : Room} {st0 : List Value} (hx : p.tables.exec = Jvm.exec) (hb : c.code = cc) (hml : c.maxLocals = nL) (hown : s.vm.findClass R_law = some m.cls) (hts : ∀ w ∈ lw_tbl, w.before args s = true) (hC : w_C D cI cJ gx gm tS tJ s) (hI : w_I D cI cJ gx gm s H locs σ μ) (hM : m_Mi l y (.code y bytes maxL (some .int) :: lw_g) rm D cI gm μ As Fi) (hG : GoodIn lw_tbl (wsV R_law index RX1 y (.code y bytes maxL (some .int) :: lw_g))) (hd : y.cls = RX1 ∧ y.cls ≠ "java/lang/invoke/MethodHandle" ∧ y.cls ≠ "java/lang/invoke/VarHandle" ∧ (parseMethodDescriptor y.desc).map (fun d => d.parameters.length) = some n) (hrm : rm.cells = 0 ∧ rm.slots = 0 ∧ rm.frames + 1 ≤ R.frames ∧ 8 + (maxL + 11) + rm.locals ≤ R.locals) (hn : As.length = n) (hsize : ls.size = nL) (hst : st0 = As.reverse ++ .ref (gm 0) :: rest) (hW : (rest.map fun v => v.category).sum ≤ 8) (hf : cells ≤ R.cells ∧ slots ≤ R.slots) (hdg : decode cc pc = .ok (.invokevirtual index, 3)) (kk : ∀ (H1 : Heap) (locs1 : List Loc), w_I D cI cJ gx gm s H1 locs1 σ Fi.2 → W p l e R s m args below meth c H1 locs1 cells slots Q (F0 m (pc + 3) ls (.int Fi.1 :: rest))) : W p l e R s m args below meth c H locs cells slots Q (F0 m pc ls st0) := by
  subst hst
  have hAB : ∀ q, fw_A 14 gm q → w_A s q := fun q h => by
    obtain ⟨k, hk, rfl⟩ := h
    exact hC.2.2.2.2.1 k hk
  refine va_calli (va_runV (As := As) (rest := rest) ⟨hx, hb, hml, hown, hts⟩ hM (cwV n hts hG rfl hrm.1 hrm.2.1 hd hrm.2.2) ⟨m_blind, va_recv hC.1 hI.2.1 (ci := 1) (q0 := 0) rfl (by rw [fw_at (by omega)]; rfl), fun U hU hW => ⟨rfl, w_preM hC hI U hU hW⟩⟩ rfl hn hsize rfl (lv_room hW) hdg hf) hI.2.2 (fun q _ h => hAB q h) (fun q h => hAB q h) (fun r τ t H1 locs1 ht hvm hw hB hz1 hk1 hS => ?_)
  subst hw
  rw [ht] at hB
  refine kk H1 locs1 ⟨hI.1.kept (fun k q hq => ?_), hB, hS⟩
  obtain ⟨h1, rfl⟩ := fw_of hq
  refine hk1 _ (hI.1 k _ hq).lt (fun h => ?_)
  obtain ⟨i, hi, e⟩ := h
  exact hC.2.2.2.2.2.1 k i h1 hi e
end WL
/-- the reference's probe, beside the class's -/
theorem w_probe (l : Launch) (D : va_G) (cI : ClassId) (gm : Nat → Nat) {σ : xT} {μ : mT} (a b q : Int32) (hJ : r_J σ μ) : ∃ F : Int32 × mT, m_Mi l yX1_probe (.code yX1_probe cX1_probe 7 (some .int) :: lw_g) { frames := 4, cells := 0, slots := 0, locals := 92 } D cI gm μ [.int a, .int b, .int q] F ∧ F.1 = (x_probe a b q σ).1 ∧ r_J (x_probe a b q σ).2 F.2 := by
  by_cases hbad : m_bad a b q
  · refine ⟨(-1, μ), cm_probeR l D cI gm μ a b q hbad, ?_⟩
    rw [r_probeR hbad]
    exact ⟨rfl, hJ⟩
  · obtain ⟨w, t, j, ν, hw, ht, hj, ea, eb, eq, hg, hν, h1, h2⟩ := r_probeV hbad hJ
    refine ⟨m_res w t j ν, ?_, h1, h2⟩
    rw [ea, eb, eq]
    exact cm_probeV l D cI gm μ w t j ν hw ht hj hg hJ.2.2.2.1 hν
