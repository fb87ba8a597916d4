set_option maxHeartbeats 4000000 in
set_option maxRecDepth 100000 in
/-- THE LAW'S LOOP: at its head, n ints read, class and reference hold the same -/
theorem law_loop {p : Program} {l : Launch} {e : Env} {s : State} {m : MethodId} {below : List Frame} {meth : Method} {c : Code} {D : va_G} {cI cJ : ClassId} {gx gm : Nat → Nat} {tS tJ : Nat} {b L : Nat} {xs : Nat → Int32} (hL : L ≤ 2048) (C0 : lw_At p s m meth c b L xs) (hC : w_C D cI cJ gx gm tS tJ s) :
    ∀ (f n : Nat), n ≤ L → L + 1 ≤ n + f → ∀ (σ : xT) (μ : mT), r_J σ μ → ∀ (H : Heap) (locs : List Loc), w_I D cI cJ gx gm s H locs σ μ → ∀ (ls : Array Slot), lv_has ls 4 [(0, .ref b), (1, .ref (gx 0)), (2, .ref (gm 0)), (3, .int (nI n))] → W p l e room_1 s m #[Value.ref b] below meth c H locs 44 519 (lw_Z below #[Value.ref b] s) (F0 m 18 ls []) := by
  obtain ⟨hx, hb, hr, hml, hown, hts, hX, hbl, hlocks, hgv⟩ := C0
  have hbA : ¬ w_A s b := Nat.not_le.mpr hbl
  intro f
  induction f with
  | zero =>
    intro n h1 h2
    exact absurd h2 (by omega)
  | succ f ih =>
    intro n hn hf σ μ hJ H locs hI ls hl
    refine lv_iload_n hx hb dL_law_18 rfl (lv_at hl 3 rfl) ?_
    refine lv_aload_n hx hb dL_law_19 rfl (lv_at hl 0 rfl) ?_
    refine va_slen hx hb hX hbl hbA hI.2.2 dL_law_20 ?_
    refine lv_iconst (v := 4) hx hb dL_law_21 (by decide) ?_
    refine lv_isub hx hb dL_law_22 ?_
    refine lv_icmp_gt (tgt := 300) hx hb dL_law_23 (by decide) (fun c_1 => ?_) (fun c_1 => ?_)
    · refine lv_iconst (v := 1) hx hb dL_law_300 (by decide) ?_
      refine va_forget (fun q hq => hI.2.2.2.2 q hq) ?_
      refine W.widen (k := 600000) (n := 7302250) (Nat.le_of_ble_eq_true rfl) (Nat.le_of_ble_eq_true rfl) ?_
      exact lw_ret hx hb hr hlocks dL_law_301
    · have hlt : n + 4 ≤ L := Nat.le_of_not_lt (fun h => c_1 (by
        rw [Int32.lt_iff_toInt_lt, show Int32.ofNat L - 4 = nI L - nI 4 from rfl, pk_sub_toInt (by omega) (by omega), nI_toInt (by omega)]
        omega))
      have hn0 : vp_in (nI n) L := vp_in_nI (by omega) (by omega)
      have hn1 : vp_in (nI n + 1) L := by rw [nI_1]; exact vp_in_nI (by omega) (by omega)
      have hn2 : vp_in (nI n + 2) L := by rw [show (2 : Int32) = nI 2 from rfl, nI_add]; exact vp_in_nI (by omega) (by omega)
      have hn3 : vp_in (nI n + 3) L := by rw [show (3 : Int32) = nI 3 from rfl, nI_add]; exact vp_in_nI (by omega) (by omega)
      have next : ∀ {σ2 : xT} {μ2 : mT} {H : Heap} {locs : List Loc}, w_I D cI cJ gx gm s H locs σ2 μ2 → r_J σ2 μ2 → W p l e room_1 s m #[Value.ref b] below meth c H locs 44 519 (lw_Z below #[Value.ref b] s) (F0 m 294 ls []) := fun {σ2 μ2 H locs} hI hJ => by
        refine lv_iinc (v := nI (n + 4)) (lv' := [(3, .int (nI (n + 4))), (0, .ref b), (1, .ref (gx 0)), (2, .ref (gm 0))]) hx hb dL_law_294 hl (k := 3) rfl (by rw [show Int32.ofInt 4 = nI 4 from by decide, nI_add]) (by decide) rfl (fun ls hl => ?_)
        refine lv_goto (tgt := 18) hx hb dL_law_297 (by decide) ?_
        exact ih (n + 4) hlt (by omega) σ2 μ2 hJ H locs hI ls (lv_sub hl [1, 2, 3, 0] rfl)
      refine lv_aload_n hx hb dL_law_26 rfl (lv_at hl 0 rfl) ?_
      refine lv_iload_n hx hb dL_law_27 rfl (lv_at hl 3 rfl) ?_
      refine va_sld hx hb hX hbl hbA hI.2.2 hn0 dL_law_28 ?_
      refine lv_bipush (v := 7) hx hb dL_law_29 (by decide) ?_
      refine lv_iand hx hb dL_law_31 ?_
      obtain ⟨k, hk, ek⟩ := pk_andE (xs (nI n).toNatClampNeg) (m := 7) 3 rfl
      rw [ek]
      have hk : k < 8 := hk
      rcases (show k = 0 ∨ k = 1 ∨ k = 2 ∨ k = 3 ∨ k = 4 ∨ k = 5 ∨ k = 6 ∨ k = 7 by omega) with rfl | rfl | rfl | rfl | rfl | rfl | rfl | rfl
      · refine lv_tableIn (off := 48) (tgt := 80) hx hb dL_law_32 (by decide) (by decide) (by decide +kernel) (by decide) ?_
        refine lv_aload_n hx hb dL_law_80 rfl (lv_at hl 1 rfl) ?_
        refine lv_aload_n hx hb dL_law_81 rfl (lv_at hl 0 rfl) ?_
        refine lv_iload_n hx hb dL_law_82 rfl (lv_at hl 3 rfl) ?_
        refine lv_iconst (v := 1) hx hb dL_law_83 (by decide) ?_
        refine lv_iadd hx hb dL_law_84 ?_
        refine va_sld hx hb hX hbl hbA hI.2.2 hn1 dL_law_85 ?_
        refine lv_aload_n hx hb dL_law_86 rfl (lv_at hl 0 rfl) ?_
        refine lv_iload_n hx hb dL_law_87 rfl (lv_at hl 3 rfl) ?_
        refine lv_iconst (v := 2) hx hb dL_law_88 (by decide) ?_
        refine lv_iadd hx hb dL_law_89 ?_
        refine va_sld hx hb hX hbl hbA hI.2.2 hn2 dL_law_90 ?_
        refine lv_aload_n hx hb dL_law_91 rfl (lv_at hl 0 rfl) ?_
        refine lv_iload_n hx hb dL_law_92 rfl (lv_at hl 3 rfl) ?_
        refine lv_iconst (v := 3) hx hb dL_law_93 (by decide) ?_
        refine lv_iadd hx hb dL_law_94 ?_
        refine va_sld hx hb hX hbl hbA hI.2.2 hn3 dL_law_95 ?_
        refine w_callX (n := 3) [.int (xs (nI n + 1).toNatClampNeg), .int (xs (nI n + 2).toNatClampNeg), .int (xs (nI n + 3).toNatClampNeg)] hx hb hml hown hts hC hI (cx_order l D cI cJ gx tS tJ σ (xs (nI n + 1).toNatClampNeg) (xs (nI n + 2).toNatClampNeg) (xs (nI n + 3).toNatClampNeg) hJ.2.1.1) gLX0_order (by decide +kernel) ⟨rfl, rfl, Nat.le_of_ble_eq_true rfl, Nat.le_of_ble_eq_true rfl⟩ rfl hl.1 rfl (Nat.le_of_ble_eq_true rfl) ⟨Nat.le_of_ble_eq_true rfl, Nat.le_of_ble_eq_true rfl⟩ dL_law_96 (fun H locs hI => ?_)
        refine lv_aload_n hx hb dL_law_99 rfl (lv_at hl 2 rfl) ?_
        refine lv_aload_n hx hb dL_law_100 rfl (lv_at hl 0 rfl) ?_
        refine lv_iload_n hx hb dL_law_101 rfl (lv_at hl 3 rfl) ?_
        refine lv_iconst (v := 1) hx hb dL_law_102 (by decide) ?_
        refine lv_iadd hx hb dL_law_103 ?_
        refine va_sld hx hb hX hbl hbA hI.2.2 hn1 dL_law_104 ?_
        refine lv_aload_n hx hb dL_law_105 rfl (lv_at hl 0 rfl) ?_
        refine lv_iload_n hx hb dL_law_106 rfl (lv_at hl 3 rfl) ?_
        refine lv_iconst (v := 2) hx hb dL_law_107 (by decide) ?_
        refine lv_iadd hx hb dL_law_108 ?_
        refine va_sld hx hb hX hbl hbA hI.2.2 hn2 dL_law_109 ?_
        refine lv_aload_n hx hb dL_law_110 rfl (lv_at hl 0 rfl) ?_
        refine lv_iload_n hx hb dL_law_111 rfl (lv_at hl 3 rfl) ?_
        refine lv_iconst (v := 3) hx hb dL_law_112 (by decide) ?_
        refine lv_iadd hx hb dL_law_113 ?_
        refine va_sld hx hb hX hbl hbA hI.2.2 hn3 dL_law_114 ?_
        refine w_callM (n := 3) [.int (xs (nI n + 1).toNatClampNeg), .int (xs (nI n + 2).toNatClampNeg), .int (xs (nI n + 3).toNatClampNeg)] hx hb hml hown hts hC hI (cm_order l D cI gm μ (xs (nI n + 1).toNatClampNeg) (xs (nI n + 2).toNatClampNeg) (xs (nI n + 3).toNatClampNeg) (r_okm hJ.1 hJ.2.1)) gLX1_order (by decide +kernel) ⟨rfl, rfl, Nat.le_of_ble_eq_true rfl, Nat.le_of_ble_eq_true rfl⟩ rfl hl.1 rfl (Nat.le_of_ble_eq_true rfl) ⟨Nat.le_of_ble_eq_true rfl, Nat.le_of_ble_eq_true rfl⟩ dL_law_115 (fun H locs hI => ?_)
        refine lv_icmp_eq (tgt := 294) hx hb dL_law_118 (by decide) (fun _ => ?_) (fun c_2 => absurd (r_order (xs (nI n + 1).toNatClampNeg) (xs (nI n + 2).toNatClampNeg) (xs (nI n + 3).toNatClampNeg) hJ).1.symm c_2)
        exact next hI (r_order (xs (nI n + 1).toNatClampNeg) (xs (nI n + 2).toNatClampNeg) (xs (nI n + 3).toNatClampNeg) hJ).2
      · refine lv_tableIn (off := 91) (tgt := 123) hx hb dL_law_32 (by decide) (by decide) (by decide +kernel) (by decide) ?_
        refine lv_aload_n hx hb dL_law_123 rfl (lv_at hl 1 rfl) ?_
        refine lv_aload_n hx hb dL_law_124 rfl (lv_at hl 0 rfl) ?_
        refine lv_iload_n hx hb dL_law_125 rfl (lv_at hl 3 rfl) ?_
        refine lv_iconst (v := 1) hx hb dL_law_126 (by decide) ?_
        refine lv_iadd hx hb dL_law_127 ?_
        refine va_sld hx hb hX hbl hbA hI.2.2 hn1 dL_law_128 ?_
        refine w_callX (n := 1) [.int (xs (nI n + 1).toNatClampNeg)] hx hb hml hown hts hC hI (cx_noOrders l D cI cJ gx tS tJ σ (xs (nI n + 1).toNatClampNeg)) gLX0_noOrders (by decide +kernel) ⟨rfl, rfl, Nat.le_of_ble_eq_true rfl, Nat.le_of_ble_eq_true rfl⟩ rfl hl.1 rfl (Nat.le_of_ble_eq_true rfl) ⟨Nat.le_of_ble_eq_true rfl, Nat.le_of_ble_eq_true rfl⟩ dL_law_129 (fun H locs hI => ?_)
        refine lv_aload_n hx hb dL_law_132 rfl (lv_at hl 2 rfl) ?_
        refine lv_aload_n hx hb dL_law_133 rfl (lv_at hl 0 rfl) ?_
        refine lv_iload_n hx hb dL_law_134 rfl (lv_at hl 3 rfl) ?_
        refine lv_iconst (v := 1) hx hb dL_law_135 (by decide) ?_
        refine lv_iadd hx hb dL_law_136 ?_
        refine va_sld hx hb hX hbl hbA hI.2.2 hn1 dL_law_137 ?_
        refine w_callM (n := 1) [.int (xs (nI n + 1).toNatClampNeg)] hx hb hml hown hts hC hI (cm_noOrders l D cI gm μ (xs (nI n + 1).toNatClampNeg)) gLX1_noOrders (by decide +kernel) ⟨rfl, rfl, Nat.le_of_ble_eq_true rfl, Nat.le_of_ble_eq_true rfl⟩ rfl hl.1 rfl (Nat.le_of_ble_eq_true rfl) ⟨Nat.le_of_ble_eq_true rfl, Nat.le_of_ble_eq_true rfl⟩ dL_law_138 (fun H locs hI => ?_)
        refine lv_icmp_eq (tgt := 294) hx hb dL_law_141 (by decide) (fun _ => ?_) (fun c_2 => absurd (r_noOrders (xs (nI n + 1).toNatClampNeg) hJ).1.symm c_2)
        exact next hI (r_noOrders (xs (nI n + 1).toNatClampNeg) hJ).2
      · refine lv_tableIn (off := 114) (tgt := 146) hx hb dL_law_32 (by decide) (by decide) (by decide +kernel) (by decide) ?_
        refine lv_aload_n hx hb dL_law_146 rfl (lv_at hl 1 rfl) ?_
        refine lv_aload_n hx hb dL_law_147 rfl (lv_at hl 0 rfl) ?_
        refine lv_iload_n hx hb dL_law_148 rfl (lv_at hl 3 rfl) ?_
        refine lv_iconst (v := 1) hx hb dL_law_149 (by decide) ?_
        refine lv_iadd hx hb dL_law_150 ?_
        refine va_sld hx hb hX hbl hbA hI.2.2 hn1 dL_law_151 ?_
        refine w_callX (n := 1) [.int (xs (nI n + 1).toNatClampNeg)] hx hb hml hown hts hC hI (cx_build l D cI cJ gx tS tJ σ (xs (nI n + 1).toNatClampNeg)) gLX0_build (by decide +kernel) ⟨rfl, rfl, Nat.le_of_ble_eq_true rfl, Nat.le_of_ble_eq_true rfl⟩ rfl hl.1 rfl (Nat.le_of_ble_eq_true rfl) ⟨Nat.le_of_ble_eq_true rfl, Nat.le_of_ble_eq_true rfl⟩ dL_law_152 (fun H locs hI => ?_)
        refine lv_aload_n hx hb dL_law_155 rfl (lv_at hl 2 rfl) ?_
        refine lv_aload_n hx hb dL_law_156 rfl (lv_at hl 0 rfl) ?_
        refine lv_iload_n hx hb dL_law_157 rfl (lv_at hl 3 rfl) ?_
        refine lv_iconst (v := 1) hx hb dL_law_158 (by decide) ?_
        refine lv_iadd hx hb dL_law_159 ?_
        refine va_sld hx hb hX hbl hbA hI.2.2 hn1 dL_law_160 ?_
        refine w_callM (n := 1) [.int (xs (nI n + 1).toNatClampNeg)] hx hb hml hown hts hC hI (cm_build l D cI gm μ (xs (nI n + 1).toNatClampNeg)) gLX1_build (by decide +kernel) ⟨rfl, rfl, Nat.le_of_ble_eq_true rfl, Nat.le_of_ble_eq_true rfl⟩ rfl hl.1 rfl (Nat.le_of_ble_eq_true rfl) ⟨Nat.le_of_ble_eq_true rfl, Nat.le_of_ble_eq_true rfl⟩ dL_law_161 (fun H locs hI => ?_)
        refine lv_icmp_eq (tgt := 294) hx hb dL_law_164 (by decide) (fun _ => ?_) (fun c_2 => absurd (r_build (xs (nI n + 1).toNatClampNeg) hJ).1.symm c_2)
        exact next hI (r_build (xs (nI n + 1).toNatClampNeg) hJ).2
      · refine lv_tableIn (off := 137) (tgt := 169) hx hb dL_law_32 (by decide) (by decide) (by decide +kernel) (by decide) ?_
        obtain ⟨Fm, hFm, hF1, hF2⟩ := w_probe l D cI gm (xs (nI n + 1).toNatClampNeg) (xs (nI n + 2).toNatClampNeg) (xs (nI n + 3).toNatClampNeg) hJ
        refine lv_aload_n hx hb dL_law_169 rfl (lv_at hl 1 rfl) ?_
        refine lv_aload_n hx hb dL_law_170 rfl (lv_at hl 0 rfl) ?_
        refine lv_iload_n hx hb dL_law_171 rfl (lv_at hl 3 rfl) ?_
        refine lv_iconst (v := 1) hx hb dL_law_172 (by decide) ?_
        refine lv_iadd hx hb dL_law_173 ?_
        refine va_sld hx hb hX hbl hbA hI.2.2 hn1 dL_law_174 ?_
        refine lv_aload_n hx hb dL_law_175 rfl (lv_at hl 0 rfl) ?_
        refine lv_iload_n hx hb dL_law_176 rfl (lv_at hl 3 rfl) ?_
        refine lv_iconst (v := 2) hx hb dL_law_177 (by decide) ?_
        refine lv_iadd hx hb dL_law_178 ?_
        refine va_sld hx hb hX hbl hbA hI.2.2 hn2 dL_law_179 ?_
        refine lv_aload_n hx hb dL_law_180 rfl (lv_at hl 0 rfl) ?_
        refine lv_iload_n hx hb dL_law_181 rfl (lv_at hl 3 rfl) ?_
        refine lv_iconst (v := 3) hx hb dL_law_182 (by decide) ?_
        refine lv_iadd hx hb dL_law_183 ?_
        refine va_sld hx hb hX hbl hbA hI.2.2 hn3 dL_law_184 ?_
        refine w_callX (n := 3) [.int (xs (nI n + 1).toNatClampNeg), .int (xs (nI n + 2).toNatClampNeg), .int (xs (nI n + 3).toNatClampNeg)] hx hb hml hown hts hC hI (cx_probe l D cI cJ gx tS tJ σ (xs (nI n + 1).toNatClampNeg) (xs (nI n + 2).toNatClampNeg) (xs (nI n + 3).toNatClampNeg) hJ.2.1.1) gLX0_probe (by decide +kernel) ⟨rfl, rfl, Nat.le_of_ble_eq_true rfl, Nat.le_of_ble_eq_true rfl⟩ rfl hl.1 rfl (Nat.le_of_ble_eq_true rfl) ⟨Nat.le_of_ble_eq_true rfl, Nat.le_of_ble_eq_true rfl⟩ dL_law_185 (fun H locs hI => ?_)
        refine lv_aload_n hx hb dL_law_188 rfl (lv_at hl 2 rfl) ?_
        refine lv_aload_n hx hb dL_law_189 rfl (lv_at hl 0 rfl) ?_
        refine lv_iload_n hx hb dL_law_190 rfl (lv_at hl 3 rfl) ?_
        refine lv_iconst (v := 1) hx hb dL_law_191 (by decide) ?_
        refine lv_iadd hx hb dL_law_192 ?_
        refine va_sld hx hb hX hbl hbA hI.2.2 hn1 dL_law_193 ?_
        refine lv_aload_n hx hb dL_law_194 rfl (lv_at hl 0 rfl) ?_
        refine lv_iload_n hx hb dL_law_195 rfl (lv_at hl 3 rfl) ?_
        refine lv_iconst (v := 2) hx hb dL_law_196 (by decide) ?_
        refine lv_iadd hx hb dL_law_197 ?_
        refine va_sld hx hb hX hbl hbA hI.2.2 hn2 dL_law_198 ?_
        refine lv_aload_n hx hb dL_law_199 rfl (lv_at hl 0 rfl) ?_
        refine lv_iload_n hx hb dL_law_200 rfl (lv_at hl 3 rfl) ?_
        refine lv_iconst (v := 3) hx hb dL_law_201 (by decide) ?_
        refine lv_iadd hx hb dL_law_202 ?_
        refine va_sld hx hb hX hbl hbA hI.2.2 hn3 dL_law_203 ?_
        refine w_callM (n := 3) [.int (xs (nI n + 1).toNatClampNeg), .int (xs (nI n + 2).toNatClampNeg), .int (xs (nI n + 3).toNatClampNeg)] hx hb hml hown hts hC hI (hFm) gLX1_probe (by decide +kernel) ⟨rfl, rfl, Nat.le_of_ble_eq_true rfl, Nat.le_of_ble_eq_true rfl⟩ rfl hl.1 rfl (Nat.le_of_ble_eq_true rfl) ⟨Nat.le_of_ble_eq_true rfl, Nat.le_of_ble_eq_true rfl⟩ dL_law_204 (fun H locs hI => ?_)
        refine lv_icmp_eq (tgt := 294) hx hb dL_law_207 (by decide) (fun _ => ?_) (fun c_2 => absurd (And.intro hF1 hF2).1.symm c_2)
        exact next hI (And.intro hF1 hF2).2
      · refine lv_tableIn (off := 180) (tgt := 212) hx hb dL_law_32 (by decide) (by decide) (by decide +kernel) (by decide) ?_
        refine lv_aload_n hx hb dL_law_212 rfl (lv_at hl 1 rfl) ?_
        refine w_callX (n := 0) [] hx hb hml hown hts hC hI (cx_answer l D cI cJ gx tS tJ σ ) gLX0_answer (by decide +kernel) ⟨rfl, rfl, Nat.le_of_ble_eq_true rfl, Nat.le_of_ble_eq_true rfl⟩ rfl hl.1 rfl (Nat.le_of_ble_eq_true rfl) ⟨Nat.le_of_ble_eq_true rfl, Nat.le_of_ble_eq_true rfl⟩ dL_law_213 (fun H locs hI => ?_)
        refine lv_aload_n hx hb dL_law_216 rfl (lv_at hl 2 rfl) ?_
        refine w_callM (n := 0) [] hx hb hml hown hts hC hI (cm_answer l D cI gm μ ) gLX1_answer (by decide +kernel) ⟨rfl, rfl, Nat.le_of_ble_eq_true rfl, Nat.le_of_ble_eq_true rfl⟩ rfl hl.1 rfl (Nat.le_of_ble_eq_true rfl) ⟨Nat.le_of_ble_eq_true rfl, Nat.le_of_ble_eq_true rfl⟩ dL_law_217 (fun H locs hI => ?_)
        refine lv_icmp_eq (tgt := 294) hx hb dL_law_220 (by decide) (fun _ => ?_) (fun c_2 => absurd (And.intro hJ.2.2.2.2.1 hJ).1.symm c_2)
        exact next hI (And.intro hJ.2.2.2.2.1 hJ).2
      · refine lv_tableIn (off := 193) (tgt := 225) hx hb dL_law_32 (by decide) (by decide) (by decide +kernel) (by decide) ?_
        refine lv_aload_n hx hb dL_law_225 rfl (lv_at hl 1 rfl) ?_
        refine w_callX (n := 0) [] hx hb hml hown hts hC hI (cx_wrong l D cI cJ gx tS tJ σ ) gLX0_wrong (by decide +kernel) ⟨rfl, rfl, Nat.le_of_ble_eq_true rfl, Nat.le_of_ble_eq_true rfl⟩ rfl hl.1 rfl (Nat.le_of_ble_eq_true rfl) ⟨Nat.le_of_ble_eq_true rfl, Nat.le_of_ble_eq_true rfl⟩ dL_law_226 (fun H locs hI => ?_)
        refine lv_aload_n hx hb dL_law_229 rfl (lv_at hl 2 rfl) ?_
        refine w_callM (n := 0) [] hx hb hml hown hts hC hI (cm_wrong l D cI gm μ ) gLX1_wrong (by decide +kernel) ⟨rfl, rfl, Nat.le_of_ble_eq_true rfl, Nat.le_of_ble_eq_true rfl⟩ rfl hl.1 rfl (Nat.le_of_ble_eq_true rfl) ⟨Nat.le_of_ble_eq_true rfl, Nat.le_of_ble_eq_true rfl⟩ dL_law_230 (fun H locs hI => ?_)
        refine lv_icmp_eq (tgt := 294) hx hb dL_law_233 (by decide) (fun _ => ?_) (fun c_2 => absurd (And.intro hJ.2.2.2.2.2 hJ).1.symm c_2)
        exact next hI (And.intro hJ.2.2.2.2.2 hJ).2
      · refine lv_tableIn (off := 206) (tgt := 238) hx hb dL_law_32 (by decide) (by decide) (by decide +kernel) (by decide) ?_
        refine lv_aload_n hx hb dL_law_238 rfl (lv_at hl 1 rfl) ?_
        refine lv_aload_n hx hb dL_law_239 rfl (lv_at hl 0 rfl) ?_
        refine lv_iload_n hx hb dL_law_240 rfl (lv_at hl 3 rfl) ?_
        refine lv_iconst (v := 1) hx hb dL_law_241 (by decide) ?_
        refine lv_iadd hx hb dL_law_242 ?_
        refine va_sld hx hb hX hbl hbA hI.2.2 hn1 dL_law_243 ?_
        refine w_callX (n := 1) [.int (xs (nI n + 1).toNatClampNeg)] hx hb hml hown hts hC hI (cx_events l D cI cJ gx tS tJ σ (xs (nI n + 1).toNatClampNeg)) gLX0_events (by decide +kernel) ⟨rfl, rfl, Nat.le_of_ble_eq_true rfl, Nat.le_of_ble_eq_true rfl⟩ rfl hl.1 rfl (Nat.le_of_ble_eq_true rfl) ⟨Nat.le_of_ble_eq_true rfl, Nat.le_of_ble_eq_true rfl⟩ dL_law_244 (fun H locs hI => ?_)
        refine lv_aload_n hx hb dL_law_247 rfl (lv_at hl 2 rfl) ?_
        refine lv_aload_n hx hb dL_law_248 rfl (lv_at hl 0 rfl) ?_
        refine lv_iload_n hx hb dL_law_249 rfl (lv_at hl 3 rfl) ?_
        refine lv_iconst (v := 1) hx hb dL_law_250 (by decide) ?_
        refine lv_iadd hx hb dL_law_251 ?_
        refine va_sld hx hb hX hbl hbA hI.2.2 hn1 dL_law_252 ?_
        refine w_callM (n := 1) [.int (xs (nI n + 1).toNatClampNeg)] hx hb hml hown hts hC hI (cm_events l D cI gm μ (xs (nI n + 1).toNatClampNeg)) gLX1_events (by decide +kernel) ⟨rfl, rfl, Nat.le_of_ble_eq_true rfl, Nat.le_of_ble_eq_true rfl⟩ rfl hl.1 rfl (Nat.le_of_ble_eq_true rfl) ⟨Nat.le_of_ble_eq_true rfl, Nat.le_of_ble_eq_true rfl⟩ dL_law_253 (fun H locs hI => ?_)
        refine lv_icmp_eq (tgt := 294) hx hb dL_law_256 (by decide) (fun _ => ?_) (fun c_2 => absurd (r_events (xs (nI n + 1).toNatClampNeg) hJ).1.symm c_2)
        exact next hI (r_events (xs (nI n + 1).toNatClampNeg) hJ).2
      · refine lv_tableIn (off := 229) (tgt := 261) hx hb dL_law_32 (by decide) (by decide) (by decide +kernel) (by decide) ?_
        refine lv_aload_n hx hb dL_law_261 rfl (lv_at hl 1 rfl) ?_
        refine lv_aload_n hx hb dL_law_262 rfl (lv_at hl 0 rfl) ?_
        refine lv_iload_n hx hb dL_law_263 rfl (lv_at hl 3 rfl) ?_
        refine lv_iconst (v := 1) hx hb dL_law_264 (by decide) ?_
        refine lv_iadd hx hb dL_law_265 ?_
        refine va_sld hx hb hX hbl hbA hI.2.2 hn1 dL_law_266 ?_
        refine lv_aload_n hx hb dL_law_267 rfl (lv_at hl 0 rfl) ?_
        refine lv_iload_n hx hb dL_law_268 rfl (lv_at hl 3 rfl) ?_
        refine lv_iconst (v := 2) hx hb dL_law_269 (by decide) ?_
        refine lv_iadd hx hb dL_law_270 ?_
        refine va_sld hx hb hX hbl hbA hI.2.2 hn2 dL_law_271 ?_
        refine w_callX (n := 2) [.int (xs (nI n + 1).toNatClampNeg), .int (xs (nI n + 2).toNatClampNeg)] hx hb hml hown hts hC hI (cx_event l D cI cJ gx tS tJ σ (xs (nI n + 1).toNatClampNeg) (xs (nI n + 2).toNatClampNeg)) gLX0_event (by decide +kernel) ⟨rfl, rfl, Nat.le_of_ble_eq_true rfl, Nat.le_of_ble_eq_true rfl⟩ rfl hl.1 rfl (Nat.le_of_ble_eq_true rfl) ⟨Nat.le_of_ble_eq_true rfl, Nat.le_of_ble_eq_true rfl⟩ dL_law_272 (fun H locs hI => ?_)
        refine lv_aload_n hx hb dL_law_275 rfl (lv_at hl 2 rfl) ?_
        refine lv_aload_n hx hb dL_law_276 rfl (lv_at hl 0 rfl) ?_
        refine lv_iload_n hx hb dL_law_277 rfl (lv_at hl 3 rfl) ?_
        refine lv_iconst (v := 1) hx hb dL_law_278 (by decide) ?_
        refine lv_iadd hx hb dL_law_279 ?_
        refine va_sld hx hb hX hbl hbA hI.2.2 hn1 dL_law_280 ?_
        refine lv_aload_n hx hb dL_law_281 rfl (lv_at hl 0 rfl) ?_
        refine lv_iload_n hx hb dL_law_282 rfl (lv_at hl 3 rfl) ?_
        refine lv_iconst (v := 2) hx hb dL_law_283 (by decide) ?_
        refine lv_iadd hx hb dL_law_284 ?_
        refine va_sld hx hb hX hbl hbA hI.2.2 hn2 dL_law_285 ?_
        refine w_callM (n := 2) [.int (xs (nI n + 1).toNatClampNeg), .int (xs (nI n + 2).toNatClampNeg)] hx hb hml hown hts hC hI (cm_event l D cI gm μ (xs (nI n + 1).toNatClampNeg) (xs (nI n + 2).toNatClampNeg)) gLX1_event (by decide +kernel) ⟨rfl, rfl, Nat.le_of_ble_eq_true rfl, Nat.le_of_ble_eq_true rfl⟩ rfl hl.1 rfl (Nat.le_of_ble_eq_true rfl) ⟨Nat.le_of_ble_eq_true rfl, Nat.le_of_ble_eq_true rfl⟩ dL_law_286 (fun H locs hI => ?_)
        refine lv_icmp_eq (tgt := 294) hx hb dL_law_289 (by decide) (fun _ => ?_) (fun c_2 => absurd (r_event (xs (nI n + 1).toNatClampNeg) (xs (nI n + 2).toNatClampNeg) hJ).1.symm c_2)
        exact next hI (r_event (xs (nI n + 1).toNatClampNeg) (xs (nI n + 2).toNatClampNeg) hJ).2
set_option maxHeartbeats 4000000 in
set_option maxRecDepth 100000 in
/-- the class's written rows, as the Statement gives them -/
theorem law_statics {s : State} {b : Nat} (hts : ∀ w ∈ lw_tbl, w.before #[Value.ref b] s = true) (hgv : (Jvm.Cond.and given_1 narrow_1).before #[Value.ref b] s = true) : ∃ tS tJ : Nat, w_St tS tJ s := by
  have hs := flat_of_before _ hgv
  have hA : ∀ a : Nat, a < s.heap.size → ¬ w_A s a := fun a h => Nat.not_le.mpr h
  obtain ⟨tS, eS, hS⟩ := va_Tof (args := #[Value.ref b]) (s := s) (tm := .static "StartupProbes" "SUPERCLASS" "[I") (ty := .int) (N := 8) (f := fun j => .int (x_I (x_sup j))) (A := w_A s) (by decide) (hs _ (by decide +kernel)) (va_eqt (z := 8) (hs _ (by decide +kernel))) (fun j hj => by
    rcases (show j = 0 ∨ j = 1 ∨ j = 2 ∨ j = 3 ∨ j = 4 ∨ j = 5 ∨ j = 6 ∨ j = 7 by omega) with rfl | rfl | rfl | rfl | rfl | rfl | rfl | rfl
    · exact va_eqt (z := -1) (hs _ (by decide +kernel))
    · exact va_eqt (z := 0) (hs _ (by decide +kernel))
    · exact va_eqt (z := 1) (hs _ (by decide +kernel))
    · exact va_eqt (z := -1) (hs _ (by decide +kernel))
    · exact va_eqt (z := 3) (hs _ (by decide +kernel))
    · exact va_eqt (z := -1) (hs _ (by decide +kernel))
    · exact va_eqt (z := -1) (hs _ (by decide +kernel))
    · exact va_eqt (z := -1) (hs _ (by decide +kernel))) hA
  obtain ⟨tJ, eJ, hJ⟩ := va_Tof (args := #[Value.ref b]) (s := s) (tm := .static "StartupProbes" "STARTED_INTERFACE" "[I") (ty := .int) (N := 8) (f := fun j => .int (x_I (x_ifc j))) (A := w_A s) (by decide) (hs _ (by decide +kernel)) (va_eqt (z := 8) (hs _ (by decide +kernel))) (fun j hj => by
    rcases (show j = 0 ∨ j = 1 ∨ j = 2 ∨ j = 3 ∨ j = 4 ∨ j = 5 ∨ j = 6 ∨ j = 7 by omega) with rfl | rfl | rfl | rfl | rfl | rfl | rfl | rfl
    · exact va_eqt (z := -1) (hs _ (by decide +kernel))
    · exact va_eqt (z := -1) (hs _ (by decide +kernel))
    · exact va_eqt (z := 5) (hs _ (by decide +kernel))
    · exact va_eqt (z := -1) (hs _ (by decide +kernel))
    · exact va_eqt (z := 5) (hs _ (by decide +kernel))
    · exact va_eqt (z := -1) (hs _ (by decide +kernel))
    · exact va_eqt (z := -1) (hs _ (by decide +kernel))
    · exact va_eqt (z := -1) (hs _ (by decide +kernel))) hA
  exact ⟨tS, tJ, va_Zref (hts _ (by decide +kernel)) (hts _ (by decide +kernel)) eS hA, hS, va_Zref (hts _ (by decide +kernel)) (hts _ (by decide +kernel)) eJ hA, hJ⟩
theorem k_rcI {args : Array Value} {s : State} (h : (Cond.arrayClass .int).before args s = true) : ∃ c : ClassId, ArrOfT s c .int ∧ va_RA s c .int := by
  obtain ⟨c, k, comp, h1, h2, h3⟩ := Cond.arrayClass_spec h
  exact ⟨c, fun n z => ⟨fun q e => (by cases e), k, h2, comp, h3⟩, h1⟩
theorem k_rcJ {args : Array Value} {s : State} (h : (Cond.arrayOver (.array .int)).before args s = true) : ∃ c : ClassId, ArrOfT s c (.array .int) ∧ va_RA s c (.array .int) := by
  obtain ⟨comp, c, k, h1, h2, h3, h4⟩ := Cond.arrayOver_specA h
  exact ⟨c, fun n z => ⟨fun q e => (by cases e), k, h2, comp, h3⟩, h4⟩
set_option maxHeartbeats 4000000 in
set_option maxRecDepth 100000 in
/-- THE LAW, from its entry -/
theorem whole_start {p : Program} {e : Env} {s : State} {m : MethodId} {below : List Frame} {meth : Method} {c : Code} (l : Launch) {b L : Nat} {xs : Nat → Int32} (hL : L ≤ 2048) (C0 : lw_At p s m meth c b L xs) : W p l e room_1 s m #[Value.ref b] below meth c s.heap [] 0 0 (lw_Z below #[Value.ref b] s) (entryFrame m ([Value.ref b] : List Value).toArray 4) := by
  obtain ⟨hx, hb, hr, hml, hown, hts, hX, hbl, hlocks, hgv⟩ := id C0
  have hA : ∀ q : Nat, s.heap.size ≤ q → w_A s q := fun _ h => h
  obtain ⟨tS, tJ, hSt⟩ := law_statics hts hgv
  obtain ⟨c0, iS0, hKn0⟩ := u_known (C := RX0) (T := TX0) (N := 9) (n := 9) hts (fun w h => lw_gt (x_inT w h)) (hts (.instantiable RX0 9) (by decide +kernel))
  obtain ⟨c1, iS1, hKn1⟩ := u_known (C := RX1) (T := TX1) (N := 19) (n := 19) hts (fun w h => lw_gt (m_inT w h)) (hts (.instantiable RX1 19) (by decide +kernel))
  obtain ⟨dC, dI, hKc⟩ : ∃ (dC : Nat → ClassId) (dI : Nat → Nat → Nat), ∀ (k : Nat) (q : vw_C), vwCl[k]? = some q → u_Kn s q.1 q.2.1 q.2.2 (dC k) (dI k) := by
    refine ⟨fun k => if k = 0 then c0 else c1, fun k => if k = 0 then iS0 else iS1, ?_⟩
    intro k q hq
    match k, hq with
    | 0, hq => cases hq; exact hKn0
    | 1, hq => cases hq; exact hKn1
    | k + 2, hq => simp [vwCl] at hq
  obtain ⟨cI, hrI⟩ := k_rcI (hts _ (lw_gt k_ac))
  obtain ⟨cJ, hrJ⟩ := k_rcJ (hts (.arrayOver (.array .int)) (by decide +kernel))
  have hS : va_S (w_A s) s.heap s.heap [] := va_S.rf
  have hK : va_K (dC, dI) vwCl [(cI, .int), (cJ, .array .int)] s := ⟨hKc, fun k q hq => by
    match k, hq with
    | 0, hq => cases hq; exact hrI
    | 1, hq => cases hq; exact hrJ
    | k + 2, hq => simp at hq⟩
  have hP : va_P (dC, dI) vwCl [] s.heap := fun k q h => by simp at h
  have hD : va_D (w_A s) [] := ⟨fun i j p q h => by simp at h, fun k q h => by simp at h⟩
  have hl := lv_entry ([.ref b]) (n := 4) (Nat.le_of_ble_eq_true rfl)
  rw [lg_entry_eq]
  generalize (lg_sl ([.ref b]) ++ List.replicate (4 - (lg_sl ([.ref b])).length) Slot.unset).toArray = ls at hl ⊢
  have hl : lv_has ls 4 [(0, .ref b)] := hl
  -- the class's object
  refine va_new (ci := 0) (fs := [.null, .null, .null, .null, .null, .null, .null, .int 0, .int 0]) (C := RX0) (T := TX0) (N := 9) hx hb hts (fun w h => lw_gt (x_inT w h)) tyX0 x_tyT hown (hts (.classLink R_law 7 RX0) (by decide +kernel)) (hts (.instantiable RX0 9) (by decide +kernel)) (hts _ (lw_gt x_ini)) hK hP hD hS hA rfl (fun j hj => by rcases (show j = 0 ∨ j = 1 ∨ j = 2 ∨ j = 3 ∨ j = 4 ∨ j = 5 ∨ j = 6 ∨ j = 7 ∨ j = 8 by omega) with rfl | rfl | rfl | rfl | rfl | rfl | rfl | rfl | rfl <;> rfl) (Nat.le_of_ble_eq_true rfl) (Nat.le_of_ble_eq_true rfl) dL_law_0 (fun x0 H hP hD hS => ?_)
  have hP : va_P (dC, dI) vwCl [(x0, .inr (0, [.null, .null, .null, .null, .null, .null, .null, .int 0, .int 0]))] H := hP
  have hD : va_D (w_A s) [(x0, .inr (0, [.null, .null, .null, .null, .null, .null, .null, .int 0, .int 0]))] := hD
  refine W.widen (k := 1) (n := 9) (by omega) (by omega) ?_
  refine lv_dup hx hb dL_law_3 rfl ?_
  have hFc := va_free (wc := [(x0, .inr (0, [.null, .null, .null, .null, .null, .null, .null, .int 0, .int 0]))]) hD hS hA [0] rfl
  refine va_callv (va_runI (As := []) (rest := [.ref x0]) ⟨hx, hb, hml, hown, hts⟩ (cx_init l (dC, dI) cI cJ x0 H.size) (cwI 0 hts gLX0_init rfl rfl rfl (hts _ (lw_gt x_ini)) (hts (.methodLink R_law 9 yX0_init) (by decide +kernel)) (hts (.instanceMethod yX0_init) (by decide +kernel)) rfl (by decide +kernel) ⟨Nat.le_of_ble_eq_true rfl, Nat.le_of_ble_eq_true rfl⟩) ⟨fun a U g mk q => by obtain ⟨q0, q1, qP, qK, qD, qO⟩ := q; exact ⟨q0, q1, qP, va_K.moved (u := U) (U := U.calling g mk a) (Vm.Alike.refl U.vm) qK, qD, qO⟩, fun U hU hW => ⟨rfl, by rw [hU], by rw [hU]; exact hP, va_K.moved hW.alike hK, hD.weaken (fun _ _ _ _ => trivial), k_AOm hW.alike (hts (.arrayOver (.array .int)) (by decide +kernel))⟩⟩ rfl rfl hl.1 rfl (lv_room (Nat.le_of_ble_eq_true rfl)) dL_law_4 ⟨Nat.le_of_ble_eq_true rfl, Nat.le_of_ble_eq_true rfl⟩) hS (fun q _ h => hFc q h) hFc (fun gx t H1 locs ht hvm hw hB hz1 hk1 hS => ?_)
  obtain ⟨hPx, hDx⟩ := hB
  rw [ht] at hPx
  have hDy : va_D (w_A s) (fw 30 gx (x_E cI cJ gx x_0)) := hDx.weaken (fun k q hk h => hFc q.1 h)
  have hw : gx 0 = x0 := hw
  subst hw
  refine W.widen (k := 30) (n := 217) (by omega) (by omega) ?_
  refine lv_astore_n (lv' := [(1, .ref (gx 0)), (0, .ref b)]) hx hb dL_law_7 rfl hl (by decide) rfl (fun ls hl => ?_)
  -- the reference's object
  refine va_new (ci := 1) (fs := [.null, .null, .null, .null, .null, .null, .null, .null, .int 0, .int 0, .null, .null, .null, .null, .null, .int 0, .int 0, .int 0, .int 0]) (C := RX1) (T := TX1) (N := 19) hx hb hts (fun w h => lw_gt (m_inT w h)) tyX1 m_tyT hown (hts (.classLink R_law 10 RX1) (by decide +kernel)) (hts (.instantiable RX1 19) (by decide +kernel)) (hts _ (lw_gt m_ini)) hK hPx hDy hS hA rfl (fun j hj => by rcases (show j = 0 ∨ j = 1 ∨ j = 2 ∨ j = 3 ∨ j = 4 ∨ j = 5 ∨ j = 6 ∨ j = 7 ∨ j = 8 ∨ j = 9 ∨ j = 10 ∨ j = 11 ∨ j = 12 ∨ j = 13 ∨ j = 14 ∨ j = 15 ∨ j = 16 ∨ j = 17 ∨ j = 18 by omega) with rfl | rfl | rfl | rfl | rfl | rfl | rfl | rfl | rfl | rfl | rfl | rfl | rfl | rfl | rfl | rfl | rfl | rfl | rfl <;> rfl) (Nat.le_of_ble_eq_true rfl) (Nat.le_of_ble_eq_true rfl) dL_law_8 (fun m0 H hP hD hS => ?_)
  have hPx : va_P (dC, dI) vwCl (fw 30 gx (x_E cI cJ gx x_0)) H := fun k q hk => hP k q (by rw [List.getElem?_append_left (by rw [fw_len]; exact (fw_of hk).1)]; exact hk)
  have e30 : (fw 30 gx (x_E cI cJ gx x_0) ++ [(m0, .inr (1, [.null, .null, .null, .null, .null, .null, .null, .null, .int 0, .int 0, .null, .null, .null, .null, .null, .int 0, .int 0, .int 0, .int 0]))])[30]? = some (m0, .inr (1, [.null, .null, .null, .null, .null, .null, .null, .null, .int 0, .int 0, .null, .null, .null, .null, .null, .int 0, .int 0, .int 0, .int 0])) := by
    rw [List.getElem?_append_right (by rw [fw_len]; exact Nat.le_refl 30), fw_len]
    rfl
  have hPm : va_P (dC, dI) vwCl [(m0, .inr (1, [.null, .null, .null, .null, .null, .null, .null, .null, .int 0, .int 0, .null, .null, .null, .null, .null, .int 0, .int 0, .int 0, .int 0]))] H := fun k q hk => by
    match k, hk with
    | 0, hk => cases hk; exact hP 30 _ e30
    | k + 1, hk => simp at hk
  have hDm : va_D (w_A s) [(m0, .inr (1, [.null, .null, .null, .null, .null, .null, .null, .null, .int 0, .int 0, .null, .null, .null, .null, .null, .int 0, .int 0, .int 0, .int 0]))] := ⟨fun i j p q hi hj _ => by
    have := (List.getElem?_eq_some_iff.mp hi).1
    have := (List.getElem?_eq_some_iff.mp hj).1
    simp only [List.length_cons, List.length_nil] at *
    omega, fun k q hk => by
    match k, hk with
    | 0, hk => cases hk; exact hD.2 30 _ e30
    | k + 1, hk => simp at hk⟩
  have hm0 : ∀ i, i < 30 → gx i ≠ m0 := fun i hi h => by
    have := hD.1 i 30 (gx i, x_E cI cJ gx x_0 i) _ (by rw [List.getElem?_append_left (by rw [fw_len]; exact hi)]; exact fw_at hi) e30 h
    omega
  have hxl : ∀ i, i < 30 → gx i < H.size := fun i hi => (hPx i _ (fw_at hi)).lt
  refine W.widen (k := 31) (n := 236) (by omega) (by omega) ?_
  refine lv_dup hx hb dL_law_11 rfl ?_
  have hFm := va_free (wc := [(m0, .inr (1, [.null, .null, .null, .null, .null, .null, .null, .null, .int 0, .int 0, .null, .null, .null, .null, .null, .int 0, .int 0, .int 0, .int 0]))]) hDm hS hA [0] rfl
  refine va_callv (va_runI (As := []) (rest := [.ref m0]) ⟨hx, hb, hml, hown, hts⟩ (cm_init l (dC, dI) cI m0 H.size) (cwI 0 hts gLX1_init rfl rfl rfl (hts _ (lw_gt m_ini)) (hts (.methodLink R_law 12 yX1_init) (by decide +kernel)) (hts (.instanceMethod yX1_init) (by decide +kernel)) rfl (by decide +kernel) ⟨Nat.le_of_ble_eq_true rfl, Nat.le_of_ble_eq_true rfl⟩) ⟨fun a U g mk q => by obtain ⟨q0, q1, qP, qK, qD⟩ := q; exact ⟨q0, q1, qP, va_K.moved (u := U) (U := U.calling g mk a) (Vm.Alike.refl U.vm) qK, qD⟩, fun U hU hW => ⟨rfl, by rw [hU], by rw [hU]; exact hPm, va_K.moved hW.alike (hK.sub (tys' := [(cI, .int)]) [0] rfl), hDm.weaken (fun _ _ _ _ => trivial)⟩⟩ rfl rfl hl.1 rfl (lv_room (Nat.le_of_ble_eq_true rfl)) dL_law_12 ⟨Nat.le_of_ble_eq_true rfl, Nat.le_of_ble_eq_true rfl⟩) hS (fun q _ h => hFm q h) hFm (fun gm t H1 locs ht hvm hw hB hz1 hk1 hS => ?_)
  obtain ⟨hPm1, hDm1⟩ := hB
  rw [ht] at hPm1
  have hw : gm 0 = m0 := hw
  subst hw
  have hout : ∀ i, i < 30 → ¬ va_A [(gm 0, .inr (1, [.null, .null, .null, .null, .null, .null, .null, .null, .int 0, .int 0, .null, .null, .null, .null, .null, .int 0, .int 0, .int 0, .int 0]))] H.size (gx i) := fun i hi h => by
    rcases h with ⟨k, e, hk⟩ | h
    · match k, hk with
      | 0, hk =>
        have h9 : some (gm 0, (Sum.inr (1, [.null, .null, .null, .null, .null, .null, .null, .null, .int 0, .int 0, .null, .null, .null, .null, .null, .int 0, .int 0, .int 0, .int 0]) : va_E)) = some (gx i, e) := hk
        exact hm0 i hi (congrArg Prod.fst (Option.some.inj h9)).symm
      | k + 1, hk => simp at hk
    · exact absurd (hxl i hi) (Nat.not_lt.mpr h)
  have hPx1 : va_P (dC, dI) vwCl (fw 30 gx (x_E cI cJ gx x_0)) H1 := hPx.kept (fun k q hk => by
    obtain ⟨h1, rfl⟩ := fw_of hk
    exact hk1 _ (hxl k h1) (hout k h1))
  refine W.widen (k := 44) (n := 519) (by omega) (by omega) ?_
  refine lv_astore_n (lv' := [(2, .ref (gm 0)), (1, .ref (gx 0)), (0, .ref b)]) hx hb dL_law_15 rfl hl (by decide) rfl (fun ls hl => ?_)
  refine lv_iconst (v := 0) hx hb dL_law_16 (by decide) ?_
  refine lv_istore_n (lv' := [(3, .int (nI 0)), (2, .ref (gm 0)), (1, .ref (gx 0)), (0, .ref b)]) hx hb dL_law_17 rfl hl (by decide) rfl (fun ls hl => ?_)
  have hC : w_C (dC, dI) cI cJ gx gm tS tJ s := ⟨hK, fw_Jof hDy, fw_Jof hDm1, fw_Aof hDy, fun j hj => hFm _ (fw_Aof hDm1 j hj), fun i j hi hj h => hout i hi (by rw [h]; exact fw_Aof hDm1 j hj), hSt⟩
  exact law_loop hL C0 hC (L + 1) 0 (Nat.zero_le L) (by omega) x_0 m_0 r_J0 _ _ ⟨hPx1, hPm1, hS⟩ ls (lv_sub hl [3, 2, 1, 0] rfl)
set_option maxHeartbeats 4000000 in
theorem lw_walk (l : Launch) (b : Addr) (xs : List Int32) : MetFree l x (headSpec (Jvm.Cond.code x code maxLocals ret :: tables_1) room_1) (lw_P b xs) (fun _ _ _ _ _ => True) lw_Q := by
  refine MetFree.of_bodyS (code := code) (maxLocals := maxLocals) (ret := ret) (by decide) ?_ ?_
  · intro args s m h hn
    obtain ⟨meth, c, h1, h2, h3, h4, h5, h6, -, -⟩ := Cond.code_spec hn (atoms_spec (ws := Jvm.Cond.code x code maxLocals ret :: tables_1) h _ List.mem_cons_self)
    exact ⟨meth, c, h1, h2, h3, h4, h5, h6⟩
  · intro p e s m args below meth c s₁ B hml0 hP _
    obtain ⟨rfl, hx, hbd, hgv⟩ := hP
    obtain ⟨scr, harrAt, hlist, hof, hsmall⟩ := hx
    obtain ⟨hcb, hkn, -, -⟩ := State.arrayAt?_spec harrAt
    have hown : s.vm.findClass R_law = some m.cls := findClass_of_methodNamed B.named
    have hts0 : ∀ c ∈ (Jvm.Cond.code x code maxLocals ret :: tables_1), c.before #[Value.ref b] s = true := atoms_spec (ws := Jvm.Cond.code x code maxLocals ret :: tables_1) B.pre
    have hts : ∀ w ∈ lw_tbl, w.before #[Value.ref b] s = true := k2_hts_sels lw_privs (fun w hw => hts0 w (List.mem_cons_of_mem _ hw)) lw_privs_ok
    have hml : c.maxLocals = 4 := B.maxLocals_eq (hts0 _ List.mem_cons_self)
    have X₀ : Stand p l e room_1 s m #[Value.ref b] below meth c s₁ [] 0 0 := Stand.of_body B
    have hh0 : s₁.heap = s.heap := by rw [B.state]; rfl
    have hsz : scr.slots.size = xs.length := by rw [← Array.length_toList, hlist, List.length_map]
    have hval : ∀ j : Nat, j < xs.length → scr.slots[j]? = some (.int (xs.getD j 0)) := fun j hj => by
      rw [← Array.getElem?_toList, hlist]
      simp [hj]
    have hbl : b < s.heap.size := (Array.getElem?_eq_some_iff.mp hcb).1
    have hX : va_X b xs.length (fun j => xs.getD j 0) s s.heap := ⟨scr, hcb, hof, hkn, hsz, hval⟩
    have K : W p l e room_1 s m #[Value.ref b] below meth c s₁.heap [] 0 0 (lw_Z below #[Value.ref b] s) (entryFrame m ([Value.ref b] : List Value).toArray 4) := by
      rw [hh0]
      exact whole_start l hbd ⟨B.exec, B.bytes, B.returns, hml, hown, hts, hX, hbl, B.notSynchronized, hgv⟩
    obtain ⟨t, a1, o, b1, b2, b3⟩ := K s₁ rfl X₀
    exact ⟨t, o, a1, b1, b2, b3⟩
theorem lw_pre_spec {args : Array Value} {s : State} (h : (Jvm.Cond.and given_1 narrow_1).before args s = true) (hr : rest_1_c.before args s = true) : ∃ (b : Addr) (xs : List Int32), lw_P b xs args s := by
  have hs := flat_of_before _ h
  have hq := flat_of_before _ hr
  have hc : (Cond.count 1).before args s = true := hs _ (by decide +kernel)
  have harr : (Cond.arrayOf (.arg 0) .int).before args s = true := hs _ (by decide +kernel)
  have hle : (Cond.le (.length (.arg 0)) (.int 2048)).before args s = true := hs _ (by decide +kernel)
  have hlen : (Cond.isInt (.length (.arg 0))).before args s = true := hq _ (by decide +kernel)
  have hall : (Cond.all (.arg 0) (.isInt (.elem (.arg 0) (.index 0)))).before args s = true := hq _ (by decide +kernel)
  obtain ⟨b, xs, hb, hx⟩ := State.ints_of_pre rfl harr hlen hall
  have hsm : xs.length < 2 ^ 31 := hx.choose_spec.2.2.2
  have hev : (Term.length (.arg 0)).eval args s none [] s = some (.int xs.length.toInt32) := hx.length_eval hb
  have hv := Cond.le_ints hev (show (Term.int 2048).eval args s none [] s = some (.int 2048) from rfl)
  have hd : xs.length.toInt32 ≤ 2048 := by
    simpa [Cond.before, Cond.holds, hv] using hle
  have hN : xs.length ≤ 2048 := (Int32.ofNat_le_ofNat hsm (by decide)).mp (show Int32.ofNat xs.length ≤ Int32.ofNat 2048 from hd)
  exact ⟨b, xs, Cond.one_arg hc (show args[0]? = some (.ref b) from hb), hx, hN, h⟩
theorem lw_comes (l : Launch) : Comes l x (Jvm.Cond.code x code maxLocals ret :: tables_1) room_1 (fun tb e args s => Calls_1 tb e args s ∧ rest_1 tb e args s ∧ Pre_1 tb e args s)
    (fun _ _ args s o t => lw_Q args s o t) := by
  intro p e ha hc hk s m args below hf hfit hheap happ hpre
  obtain ⟨b, xs, hP⟩ := lw_pre_spec hpre.2.2 hpre.2.1
  obtain ⟨k, o, h1, h2, h3, hQ⟩ := lw_walk l b xs p e ha hc hk s m args below hf ((Spec.applies_iff_loose hf).mp happ).1 hP trivial
  exact ⟨k, o, h1, h2, h3, hQ⟩
theorem lw_frame {s t : State} {o : Outcome} {args : Array Value} (h : Framed s o t [] 600000 7302250) :
    Framed s o t (fieldLocs frame_1_writes args s ++ arrayLocs frame_1_arrays args s ++ staticLocs frame_1_statics s) 600000 7302250 := h
theorem lw_limb (L : Cond) (hL : ∀ (args : Array Value) (s t : State), L.after args s (.returned (some (.int 1))) t = true) :
    ArmFor flags0 classFile x code maxLocals ret World_1 tables_1 room_1 Calls_1 rest_1 Pre_1
      (fun tb e a s o t => postC L tb e a s o t ∧ Framed s o t (fieldLocs frame_1_writes a s ++ arrayLocs frame_1_arrays a s ++ staticLocs frame_1_statics s) 600000 7302250) := by
  intro l _ _ _ p e ha hc hk s m args below hf hfit hheap happ hpre
  obtain ⟨k, o, h1, h2, h3, rfl, hF⟩ := lw_comes l p e ha hc hk s m args below hf hfit hheap happ hpre
  exact ⟨k, _, h1, h2, h3, hL args s _, lw_frame hF⟩
theorem i_vc : Claimed_1_1 ∧ Claimed_1_2 := ⟨lw_limb limb_1_1 (fun args s t => by simp [limb_1_1, Cond.after, Cond.holds, Cond.value]), lw_limb limb_1_2 (fun args s t => Cond.after_iff.mpr (by
  first | (rw [show limb_1_2 = Cond.eq .result (.int 1) from rfl, Cond.eq_ints (x := 1) (y := 1) rfl rfl]; simp; done) | (simp [limb_1_2, Cond.value, Term.eval]; done)))⟩
