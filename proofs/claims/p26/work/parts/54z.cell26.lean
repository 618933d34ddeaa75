/-! ===== the method that reads the script ===== -/
/-- what it answers -/
def ceN (L : Nat) (xs : Nat → Int32) (k : Int32) : Int32 := if nI L ≤ k then 2059658539 * (k + 1) else xs k.toNatClampNeg
def ce_Pc (sb L : Nat) (xs : Nat → Int32) (sz : Nat) (av : List Value) : Array Value → State → Prop := va_Pc av (fun U => U.heap.size = sz ∧ va_X sb L xs U U.heap ∧ sb < U.heap.size)
theorem ce_blind {sb L : Nat} {xs : Nat → Int32} {sz : Nat} {av : List Value} : FrameBlind (ce_Pc sb L xs sz av) := by
  intro a U g mk ⟨h1, h2, h3, h4⟩
  exact ⟨h1, h2, va_X.moved (Vm.Alike.refl _) h3, h4⟩
theorem ce_mem : Cond.constant RL 7 (2059658539) ∈ wsL_cell := by decide +kernel
set_option maxRecDepth 100000 in
set_option maxHeartbeats 4000000 in
theorem c_L_cell (l : Launch) (G : va_G) (sb L : Nat) (xs : Nat → Int32) (k : Int32) (hL : L < 2 ^ 31) (hk : ¬ k < 0) (sz : Nat) :
    Met l yL_cell wsL_cell (kk_rm 0 0 0 0) (ce_Pc sb L xs sz [.ref sb, .int k]) (va_Qi (fun x (_ : Unit) => x = ceN L xs k) (fun _ t => va_P G vwCl [] t.heap) (va_A [] sz)) 0 0 (va_A [] sz) := by
  refine Met.ofW (cc := cL_cell) (maxL := 2) (ret := some .int) (by decide) rfl ?_
  intro p e s m args below meth c s₁ B hml hv
  obtain ⟨rfl, hsz, hX, hbl⟩ := hv
  subst hsz
  rw [lg_entry_eq]
  have hx := B.exec
  have hb := B.bytes
  have hown := findClass_of_methodNamed B.named
  have hts := atoms_spec (ws := wsL_cell) B.pre
  have hl := lv_entry (n := 2) [Value.ref sb, .int k] (Nat.le_of_ble_eq_true rfl)
  have hl : lv_has _ 2 [(0, .ref sb), (1, .int k)] := hl
  have hbA : ¬ va_A [] s.heap.size sb := by
    rintro (⟨j, e9, h⟩ | h)
    · simp at h
    · omega
  have hS : va_S (va_A [] s.heap.size) s.heap s.heap [] := va_S.rf
  have hend : ∀ {pc : Nat} {ls : Array Slot} {r : Int32}, decode cL_cell pc = .ok (.ireturn, 1) → r = ceN L xs k → W p l e (kk_rm 0 0 0 0) s m ([Value.ref sb, .int k] : List Value).toArray below meth c s.heap [] 0 0 (MQ below (va_Qi (fun x (_ : Unit) => x = ceN L xs k) (fun _ t => va_P G vwCl [] t.heap) (va_A [] s.heap.size)) ([Value.ref sb, .int k] : List Value).toArray s 0 0 (va_A [] s.heap.size)) (F0 m pc ls [.int r]) := by
    intro pc ls r hd hr
    exact W.iret (v := r) B.exec B.bytes B.returns (fun t ht hW => ⟨⟨r, (), rfl, hr, fun q h9 h8 => by simp at h8⟩, hS.F ht⟩) hS.2.2 hd B.notSynchronized
  refine lv_iload_n hx hb dL_cell_0 rfl (lv_at hl 1 rfl) ?_
  refine lv_aload_n hx hb dL_cell_1 rfl (lv_at hl 0 rfl) ?_
  refine va_slen hx hb hX hbl hbA va_S.rf dL_cell_2 ?_
  refine lv_icmp_ge (tgt := 12) hx hb dL_cell_3 (by decide) (fun c1 => ?_) (fun c1 => ?_)
  · refine lv_ldc hx hb hown (hts _ ce_mem) dL_cell_12 ?_
    refine lv_iload_n hx hb dL_cell_14 rfl (lv_at hl 1 rfl) ?_
    refine lv_iconst (v := 1) hx hb dL_cell_15 (by decide) ?_
    refine lv_iadd hx hb dL_cell_16 ?_
    refine lv_imul hx hb dL_cell_17 ?_
    exact hend dL_cell_18 (if_pos c1).symm
  · have hin : vp_in k L := by
      obtain ⟨j, hj, rfl⟩ := nI_of hk
      rcases Nat.lt_or_ge j L with q | q
      · exact nI_in q hL
      · exact absurd (nI_le q hj) c1
    refine lv_aload_n hx hb dL_cell_6 rfl (lv_at hl 0 rfl) ?_
    refine lv_iload_n hx hb dL_cell_7 rfl (lv_at hl 1 rfl) ?_
    refine va_sld hx hb hX hbl hbA va_S.rf hin dL_cell_8 ?_
    refine lv_goto (tgt := 18) hx hb dL_cell_9 (by decide) ?_
    exact hend dL_cell_18 (if_neg c1).symm
theorem md_L_cell : (yL_cell).cls ≠ "java/lang/invoke/MethodHandle" ∧ (yL_cell).cls ≠ "java/lang/invoke/VarHandle" ∧ (parseMethodDescriptor (yL_cell).desc).map (fun d => d.parameters.length) = some 2 := by decide +kernel
theorem kk_cell {p : Program} {l : Launch} {e : Env} {R : Room} {s : State} {m : MethodId} {args : Array Value} {below : List Frame} {meth : Method} {c : Code} {H : Heap} {locs : List Loc} {cells slots : Nat} {Q : State → Prop} {G : va_G} {cI cJ : ClassId} {ad : Nat → Nat} {A : Nat → Prop} {ws : va_W} {cc : ByteArray} {nL pc : Nat} {rest : List Value} {ls : Array Slot} {sb L : Nat} {xs : Nat → Int32} {k r : Int32}
    (F : kk_at p m c cc nL s args wsL_law RL G cI cJ ad A) (hX : va_X sb L xs s s.heap) (hbl : sb < s.heap.size) (hbA : ¬ A sb) (hw : kk_wd G A s.heap ws H locs) (hls : ls.size = nL) (hL : L < 2 ^ 31) (hk : ¬ k < 0) (hr : ceN L xs k = r)
    (hR : 1 ≤ R.frames ∧ 21 ≤ R.locals) (hcs : cells ≤ R.cells ∧ slots ≤ R.slots) (hrest : (rest.map fun v => v.category).sum ≤ 8) (hdg : decode cc pc = .ok (.invokestatic 134, 3))
    (kk : ∀ (H1 : Heap) (locs1 : List Loc), kk_wd G A s.heap ws H1 locs1 → W p l e R s m args below meth c H1 locs1 cells slots Q (F0 m (pc + 3) ls (.int r :: rest))) : W p l e R s m args below meth c H locs cells slots Q (F0 m pc ls (.int k :: .ref sb :: rest)) := by
  subst hr
  have hts := F.1.2.2.2.2
  refine kk_callI (WC := []) (W1 := []) (a := ([.ref sb, .int k] : List Value).toArray) cells slots hw (fun is hnd hC => va_runS (As := [.ref sb, .int k]) (rest := rest) F.1 (c_L_cell l G sb L xs k hL hk H.size) (va_cwS 2 hts gL_law_L_cell rfl rfl rfl md_L_cell hR) ⟨ce_blind, fun U hU hW => ⟨rfl, by rw [hU], by rw [hU]; exact (hX.kept (hw.2.2.1.2.1 sb hbl hbA)).moved hW.alike, by rw [hU]; exact Nat.lt_of_lt_of_le hbl hw.2.2.1.1⟩⟩ rfl rfl hls rfl (lv_room hrest) hdg hcs) ⟨rfl, rfl⟩ [] rfl rfl rfl (fun H1 locs1 hw1 => kk H1 locs1 hw1)
