/-! ===== methods with a table of their own: they catch ===== -/
section KKTAB
variable {l : Launch} {y : MethodName} {ws ws' : List Cond} {fr mc ms lo : Nat} {av : List Value} {G : va_G} {cI cJ : ClassId} {ad : Nat → Nat} {WC W1 : va_W} {cc : ByteArray} {maxL : Nat} {hh : List (Nat × Nat × Nat × Nat)}
theorem kk_ofIT {r : Int32} (hy : plainName y.cls = true) (hw : ws = Cond.codeWith y cc maxL (some .int) hh :: ws') (hsl : (lg_sl av).length ≤ maxL)
    (body : kk_body l y ws fr mc ms lo av G cI cJ ad WC cc maxL (fun p e s m below meth c A Q => (∀ {H : Heap} {locs : List Loc} {pc : Nat} {ls : Array Slot} {cells slots : Nat}, decode cc pc = .ok (.ireturn, 1) → cells ≤ mc → slots ≤ ms → kk_wd G A s.heap W1 H locs → W p l e (kk_rm fr mc ms lo) s m av.toArray below meth c H locs cells slots Q (F0 m pc ls [.int r])) ∧ c.exceptionTable.toList = tableOf hh)) :
    kk_I l y ws fr mc ms lo av G cI cJ ad WC r W1 := by
  intro sz
  refine MetFree.of_bodyS (code := cc) (maxLocals := maxL) (ret := some .int) hy ?_ ?_
  · intro args s m h hn
    obtain ⟨m9, meth, c, hn9, h1, h2, h3, h4, -, h5, h6, -⟩ := Cond.codeWith_spec (atoms_spec (ws := ws) h _ (by rw [hw]; exact List.mem_cons_self))
    cases hn.symm.trans hn9
    exact ⟨meth, c, h1, h2, h3, h4, h5, h6⟩
  · intro p e s m args below meth c s₁ B hml hv _
    have hh0 : s₁.heap = s.heap := by rw [B.state]; rfl
    obtain ⟨rfl, hsz, hP, hD0, hE⟩ := hv
    subst hsz
    have hwt : (Cond.codeWith y cc maxL (some .int) hh).before av.toArray s = true := atoms_spec (ws := ws) B.pre _ (by rw [hw]; exact List.mem_cons_self)
    have K : W p l e (kk_rm fr mc ms lo) s m av.toArray below meth c s.heap [] 0 0 (MQ below (va_Qi (fun x (_ : Unit) => x = r) (fun _ t => va_P G vwCl W1 t.heap) (va_A WC s.heap.size)) av.toArray s mc ms (va_A WC s.heap.size)) (entryFrame m av.toArray maxL) := by
      rw [lg_entry_eq]
      refine body p e s m below meth c (va_A WC s.heap.size) _ _ _ _ B.exec B.bytes hml (findClass_of_methodNamed B.named) (atoms_spec (ws := ws) B.pre) hE ⟨hP, hD0.self, va_S.rf, fun q h => Or.inr h⟩ (lv_entry av hsl) ⟨?_, vx_table (x := y) B hwt⟩
      intro H locs pc ls cells slots hd hc hs hwd
      refine W.widen hc hs ?_
      exact W.iret (v := r) B.exec B.bytes B.returns (fun t ht hW => ⟨⟨r, (), rfl, rfl, by dsimp only; rw [ht]; exact hwd.1⟩, hwd.2.2.1.F ht⟩) hwd.2.2.1.2.2 hd B.notSynchronized
    obtain ⟨t, a1, o, b1, b2, b3⟩ := K s₁ hh0 (Stand.of_body B)
    exact ⟨t, o, a1, b1, b2, b3.1, b3.2⟩
end KKTAB
section KKCATCH
variable {p : Program} {l : Launch} {e : Env} {R : Room} {s : State} {m : MethodId} {args : Array Value} {below : List Frame} {meth : Method} {c : Code} {H : Heap} {locs : List Loc} {cells slots : Nat} {Q : State → Prop}
variable {G : va_G} {cI cJ : ClassId} {ad : Nat → Nat} {A : Nat → Prop} {ws WC W1 : va_W} {Ts wsY ws' : List Cond} {cc bytes : ByteArray} {nL maxL index n fr mc ms lo pc : Nat} {own : String} {y : MethodName} {ret : Option FieldType} {As rest st : List Value} {ls : Array Slot} {Qc : Array Value → State → Outcome → State → Prop} {hh : List (Nat × Nat × Nat × Nat)} {q0 q1 : Nat × Nat × Nat × Nat} {q : Addr} {ce : Cell}
theorem kk_catch1 (k : Nat) (F : kk_at p m c cc nL s args Ts own G cI cJ ad A) (htab : c.exceptionTable.toList = tableOf (q0 :: hh)) (hcov : covers ⟨q0.1, q0.2.1, q0.2.2.1, q0.2.2.2⟩ pc = true) (h0 : q0.2.2.2 ≠ 0) (hlink : Cond.classLink own q0.2.2.2 (kk_xn k) ∈ Ts) (hcn : Cond.castable (kk_xn k) (kk_xn k) ∈ kk_nl)
    (hcell : H[q]? = some ce) (hv : ce.vm = .none) (hcl : s.vm.findClass (kk_xn k) = some ce.cls) (kk : W p l e R s m args below meth c H locs cells slots Q (F0 m q0.2.2.1 ls [.ref q])) : vx_W p l e R s m args below meth c H locs cells slots Q (F0 m pc ls rest) q := by
  refine vx_catch F.1.2.2.2.1 [] ⟨q0.1, q0.2.1, q0.2.2.1, q0.2.2.2⟩ (tableOf hh) (by rw [htab]; rfl) (fun z hz => by cases hz) hcov h0 (F.1.2.2.2.2 _ hlink) (va_Nw.use rfl (F.2.2.1 _ hcn)) hcell hv hcl kk
theorem kk_catch2 (k k0 : Nat) (F : kk_at p m c cc nL s args Ts own G cI cJ ad A) (htab : c.exceptionTable.toList = tableOf (q0 :: q1 :: hh)) (h00 : q0.2.2.2 ≠ 0) (hlink0 : Cond.classLink own q0.2.2.2 (kk_xn k0) ∈ Ts) (hnc : va_Nc (kk_xn k) (kk_xn k0) s)
    (hcov : covers ⟨q1.1, q1.2.1, q1.2.2.1, q1.2.2.2⟩ pc = true) (h0 : q1.2.2.2 ≠ 0) (hlink : Cond.classLink own q1.2.2.2 (kk_xn k) ∈ Ts) (hcn : Cond.castable (kk_xn k) (kk_xn k) ∈ kk_nl)
    (hcell : H[q]? = some ce) (hv : ce.vm = .none) (hcl : s.vm.findClass (kk_xn k) = some ce.cls) (kk : W p l e R s m args below meth c H locs cells slots Q (F0 m q1.2.2.1 ls [.ref q])) : vx_W p l e R s m args below meth c H locs cells slots Q (F0 m pc ls rest) q := by
  refine vx_catch F.1.2.2.2.1 [⟨q0.1, q0.2.1, q0.2.2.1, q0.2.2.2⟩] ⟨q1.1, q1.2.1, q1.2.2.1, q1.2.2.2⟩ (tableOf hh) (by rw [htab]; rfl) (fun z hz => ?_) hcov h0 (F.1.2.2.2.2 _ hlink) (va_Nw.use rfl (F.2.2.1 _ hcn)) hcell hv hcl kk
  cases List.mem_singleton.mp hz
  exact Or.inr ⟨h00, _, F.1.2.2.2.2 _ hlink0, hnc⟩
theorem kk_runSW (F : kk_at p m c cc nL s args Ts own G cI cJ ad A) (hw : kk_wd G A s.heap ws H locs) (hls : ls.size = nL) (hM : Met l y wsY (kk_rm fr mc ms lo) (kk_Pc G cI cJ ad WC H.size As) Qc mc ms (va_A WC H.size)) (hG : GoodIn Ts (va_wsS own index y wsY)) (hwY : wsY = Cond.codeWith y bytes maxL ret hh :: ws')
    (hd : y.cls ≠ "java/lang/invoke/MethodHandle" ∧ y.cls ≠ "java/lang/invoke/VarHandle" ∧ (parseMethodDescriptor y.desc).map (fun d => d.parameters.length) = some As.length) (hR : fr + 1 ≤ R.frames ∧ 8 + (maxL + 11) + lo ≤ R.locals) (hcs : cells + mc ≤ R.cells ∧ slots + ms ≤ R.slots)
    (hst : st = As.reverse ++ rest) (hrest : (rest.map fun v => v.category).sum ≤ 8) (hdg : decode cc pc = .ok (.invokestatic index, 3)) :
    ∀ (is : List Nat), va_nd is = true → is.map (fun i => ws[i]?) = WC.map some → va_Run p l e R s m args below meth c H locs cells slots mc ms (F0 m pc ls st) rest (Qc As.toArray) (va_A WC H.size) := by
  intro is hnd hC
  exact vx_runSW (As := As) (rest := rest) F.1 hM (vx_cwSW As.length F.1.2.2.2.2 hG hwY rfl rfl hd hR) ⟨kk_blind, kk_pre F hw is hnd hC _⟩ rfl rfl hls hst (lv_room hrest) hdg hcs
end KKCATCH
theorem kk_cn0 : Cond.castable (kk_xn 0) (kk_xn 0) ∈ kk_nl := List.mem_of_getElem? (i := 72) rfl
theorem kk_cn1 : Cond.castable (kk_xn 1) (kk_xn 1) ∈ kk_nl := List.mem_of_getElem? (i := 73) rfl
theorem kk_cn2 : Cond.castable (kk_xn 2) (kk_xn 2) ∈ kk_nl := List.mem_of_getElem? (i := 74) rfl
