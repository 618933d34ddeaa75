/-! ===== constructors: what is made, at which addresses ===== -/
theorem kk_perm {G : va_G} {A : Nat → Prop} {H0 H : Heap} {ws ws' : va_W} {locs : List Loc} (hw : kk_wd G A H0 ws H locs) (is : List Nat) (hn : va_nd is = true) (hC : is.map (fun i => ws[i]?) = ws'.map some) : kk_wd G A H0 ws' H locs :=
  ⟨hw.1.sub is (kk_fm is ws' hC), hw.2.1.sub is hn hC, hw.2.2⟩
def kk_N (l : Launch) (y : MethodName) (ws : List Cond) (fr mc ms lo : Nat) (av : List Value) (G : va_G) (cI cJ : ClassId) (ad : Nat → Nat) (WC : va_W) (W1 : (Nat → Nat) → va_W) : Prop :=
  ∀ sz : Nat, Met l y ws (kk_rm fr mc ms lo) (kk_Pc G cI cJ ad WC sz av) (va_Qv (fun (_ : Nat → Nat) => True) (fun q t => va_P G vwCl (W1 q) t.heap ∧ va_D (va_A WC sz) (W1 q)) (va_A WC sz)) mc ms (va_A WC sz)
section KKN
variable {l : Launch} {y : MethodName} {ws ws' : List Cond} {fr mc ms lo : Nat} {av : List Value} {G : va_G} {cI cJ : ClassId} {ad : Nat → Nat} {WC : va_W} {W1 : (Nat → Nat) → va_W} {cc : ByteArray} {maxL : Nat}
theorem kk_ofN (hy : plainName y.cls = true) (hi : y.name = "<init>") (hw : ws = Cond.code y cc maxL none :: ws') (hsl : (lg_sl av).length ≤ maxL)
    (body : kk_body l y ws fr mc ms lo av G cI cJ ad WC cc maxL (fun p e s m below meth c A Q => (∀ {H : Heap} {locs : List Loc} {pc : Nat} {ls : Array Slot} {cells slots : Nat} (q : Nat → Nat), decode cc pc = .ok (.return_, 1) → cells ≤ mc → slots ≤ ms → kk_wd G A s.heap (W1 q) H locs → W p l e (kk_rm fr mc ms lo) s m av.toArray below meth c H locs cells slots Q (F0 m pc ls [])) ∧ meth.name = "<init>")) :
    kk_N l y ws fr mc ms lo av G cI cJ ad WC W1 := by
  intro sz
  refine Met.ofW (cc := cc) (maxL := maxL) (ret := none) hy hw ?_
  intro p e s m args below meth c s₁ B hml hv
  obtain ⟨rfl, hsz, hP, hD0, hE⟩ := hv
  subst hsz
  rw [lg_entry_eq]
  refine body p e s m below meth c (va_A WC s.heap.size) _ _ _ _ B.exec B.bytes hml (findClass_of_methodNamed B.named) (atoms_spec (ws := ws) B.pre) hE ⟨hP, hD0.self, va_S.rf, fun q h => Or.inr h⟩ (lv_entry av hsl) ⟨?_, ((name_of_methodNamed B.named B.method).1).trans hi⟩
  intro H locs pc ls cells slots q hd hc hs hwd
  refine W.widen hc hs ?_
  exact W.vret B.exec B.bytes B.returns (fun t ht hW => ⟨⟨q, rfl, trivial, by dsimp only; rw [ht]; exact ⟨hwd.1, hwd.2.1⟩⟩, hwd.2.2.1.F ht⟩) hwd.2.2.1.2.2 hd B.notSynchronized
end KKN
section KKNEW
variable {p : Program} {l : Launch} {e : Env} {R : Room} {s : State} {m : MethodId} {args : Array Value} {below : List Frame} {meth : Method} {c : Code} {H : Heap} {locs : List Loc} {cells slots : Nat} {Q : State → Prop}
variable {G : va_G} {cI cJ : ClassId} {ad : Nat → Nat} {A : Nat → Prop} {ws WC wr : va_W} {W1 : (Nat → Nat) → va_W} {Ts wsY ws' : List Cond} {cc bytes : ByteArray} {nL maxL index n fr mc ms lo pc a : Nat} {own C : String} {y : MethodName} {ret : Option FieldType} {b : Addr} {As rest st : List Value} {ls : Array Slot}
theorem kk_new {T : u_T} {N ci : Nat} (k1 k2 : Nat) (F : kk_at p m c cc nL s args Ts own G cI cJ ad A) (hw : kk_wd G A s.heap ws H locs) (hin : ∀ w ∈ u_ws C T N, w ∈ Ts) (ty : Nat → FieldType) (hty : ∀ k, k < N → parseFieldDescriptor (T k).2.2.1 = some (ty k))
    (hcl : Cond.classLink own index C ∈ Ts) (hinst : Cond.instantiable C N ∈ Ts) (hini : Cond.initialized C ∈ Ts) (hc : vwCl[ci]? = some (C, T, N)) {fs : List Value} (hfs : ∀ j, j < N → defaultValue (ty j) = vp_V fs j) (hk : cells + 1 = k1 ∧ slots + N = k2) (hcs : k1 ≤ R.cells ∧ k2 ≤ R.slots) (hdg : decode cc pc = .ok (.new index, 3))
    (kk : ∀ (q : Nat) (H1 : Heap), kk_wd G A s.heap (ws ++ [(q, .inr (ci, fs))]) H1 locs → W p l e R s m args below meth c H1 locs k1 k2 Q (F0 m (pc + 3) ls (.ref q :: rest))) : W p l e R s m args below meth c H locs cells slots Q (F0 m pc ls rest) := by
  have hts := F.1.2.2.2.2
  obtain ⟨rfl, rfl⟩ := hk
  exact va_new F.1.1 F.1.2.1 hts hin ty hty F.1.2.2.2.1 (hts _ hcl) (hts _ hinst) (hts _ hini) F.2.1 hw.1 hw.2.1 hw.2.2.1 hw.2.2.2 hc hfs hcs.1 hcs.2 hdg (fun q H1 hP hD hS => kk q H1 ⟨hP, hD, hS, hw.2.2.2⟩)
theorem kk_newaI {n9 : Int32} (N' k1 k2 : Nat) (F : kk_at p m c cc nL s args Ts own G cI cJ ad A) (hw : kk_wd G A s.heap ws H locs) (harr : Cond.arrayClass .int ∈ Ts) (hn9 : n9 = nI N') (hN : N' < 2 ^ 20) (hk : cells + 1 = k1 ∧ slots + N' = k2) (hcs : k1 ≤ R.cells ∧ k2 ≤ R.slots) (hdg : decode cc pc = .ok (.newarray .int, 2))
    (kk : ∀ (q : Nat) (H1 : Heap), kk_wd G A s.heap (ws ++ [(q, .inl (cI, N', .inl (fun _ => 0)))]) H1 locs → W p l e R s m args below meth c H1 locs k1 k2 Q (F0 m (pc + 2) ls (.ref q :: rest))) : W p l e R s m args below meth c H locs cells slots Q (F0 m pc ls (.int n9 :: rest)) := by
  have hts := F.1.2.2.2.2
  obtain ⟨rfl, rfl⟩ := hk
  subst hn9
  have hN2 : N' < 2 ^ 31 := by omega
  refine va_newa (atype := .int) (ty := .int) (N' := N') (a0 := (N', .inl (fun _ => 0))) F.1.1 F.1.2.1 (hts _ harr) rfl F.2.1 hw.1 hw.2.1 hw.2.2.1 hw.2.2.2 (fun cA => rfl) (nI_pos hN2) (nI_clamp hN2) (by show N' * 4 ≤ _; omega) hcs.1 hcs.2 hdg (fun q cA H1 hK hP hD hS => ?_)
  have h1 : s.vm.findClass ("[" ++ FieldType.int.toString) = some cA := (hK.2 2 (cA, .int) rfl).2
  have h2 : s.vm.findClass ("[" ++ FieldType.int.toString) = some cI := (F.2.1.2 0 (cI, .int) rfl).2
  cases Option.some.inj (h1.symm.trans h2)
  exact kk q H1 ⟨hP, hD, hS, hw.2.2.2⟩
theorem kk_newaL {n9 : Int32} (N' k1 k2 : Nat) (F : kk_at p m c cc nL s args Ts own G cI cJ ad A) (hw : kk_wd G A s.heap ws H locs) (harr : Cond.arrayClass .long ∈ Ts) (hn9 : n9 = nI N') (hN : N' < 2 ^ 20) (hk : cells + 1 = k1 ∧ slots + N' = k2) (hcs : k1 ≤ R.cells ∧ k2 ≤ R.slots) (hdg : decode cc pc = .ok (.newarray .long, 2))
    (kk : ∀ (q : Nat) (H1 : Heap), kk_wd G A s.heap (ws ++ [(q, .inl (cJ, N', .inr (.inl (fun _ => 0))))]) H1 locs → W p l e R s m args below meth c H1 locs k1 k2 Q (F0 m (pc + 2) ls (.ref q :: rest))) : W p l e R s m args below meth c H locs cells slots Q (F0 m pc ls (.int n9 :: rest)) := by
  have hts := F.1.2.2.2.2
  obtain ⟨rfl, rfl⟩ := hk
  subst hn9
  have hN2 : N' < 2 ^ 31 := by omega
  refine va_newa (atype := .long) (ty := .long) (N' := N') (a0 := (N', .inr (.inl (fun _ => 0)))) F.1.1 F.1.2.1 (hts _ harr) rfl F.2.1 hw.1 hw.2.1 hw.2.2.1 hw.2.2.2 (fun cA => rfl) (nI_pos hN2) (nI_clamp hN2) (by show N' * 8 ≤ _; omega) hcs.1 hcs.2 hdg (fun q cA H1 hK hP hD hS => ?_)
  have h1 : s.vm.findClass ("[" ++ FieldType.long.toString) = some cA := (hK.2 2 (cA, .long) rfl).2
  have h2 : s.vm.findClass ("[" ++ FieldType.long.toString) = some cJ := (F.2.1.2 1 (cJ, .long) rfl).2
  cases Option.some.inj (h1.symm.trans h2)
  exact kk q H1 ⟨hP, hD, hS, hw.2.2.2⟩
theorem kk_putF {T : u_T} {N ci : Nat} (F : kk_at p m c cc nL s args Ts own G cI cJ ad A) (hw : kk_wd G A s.heap ws H locs) (hin : ∀ w ∈ u_ws C T N, w ∈ Ts) (ty0 : Nat → FieldType) (hty : ∀ k, k < N → parseFieldDescriptor (T k).2.2.1 = some (ty0 k)) (hnm : ∀ a, a < N → ∀ b, b < N → a ≠ b → (T a).2.1 ≠ (T b).2.1)
    (q0 : Nat) {fs : List Value} (he : ws[q0]? = some (a, .inr (ci, fs))) (hc : vwCl[ci]? = some (C, T, N)) (k : Nat) (hk : k < N) (hlink : Cond.fieldLink own index (T k).1 (T k).2.1 (T k).2.2.1 ∈ Ts) (hfin : (T k).2.2.2 = true) (hin2 : meth.name = "<init>") (hdecl : (T k).1 = own) {v : Value} (hn : narrow (ty0 k) v = v) (hfit : fits (ty0 k) v = true) (hl : k < fs.length) (hdg : decode cc pc = .ok (.putfield index, 3))
    (kk : ∀ (H1 : Heap) (locs1 : List Loc), kk_wd G A s.heap (ws.set q0 (a, .inr (ci, fs.set k v))) H1 locs1 → W p l e R s m args below meth c H1 locs1 cells slots Q (F0 m (pc + 3) ls rest)) : W p l e R s m args below meth c H locs cells slots Q (F0 m pc ls (v :: .ref a :: rest)) :=
  va_putF F.1.1 F.1.2.1 F.1.2.2.2.2 hin ty0 hty hnm F.1.2.2.2.1 F.2.1 hw.1 hw.2.1 hw.2.2.1 q0 he hc k hk (F.1.2.2.2.2 _ hlink) (fun _ h => h) hfin hin2 hdecl (hty k hk) hn hfit hl hdg (fun H1 locs1 hP hD hS => kk H1 locs1 ⟨hP, hD, hS, hw.2.2.2⟩)
theorem kk_objI (F : kk_at p m c cc nL s args Ts own G cI cJ ad A) (hls : ls.size = nL) (hlink : Cond.methodLink own index Lib.objectInit ∈ Ts) (hinst : Cond.instanceMethod Lib.objectInit ∈ Ts) (hcode : Cond.code Lib.objectInit ⟨#[0xb1]⟩ 1 none ∈ Ts) (hd : decode cc pc = .ok (.invokespecial index, 3)) (hframes : 1 ≤ R.frames) (hlocals : (rest.map fun v => v.category).sum + 12 ≤ R.locals)
    (kk : W p l e R s m args below meth c H locs cells slots Q (F0 m (pc + 3) ls rest)) : W p l e R s m args below meth c H locs cells slots Q (F0 m pc ls (.ref a :: rest)) := by
  have hts := F.1.2.2.2.2
  exact W.objInit F.1.1 F.1.2.1 F.1.2.2.2.1 (hts _ hlink) (hts _ hinst) (hts _ hcode) rfl (hls.trans F.1.2.2.1.symm) rfl hd hframes (by show 2 * 0 + _ + 12 ≤ _; omega) kk
theorem kk_runIN {host : String} (F : kk_at p m c cc nL s args Ts own G cI cJ ad A) (hw : kk_wd G A s.heap ws H locs) (hls : ls.size = nL) (hM : Met l y wsY (kk_rm fr mc ms lo) (kk_Pc G cI cJ ad WC H.size (.ref b :: As)) (va_Qv (fun (_ : Nat → Nat) => True) (fun q t => va_P G vwCl (W1 q) t.heap ∧ va_D (va_A WC H.size) (W1 q)) (va_A WC H.size)) mc ms (va_A WC H.size)) (hG : GoodIn Ts wsY) (hwY : wsY = Cond.code y bytes maxL none :: ws') (hnest : Cond.methodLinkNest own index y host ∈ kk_nl) (hini : Cond.initialized y.cls ∈ Ts) (hins : Cond.instanceMethod y ∈ Ts) (hy1 : y.name = "<init>")
    (hd : y.cls ≠ "java/lang/invoke/MethodHandle" ∧ y.cls ≠ "java/lang/invoke/VarHandle" ∧ (parseMethodDescriptor y.desc).map (fun d => d.parameters.length) = some As.length) (hR : fr + 1 ≤ R.frames ∧ 8 + (maxL + 11) + lo ≤ R.locals) (hcs : cells + mc ≤ R.cells ∧ slots + ms ≤ R.slots)
    (hst : st = As.reverse ++ .ref b :: rest) (hrest : (rest.map fun v => v.category).sum ≤ 8) (hdg : decode cc pc = .ok (.invokespecial index, 3)) :
    ∀ (is : List Nat), va_nd is = true → is.map (fun i => ws[i]?) = WC.map some → va_Run p l e R s m args below meth c H locs cells slots mc ms (F0 m pc ls st) rest (va_Qv (fun (_ : Nat → Nat) => True) (fun q t => va_P G vwCl (W1 q) t.heap ∧ va_D (va_A WC H.size) (W1 q)) (va_A WC H.size) (Value.ref b :: As).toArray) (va_A WC H.size) := by
  intro is hnd hC
  have hts := F.1.2.2.2.2
  exact va_runIN (As := As) (rest := rest) F.1 hM ⟨va_cnB As.length hts hG hwY rfl rfl (F.2.2.1 _ hnest) (hts _ hini) hd hR, hy1, hts _ hins⟩ ⟨kk_blind, kk_pre F hw is hnd hC _⟩ rfl rfl hls hst (lv_room hrest) hdg hcs
theorem kk_runI (F : kk_at p m c cc nL s args Ts own G cI cJ ad A) (hw : kk_wd G A s.heap ws H locs) (hls : ls.size = nL) (hM : Met l y wsY (kk_rm fr mc ms lo) (kk_Pc G cI cJ ad WC H.size (.ref b :: As)) (va_Qv (fun (_ : Nat → Nat) => True) (fun q t => va_P G vwCl (W1 q) t.heap ∧ va_D (va_A WC H.size) (W1 q)) (va_A WC H.size)) mc ms (va_A WC H.size)) (hG : GoodIn Ts wsY) (hwY : wsY = Cond.code y bytes maxL none :: ws') (hlk : Cond.methodLink own index y ∈ Ts) (hini : Cond.initialized y.cls ∈ Ts) (hins : Cond.instanceMethod y ∈ Ts) (hy1 : y.name = "<init>")
    (hd : y.cls ≠ "java/lang/invoke/MethodHandle" ∧ y.cls ≠ "java/lang/invoke/VarHandle" ∧ (parseMethodDescriptor y.desc).map (fun d => d.parameters.length) = some As.length) (hR : fr + 1 ≤ R.frames ∧ 8 + (maxL + 11) + lo ≤ R.locals) (hcs : cells + mc ≤ R.cells ∧ slots + ms ≤ R.slots)
    (hst : st = As.reverse ++ .ref b :: rest) (hrest : (rest.map fun v => v.category).sum ≤ 8) (hdg : decode cc pc = .ok (.invokespecial index, 3)) :
    ∀ (is : List Nat), va_nd is = true → is.map (fun i => ws[i]?) = WC.map some → va_Run p l e R s m args below meth c H locs cells slots mc ms (F0 m pc ls st) rest (va_Qv (fun (_ : Nat → Nat) => True) (fun q t => va_P G vwCl (W1 q) t.heap ∧ va_D (va_A WC H.size) (W1 q)) (va_A WC H.size) (Value.ref b :: As).toArray) (va_A WC H.size) := by
  intro is hnd hC
  have hts := F.1.2.2.2.2
  exact va_runI (As := As) (rest := rest) F.1 hM (cwI As.length hts hG hwY rfl rfl (hts _ hini) (hts _ hlk) (hts _ hins) hy1 hd hR) ⟨kk_blind, kk_pre F hw is hnd hC _⟩ rfl rfl hls hst (lv_room hrest) hdg hcs
theorem kk_callN {a9 : Array Value} (k1 k2 : Nat) (hw : kk_wd G A s.heap ws H locs)
    (hr : ∀ (is : List Nat), va_nd is = true → is.map (fun i => ws[i]?) = WC.map some → va_Run p l e R s m args below meth c H locs cells slots mc ms (F0 m pc ls st) rest (va_Qv (fun (_ : Nat → Nat) => True) (fun q t => va_P G vwCl (W1 q) t.heap ∧ va_D (va_A WC H.size) (W1 q)) (va_A WC H.size) a9) (va_A WC H.size))
    (hk : cells + mc = k1 ∧ slots + ms = k2) (is isR : List Nat) (hnd : va_nd is = true) (hC : is.map (fun i => ws[i]?) = WC.map some) (hR : isR.map (fun i => ws[i]?) = wr.map some) (hnR : va_nd isR = true) (hdis : ∀ i ∈ isR, i ∉ is)
    (kk : ∀ (q : Nat → Nat) (H1 : Heap) (locs1 : List Loc), kk_wd G A s.heap (wr ++ W1 q) H1 locs1 → W p l e R s m args below meth c H1 locs1 k1 k2 Q (F0 m (pc + 3) ls rest)) : W p l e R s m args below meth c H locs cells slots Q (F0 m pc ls st) := by
  have hF := kk_free hw is hC
  obtain ⟨rfl, rfl⟩ := hk
  refine va_callv (hr is hnd hC) hw.2.2.1 (fun q _ h => hF q h) hF (fun q t H1 locs1 ht hvm hw1 hB hz1 hk1 hS1 => ?_)
  obtain ⟨hP1, hD1⟩ := hB
  rw [ht] at hP1
  obtain ⟨h1, h2⟩ := va_join hw.1 hw.2.1 is isR hC hR hnR hdis hk1 hF hP1 hD1
  exact kk q H1 locs1 ⟨h1, h2, hS1, hw.2.2.2⟩
end KKNEW
