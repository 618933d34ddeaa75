/-! ===== the law's entry: what the tables and the start give ===== -/
theorem hx_one {args : Array Value} {s : State} {A : Nat → Prop} {n : String} {x y z : Int64}
    (hl : (Cond.laysStatic "PerfectPew$Hash" n "LPerfectPew$Hash;").before args s = true) (hini : (Cond.initialized "PerfectPew$Hash").before args s = true)
    (hex : (Cond.exactly (.static "PerfectPew$Hash" n "LPerfectPew$Hash;") "PerfectPew$Hash").before args s = true)
    (h1 : (Cond.eq (.field (.static "PerfectPew$Hash" n "LPerfectPew$Hash;") "PerfectPew$Hash" "perKey" "J") (.long x)).before args s = true)
    (h2 : (Cond.eq (.field (.static "PerfectPew$Hash" n "LPerfectPew$Hash;") "PerfectPew$Hash" "perSeed" "J") (.long y)).before args s = true)
    (h3 : (Cond.eq (.field (.static "PerfectPew$Hash" n "LPerfectPew$Hash;") "PerfectPew$Hash" "more" "J") (.long z)).before args s = true)
    (hA : ∀ a : Nat, a < s.heap.size → ¬ A a) :
    ∃ t : Nat, va_Z "PerfectPew$Hash" n "LPerfectPew$Hash;" (.ref t) A s s.heap ∧ va_O "PerfectPew$Hash" t A s s.heap ∧ va_OF "PerfectPew$Hash" "perKey" "J" (.long x) t A s s.heap ∧ va_OF "PerfectPew$Hash" "perSeed" "J" (.long y) t A s s.heap ∧ va_OF "PerfectPew$Hash" "more" "J" (.long z) t A s s.heap := by
  obtain ⟨a, c, cell, k, q1, q2, q3, q4, q5, q6, -⟩ := Cond.exactly_spec hex
  exact ⟨a, va_Zref hl hini q1 hA, ⟨cell, q3, q5, by rw [q6]; exact q2, hA a (Array.getElem?_eq_some_iff.mp q3).1⟩, vk_OFof q1 (va_eqtl h1) hA, vk_OFof q1 (va_eqtl h2) hA, vk_OFof q1 (va_eqtl h3) hA⟩
theorem ar_one {args : Array Value} {s : State} {ty : FieldType} (h : (Cond.arrayClass ty).before args s = true) : ∃ (cA : ClassId), ArrOfT s cA ty ∧ s.vm.findClass ("[" ++ ty.toString) = some cA := by
  obtain ⟨c, k, comp, h1, h2, h3⟩ := Cond.arrayClass_spec h
  exact ⟨c, fun n z => ⟨fun k h => (by cases h), k, h2, comp, h3⟩, h1⟩
theorem lt_nl : ∀ w ∈ kk_nl, w ∈ lw_tbl := by decide +kernel
theorem lt_on : ∀ w ∈ kk_nl, w.onTables = true := by decide +kernel
theorem lt_u0 : ∀ w ∈ u_ws RX0 TX0 9, w ∈ lw_tbl := by decide +kernel
theorem lt_u1 : ∀ w ∈ u_ws RX1 TX1 8, w ∈ lw_tbl := by decide +kernel
theorem lt_u2 : ∀ w ∈ u_ws RX2 TX2 5, w ∈ lw_tbl := by decide +kernel
theorem lt_u3 : ∀ w ∈ u_ws RX3 TX3 0, w ∈ lw_tbl := by decide +kernel
theorem lt_u4 : ∀ w ∈ u_ws RX4 TX4 2, w ∈ lw_tbl := by decide +kernel
theorem lt_u5 : ∀ w ∈ u_ws RX5 TX5 3, w ∈ lw_tbl := by decide +kernel
theorem lt_u6 : ∀ w ∈ u_ws RX6 TX6 1, w ∈ lw_tbl := by decide +kernel
theorem lt_u7 : ∀ w ∈ u_ws RX7 TX7 7, w ∈ lw_tbl := by decide +kernel
theorem lt_i0 : Cond.instantiable RX0 9 ∈ lw_tbl := by decide +kernel
theorem lt_i1 : Cond.instantiable RX1 8 ∈ lw_tbl := by decide +kernel
theorem lt_i2 : Cond.instantiable RX2 5 ∈ lw_tbl := by decide +kernel
theorem lt_i4 : Cond.instantiable RX4 2 ∈ lw_tbl := by decide +kernel
theorem lt_i5 : Cond.instantiable RX5 3 ∈ lw_tbl := by decide +kernel
theorem lt_i6 : Cond.instantiable RX6 1 ∈ lw_tbl := by decide +kernel
theorem lt_i7 : Cond.instantiable RX7 7 ∈ lw_tbl := by decide +kernel
theorem lt_ai : Cond.arrayClass .int ∈ lw_tbl := by decide +kernel
theorem lt_aj : Cond.arrayClass .long ∈ lw_tbl := by decide +kernel
theorem lt_hi : Cond.initialized "PerfectPew$Hash" ∈ lw_tbl := by decide +kernel
theorem lt_i3 : Cond.instantiable RX3 6 ∈ lw_tbl := by decide +kernel
theorem wl_ev {p : Program} {s : State} {m : MethodId} {meth : Method} {c : Code} {b L : Nat} {xs : Nat → Int32} (C0 : lw_At p s m meth c b L xs) : ∃ (G : va_G) (cI cJ : ClassId) (ad : Nat → Nat), kk_ev G cI cJ ad (fun q => s.heap.size ≤ q) s := by
  obtain ⟨-, -, -, -, -, hts, -, -, -, hgv⟩ := C0
  have hs := flat_of_before _ hgv
  have hA : ∀ a : Nat, a < s.heap.size → ¬ s.heap.size ≤ a := fun a h => by omega
  obtain ⟨cI, rI1, rI2⟩ := ar_one (hts _ lt_ai)
  obtain ⟨cJ, rJ1, rJ2⟩ := ar_one (hts _ lt_aj)
  obtain ⟨c0, i0, k0⟩ := u_known hts lt_u0 (hts _ lt_i0)
  obtain ⟨c1, i1, k1⟩ := u_known hts lt_u1 (hts _ lt_i1)
  obtain ⟨c2, i2, k2⟩ := u_known hts lt_u2 (hts _ lt_i2)
  obtain ⟨c3, i3, k3⟩ := u_known hts lt_u3 (hts _ lt_i3)
  obtain ⟨c4, i4, k4⟩ := u_known hts lt_u4 (hts _ lt_i4)
  obtain ⟨c5, i5, k5⟩ := u_known hts lt_u5 (hts _ lt_i5)
  obtain ⟨c6, i6, k6⟩ := u_known hts lt_u6 (hts _ lt_i6)
  obtain ⟨c7, i7, k7⟩ := u_known hts lt_u7 (hts _ lt_i7)
  obtain ⟨t0, e0⟩ := hx_one (A := fun q => s.heap.size ≤ q) (show (Cond.laysStatic "PerfectPew$Hash" "BUCKET" "LPerfectPew$Hash;").before #[Value.ref b] s = true by first | exact hts _ (by decide +kernel) | exact hs _ (by decide +kernel)) (hts _ lt_hi) (show (Cond.exactly (.static "PerfectPew$Hash" "BUCKET" "LPerfectPew$Hash;") "PerfectPew$Hash").before #[Value.ref b] s = true by first | exact hts _ (by decide +kernel) | exact hs _ (by decide +kernel))
    (show (Cond.eq (.field (.static "PerfectPew$Hash" "BUCKET" "LPerfectPew$Hash;") "PerfectPew$Hash" "perKey" "J") (.long 9973)).before #[Value.ref b] s = true by first | exact hts _ (by decide +kernel) | exact hs _ (by decide +kernel))
    (show (Cond.eq (.field (.static "PerfectPew$Hash" "BUCKET" "LPerfectPew$Hash;") "PerfectPew$Hash" "perSeed" "J") (.long 7919)).before #[Value.ref b] s = true by first | exact hts _ (by decide +kernel) | exact hs _ (by decide +kernel))
    (show (Cond.eq (.field (.static "PerfectPew$Hash" "BUCKET" "LPerfectPew$Hash;") "PerfectPew$Hash" "more" "J") (.long 11)).before #[Value.ref b] s = true by first | exact hts _ (by decide +kernel) | exact hs _ (by decide +kernel)) hA
  obtain ⟨t1, e1⟩ := hx_one (A := fun q => s.heap.size ≤ q) (show (Cond.laysStatic "PerfectPew$Hash" "START" "LPerfectPew$Hash;").before #[Value.ref b] s = true by first | exact hts _ (by decide +kernel) | exact hs _ (by decide +kernel)) (hts _ lt_hi) (show (Cond.exactly (.static "PerfectPew$Hash" "START" "LPerfectPew$Hash;") "PerfectPew$Hash").before #[Value.ref b] s = true by first | exact hts _ (by decide +kernel) | exact hs _ (by decide +kernel))
    (show (Cond.eq (.field (.static "PerfectPew$Hash" "START" "LPerfectPew$Hash;") "PerfectPew$Hash" "perKey" "J") (.long 104729)).before #[Value.ref b] s = true by first | exact hts _ (by decide +kernel) | exact hs _ (by decide +kernel))
    (show (Cond.eq (.field (.static "PerfectPew$Hash" "START" "LPerfectPew$Hash;") "PerfectPew$Hash" "perSeed" "J") (.long 15485)).before #[Value.ref b] s = true by first | exact hts _ (by decide +kernel) | exact hs _ (by decide +kernel))
    (show (Cond.eq (.field (.static "PerfectPew$Hash" "START" "LPerfectPew$Hash;") "PerfectPew$Hash" "more" "J") (.long 101)).before #[Value.ref b] s = true by first | exact hts _ (by decide +kernel) | exact hs _ (by decide +kernel)) hA
  obtain ⟨t2, e2⟩ := hx_one (A := fun q => s.heap.size ≤ q) (show (Cond.laysStatic "PerfectPew$Hash" "STEP" "LPerfectPew$Hash;").before #[Value.ref b] s = true by first | exact hts _ (by decide +kernel) | exact hs _ (by decide +kernel)) (hts _ lt_hi) (show (Cond.exactly (.static "PerfectPew$Hash" "STEP" "LPerfectPew$Hash;") "PerfectPew$Hash").before #[Value.ref b] s = true by first | exact hts _ (by decide +kernel) | exact hs _ (by decide +kernel))
    (show (Cond.eq (.field (.static "PerfectPew$Hash" "STEP" "LPerfectPew$Hash;") "PerfectPew$Hash" "perKey" "J") (.long 31337)).before #[Value.ref b] s = true by first | exact hts _ (by decide +kernel) | exact hs _ (by decide +kernel))
    (show (Cond.eq (.field (.static "PerfectPew$Hash" "STEP" "LPerfectPew$Hash;") "PerfectPew$Hash" "perSeed" "J") (.long 27644)).before #[Value.ref b] s = true by first | exact hts _ (by decide +kernel) | exact hs _ (by decide +kernel))
    (show (Cond.eq (.field (.static "PerfectPew$Hash" "STEP" "LPerfectPew$Hash;") "PerfectPew$Hash" "more" "J") (.long 1009)).before #[Value.ref b] s = true by first | exact hts _ (by decide +kernel) | exact hs _ (by decide +kernel)) hA
  obtain ⟨t3, e3⟩ := hx_one (A := fun q => s.heap.size ≤ q) (show (Cond.laysStatic "PerfectPew$Hash" "FINGERPRINT" "LPerfectPew$Hash;").before #[Value.ref b] s = true by first | exact hts _ (by decide +kernel) | exact hs _ (by decide +kernel)) (hts _ lt_hi) (show (Cond.exactly (.static "PerfectPew$Hash" "FINGERPRINT" "LPerfectPew$Hash;") "PerfectPew$Hash").before #[Value.ref b] s = true by first | exact hts _ (by decide +kernel) | exact hs _ (by decide +kernel))
    (show (Cond.eq (.field (.static "PerfectPew$Hash" "FINGERPRINT" "LPerfectPew$Hash;") "PerfectPew$Hash" "perKey" "J") (.long 611953)).before #[Value.ref b] s = true by first | exact hts _ (by decide +kernel) | exact hs _ (by decide +kernel))
    (show (Cond.eq (.field (.static "PerfectPew$Hash" "FINGERPRINT" "LPerfectPew$Hash;") "PerfectPew$Hash" "perSeed" "J") (.long 39916)).before #[Value.ref b] s = true by first | exact hts _ (by decide +kernel) | exact hs _ (by decide +kernel))
    (show (Cond.eq (.field (.static "PerfectPew$Hash" "FINGERPRINT" "LPerfectPew$Hash;") "PerfectPew$Hash" "more" "J") (.long 10007)).before #[Value.ref b] s = true by first | exact hts _ (by decide +kernel) | exact hs _ (by decide +kernel)) hA
  obtain ⟨t4, e4⟩ := hx_one (A := fun q => s.heap.size ≤ q) (show (Cond.laysStatic "PerfectPew$Hash" "ONE_END" "LPerfectPew$Hash;").before #[Value.ref b] s = true by first | exact hts _ (by decide +kernel) | exact hs _ (by decide +kernel)) (hts _ lt_hi) (show (Cond.exactly (.static "PerfectPew$Hash" "ONE_END" "LPerfectPew$Hash;") "PerfectPew$Hash").before #[Value.ref b] s = true by first | exact hts _ (by decide +kernel) | exact hs _ (by decide +kernel))
    (show (Cond.eq (.field (.static "PerfectPew$Hash" "ONE_END" "LPerfectPew$Hash;") "PerfectPew$Hash" "perKey" "J") (.long 86243)).before #[Value.ref b] s = true by first | exact hts _ (by decide +kernel) | exact hs _ (by decide +kernel))
    (show (Cond.eq (.field (.static "PerfectPew$Hash" "ONE_END" "LPerfectPew$Hash;") "PerfectPew$Hash" "perSeed" "J") (.long 65537)).before #[Value.ref b] s = true by first | exact hts _ (by decide +kernel) | exact hs _ (by decide +kernel))
    (show (Cond.eq (.field (.static "PerfectPew$Hash" "ONE_END" "LPerfectPew$Hash;") "PerfectPew$Hash" "more" "J") (.long 313)).before #[Value.ref b] s = true by first | exact hts _ (by decide +kernel) | exact hs _ (by decide +kernel)) hA
  obtain ⟨t5, e5⟩ := hx_one (A := fun q => s.heap.size ≤ q) (show (Cond.laysStatic "PerfectPew$Hash" "OTHER_END" "LPerfectPew$Hash;").before #[Value.ref b] s = true by first | exact hts _ (by decide +kernel) | exact hs _ (by decide +kernel)) (hts _ lt_hi) (show (Cond.exactly (.static "PerfectPew$Hash" "OTHER_END" "LPerfectPew$Hash;") "PerfectPew$Hash").before #[Value.ref b] s = true by first | exact hts _ (by decide +kernel) | exact hs _ (by decide +kernel))
    (show (Cond.eq (.field (.static "PerfectPew$Hash" "OTHER_END" "LPerfectPew$Hash;") "PerfectPew$Hash" "perKey" "J") (.long 756839)).before #[Value.ref b] s = true by first | exact hts _ (by decide +kernel) | exact hs _ (by decide +kernel))
    (show (Cond.eq (.field (.static "PerfectPew$Hash" "OTHER_END" "LPerfectPew$Hash;") "PerfectPew$Hash" "perSeed" "J") (.long 44497)).before #[Value.ref b] s = true by first | exact hts _ (by decide +kernel) | exact hs _ (by decide +kernel))
    (show (Cond.eq (.field (.static "PerfectPew$Hash" "OTHER_END" "LPerfectPew$Hash;") "PerfectPew$Hash" "more" "J") (.long 2203)).before #[Value.ref b] s = true by first | exact hts _ (by decide +kernel) | exact hs _ (by decide +kernel)) hA
  refine ⟨(fun j => match j with | 0 => c0 | 1 => c1 | 2 => c2 | 3 => c3 | 4 => c4 | 5 => c5 | 6 => c6 | _ => c7, fun j => match j with | 0 => i0 | 1 => i1 | 2 => i2 | 3 => i3 | 4 => i4 | 5 => i5 | 6 => i6 | _ => i7), cI, cJ, fun j => match j with | 0 => t0 | 1 => t1 | 2 => t2 | 3 => t3 | 4 => t4 | _ => t5, ⟨?_, ?_⟩, fun w hw => va_Nw.of (lt_on w hw) (hts w (lt_nl w hw)), ?_, ⟨?_, ?_⟩, trivial⟩
  · intro j q hq
    match j, hq with
    | 0, hq => cases (Option.some.inj hq); exact k0
    | 1, hq => cases (Option.some.inj hq); exact k1
    | 2, hq => cases (Option.some.inj hq); exact k2
    | 3, hq => cases (Option.some.inj hq); exact k3
    | 4, hq => cases (Option.some.inj hq); exact k4
    | 5, hq => cases (Option.some.inj hq); exact k5
    | 6, hq => cases (Option.some.inj hq); exact k6
    | 7, hq => cases (Option.some.inj hq); exact k7
    | j + 8, hq => simp at hq
  · intro j q hq
    match j, hq with
    | 0, hq => cases (Option.some.inj hq); exact ⟨rI1, rI2⟩
    | 1, hq => cases (Option.some.inj hq); exact ⟨rJ1, rJ2⟩
    | j + 2, hq => simp at hq
  · intro i hi
    match i, hi with
    | 0, _ => exact e0
    | 1, _ => exact e1
    | 2, _ => exact e2
    | 3, _ => exact e3
    | 4, _ => exact e4
    | 5, _ => exact e5
    | i + 6, h => omega
  · exact vx_Zqof (args := #[Value.ref b]) (show (Cond.laysStatic Bundle.tN "UNASSIGNED_STACK" Bundle.steD).before #[Value.ref b] s = true by first | exact hts _ (by decide +kernel) | exact hs _ (by decide +kernel)) (show (Cond.initialized Bundle.tN).before #[Value.ref b] s = true by first | exact hts _ (by decide +kernel) | exact hs _ (by decide +kernel)) (show (Cond.isRef (.static Bundle.tN "UNASSIGNED_STACK" Bundle.steD)).before #[Value.ref b] s = true by first | exact hts _ (by decide +kernel) | exact hs _ (by decide +kernel)) hA
  · exact vx_Zqof (args := #[Value.ref b]) (show (Cond.laysStatic Bundle.tN "SUPPRESSED_SENTINEL" Bundle.listD).before #[Value.ref b] s = true by first | exact hts _ (by decide +kernel) | exact hs _ (by decide +kernel)) (show (Cond.initialized Bundle.tN).before #[Value.ref b] s = true by first | exact hts _ (by decide +kernel) | exact hs _ (by decide +kernel)) (show (Cond.isRef (.static Bundle.tN "SUPPRESSED_SENTINEL" Bundle.listD)).before #[Value.ref b] s = true by first | exact hts _ (by decide +kernel) | exact hs _ (by decide +kernel)) hA
theorem whole_start {p : Program} {e : Env} {s : State} {m : MethodId} {below : List Frame} {meth : Method} {c : Code} (l : Launch) (hflags : l.flags = flags0) {b L : Nat} {xs : Nat → Int32} (hL : L ≤ 260) (C0 : lw_At p s m meth c b L xs) : W p l e room_1 s m #[Value.ref b] below meth c s.heap [] 0 0 (lw_Z below #[Value.ref b] s) (entryFrame m ([Value.ref b] : List Value).toArray 6) := by
  obtain ⟨G, cI, cJ, ad, hev⟩ := wl_ev C0
  have F : kk_at p m c cL_law 6 s #[Value.ref b] wsL_law RL G cI cJ ad (fun q => s.heap.size ≤ q) := ⟨⟨C0.1, C0.2.1, C0.2.2.2.1, C0.2.2.2.2.1, fun w hw => C0.2.2.2.2.2.1 w (wsL_law_in w hw)⟩, hev⟩
  have hbl := C0.2.2.2.2.2.2.2.1
  rw [lg_entry_eq]
  refine law_pro26 F C0.2.2.2.2.2.2.1 hbl (Nat.not_le.mpr hbl) (by omega) (fun H locs ls ws hw => ?_) ⟨fun k q h => by simp at h, ⟨fun i j p q h => by simp at h, fun k q h => by simp at h⟩, va_S.rf, fun q h => h⟩ (lv_entry [Value.ref b] (Nat.le_of_ble_eq_true rfl))
  refine W.widen (k := 600130) (n := 7301080) (Nat.le_of_ble_eq_true rfl) (Nat.le_of_ble_eq_true rfl) ?_
  refine va_forget (fun q hq => hw.2.2.1.2.2 q hq) ?_
  refine lv_iconst (v := 1) C0.1 C0.2.1 dL_law_76 (by decide) ?_
  exact lw_ret C0.1 C0.2.1 C0.2.2.1 C0.2.2.2.2.2.2.2.2.1 dL_law_77
