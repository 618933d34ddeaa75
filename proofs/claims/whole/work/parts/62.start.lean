/-! ===== the law's entry: what the tables and the start give ===== -/
theorem hx_one {args : Array Value} {s : State} {A : Nat → Prop} {n : String} {x y z : Int64}
    (hl : (Cond.laysStatic "PerfectPew$Hash" n "LPerfectPew$Hash;").before args s = true) (hini : (Cond.initialized "PerfectPew$Hash").before args s = true)
    (hex : (Cond.exactly (.static "PerfectPew$Hash" n "LPerfectPew$Hash;") "PerfectPew$Hash").before args s = true)
    (h1 : (Cond.eq (.field (.static "PerfectPew$Hash" n "LPerfectPew$Hash;") "PerfectPew$Hash" "perKey" "J") (.long x)).before args s = true)
    (h2 : (Cond.eq (.field (.static "PerfectPew$Hash" n "LPerfectPew$Hash;") "PerfectPew$Hash" "perSeed" "J") (.long y)).before args s = true)
    (h3 : (Cond.eq (.field (.static "PerfectPew$Hash" n "LPerfectPew$Hash;") "PerfectPew$Hash" "more" "J") (.long z)).before args s = true)
    (hA : ∀ a : Nat, a < s.heap.size → ¬ A a) :
    ∃ t : Nat, va_Z "PerfectPew$Hash" n "LPerfectPew$Hash;" (.ref t) A s s.heap ∧ va_O "PerfectPew$Hash" t A s s.heap ∧ va_OF "PerfectPew$Hash" "perKey" "J" (.long x) t A s s.heap ∧ va_OF "PerfectPew$Hash" "perSeed" "J" (.long y) t A s s.heap ∧ va_OF "PerfectPew$Hash" "more" "J" (.long z) t A s s.heap := by
  obtain ⟨a, c, cell, k, q1, q2, q3, q4, q5, q6, -⟩ := Cond.exactly_spec hex
  exact ⟨a, va_Zref hl hini q1 hA, ⟨cell, q3, q5, by rw [q6]; exact q2, hA a (Array.getElem?_eq_some_iff.mp q3).1⟩, vk_OFof q1 (va_eqtl h1) hA, vk_OFof q1 (va_eqtl h2) hA, vk_OFof q1 (va_eqtl h3) hA⟩
theorem ar_one {args : Array Value} {s : State} {ty : FieldType} (h : (Cond.arrayClass ty).before args s = true) : ∃ (cA : ClassId), ArrOfT s cA ty ∧ s.vm.findClass ("[" ++ ty.toString) = some cA := by
  obtain ⟨c, k, comp, h1, h2, h3⟩ := Cond.arrayClass_spec h
  exact ⟨c, fun n z => ⟨fun k h => (by cases h), k, h2, comp, h3⟩, h1⟩
theorem lt_nl : ∀ w ∈ kk_nl, w ∈ lw_tbl := by decide +kernel
theorem lt_on : ∀ w ∈ kk_nl, w.onTables = true := by decide +kernel
theorem lt_tx : ∀ q ∈ kk_tx, Cond.stringRef RX7 q.1 q.2 ∈ lw_tbl := by decide +kernel
theorem lt_u0 : ∀ w ∈ u_ws RX0 TX0 9, w ∈ lw_tbl := by decide +kernel
theorem lt_u1 : ∀ w ∈ u_ws RX1 TX1 8, w ∈ lw_tbl := by decide +kernel
theorem lt_u2 : ∀ w ∈ u_ws RX2 TX2 5, w ∈ lw_tbl := by decide +kernel
theorem lt_u3 : ∀ w ∈ u_ws RX3 TX3 0, w ∈ lw_tbl := by decide +kernel
theorem lt_u4 : ∀ w ∈ u_ws RX4 TX4 2, w ∈ lw_tbl := by decide +kernel
theorem lt_u5 : ∀ w ∈ u_ws RX5 TX5 3, w ∈ lw_tbl := by decide +kernel
theorem lt_u6 : ∀ w ∈ u_ws RX6 TX6 1, w ∈ lw_tbl := by decide +kernel
theorem lt_u7 : ∀ w ∈ u_ws RX7 TX7 7, w ∈ lw_tbl := by decide +kernel
theorem lt_u8 : ∀ w ∈ u_ws RX8 TX8 20, w ∈ lw_tbl := by decide +kernel
theorem lt_i0 : Cond.instantiable RX0 9 ∈ lw_tbl := by decide +kernel
theorem lt_i1 : Cond.instantiable RX1 8 ∈ lw_tbl := by decide +kernel
theorem lt_i2 : Cond.instantiable RX2 5 ∈ lw_tbl := by decide +kernel
theorem lt_i4 : Cond.instantiable RX4 2 ∈ lw_tbl := by decide +kernel
theorem lt_i5 : Cond.instantiable RX5 3 ∈ lw_tbl := by decide +kernel
theorem lt_i6 : Cond.instantiable RX6 1 ∈ lw_tbl := by decide +kernel
theorem lt_i7 : Cond.instantiable RX7 7 ∈ lw_tbl := by decide +kernel
theorem lt_i8 : Cond.instantiable RX8 20 ∈ lw_tbl := by decide +kernel
theorem lt_ai : Cond.arrayClass .int ∈ lw_tbl := by decide +kernel
theorem lt_aj : Cond.arrayClass .long ∈ lw_tbl := by decide +kernel
theorem lt_hi : Cond.initialized "PerfectPew$Hash" ∈ lw_tbl := by decide +kernel
