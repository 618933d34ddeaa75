/-! ===== my own layer over the kit: worlds put back at their places, contracts by a pure function ===== -/
/-- a world with some of its cells put anew, each at its place -/
def kk_puts (ws : va_W) : List Nat → va_W → va_W
  | i :: is, e :: w1 => kk_puts (ws.set i e) is w1
  | _, _ => ws
theorem kk_puts_len : ∀ (is : List Nat) (w1 ws : va_W), (kk_puts ws is w1).length = ws.length
  | [], _, _ => by simp [kk_puts]
  | _ :: _, [], _ => by simp [kk_puts]
  | i :: is, e :: w1, ws => by rw [kk_puts, kk_puts_len is w1, List.length_set]
theorem kk_puts_out : ∀ (is : List Nat) (w1 ws : va_W) (k : Nat), k ∉ is → (kk_puts ws is w1)[k]? = ws[k]?
  | [], _, _, _, _ => by simp [kk_puts]
  | _ :: _, [], _, _, _ => by simp [kk_puts]
  | i :: is, e :: w1, ws, k, h => by
    rw [kk_puts, kk_puts_out is w1 _ k (fun z => h (List.mem_cons_of_mem _ z))]
    exact List.getElem?_set_ne (fun z => h (by rw [← z]; exact List.mem_cons_self))
theorem kk_puts_in : ∀ (is : List Nat) (w1 ws : va_W) (j k : Nat) (e : Nat × va_E), va_nd is = true → is[j]? = some k → w1[j]? = some e → k < ws.length → (kk_puts ws is w1)[k]? = some e
  | [], _, _, j, k, e, _, h1, _, _ => by simp at h1
  | _ :: _, [], _, j, k, e, _, _, h2, _ => by simp at h2
  | i :: is, x :: w1, ws, 0, k, e, hn, h1, h2, hk => by
    simp only [va_nd, Bool.and_eq_true, decide_eq_true_eq] at hn
    simp only [List.getElem?_cons_zero, Option.some.injEq] at h1 h2
    subst h1; subst h2
    rw [kk_puts, kk_puts_out is w1 _ i hn.1, List.getElem?_set_self hk]
  | i :: is, x :: w1, ws, j + 1, k, e, hn, h1, h2, hk => by
    simp only [va_nd, Bool.and_eq_true, decide_eq_true_eq] at hn
    rw [List.getElem?_cons_succ] at h1 h2
    rw [kk_puts]
    exact kk_puts_in is w1 _ j k e hn.2 h1 h2 (by rw [List.length_set]; exact hk)
/-- behind a call: the callee's cells as it left them, each at its own place, all others as they were -/
theorem kk_puts_ok {A0 : Nat → Prop} {D : va_G} {cl : List vw_C} {ws wc w1 : va_W} {H H1 : Heap} (hP : va_P D cl ws H) (hD : va_D A0 ws) (is : List Nat) (hn : va_nd is = true)
    (hC : is.map (fun i => ws[i]?) = wc.map some) (ha : w1.map (fun q => q.1) = wc.map (fun q => q.1)) (hk : ∀ q : Nat, q < H.size → ¬ va_A wc H.size q → H1[q]? = H[q]?) (hP1 : va_P D cl w1 H1) :
    va_P D cl (kk_puts ws is w1) H1 ∧ va_D A0 (kk_puts ws is w1) := by
  have hlen : is.length = wc.length := by simpa using congrArg List.length hC
  have hlen1 : w1.length = wc.length := by simpa using congrArg List.length ha
  have atC : ∀ (j k : Nat), is[j]? = some k → ∃ q, wc[j]? = some q ∧ ws[k]? = some q := by
    intro j k hj
    have h1 : (is.map (fun i => ws[i]?))[j]? = (wc.map some)[j]? := by rw [hC]
    rw [List.getElem?_map, List.getElem?_map, hj] at h1
    cases hw : wc[j]? with
    | none => rw [hw] at h1; simp at h1
    | some q => rw [hw] at h1; exact ⟨q, rfl, by simpa using h1⟩
  have at1 : ∀ (j : Nat) (q : Nat × va_E), wc[j]? = some q → ∃ e, w1[j]? = some e ∧ e.1 = q.1 := by
    intro j q hq
    have h1 : (w1.map (fun q => q.1))[j]? = (wc.map (fun q => q.1))[j]? := by rw [ha]
    rw [List.getElem?_map, List.getElem?_map, hq] at h1
    cases hw : w1[j]? with
    | none => rw [hw] at h1; simp at h1
    | some e => rw [hw] at h1; exact ⟨e, rfl, by simpa using h1⟩
  have key : ∀ (k : Nat) (q : Nat × va_E), (kk_puts ws is w1)[k]? = some q → (k ∉ is ∧ ws[k]? = some q) ∨ (∃ (j : Nat) (q0 : Nat × va_E), is[j]? = some k ∧ w1[j]? = some q ∧ ws[k]? = some q0 ∧ q0.1 = q.1) := by
    intro k q hq
    by_cases hm : k ∈ is
    · obtain ⟨j, hj⟩ := List.getElem?_of_mem hm
      obtain ⟨q0, h1, h2⟩ := atC j k hj
      obtain ⟨e, h3, h4⟩ := at1 j q0 h1
      have h5 := kk_puts_in is w1 ws j k e hn hj h3 (List.getElem?_eq_some_iff.mp h2).1
      rw [hq] at h5
      cases h5
      exact Or.inr ⟨j, q0, hj, h3, h2, h4.symm⟩
    · rw [kk_puts_out is w1 ws k hm] at hq
      exact Or.inl ⟨hm, hq⟩
  refine ⟨fun k q hq => ?_, fun i j x y hi hj hxy => ?_, fun k q hq => ?_⟩
  · rcases key k q hq with ⟨hm, h1⟩ | ⟨j, q0, -, h1, -, -⟩
    · refine (hP k q h1).kept (hk q.1 (hP k q h1).lt ?_)
      rintro (⟨j, e, hj⟩ | h)
      · have hj2 : j < is.length := by rw [hlen]; exact (List.getElem?_eq_some_iff.mp hj).1
        obtain ⟨q0, h2, h3⟩ := atC j is[j] (List.getElem?_eq_getElem hj2)
        rw [hj] at h2
        cases h2
        have := hD.1 k is[j] q _ h1 h3 rfl
        exact hm (by rw [this]; exact List.getElem_mem hj2)
      · exact absurd (hP k q h1).lt (Nat.not_lt.mpr h)
    · exact hP1 j q h1
  · have addr : ∀ (k : Nat) (q : Nat × va_E), (kk_puts ws is w1)[k]? = some q → ∃ q0, ws[k]? = some q0 ∧ q0.1 = q.1 := by
      intro k q hq
      rcases key k q hq with ⟨-, h1⟩ | ⟨j, q0, -, -, h2, h3⟩
      · exact ⟨q, h1, rfl⟩
      · exact ⟨q0, h2, h3⟩
    obtain ⟨x0, h1, h2⟩ := addr i x hi
    obtain ⟨y0, h3, h4⟩ := addr j y hj
    exact hD.1 i j x0 y0 h1 h3 (h2.trans (hxy.trans h4.symm))
  · rcases key k q hq with ⟨-, h1⟩ | ⟨j, q0, -, -, h2, h3⟩
    · exact hD.2 k q h1
    · rw [← h3]; exact hD.2 k q0 h2
/-- the world at a point of a walk -/
def kk_wd (G : va_G) (A : Nat → Prop) (H0 : Heap) (ws : va_W) (H : Heap) (locs : List Loc) : Prop := va_P G vwCl ws H ∧ va_D A ws ∧ va_S A H0 H locs ∧ ∀ q, H0.size ≤ q → A q
/-- a callee may change what of the caller's own it is given -/
theorem kk_free {G : va_G} {A : Nat → Prop} {H0 H : Heap} {ws wc : va_W} {locs : List Loc} (hw : kk_wd G A H0 ws H locs) (is : List Nat) (hC : is.map (fun i => ws[i]?) = wc.map some) : ∀ q, va_A wc H.size q → A q := va_free hw.2.1 hw.2.2.1 hw.2.2.2 is hC
/-! the words of nest mates -/
theorem kk_nest_warm {w : Cond} (hn : kk_nest w = true) {s U : State} (hW : s.WarmedH U.vm) (h : va_Nw w s) : va_Nw w U := by
  cases w <;> first | exact va_Nw.warmF hW h | exact va_Nw.warmM hW h | exact va_Nw.warmC hW h | exact va_Nw.warmD hW h | simp [kk_nest] at hn
/-! the six constants of Hash: their names, and what their three fields hold -/
def kk_en : Nat → String := fun i => match i with
  | 0 => "BUCKET" | 1 => "START" | 2 => "STEP" | 3 => "FINGERPRINT" | 4 => "ONE_END" | _ => "OTHER_END"
def kk_pk : Nat → Int64 := fun i => match i with
  | 0 => 9973 | 1 => 104729 | 2 => 31337 | 3 => 611953 | 4 => 86243 | _ => 756839
def kk_ps : Nat → Int64 := fun i => match i with
  | 0 => 7919 | 1 => 15485 | 2 => 27644 | 3 => 39916 | 4 => 65537 | _ => 44497
def kk_mo : Nat → Int64 := fun i => match i with
  | 0 => 11 | 1 => 101 | 2 => 1009 | 3 => 10007 | 4 => 313 | _ => 2203
def kk_hx (ad : Nat → Nat) (A : Nat → Prop) (U : State) (H : Heap) : Prop := ∀ i, i < 6 → va_Z "PerfectPew$Hash" (kk_en i) "LPerfectPew$Hash;" (.ref (ad i)) A U H ∧ va_O "PerfectPew$Hash" (ad i) A U H ∧
  va_OF "PerfectPew$Hash" "perKey" "J" (.long (kk_pk i)) (ad i) A U H ∧ va_OF "PerfectPew$Hash" "perSeed" "J" (.long (kk_ps i)) (ad i) A U H ∧ va_OF "PerfectPew$Hash" "more" "J" (.long (kk_mo i)) (ad i) A U H
theorem kk_hx.moved {ad : Nat → Nat} {A : Nat → Prop} {u U : State} {H : Heap} (hvm : u.vm.Alike U.vm) (h : kk_hx ad A u H) : kk_hx ad A U H := fun i hi => ⟨va_Z.moved hvm (h i hi).1, va_O.moved hvm (h i hi).2.1, va_OF.moved hvm (h i hi).2.2.1, va_OF.moved hvm (h i hi).2.2.2.1, va_OF.moved hvm (h i hi).2.2.2.2⟩
theorem kk_hx.kept {ad : Nat → Nat} {A : Nat → Prop} {U : State} {H H1 : Heap} (h : kk_hx ad A U H) (hq : ∀ a : Nat, a < H.size → ¬ A a → H1[a]? = H[a]?) : kk_hx ad A U H1 := fun i hi => ⟨(h i hi).1.kept hq, (h i hi).2.1.kept hq, (h i hi).2.2.1.kept hq, (h i hi).2.2.2.1.kept hq, (h i hi).2.2.2.2.kept hq⟩
theorem kk_hx.narrow {ad : Nat → Nat} {A B : Nat → Prop} {U : State} {H : Heap} (h : kk_hx ad A U H) (hAB : ∀ q, B q → A q) : kk_hx ad B U H := fun i hi => ⟨(h i hi).1.narrow hAB, (h i hi).2.1.narrow hAB, (h i hi).2.2.1.narrow hAB, (h i hi).2.2.2.1.narrow hAB, (h i hi).2.2.2.2.narrow hAB⟩
/-! what a throw needs: two statics of Throwable, the texts -/
def kk_ex (A : Nat → Prop) (U : State) (H : Heap) : Prop := vx_Zq Bundle.tN "UNASSIGNED_STACK" Bundle.steD A U H ∧ vx_Zq Bundle.tN "SUPPRESSED_SENTINEL" Bundle.listD A U H
def kk_st (_ : State) : Prop := True
/-- all that doesn't change in a run -/
def kk_ev (G : va_G) (cI cJ : ClassId) (ad : Nat → Nat) (A : Nat → Prop) (s : State) : Prop :=
  va_K G vwCl [(cI, .int), (cJ, .long)] s ∧ (∀ w ∈ kk_nl, va_Nw w s) ∧ kk_hx ad A s s.heap ∧ kk_ex A s s.heap ∧ kk_st s
theorem kk_ev.call {G : va_G} {cI cJ : ClassId} {ad : Nat → Nat} {A B : Nat → Prop} {s U : State} {H : Heap} {locs : List Loc} (h : kk_ev G cI cJ ad A s) (hS : va_S A s.heap H locs) (hB : ∀ q, B q → A q) (hU : U.heap = H) (hW : s.WarmedH U.vm) : kk_ev G cI cJ ad B U := by
  refine ⟨va_K.moved hW.alike h.1, fun w hw => kk_nest_warm (kk_nl_nest w hw) hW (h.2.1 w hw), ?_, ⟨?_, ?_⟩, trivial⟩
  · rw [hU]; exact ((h.2.2.1.kept hS.2.1).moved hW.alike).narrow hB
  · rw [hU]; exact ((h.2.2.2.1.1.kept hS.2.1).moved hW.alike).narrow hB
  · rw [hU]; exact ((h.2.2.2.1.2.kept hS.2.1).moved hW.alike).narrow hB
theorem kk_nest_tab {w : Cond} (hn : kk_nest w = true) : w.onTables = true := by
  cases w <;> first | rfl | simp [kk_nest] at hn
theorem kk_ev.same {G : va_G} {cI cJ : ClassId} {ad : Nat → Nat} {A : Nat → Prop} {s U : State} (hv : U.vm = s.vm) (hh : U.heap = s.heap) (h : kk_ev G cI cJ ad A s) : kk_ev G cI cJ ad A U := by
  have hvm : s.vm.Alike U.vm := by rw [hv]; exact Vm.Alike.refl _
  refine ⟨va_K.moved hvm h.1, fun w hw => va_Nw.same (kk_nest_tab (kk_nl_nest w hw)) hv.symm (h.2.1 w hw), ?_, ⟨?_, ?_⟩, trivial⟩
  · rw [hh]; exact h.2.2.1.moved hvm
  · rw [hh]; exact h.2.2.2.1.1.moved hvm
  · rw [hh]; exact h.2.2.2.1.2.moved hvm
/-! contracts: the answer and the world behind are named beforehand, by the pure function of the method -/
def kk_Pc (G : va_G) (cI cJ : ClassId) (ad : Nat → Nat) (WC : va_W) (sz : Nat) (av : List Value) : Array Value → State → Prop :=
  va_Pc av (fun U => U.heap.size = sz ∧ va_P G vwCl WC U.heap ∧ va_D (fun _ => True) WC ∧ kk_ev G cI cJ ad (va_A WC sz) U)
theorem kk_blind {G : va_G} {cI cJ : ClassId} {ad : Nat → Nat} {WC : va_W} {sz : Nat} {av : List Value} : FrameBlind (kk_Pc G cI cJ ad WC sz av) := by
  intro a U g mk ⟨h1, h2, h3, h4, h5⟩
  exact ⟨h1, h2, h3, h4, kk_ev.same (s := U) (U := U.calling g mk a) rfl rfl h5⟩
/-! the pure side: fuel for loops, guards for what a machine asks -/
def kk_iter {σ ρ : Type} (f : σ → Option (σ ⊕ ρ)) : Nat → σ → Option ρ
  | 0, _ => none
  | n + 1, s => (f s).bind (fun x => Sum.elim (fun s' => kk_iter f n s') (fun r => some r) x)
theorem kk_iter0 {σ ρ : Type} {f : σ → Option (σ ⊕ ρ)} {s : σ} {r : ρ} {P : Prop} (h : kk_iter f 0 s = some r) : P := nomatch h
theorem kk_iterS {σ ρ : Type} {f : σ → Option (σ ⊕ ρ)} {n : Nat} {s : σ} {r : ρ} (h : kk_iter f (n + 1) s = some r) : ∃ x, f s = some x ∧ (Sum.elim (fun s' => kk_iter f n s') (fun r => some r) x) = some r := by
  rw [kk_iter] at h
  exact Option.bind_eq_some_iff.mp h
theorem kk_bind {α β : Type} {o : Option α} {f : α → Option β} {b : β} (h : o.bind f = some b) : ∃ a, o = some a ∧ f a = some b := Option.bind_eq_some_iff.mp h
def kk_rd {α : Type} (n : Nat) (f : Nat → α) (i : Int32) : Option α := if i < 0 ∨ n ≤ i.toNatClampNeg then none else some (f i.toNatClampNeg)
theorem kk_rd_ok {α : Type} {n : Nat} {f : Nat → α} {i : Int32} {v : α} (h : kk_rd n f i = some v) : vp_in i n ∧ f i.toNatClampNeg = v := by
  unfold kk_rd at h
  split at h
  · cases h
  · next h1 => exact ⟨h1, Option.some.inj h⟩
def kk_wr (n : Nat) (f : Nat → Int32) (i : Int32) (x : Int32) : Option (Nat → Int32) := if i < 0 ∨ n ≤ i.toNatClampNeg then none else some (upd f i.toNatClampNeg x)
theorem kk_wr_ok {n : Nat} {f g : Nat → Int32} {i x : Int32} (h : kk_wr n f i x = some g) : vp_in i n ∧ upd f i.toNatClampNeg x = g := by
  unfold kk_wr at h
  split at h
  · cases h
  · next h1 => exact ⟨h1, Option.some.inj h⟩
def kk_wrL (n : Nat) (f : Nat → Int64) (i : Int32) (x : Int64) : Option (Nat → Int64) := if i < 0 ∨ n ≤ i.toNatClampNeg then none else some (vp_updL f i.toNatClampNeg x)
theorem kk_wrL_ok {n : Nat} {f g : Nat → Int64} {i : Int32} {x : Int64} (h : kk_wrL n f i x = some g) : vp_in i n ∧ vp_updL f i.toNatClampNeg x = g := by
  unfold kk_wrL at h
  split at h
  · cases h
  · next h1 => exact ⟨h1, Option.some.inj h⟩
/-- a divisor -/
def kk_nz (y : Int32) : Option Unit := if y = 0 then none else some ()
theorem kk_nz_ok {y : Int32} {u : Unit} (h : kk_nz y = some u) : ¬ y = 0 := by
  unfold kk_nz at h
  split at h
  · cases h
  · next h1 => exact h1
def kk_nzL (y : Int64) : Option Unit := if y = 0 then none else some ()
theorem kk_nzL_ok {y : Int64} {u : Unit} (h : kk_nzL y = some u) : ¬ y = 0 := by
  unfold kk_nzL at h
  split at h
  · cases h
  · next h1 => exact h1
/-- an int that stands for a boolean -/
def kk_bl (y : Int32) : Option Unit := if y = 0 ∨ y = 1 then some () else none
theorem kk_bl_ok {y : Int32} {u : Unit} (h : kk_bl y = some u) : y = 0 ∨ y = 1 := by
  unfold kk_bl at h
  split at h
  · next h1 => exact h1
  · cases h
theorem kk_bl_nar {y : Int32} (h : y = 0 ∨ y = 1) : narrow .boolean (.int y) = .int y ∧ fits .boolean (.int y) = true := by
  rcases h with rfl | rfl <;> decide
abbrev kk_div (x y : Int32) : Int32 := x / y
abbrev kk_rem (x y : Int32) : Int32 := x - x / y * y
abbrev kk_remL (x y : Int64) : Int64 := x - x / y * y

def kk_rm (fr mc ms lo : Nat) : Room := { frames := fr, cells := mc, slots := ms, locals := lo }
def kk_I (l : Launch) (y : MethodName) (ws : List Cond) (fr mc ms lo : Nat) (av : List Value) (G : va_G) (cI cJ : ClassId) (ad : Nat → Nat) (WC : va_W) (r : Int32) (W1 : va_W) : Prop :=
  ∀ sz : Nat, Met l y ws (kk_rm fr mc ms lo) (kk_Pc G cI cJ ad WC sz av) (va_Qi (fun x (_ : Unit) => x = r) (fun _ t => va_P G vwCl W1 t.heap) (va_A WC sz)) mc ms (va_A WC sz)
def kk_L (l : Launch) (y : MethodName) (ws : List Cond) (fr mc ms lo : Nat) (av : List Value) (G : va_G) (cI cJ : ClassId) (ad : Nat → Nat) (WC : va_W) (r : Int64) (W1 : va_W) : Prop :=
  ∀ sz : Nat, Met l y ws (kk_rm fr mc ms lo) (kk_Pc G cI cJ ad WC sz av) (va_Ql (fun x (_ : Unit) => x = r) (fun _ t => va_P G vwCl W1 t.heap) (va_A WC sz)) mc ms (va_A WC sz)
def kk_V (l : Launch) (y : MethodName) (ws : List Cond) (fr mc ms lo : Nat) (av : List Value) (G : va_G) (cI cJ : ClassId) (ad : Nat → Nat) (WC : va_W) (W1 : va_W) : Prop :=
  ∀ sz : Nat, Met l y ws (kk_rm fr mc ms lo) (kk_Pc G cI cJ ad WC sz av) (va_Qv (fun (_ : Unit) => True) (fun _ t => va_P G vwCl W1 t.heap) (va_A WC sz)) mc ms (va_A WC sz)
/-! contracts of methods that may throw: what they answer (ok), and which exception they throw (ex), with the world behind -/
def kk_xn : Nat → String := fun k => match k with
  | 0 => "java/lang/IllegalArgumentException" | 1 => "java/lang/IllegalStateException" | _ => "java/lang/IndexOutOfBoundsException"
def kk_xc (G : va_G) (WC : va_W) (sz : Nat) (ex : Nat → va_W → Prop) : String → State → State → Prop :=
  vx_X (fun u : Nat × va_W => ex u.1 u.2) (fun E u t => E = kk_xn u.1 ∧ va_P G vwCl u.2 t.heap) (va_A WC sz)
def kk_XI (l : Launch) (y : MethodName) (ws : List Cond) (fr mc ms lo : Nat) (av : List Value) (G : va_G) (cI cJ : ClassId) (ad : Nat → Nat) (WC : va_W) (ok : Int32 → va_W → Prop) (ex : Nat → va_W → Prop) : Prop :=
  ∀ sz : Nat, vx_Met l y ws (kk_rm fr mc ms lo) (kk_Pc G cI cJ ad WC sz av) (va_Qi ok (fun u t => va_P G vwCl u t.heap) (va_A WC sz)) (kk_xc G WC sz ex) mc ms (va_A WC sz)
def kk_XL (l : Launch) (y : MethodName) (ws : List Cond) (fr mc ms lo : Nat) (av : List Value) (G : va_G) (cI cJ : ClassId) (ad : Nat → Nat) (WC : va_W) (ok : Int64 → va_W → Prop) (ex : Nat → va_W → Prop) : Prop :=
  ∀ sz : Nat, vx_Met l y ws (kk_rm fr mc ms lo) (kk_Pc G cI cJ ad WC sz av) (va_Ql ok (fun u t => va_P G vwCl u t.heap) (va_A WC sz)) (kk_xc G WC sz ex) mc ms (va_A WC sz)
def kk_XV (l : Launch) (y : MethodName) (ws : List Cond) (fr mc ms lo : Nat) (av : List Value) (G : va_G) (cI cJ : ClassId) (ad : Nat → Nat) (WC : va_W) (ok : va_W → Prop) (ex : Nat → va_W → Prop) : Prop :=
  ∀ sz : Nat, vx_Met l y ws (kk_rm fr mc ms lo) (kk_Pc G cI cJ ad WC sz av) (va_Qv ok (fun u t => va_P G vwCl u t.heap) (va_A WC sz)) (kk_xc G WC sz ex) mc ms (va_A WC sz)
section KKOF
variable {l : Launch} {y : MethodName} {ws ws' : List Cond} {fr mc ms lo : Nat} {av : List Value} {G : va_G} {cI cJ : ClassId} {ad : Nat → Nat} {WC W1 : va_W} {cc : ByteArray} {maxL : Nat}
/-- what a walk of a body is given -/
def kk_body (l : Launch) (y : MethodName) (ws : List Cond) (fr mc ms lo : Nat) (av : List Value) (G : va_G) (cI cJ : ClassId) (ad : Nat → Nat) (WC : va_W) (cc : ByteArray) (maxL : Nat)
    (End : Program → Env → State → MethodId → List Frame → Method → Code → (Nat → Prop) → (State → Prop) → Prop) : Prop :=
  ∀ (p : Program) (e : Env) (s : State) (m : MethodId) (below : List Frame) (meth : Method) (c : Code) (A : Nat → Prop) (Q : State → Prop) (ls : Array Slot) (H : Heap) (locs : List Loc),
    p.tables.exec = Jvm.exec → c.code = cc → c.maxLocals = maxL → s.vm.findClass y.cls = some m.cls → (∀ w ∈ ws, w.before av.toArray s = true) → kk_ev G cI cJ ad A s → kk_wd G A s.heap WC H locs →
    lv_has ls maxL (lv_args 0 av) → End p e s m below meth c A Q → W p l e (kk_rm fr mc ms lo) s m av.toArray below meth c H locs 0 0 Q (F0 m 0 ls [])
theorem kk_ofI {r : Int32} (hy : plainName y.cls = true) (hw : ws = Cond.code y cc maxL (some .int) :: ws') (hsl : (lg_sl av).length ≤ maxL)
    (body : kk_body l y ws fr mc ms lo av G cI cJ ad WC cc maxL (fun p e s m below meth c A Q => ∀ {H : Heap} {locs : List Loc} {pc : Nat} {ls : Array Slot} {cells slots : Nat}, decode cc pc = .ok (.ireturn, 1) → cells ≤ mc → slots ≤ ms → kk_wd G A s.heap W1 H locs → W p l e (kk_rm fr mc ms lo) s m av.toArray below meth c H locs cells slots Q (F0 m pc ls [.int r]))) :
    kk_I l y ws fr mc ms lo av G cI cJ ad WC r W1 := by
  intro sz
  refine Met.ofW (cc := cc) (maxL := maxL) (ret := some .int) hy hw ?_
  intro p e s m args below meth c s₁ B hml hv
  obtain ⟨rfl, hsz, hP, hD0, hE⟩ := hv
  subst hsz
  rw [lg_entry_eq]
  refine body p e s m below meth c (va_A WC s.heap.size) _ _ _ _ B.exec B.bytes hml (findClass_of_methodNamed B.named) (atoms_spec (ws := ws) B.pre) hE ⟨hP, hD0.self, va_S.rf, fun q h => Or.inr h⟩ (lv_entry av hsl) ?_
  intro H locs pc ls cells slots hd hc hs hwd
  refine W.widen hc hs ?_
  exact W.iret (v := r) B.exec B.bytes B.returns (fun t ht hW => ⟨⟨r, (), rfl, rfl, by dsimp only; rw [ht]; exact hwd.1⟩, hwd.2.2.1.F ht⟩) hwd.2.2.1.2.2 hd B.notSynchronized
theorem kk_ofZ {r : Int32} (hy : plainName y.cls = true) (hw : ws = Cond.code y cc maxL (some .boolean) :: ws') (hsl : (lg_sl av).length ≤ maxL)
    (body : kk_body l y ws fr mc ms lo av G cI cJ ad WC cc maxL (fun p e s m below meth c A Q => ∀ {H : Heap} {locs : List Loc} {pc : Nat} {ls : Array Slot} {cells slots : Nat}, decode cc pc = .ok (.ireturn, 1) → cells ≤ mc → slots ≤ ms → (r = 0 ∨ r = 1) → kk_wd G A s.heap W1 H locs → W p l e (kk_rm fr mc ms lo) s m av.toArray below meth c H locs cells slots Q (F0 m pc ls [.int r]))) :
    kk_I l y ws fr mc ms lo av G cI cJ ad WC r W1 := by
  intro sz
  refine Met.ofW (cc := cc) (maxL := maxL) (ret := some .boolean) hy hw ?_
  intro p e s m args below meth c s₁ B hml hv
  obtain ⟨rfl, hsz, hP, hD0, hE⟩ := hv
  subst hsz
  rw [lg_entry_eq]
  refine body p e s m below meth c (va_A WC s.heap.size) _ _ _ _ B.exec B.bytes hml (findClass_of_methodNamed B.named) (atoms_spec (ws := ws) B.pre) hE ⟨hP, hD0.self, va_S.rf, fun q h => Or.inr h⟩ (lv_entry av hsl) ?_
  intro H locs pc ls cells slots hd hc hs hb hwd
  refine W.widen hc hs ?_
  exact W.zret (v := r) B.exec B.bytes B.returns (by rcases hb with rfl | rfl <;> decide) (fun t ht hW => ⟨⟨r, (), rfl, rfl, by dsimp only; rw [ht]; exact hwd.1⟩, hwd.2.2.1.F ht⟩) hwd.2.2.1.2.2 hd B.notSynchronized
theorem kk_ofL {r : Int64} (hy : plainName y.cls = true) (hw : ws = Cond.code y cc maxL (some .long) :: ws') (hsl : (lg_sl av).length ≤ maxL)
    (body : kk_body l y ws fr mc ms lo av G cI cJ ad WC cc maxL (fun p e s m below meth c A Q => ∀ {H : Heap} {locs : List Loc} {pc : Nat} {ls : Array Slot} {cells slots : Nat}, decode cc pc = .ok (.lreturn, 1) → cells ≤ mc → slots ≤ ms → kk_wd G A s.heap W1 H locs → W p l e (kk_rm fr mc ms lo) s m av.toArray below meth c H locs cells slots Q (F0 m pc ls [.long r]))) :
    kk_L l y ws fr mc ms lo av G cI cJ ad WC r W1 := by
  intro sz
  refine Met.ofW (cc := cc) (maxL := maxL) (ret := some .long) hy hw ?_
  intro p e s m args below meth c s₁ B hml hv
  obtain ⟨rfl, hsz, hP, hD0, hE⟩ := hv
  subst hsz
  rw [lg_entry_eq]
  refine body p e s m below meth c (va_A WC s.heap.size) _ _ _ _ B.exec B.bytes hml (findClass_of_methodNamed B.named) (atoms_spec (ws := ws) B.pre) hE ⟨hP, hD0.self, va_S.rf, fun q h => Or.inr h⟩ (lv_entry av hsl) ?_
  intro H locs pc ls cells slots hd hc hs hwd
  refine W.widen hc hs ?_
  exact W.lret (v := r) B.exec B.bytes B.returns (fun t ht hW => ⟨⟨r, (), rfl, rfl, by dsimp only; rw [ht]; exact hwd.1⟩, hwd.2.2.1.F ht⟩) hwd.2.2.1.2.2 hd B.notSynchronized
theorem kk_ofV (hy : plainName y.cls = true) (hw : ws = Cond.code y cc maxL (none) :: ws') (hsl : (lg_sl av).length ≤ maxL)
    (body : kk_body l y ws fr mc ms lo av G cI cJ ad WC cc maxL (fun p e s m below meth c A Q => ∀ {H : Heap} {locs : List Loc} {pc : Nat} {ls : Array Slot} {cells slots : Nat}, decode cc pc = .ok (.return_, 1) → cells ≤ mc → slots ≤ ms → kk_wd G A s.heap W1 H locs → W p l e (kk_rm fr mc ms lo) s m av.toArray below meth c H locs cells slots Q (F0 m pc ls []))) :
    kk_V l y ws fr mc ms lo av G cI cJ ad WC W1 := by
  intro sz
  refine Met.ofW (cc := cc) (maxL := maxL) (ret := none) hy hw ?_
  intro p e s m args below meth c s₁ B hml hv
  obtain ⟨rfl, hsz, hP, hD0, hE⟩ := hv
  subst hsz
  rw [lg_entry_eq]
  refine body p e s m below meth c (va_A WC s.heap.size) _ _ _ _ B.exec B.bytes hml (findClass_of_methodNamed B.named) (atoms_spec (ws := ws) B.pre) hE ⟨hP, hD0.self, va_S.rf, fun q h => Or.inr h⟩ (lv_entry av hsl) ?_
  intro H locs pc ls cells slots hd hc hs hwd
  refine W.widen hc hs ?_
  exact W.vret B.exec B.bytes B.returns (fun t ht hW => ⟨⟨(), rfl, trivial, by dsimp only; rw [ht]; exact hwd.1⟩, hwd.2.2.1.F ht⟩) hwd.2.2.1.2.2 hd B.notSynchronized
theorem kk_ofXI {ok : Int32 → va_W → Prop} {ex : Nat → va_W → Prop} (hy : plainName y.cls = true) (hw : ws = Cond.code y cc maxL (some .int) :: ws') (hsl : (lg_sl av).length ≤ maxL)
    (body : kk_body l y ws fr mc ms lo av G cI cJ ad WC cc maxL (fun p e s m below meth c A Q =>
      (∀ {H : Heap} {locs : List Loc} {pc : Nat} {ls : Array Slot} {cells slots : Nat} {r : Int32} {W1 : va_W}, decode cc pc = .ok (.ireturn, 1) → cells ≤ mc → slots ≤ ms → kk_wd G A s.heap W1 H locs → ok r W1 → W p l e (kk_rm fr mc ms lo) s m av.toArray below meth c H locs cells slots Q (F0 m pc ls [.int r])) ∧
      (∀ {H : Heap} {locs : List Loc} {pc : Nat} {ls : Array Slot} {rest : List Value} {cells slots : Nat} {q : Addr} {ce : Cell} {k : Nat} {W1 : va_W}, cells ≤ mc → slots ≤ ms → H[q]? = some ce → ce.vm = .none → s.vm.findClass (kk_xn k) = some ce.cls → kk_wd G A s.heap W1 H locs → ex k W1 → vx_W p l e (kk_rm fr mc ms lo) s m av.toArray below meth c H locs cells slots Q (F0 m pc ls rest) q) ∧
      Q = vx_MQ below (va_Qi ok (fun u t => va_P G vwCl u t.heap) (va_A WC s.heap.size)) (kk_xc G WC s.heap.size ex) av.toArray s mc ms (va_A WC s.heap.size) ∧ A = va_A WC s.heap.size ∧ (∀ x ∈ c.exceptionTable.toList, False) ∧ meth.locks = false)) :
    kk_XI l y ws fr mc ms lo av G cI cJ ad WC ok ex := by
  intro sz
  refine vx_ofW (cc := cc) (maxL := maxL) (ret := some .int) hy hw ?_
  intro p e s m args below meth c s₁ B hml hno hv
  obtain ⟨rfl, hsz, hP, hD0, hE⟩ := hv
  subst hsz
  rw [lg_entry_eq]
  refine body p e s m below meth c (va_A WC s.heap.size) _ _ _ _ B.exec B.bytes hml (findClass_of_methodNamed B.named) (atoms_spec (ws := ws) B.pre) hE ⟨hP, hD0.self, va_S.rf, fun q h => Or.inr h⟩ (lv_entry av hsl) ⟨?_, ?_, rfl, rfl, hno, B.notSynchronized⟩
  · intro H locs pc ls cells slots r W1 hd hc hs hwd hok
    refine W.widen hc hs (vx_ret ?_)
    exact W.iret (v := r) B.exec B.bytes B.returns (fun t ht hW => ⟨⟨r, W1, rfl, hok, by dsimp only; rw [ht]; exact hwd.1⟩, hwd.2.2.1.F ht⟩) hwd.2.2.1.2.2 hd B.notSynchronized
  · intro H locs pc ls rest cells slots q ce k W1 hc hs h1 h2 h3 hwd hex
    exact vx_out (fun x hx => (hno x hx).elim) B.notSynchronized h1 h2 h3 (fun t ht hW => ⟨(k, W1), hex, ⟨rfl, by dsimp only; rw [ht]; exact hwd.1⟩, hwd.2.2.1.F ht⟩) hwd.2.2.1.2.2 hc hs
theorem kk_ofXZ {ok : Int32 → va_W → Prop} {ex : Nat → va_W → Prop} (hy : plainName y.cls = true) (hw : ws = Cond.code y cc maxL (some .boolean) :: ws') (hsl : (lg_sl av).length ≤ maxL)
    (body : kk_body l y ws fr mc ms lo av G cI cJ ad WC cc maxL (fun p e s m below meth c A Q =>
      (∀ {H : Heap} {locs : List Loc} {pc : Nat} {ls : Array Slot} {cells slots : Nat} {r : Int32} {W1 : va_W}, decode cc pc = .ok (.ireturn, 1) → cells ≤ mc → slots ≤ ms → (r = 0 ∨ r = 1) → kk_wd G A s.heap W1 H locs → ok r W1 → W p l e (kk_rm fr mc ms lo) s m av.toArray below meth c H locs cells slots Q (F0 m pc ls [.int r])) ∧
      (∀ {H : Heap} {locs : List Loc} {pc : Nat} {ls : Array Slot} {rest : List Value} {cells slots : Nat} {q : Addr} {ce : Cell} {k : Nat} {W1 : va_W}, cells ≤ mc → slots ≤ ms → H[q]? = some ce → ce.vm = .none → s.vm.findClass (kk_xn k) = some ce.cls → kk_wd G A s.heap W1 H locs → ex k W1 → vx_W p l e (kk_rm fr mc ms lo) s m av.toArray below meth c H locs cells slots Q (F0 m pc ls rest) q) ∧
      Q = vx_MQ below (va_Qi ok (fun u t => va_P G vwCl u t.heap) (va_A WC s.heap.size)) (kk_xc G WC s.heap.size ex) av.toArray s mc ms (va_A WC s.heap.size) ∧ A = va_A WC s.heap.size ∧ (∀ x ∈ c.exceptionTable.toList, False) ∧ meth.locks = false)) :
    kk_XI l y ws fr mc ms lo av G cI cJ ad WC ok ex := by
  intro sz
  refine vx_ofW (cc := cc) (maxL := maxL) (ret := some .boolean) hy hw ?_
  intro p e s m args below meth c s₁ B hml hno hv
  obtain ⟨rfl, hsz, hP, hD0, hE⟩ := hv
  subst hsz
  rw [lg_entry_eq]
  refine body p e s m below meth c (va_A WC s.heap.size) _ _ _ _ B.exec B.bytes hml (findClass_of_methodNamed B.named) (atoms_spec (ws := ws) B.pre) hE ⟨hP, hD0.self, va_S.rf, fun q h => Or.inr h⟩ (lv_entry av hsl) ⟨?_, ?_, rfl, rfl, hno, B.notSynchronized⟩
  · intro H locs pc ls cells slots r W1 hd hc hs hb hwd hok
    refine W.widen hc hs (vx_ret ?_)
    exact W.zret (v := r) B.exec B.bytes B.returns (by rcases hb with rfl | rfl <;> decide) (fun t ht hW => ⟨⟨r, W1, rfl, hok, by dsimp only; rw [ht]; exact hwd.1⟩, hwd.2.2.1.F ht⟩) hwd.2.2.1.2.2 hd B.notSynchronized
  · intro H locs pc ls rest cells slots q ce k W1 hc hs h1 h2 h3 hwd hex
    exact vx_out (fun x hx => (hno x hx).elim) B.notSynchronized h1 h2 h3 (fun t ht hW => ⟨(k, W1), hex, ⟨rfl, by dsimp only; rw [ht]; exact hwd.1⟩, hwd.2.2.1.F ht⟩) hwd.2.2.1.2.2 hc hs
theorem kk_ofXL {ok : Int64 → va_W → Prop} {ex : Nat → va_W → Prop} (hy : plainName y.cls = true) (hw : ws = Cond.code y cc maxL (some .long) :: ws') (hsl : (lg_sl av).length ≤ maxL)
    (body : kk_body l y ws fr mc ms lo av G cI cJ ad WC cc maxL (fun p e s m below meth c A Q =>
      (∀ {H : Heap} {locs : List Loc} {pc : Nat} {ls : Array Slot} {cells slots : Nat} {r : Int64} {W1 : va_W}, decode cc pc = .ok (.lreturn, 1) → cells ≤ mc → slots ≤ ms → kk_wd G A s.heap W1 H locs → ok r W1 → W p l e (kk_rm fr mc ms lo) s m av.toArray below meth c H locs cells slots Q (F0 m pc ls [.long r])) ∧
      (∀ {H : Heap} {locs : List Loc} {pc : Nat} {ls : Array Slot} {rest : List Value} {cells slots : Nat} {q : Addr} {ce : Cell} {k : Nat} {W1 : va_W}, cells ≤ mc → slots ≤ ms → H[q]? = some ce → ce.vm = .none → s.vm.findClass (kk_xn k) = some ce.cls → kk_wd G A s.heap W1 H locs → ex k W1 → vx_W p l e (kk_rm fr mc ms lo) s m av.toArray below meth c H locs cells slots Q (F0 m pc ls rest) q) ∧
      Q = vx_MQ below (va_Ql ok (fun u t => va_P G vwCl u t.heap) (va_A WC s.heap.size)) (kk_xc G WC s.heap.size ex) av.toArray s mc ms (va_A WC s.heap.size) ∧ A = va_A WC s.heap.size ∧ (∀ x ∈ c.exceptionTable.toList, False) ∧ meth.locks = false)) :
    kk_XL l y ws fr mc ms lo av G cI cJ ad WC ok ex := by
  intro sz
  refine vx_ofW (cc := cc) (maxL := maxL) (ret := some .long) hy hw ?_
  intro p e s m args below meth c s₁ B hml hno hv
  obtain ⟨rfl, hsz, hP, hD0, hE⟩ := hv
  subst hsz
  rw [lg_entry_eq]
  refine body p e s m below meth c (va_A WC s.heap.size) _ _ _ _ B.exec B.bytes hml (findClass_of_methodNamed B.named) (atoms_spec (ws := ws) B.pre) hE ⟨hP, hD0.self, va_S.rf, fun q h => Or.inr h⟩ (lv_entry av hsl) ⟨?_, ?_, rfl, rfl, hno, B.notSynchronized⟩
  · intro H locs pc ls cells slots r W1 hd hc hs hwd hok
    refine W.widen hc hs (vx_ret ?_)
    exact W.lret (v := r) B.exec B.bytes B.returns (fun t ht hW => ⟨⟨r, W1, rfl, hok, by dsimp only; rw [ht]; exact hwd.1⟩, hwd.2.2.1.F ht⟩) hwd.2.2.1.2.2 hd B.notSynchronized
  · intro H locs pc ls rest cells slots q ce k W1 hc hs h1 h2 h3 hwd hex
    exact vx_out (fun x hx => (hno x hx).elim) B.notSynchronized h1 h2 h3 (fun t ht hW => ⟨(k, W1), hex, ⟨rfl, by dsimp only; rw [ht]; exact hwd.1⟩, hwd.2.2.1.F ht⟩) hwd.2.2.1.2.2 hc hs
theorem kk_ofXV {ok : va_W → Prop} {ex : Nat → va_W → Prop} (hy : plainName y.cls = true) (hw : ws = Cond.code y cc maxL (none) :: ws') (hsl : (lg_sl av).length ≤ maxL)
    (body : kk_body l y ws fr mc ms lo av G cI cJ ad WC cc maxL (fun p e s m below meth c A Q =>
      (∀ {H : Heap} {locs : List Loc} {pc : Nat} {ls : Array Slot} {cells slots : Nat} {W1 : va_W}, decode cc pc = .ok (.return_, 1) → cells ≤ mc → slots ≤ ms → kk_wd G A s.heap W1 H locs → ok W1 → W p l e (kk_rm fr mc ms lo) s m av.toArray below meth c H locs cells slots Q (F0 m pc ls [])) ∧
      (∀ {H : Heap} {locs : List Loc} {pc : Nat} {ls : Array Slot} {rest : List Value} {cells slots : Nat} {q : Addr} {ce : Cell} {k : Nat} {W1 : va_W}, cells ≤ mc → slots ≤ ms → H[q]? = some ce → ce.vm = .none → s.vm.findClass (kk_xn k) = some ce.cls → kk_wd G A s.heap W1 H locs → ex k W1 → vx_W p l e (kk_rm fr mc ms lo) s m av.toArray below meth c H locs cells slots Q (F0 m pc ls rest) q) ∧
      Q = vx_MQ below (va_Qv ok (fun u t => va_P G vwCl u t.heap) (va_A WC s.heap.size)) (kk_xc G WC s.heap.size ex) av.toArray s mc ms (va_A WC s.heap.size) ∧ A = va_A WC s.heap.size ∧ (∀ x ∈ c.exceptionTable.toList, False) ∧ meth.locks = false)) :
    kk_XV l y ws fr mc ms lo av G cI cJ ad WC ok ex := by
  intro sz
  refine vx_ofW (cc := cc) (maxL := maxL) (ret := none) hy hw ?_
  intro p e s m args below meth c s₁ B hml hno hv
  obtain ⟨rfl, hsz, hP, hD0, hE⟩ := hv
  subst hsz
  rw [lg_entry_eq]
  refine body p e s m below meth c (va_A WC s.heap.size) _ _ _ _ B.exec B.bytes hml (findClass_of_methodNamed B.named) (atoms_spec (ws := ws) B.pre) hE ⟨hP, hD0.self, va_S.rf, fun q h => Or.inr h⟩ (lv_entry av hsl) ⟨?_, ?_, rfl, rfl, hno, B.notSynchronized⟩
  · intro H locs pc ls cells slots W1 hd hc hs hwd hok
    refine W.widen hc hs (vx_ret ?_)
    exact W.vret B.exec B.bytes B.returns (fun t ht hW => ⟨⟨W1, rfl, hok, by dsimp only; rw [ht]; exact hwd.1⟩, hwd.2.2.1.F ht⟩) hwd.2.2.1.2.2 hd B.notSynchronized
  · intro H locs pc ls rest cells slots q ce k W1 hc hs h1 h2 h3 hwd hex
    exact vx_out (fun x hx => (hno x hx).elim) B.notSynchronized h1 h2 h3 (fun t ht hW => ⟨(k, W1), hex, ⟨rfl, by dsimp only; rw [ht]; exact hwd.1⟩, hwd.2.2.1.F ht⟩) hwd.2.2.1.2.2 hc hs
end KKOF
section KKRUN
variable {p : Program} {l : Launch} {e : Env} {R : Room} {s : State} {m : MethodId} {args : Array Value} {below : List Frame} {meth : Method} {c : Code} {H : Heap} {locs : List Loc} {cells slots : Nat} {Q : State → Prop}
variable {G : va_G} {cI cJ : ClassId} {ad : Nat → Nat} {A : Nat → Prop} {ws WC W1 : va_W} {Ts wsY ws' : List Cond} {cc bytes : ByteArray} {nL maxL index n fr mc ms lo pc : Nat} {own C : String} {y : MethodName} {ret : Option FieldType} {b : Addr} {As rest st : List Value} {ls : Array Slot} {Qc : Array Value → State → Outcome → State → Prop} {XC : String → State → State → Prop}
/-- what a call is given of the caller: the machine, the tables -/
def kk_at (p : Program) (m : MethodId) (c : Code) (cc : ByteArray) (nL : Nat) (s : State) (args : Array Value) (Ts : List Cond) (own : String) (G : va_G) (cI cJ : ClassId) (ad : Nat → Nat) (A : Nat → Prop) : Prop :=
  CallFix p m c cc nL s args Ts own ∧ kk_ev G cI cJ ad A s
theorem kk_fm {ws : va_W} : ∀ (is : List Nat) (WC : va_W), is.map (fun i => ws[i]?) = WC.map some → is.filterMap (fun i => ws[i]?) = WC
  | [], WC, h => by cases WC with | nil => rfl | cons a w => cases h
  | i :: is, WC, h => by
    cases WC with
    | nil => cases h
    | cons a w =>
      simp only [List.map_cons, List.cons.injEq] at h
      rw [List.filterMap_cons, h.1]
      simp only [kk_fm is w h.2]
theorem kk_pre (F : kk_at p m c cc nL s args Ts own G cI cJ ad A) (hw : kk_wd G A s.heap ws H locs) (is : List Nat) (hn : va_nd is = true) (hC : is.map (fun i => ws[i]?) = WC.map some) (av : List Value) :
    ∀ U : State, U.heap = H → s.WarmedH U.vm → kk_Pc G cI cJ ad WC H.size av av.toArray U := by
  intro U hU hW
  have hP : va_P G vwCl WC H := hw.1.sub is (kk_fm is WC hC)
  exact ⟨rfl, by rw [hU], by rw [hU]; exact hP, (hw.2.1.sub is hn hC).weaken (fun _ _ _ _ => trivial), F.2.call hw.2.2.1 (kk_free hw is hC) hU hW⟩
theorem kk_runV (F : kk_at p m c cc nL s args Ts own G cI cJ ad A) (hw : kk_wd G A s.heap ws H locs) (hls : ls.size = nL) (hM : Met l y wsY (kk_rm fr mc ms lo) (kk_Pc G cI cJ ad WC H.size (.ref b :: As)) Qc mc ms (va_A WC H.size)) (hG : GoodIn Ts (wsV own index C y wsY)) (hwY : wsY = Cond.code y bytes maxL ret :: ws') (hd : y.cls = C ∧ y.cls ≠ "java/lang/invoke/MethodHandle" ∧ y.cls ≠ "java/lang/invoke/VarHandle" ∧ (parseMethodDescriptor y.desc).map (fun d => d.parameters.length) = some As.length) (hR : fr + 1 ≤ R.frames ∧ 8 + (maxL + 11) + lo ≤ R.locals) (hcs : cells + mc ≤ R.cells ∧ slots + ms ≤ R.slots) (q0 ci : Nat) {fs : List Value} {q : vw_C} (hr0 : vwCl[ci]? = some q) (hq1 : q.1 = C) (hr1 : ws[q0]? = some (b, .inr (ci, fs))) 
    (hst : st = As.reverse ++ .ref b :: rest) (hrest : (rest.map fun v => v.category).sum ≤ 8) (hdg : decode cc pc = .ok (.invokevirtual index, 3)) :
    ∀ (is : List Nat), va_nd is = true → is.map (fun i => ws[i]?) = WC.map some → va_Run p l e R s m args below meth c H locs cells slots mc ms (F0 m pc ls st) rest (Qc (Value.ref b :: As).toArray) (va_A WC H.size) := by
  subst hq1
  intro is hnd hC
  have hts := F.1.2.2.2.2
  exact va_runV (As := As) (rest := rest) F.1 hM (cwV As.length hts hG hwY rfl rfl hd hR) ⟨kk_blind, va_recv F.2.1 hw.1 hr0 hr1, kk_pre F hw is hnd hC _⟩ rfl rfl hls hst (lv_room hrest) hdg hcs
theorem kk_runN {host : String} (F : kk_at p m c cc nL s args Ts own G cI cJ ad A) (hw : kk_wd G A s.heap ws H locs) (hls : ls.size = nL) (hM : Met l y wsY (kk_rm fr mc ms lo) (kk_Pc G cI cJ ad WC H.size (.ref b :: As)) Qc mc ms (va_A WC H.size)) (hG : GoodIn Ts wsY) (hwY : wsY = Cond.code y bytes maxL ret :: ws') (hnest : Cond.methodLinkNest own index y host ∈ kk_nl) (hini : Cond.initialized y.cls ∈ Ts) (hins : Cond.instanceMethod y ∈ Ts) (hsel : Cond.selects C y y ∈ Ts) (hd : y.cls ≠ "java/lang/invoke/MethodHandle" ∧ y.cls ≠ "java/lang/invoke/VarHandle" ∧ (parseMethodDescriptor y.desc).map (fun d => d.parameters.length) = some As.length) (hR : fr + 1 ≤ R.frames ∧ 8 + (maxL + 11) + lo ≤ R.locals) (hcs : cells + mc ≤ R.cells ∧ slots + ms ≤ R.slots) (q0 ci : Nat) {fs : List Value} {q : vw_C} (hr0 : vwCl[ci]? = some q) (hq1 : q.1 = C) (hr1 : ws[q0]? = some (b, .inr (ci, fs))) 
    (hst : st = As.reverse ++ .ref b :: rest) (hrest : (rest.map fun v => v.category).sum ≤ 8) (hdg : decode cc pc = .ok (.invokevirtual index, 3)) :
    ∀ (is : List Nat), va_nd is = true → is.map (fun i => ws[i]?) = WC.map some → va_Run p l e R s m args below meth c H locs cells slots mc ms (F0 m pc ls st) rest (Qc (Value.ref b :: As).toArray) (va_A WC H.size) := by
  subst hq1
  intro is hnd hC
  have hts := F.1.2.2.2.2
  exact va_runVN (As := As) (rest := rest) F.1 hM ⟨va_cnB As.length hts hG hwY rfl rfl (F.2.2.1 _ hnest) (hts _ hini) hd hR, hts _ hins, hts _ hsel⟩ ⟨kk_blind, va_recv F.2.1 hw.1 hr0 hr1, kk_pre F hw is hnd hC _⟩ rfl rfl hls hst (lv_room hrest) hdg hcs
theorem kk_runH {host : String} {k : Nat} (F : kk_at p m c cc nL s args Ts own G cI cJ ad A) (hw : kk_wd G A s.heap ws H locs) (hls : ls.size = nL) (hk : k < 6) (hM : Met l y wsY (kk_rm fr mc ms lo) (kk_Pc G cI cJ ad [] H.size (.ref (ad k) :: As)) Qc mc ms (va_A [] H.size)) (hG : GoodIn Ts wsY) (hwY : wsY = Cond.code y bytes maxL ret :: ws') (hnest : Cond.methodLinkNest own index y host ∈ kk_nl) (hini : Cond.initialized y.cls ∈ Ts) (hins : Cond.instanceMethod y ∈ Ts) (hsel : Cond.selects "PerfectPew$Hash" y y ∈ Ts) (hd : y.cls ≠ "java/lang/invoke/MethodHandle" ∧ y.cls ≠ "java/lang/invoke/VarHandle" ∧ (parseMethodDescriptor y.desc).map (fun d => d.parameters.length) = some As.length) (hR : fr + 1 ≤ R.frames ∧ 8 + (maxL + 11) + lo ≤ R.locals) (hcs : cells + mc ≤ R.cells ∧ slots + ms ≤ R.slots) 
    (hst : st = As.reverse ++ .ref (ad k) :: rest) (hrest : (rest.map fun v => v.category).sum ≤ 8) (hdg : decode cc pc = .ok (.invokevirtual index, 3)) :
    va_Run p l e R s m args below meth c H locs cells slots mc ms (F0 m pc ls st) rest (Qc (Value.ref (ad k) :: As).toArray) (va_A [] H.size) := by
  have hts := F.1.2.2.2.2
  obtain ⟨cell, h1, h2, h3, -⟩ := (F.2.2.2.1 k hk).2.1.kept hw.2.2.1.2.1
  exact va_runVN (As := As) (rest := rest) F.1 hM ⟨va_cnB As.length hts hG hwY rfl rfl (F.2.2.1 _ hnest) (hts _ hini) hd hR, hts _ hins, hts _ hsel⟩ ⟨kk_blind, ⟨cell, h1, h2, h3⟩, kk_pre F hw [] rfl rfl _⟩ rfl rfl hls hst (lv_room hrest) hdg hcs
theorem kk_runS (F : kk_at p m c cc nL s args Ts own G cI cJ ad A) (hw : kk_wd G A s.heap ws H locs) (hls : ls.size = nL) (hM : Met l y wsY (kk_rm fr mc ms lo) (kk_Pc G cI cJ ad WC H.size As) Qc mc ms (va_A WC H.size)) (hG : GoodIn Ts (va_wsS own index y wsY)) (hwY : wsY = Cond.code y bytes maxL ret :: ws') (hd : y.cls ≠ "java/lang/invoke/MethodHandle" ∧ y.cls ≠ "java/lang/invoke/VarHandle" ∧ (parseMethodDescriptor y.desc).map (fun d => d.parameters.length) = some As.length) (hR : fr + 1 ≤ R.frames ∧ 8 + (maxL + 11) + lo ≤ R.locals) (hcs : cells + mc ≤ R.cells ∧ slots + ms ≤ R.slots) 
    (hst : st = As.reverse ++ rest) (hrest : (rest.map fun v => v.category).sum ≤ 8) (hdg : decode cc pc = .ok (.invokestatic index, 3)) :
    ∀ (is : List Nat), va_nd is = true → is.map (fun i => ws[i]?) = WC.map some → va_Run p l e R s m args below meth c H locs cells slots mc ms (F0 m pc ls st) rest (Qc As.toArray) (va_A WC H.size) := by
  intro is hnd hC
  have hts := F.1.2.2.2.2
  exact va_runS (As := As) (rest := rest) F.1 hM (va_cwS As.length hts hG hwY rfl rfl hd hR) ⟨kk_blind, kk_pre F hw is hnd hC _⟩ rfl rfl hls hst (lv_room hrest) hdg hcs
theorem kk_runSN {host : String} (F : kk_at p m c cc nL s args Ts own G cI cJ ad A) (hw : kk_wd G A s.heap ws H locs) (hls : ls.size = nL) (hM : Met l y wsY (kk_rm fr mc ms lo) (kk_Pc G cI cJ ad WC H.size As) Qc mc ms (va_A WC H.size)) (hG : GoodIn Ts wsY) (hwY : wsY = Cond.code y bytes maxL ret :: ws') (hnest : Cond.methodLinkNest own index y host ∈ kk_nl) (hini : Cond.initialized y.cls ∈ Ts) (hsta : Cond.static y ∈ Ts) (hd : y.cls ≠ "java/lang/invoke/MethodHandle" ∧ y.cls ≠ "java/lang/invoke/VarHandle" ∧ (parseMethodDescriptor y.desc).map (fun d => d.parameters.length) = some As.length) (hR : fr + 1 ≤ R.frames ∧ 8 + (maxL + 11) + lo ≤ R.locals) (hcs : cells + mc ≤ R.cells ∧ slots + ms ≤ R.slots) 
    (hst : st = As.reverse ++ rest) (hrest : (rest.map fun v => v.category).sum ≤ 8) (hdg : decode cc pc = .ok (.invokestatic index, 3)) :
    ∀ (is : List Nat), va_nd is = true → is.map (fun i => ws[i]?) = WC.map some → va_Run p l e R s m args below meth c H locs cells slots mc ms (F0 m pc ls st) rest (Qc As.toArray) (va_A WC H.size) := by
  intro is hnd hC
  have hts := F.1.2.2.2.2
  exact va_runSN (As := As) (rest := rest) F.1 hM ⟨va_cnB As.length hts hG hwY rfl rfl (F.2.2.1 _ hnest) (hts _ hini) hd hR, hts _ hsta, trivial⟩ ⟨kk_blind, kk_pre F hw is hnd hC _⟩ rfl rfl hls hst (lv_room hrest) hdg hcs
theorem kk_xrunV (F : kk_at p m c cc nL s args Ts own G cI cJ ad A) (hw : kk_wd G A s.heap ws H locs) (hls : ls.size = nL) (hM : vx_Met l y wsY (kk_rm fr mc ms lo) (kk_Pc G cI cJ ad WC H.size (.ref b :: As)) Qc XC mc ms (va_A WC H.size)) (hG : GoodIn Ts (wsV own index C y wsY)) (hwY : wsY = Cond.code y bytes maxL ret :: ws') (hd : y.cls = C ∧ y.cls ≠ "java/lang/invoke/MethodHandle" ∧ y.cls ≠ "java/lang/invoke/VarHandle" ∧ (parseMethodDescriptor y.desc).map (fun d => d.parameters.length) = some As.length) (hR : fr + 1 ≤ R.frames ∧ 8 + (maxL + 11) + lo ≤ R.locals) (hcs : cells + mc ≤ R.cells ∧ slots + ms ≤ R.slots) (q0 ci : Nat) {fs : List Value} {q : vw_C} (hr0 : vwCl[ci]? = some q) (hq1 : q.1 = C) (hr1 : ws[q0]? = some (b, .inr (ci, fs))) 
    (hst : st = As.reverse ++ .ref b :: rest) (hrest : (rest.map fun v => v.category).sum ≤ 8) (hdg : decode cc pc = .ok (.invokevirtual index, 3)) :
    ∀ (is : List Nat), va_nd is = true → is.map (fun i => ws[i]?) = WC.map some → vx_Run p l e R s m args below meth c H locs cells slots mc ms (F0 m pc ls st) rest (Qc (Value.ref b :: As).toArray) XC (va_A WC H.size) := by
  subst hq1
  intro is hnd hC
  have hts := F.1.2.2.2.2
  exact vx_runV (As := As) (rest := rest) F.1 hM (cwV As.length hts hG hwY rfl rfl hd hR) ⟨kk_blind, va_recv F.2.1 hw.1 hr0 hr1, kk_pre F hw is hnd hC _⟩ rfl rfl hls hst (lv_room hrest) hdg hcs
theorem kk_xrunS (F : kk_at p m c cc nL s args Ts own G cI cJ ad A) (hw : kk_wd G A s.heap ws H locs) (hls : ls.size = nL) (hM : vx_Met l y wsY (kk_rm fr mc ms lo) (kk_Pc G cI cJ ad WC H.size As) Qc XC mc ms (va_A WC H.size)) (hG : GoodIn Ts (va_wsS own index y wsY)) (hwY : wsY = Cond.code y bytes maxL ret :: ws') (hd : y.cls ≠ "java/lang/invoke/MethodHandle" ∧ y.cls ≠ "java/lang/invoke/VarHandle" ∧ (parseMethodDescriptor y.desc).map (fun d => d.parameters.length) = some As.length) (hR : fr + 1 ≤ R.frames ∧ 8 + (maxL + 11) + lo ≤ R.locals) (hcs : cells + mc ≤ R.cells ∧ slots + ms ≤ R.slots) 
    (hst : st = As.reverse ++ rest) (hrest : (rest.map fun v => v.category).sum ≤ 8) (hdg : decode cc pc = .ok (.invokestatic index, 3)) :
    ∀ (is : List Nat), va_nd is = true → is.map (fun i => ws[i]?) = WC.map some → vx_Run p l e R s m args below meth c H locs cells slots mc ms (F0 m pc ls st) rest (Qc As.toArray) XC (va_A WC H.size) := by
  intro is hnd hC
  have hts := F.1.2.2.2.2
  exact vx_runS (As := As) (rest := rest) F.1 hM (va_cwS As.length hts hG hwY rfl rfl hd hR) ⟨kk_blind, kk_pre F hw is hnd hC _⟩ rfl rfl hls hst (lv_room hrest) hdg hcs
variable {a : Array Value}
theorem kk_callI {r : Int32} (k1 k2 : Nat) (hw : kk_wd G A s.heap ws H locs)
    (hr : ∀ (is : List Nat), va_nd is = true → is.map (fun i => ws[i]?) = WC.map some → va_Run p l e R s m args below meth c H locs cells slots mc ms (F0 m pc ls st) rest (va_Qi (fun x (_ : Unit) => x = r) (fun _ t => va_P G vwCl W1 t.heap) (va_A WC H.size) a) (va_A WC H.size))
    (hk : cells + mc = k1 ∧ slots + ms = k2) (is : List Nat) (hnd : va_nd is = true) (hC : is.map (fun i => ws[i]?) = WC.map some) (ha : W1.map (fun q => q.1) = WC.map (fun q => q.1))
    (kk : ∀ (H1 : Heap) (locs1 : List Loc), kk_wd G A s.heap (kk_puts ws is W1) H1 locs1 → W p l e R s m args below meth c H1 locs1 k1 k2 Q (F0 m (pc + 3) ls (.int r :: rest))) : W p l e R s m args below meth c H locs cells slots Q (F0 m pc ls st) := by
  have hF := kk_free hw is hC
  obtain ⟨rfl, rfl⟩ := hk
  refine va_calli (hr is hnd hC) hw.2.2.1 (fun q _ h => hF q h) hF (fun x u t H1 locs1 ht hvm hw1 hB hz1 hk1 hS1 => ?_)
  subst hw1
  rw [ht] at hB
  obtain ⟨h1, h2⟩ := kk_puts_ok hw.1 hw.2.1 is hnd hC ha hk1 hB
  exact kk H1 locs1 ⟨h1, h2, hS1, hw.2.2.2⟩
theorem kk_callL {r : Int64} (k1 k2 : Nat) (hw : kk_wd G A s.heap ws H locs)
    (hr : ∀ (is : List Nat), va_nd is = true → is.map (fun i => ws[i]?) = WC.map some → va_Run p l e R s m args below meth c H locs cells slots mc ms (F0 m pc ls st) rest (va_Ql (fun x (_ : Unit) => x = r) (fun _ t => va_P G vwCl W1 t.heap) (va_A WC H.size) a) (va_A WC H.size))
    (hk : cells + mc = k1 ∧ slots + ms = k2) (is : List Nat) (hnd : va_nd is = true) (hC : is.map (fun i => ws[i]?) = WC.map some) (ha : W1.map (fun q => q.1) = WC.map (fun q => q.1))
    (kk : ∀ (H1 : Heap) (locs1 : List Loc), kk_wd G A s.heap (kk_puts ws is W1) H1 locs1 → W p l e R s m args below meth c H1 locs1 k1 k2 Q (F0 m (pc + 3) ls (.long r :: rest))) : W p l e R s m args below meth c H locs cells slots Q (F0 m pc ls st) := by
  have hF := kk_free hw is hC
  obtain ⟨rfl, rfl⟩ := hk
  refine va_calll (hr is hnd hC) hw.2.2.1 (fun q _ h => hF q h) hF (fun x u t H1 locs1 ht hvm hw1 hB hz1 hk1 hS1 => ?_)
  subst hw1
  rw [ht] at hB
  obtain ⟨h1, h2⟩ := kk_puts_ok hw.1 hw.2.1 is hnd hC ha hk1 hB
  exact kk H1 locs1 ⟨h1, h2, hS1, hw.2.2.2⟩
theorem kk_callV (k1 k2 : Nat) (hw : kk_wd G A s.heap ws H locs)
    (hr : ∀ (is : List Nat), va_nd is = true → is.map (fun i => ws[i]?) = WC.map some → va_Run p l e R s m args below meth c H locs cells slots mc ms (F0 m pc ls st) rest (va_Qv (fun (_ : Unit) => True) (fun _ t => va_P G vwCl W1 t.heap) (va_A WC H.size) a) (va_A WC H.size))
    (hk : cells + mc = k1 ∧ slots + ms = k2) (is : List Nat) (hnd : va_nd is = true) (hC : is.map (fun i => ws[i]?) = WC.map some) (ha : W1.map (fun q => q.1) = WC.map (fun q => q.1))
    (kk : ∀ (H1 : Heap) (locs1 : List Loc), kk_wd G A s.heap (kk_puts ws is W1) H1 locs1 → W p l e R s m args below meth c H1 locs1 k1 k2 Q (F0 m (pc + 3) ls rest)) : W p l e R s m args below meth c H locs cells slots Q (F0 m pc ls st) := by
  have hF := kk_free hw is hC
  obtain ⟨rfl, rfl⟩ := hk
  refine va_callv (hr is hnd hC) hw.2.2.1 (fun q _ h => hF q h) hF (fun u t H1 locs1 ht hvm hw1 hB hz1 hk1 hS1 => ?_)
  clear hw1
  rw [ht] at hB
  obtain ⟨h1, h2⟩ := kk_puts_ok hw.1 hw.2.1 is hnd hC ha hk1 hB
  exact kk H1 locs1 ⟨h1, h2, hS1, hw.2.2.2⟩
/-- a constant of Hash answers -/
theorem kk_callH {r : Int32} (k1 k2 : Nat) (hw : kk_wd G A s.heap ws H locs)
    (hr : va_Run p l e R s m args below meth c H locs cells slots mc ms (F0 m pc ls st) rest (va_Qi (fun x (_ : Unit) => x = r) (fun _ t => va_P G vwCl [] t.heap) (va_A [] H.size) a) (va_A [] H.size))
    (hk : cells + mc = k1 ∧ slots + ms = k2)
    (kk : ∀ (H1 : Heap) (locs1 : List Loc), kk_wd G A s.heap ws H1 locs1 → W p l e R s m args below meth c H1 locs1 k1 k2 Q (F0 m (pc + 3) ls (.int r :: rest))) : W p l e R s m args below meth c H locs cells slots Q (F0 m pc ls st) :=
  kk_callI (WC := []) (W1 := []) k1 k2 hw (fun is hnd hC => by
    cases is with
    | nil => exact hr
    | cons i is => cases hC) hk [] rfl rfl rfl kk
theorem kk_xcallRI {ok : Int32 → va_W → Prop} {ex : Nat → va_W → Prop} {r : Int32} (k1 k2 : Nat) (hw : kk_wd G A s.heap ws H locs)
    (hr : ∀ (is : List Nat), va_nd is = true → is.map (fun i => ws[i]?) = WC.map some → vx_Run p l e R s m args below meth c H locs cells slots mc ms (F0 m pc ls st) rest (va_Qi ok (fun u t => va_P G vwCl u t.heap) (va_A WC H.size) a) (kk_xc G WC H.size ex) (va_A WC H.size))
    (hk : cells + mc = k1 ∧ slots + ms = k2) (is : List Nat) (hnd : va_nd is = true) (hC : is.map (fun i => ws[i]?) = WC.map some) (ha : W1.map (fun q => q.1) = WC.map (fun q => q.1))
    (hno : ∀ k W2, ex k W2 → False) (hok : ∀ r1 W2, ok r1 W2 → r1 = r ∧ W2 = W1)
    (kk : ∀ (H1 : Heap) (locs1 : List Loc), kk_wd G A s.heap (kk_puts ws is W1) H1 locs1 → W p l e R s m args below meth c H1 locs1 k1 k2 Q (F0 m (pc + 3) ls (.int r :: rest))) : W p l e R s m args below meth c H locs cells slots Q (F0 m pc ls st) := by
  have hF := kk_free hw is hC
  obtain ⟨rfl, rfl⟩ := hk
  refine vx_calli (hr is hnd hC) hw.2.2.1 (fun q _ h => hF q h) hF (fun q _ h => hF q h) (fun E ce q9 u t H1 locs1 ht hvm hp hB hz1 hk1 hS1 h1 h2 h3 => (hno _ _ hp).elim) (fun r1 u t H1 locs1 ht hvm hw1 hB hz1 hk1 hS1 => ?_)
  obtain ⟨rfl, rfl⟩ := hok _ _ hw1
  rw [ht] at hB
  obtain ⟨h1, h2⟩ := kk_puts_ok hw.1 hw.2.1 is hnd hC ha hk1 hB
  exact kk H1 locs1 ⟨h1, h2, hS1, hw.2.2.2⟩
theorem kk_xcallXI {ok : Int32 → va_W → Prop} {ex : Nat → va_W → Prop} {k : Nat} (k1 k2 : Nat) (hw : kk_wd G A s.heap ws H locs)
    (hr : ∀ (is : List Nat), va_nd is = true → is.map (fun i => ws[i]?) = WC.map some → vx_Run p l e R s m args below meth c H locs cells slots mc ms (F0 m pc ls st) rest (va_Qi ok (fun u t => va_P G vwCl u t.heap) (va_A WC H.size) a) (kk_xc G WC H.size ex) (va_A WC H.size))
    (hk : cells + mc = k1 ∧ slots + ms = k2) (is : List Nat) (hnd : va_nd is = true) (hC : is.map (fun i => ws[i]?) = WC.map some) (ha : W1.map (fun q => q.1) = WC.map (fun q => q.1))
    (hno : ∀ r1 W2, ok r1 W2 → False) (hex : ∀ k2 W2, ex k2 W2 → k2 = k ∧ W2 = W1)
    (kx : ∀ (H1 : Heap) (locs1 : List Loc) (q9 : Addr) (ce : Cell), kk_wd G A s.heap (kk_puts ws is W1) H1 locs1 → H1[q9]? = some ce → ce.vm = .none → s.vm.findClass (kk_xn k) = some ce.cls → vx_W p l e R s m args below meth c H1 locs1 k1 k2 Q (F0 m pc ls rest) q9) : W p l e R s m args below meth c H locs cells slots Q (F0 m pc ls st) := by
  have hF := kk_free hw is hC
  obtain ⟨rfl, rfl⟩ := hk
  refine vx_calli (hr is hnd hC) hw.2.2.1 (fun q _ h => hF q h) hF (fun q _ h => hF q h) (fun E ce q9 u t H1 locs1 ht hvm hp hB hz1 hk1 hS1 h1 h2 h3 => ?_) (fun r1 u t H1 locs1 ht hvm hw1 hB hz1 hk1 hS1 => (hno _ _ hw1).elim)
  obtain ⟨k9, w9⟩ := u
  obtain ⟨rfl, rfl⟩ := hex _ _ hp
  obtain ⟨rfl, hB⟩ := hB
  rw [ht] at hB
  obtain ⟨g1, g2⟩ := kk_puts_ok hw.1 hw.2.1 is hnd hC ha hk1 hB
  exact kx H1 locs1 q9 ce ⟨g1, g2, hS1, hw.2.2.2⟩ h1 h2 h3
theorem kk_xcallRL {ok : Int64 → va_W → Prop} {ex : Nat → va_W → Prop} {r : Int64} (k1 k2 : Nat) (hw : kk_wd G A s.heap ws H locs)
    (hr : ∀ (is : List Nat), va_nd is = true → is.map (fun i => ws[i]?) = WC.map some → vx_Run p l e R s m args below meth c H locs cells slots mc ms (F0 m pc ls st) rest (va_Ql ok (fun u t => va_P G vwCl u t.heap) (va_A WC H.size) a) (kk_xc G WC H.size ex) (va_A WC H.size))
    (hk : cells + mc = k1 ∧ slots + ms = k2) (is : List Nat) (hnd : va_nd is = true) (hC : is.map (fun i => ws[i]?) = WC.map some) (ha : W1.map (fun q => q.1) = WC.map (fun q => q.1))
    (hno : ∀ k W2, ex k W2 → False) (hok : ∀ r1 W2, ok r1 W2 → r1 = r ∧ W2 = W1)
    (kk : ∀ (H1 : Heap) (locs1 : List Loc), kk_wd G A s.heap (kk_puts ws is W1) H1 locs1 → W p l e R s m args below meth c H1 locs1 k1 k2 Q (F0 m (pc + 3) ls (.long r :: rest))) : W p l e R s m args below meth c H locs cells slots Q (F0 m pc ls st) := by
  have hF := kk_free hw is hC
  obtain ⟨rfl, rfl⟩ := hk
  refine vx_calll (hr is hnd hC) hw.2.2.1 (fun q _ h => hF q h) hF (fun q _ h => hF q h) (fun E ce q9 u t H1 locs1 ht hvm hp hB hz1 hk1 hS1 h1 h2 h3 => (hno _ _ hp).elim) (fun r1 u t H1 locs1 ht hvm hw1 hB hz1 hk1 hS1 => ?_)
  obtain ⟨rfl, rfl⟩ := hok _ _ hw1
  rw [ht] at hB
  obtain ⟨h1, h2⟩ := kk_puts_ok hw.1 hw.2.1 is hnd hC ha hk1 hB
  exact kk H1 locs1 ⟨h1, h2, hS1, hw.2.2.2⟩
theorem kk_xcallXL {ok : Int64 → va_W → Prop} {ex : Nat → va_W → Prop} {k : Nat} (k1 k2 : Nat) (hw : kk_wd G A s.heap ws H locs)
    (hr : ∀ (is : List Nat), va_nd is = true → is.map (fun i => ws[i]?) = WC.map some → vx_Run p l e R s m args below meth c H locs cells slots mc ms (F0 m pc ls st) rest (va_Ql ok (fun u t => va_P G vwCl u t.heap) (va_A WC H.size) a) (kk_xc G WC H.size ex) (va_A WC H.size))
    (hk : cells + mc = k1 ∧ slots + ms = k2) (is : List Nat) (hnd : va_nd is = true) (hC : is.map (fun i => ws[i]?) = WC.map some) (ha : W1.map (fun q => q.1) = WC.map (fun q => q.1))
    (hno : ∀ r1 W2, ok r1 W2 → False) (hex : ∀ k2 W2, ex k2 W2 → k2 = k ∧ W2 = W1)
    (kx : ∀ (H1 : Heap) (locs1 : List Loc) (q9 : Addr) (ce : Cell), kk_wd G A s.heap (kk_puts ws is W1) H1 locs1 → H1[q9]? = some ce → ce.vm = .none → s.vm.findClass (kk_xn k) = some ce.cls → vx_W p l e R s m args below meth c H1 locs1 k1 k2 Q (F0 m pc ls rest) q9) : W p l e R s m args below meth c H locs cells slots Q (F0 m pc ls st) := by
  have hF := kk_free hw is hC
  obtain ⟨rfl, rfl⟩ := hk
  refine vx_calll (hr is hnd hC) hw.2.2.1 (fun q _ h => hF q h) hF (fun q _ h => hF q h) (fun E ce q9 u t H1 locs1 ht hvm hp hB hz1 hk1 hS1 h1 h2 h3 => ?_) (fun r1 u t H1 locs1 ht hvm hw1 hB hz1 hk1 hS1 => (hno _ _ hw1).elim)
  obtain ⟨k9, w9⟩ := u
  obtain ⟨rfl, rfl⟩ := hex _ _ hp
  obtain ⟨rfl, hB⟩ := hB
  rw [ht] at hB
  obtain ⟨g1, g2⟩ := kk_puts_ok hw.1 hw.2.1 is hnd hC ha hk1 hB
  exact kx H1 locs1 q9 ce ⟨g1, g2, hS1, hw.2.2.2⟩ h1 h2 h3
theorem kk_xcallRV {ok : va_W → Prop} {ex : Nat → va_W → Prop} (k1 k2 : Nat) (hw : kk_wd G A s.heap ws H locs)
    (hr : ∀ (is : List Nat), va_nd is = true → is.map (fun i => ws[i]?) = WC.map some → vx_Run p l e R s m args below meth c H locs cells slots mc ms (F0 m pc ls st) rest (va_Qv ok (fun u t => va_P G vwCl u t.heap) (va_A WC H.size) a) (kk_xc G WC H.size ex) (va_A WC H.size))
    (hk : cells + mc = k1 ∧ slots + ms = k2) (is : List Nat) (hnd : va_nd is = true) (hC : is.map (fun i => ws[i]?) = WC.map some) (ha : W1.map (fun q => q.1) = WC.map (fun q => q.1))
    (hno : ∀ k W2, ex k W2 → False) (hok : ∀ W2, ok W2 → W2 = W1)
    (kk : ∀ (H1 : Heap) (locs1 : List Loc), kk_wd G A s.heap (kk_puts ws is W1) H1 locs1 → W p l e R s m args below meth c H1 locs1 k1 k2 Q (F0 m (pc + 3) ls rest)) : W p l e R s m args below meth c H locs cells slots Q (F0 m pc ls st) := by
  have hF := kk_free hw is hC
  obtain ⟨rfl, rfl⟩ := hk
  refine vx_callv (hr is hnd hC) hw.2.2.1 (fun q _ h => hF q h) hF (fun q _ h => hF q h) (fun E ce q9 u t H1 locs1 ht hvm hp hB hz1 hk1 hS1 h1 h2 h3 => (hno _ _ hp).elim) (fun u t H1 locs1 ht hvm hw1 hB hz1 hk1 hS1 => ?_)
  obtain rfl := hok _ hw1
  rw [ht] at hB
  obtain ⟨h1, h2⟩ := kk_puts_ok hw.1 hw.2.1 is hnd hC ha hk1 hB
  exact kk H1 locs1 ⟨h1, h2, hS1, hw.2.2.2⟩
theorem kk_xcallXV {ok : va_W → Prop} {ex : Nat → va_W → Prop} {k : Nat} (k1 k2 : Nat) (hw : kk_wd G A s.heap ws H locs)
    (hr : ∀ (is : List Nat), va_nd is = true → is.map (fun i => ws[i]?) = WC.map some → vx_Run p l e R s m args below meth c H locs cells slots mc ms (F0 m pc ls st) rest (va_Qv ok (fun u t => va_P G vwCl u t.heap) (va_A WC H.size) a) (kk_xc G WC H.size ex) (va_A WC H.size))
    (hk : cells + mc = k1 ∧ slots + ms = k2) (is : List Nat) (hnd : va_nd is = true) (hC : is.map (fun i => ws[i]?) = WC.map some) (ha : W1.map (fun q => q.1) = WC.map (fun q => q.1))
    (hno : ∀ W2, ok W2 → False) (hex : ∀ k2 W2, ex k2 W2 → k2 = k ∧ W2 = W1)
    (kx : ∀ (H1 : Heap) (locs1 : List Loc) (q9 : Addr) (ce : Cell), kk_wd G A s.heap (kk_puts ws is W1) H1 locs1 → H1[q9]? = some ce → ce.vm = .none → s.vm.findClass (kk_xn k) = some ce.cls → vx_W p l e R s m args below meth c H1 locs1 k1 k2 Q (F0 m pc ls rest) q9) : W p l e R s m args below meth c H locs cells slots Q (F0 m pc ls st) := by
  have hF := kk_free hw is hC
  obtain ⟨rfl, rfl⟩ := hk
  refine vx_callv (hr is hnd hC) hw.2.2.1 (fun q _ h => hF q h) hF (fun q _ h => hF q h) (fun E ce q9 u t H1 locs1 ht hvm hp hB hz1 hk1 hS1 h1 h2 h3 => ?_) (fun u t H1 locs1 ht hvm hw1 hB hz1 hk1 hS1 => (hno _ hw1).elim)
  obtain ⟨k9, w9⟩ := u
  obtain ⟨rfl, rfl⟩ := hex _ _ hp
  obtain ⟨rfl, hB⟩ := hB
  rw [ht] at hB
  obtain ⟨g1, g2⟩ := kk_puts_ok hw.1 hw.2.1 is hnd hC ha hk1 hB
  exact kx H1 locs1 q9 ce ⟨g1, g2, hS1, hw.2.2.2⟩ h1 h2 h3
end KKRUN
section KKINS
variable {p : Program} {l : Launch} {e : Env} {R : Room} {s : State} {m : MethodId} {args : Array Value} {below : List Frame} {meth : Method} {c : Code} {H : Heap} {locs : List Loc} {cells slots : Nat} {Q : State → Prop}
variable {G : va_G} {cI cJ : ClassId} {ad : Nat → Nat} {A : Nat → Prop} {ws : va_W} {Ts : List Cond} {cc : ByteArray} {nL pc a : Nat} {own : String} {rest : List Value} {ls : Array Slot}
theorem kk_get {C : String} {T : u_T} {N ci index : Nat} (F : kk_at p m c cc nL s args Ts own G cI cJ ad A) (hw : kk_wd G A s.heap ws H locs) (hin : ∀ w ∈ u_ws C T N, w ∈ Ts) (q0 : Nat) {fs : List Value} (he : ws[q0]? = some (a, .inr (ci, fs))) (hc : vwCl[ci]? = some (C, T, N)) (k : Nat) (hk : k < N)
    (hlink : Cond.fieldLink own index (T k).1 (T k).2.1 (T k).2.2.1 ∈ Ts) {v : Value} (hv : fs[k]? = some v) (hdg : decode cc pc = .ok (.getfield index, 3))
    (kk : W p l e R s m args below meth c H locs cells slots Q (F0 m (pc + 3) ls (v :: rest))) : W p l e R s m args below meth c H locs cells slots Q (F0 m pc ls (.ref a :: rest)) :=
  va_get F.1.1 F.1.2.1 F.1.2.2.2.2 hin F.1.2.2.2.1 F.2.1 hw.1 q0 he hc k hk (F.1.2.2.2.2 _ hlink) (fun _ h => h) hv hdg kk
theorem kk_getN {C host : String} {T : u_T} {N ci index : Nat} (F : kk_at p m c cc nL s args Ts own G cI cJ ad A) (hw : kk_wd G A s.heap ws H locs) (hin : ∀ w ∈ u_ws C T N, w ∈ Ts) (q0 : Nat) {fs : List Value} (he : ws[q0]? = some (a, .inr (ci, fs))) (hc : vwCl[ci]? = some (C, T, N)) (k : Nat) (hk : k < N)
    (hlink : Cond.fieldLinkNest own index (T k).1 (T k).2.1 (T k).2.2.1 host ∈ kk_nl) {v : Value} (hv : fs[k]? = some v) (hdg : decode cc pc = .ok (.getfield index, 3))
    (kk : W p l e R s m args below meth c H locs cells slots Q (F0 m (pc + 3) ls (v :: rest))) : W p l e R s m args below meth c H locs cells slots Q (F0 m pc ls (.ref a :: rest)) :=
  va_getN F.1.1 F.1.2.1 F.1.2.2.2.2 hin F.1.2.2.2.1 F.2.1 hw.1 q0 he hc k hk (va_Nw.use rfl (F.2.2.1 _ hlink)) (fun _ h => h) hv hdg kk
theorem kk_put {C : String} {T : u_T} {N ci index : Nat} (F : kk_at p m c cc nL s args Ts own G cI cJ ad A) (hw : kk_wd G A s.heap ws H locs) (hin : ∀ w ∈ u_ws C T N, w ∈ Ts) (ty0 : Nat → FieldType) (hty : ∀ k, k < N → parseFieldDescriptor (T k).2.2.1 = some (ty0 k)) (hnm : ∀ a, a < N → ∀ b, b < N → a ≠ b → (T a).2.1 ≠ (T b).2.1)
    (q0 : Nat) {fs : List Value} (he : ws[q0]? = some (a, .inr (ci, fs))) (hc : vwCl[ci]? = some (C, T, N)) (k : Nat) (hk : k < N) (hlink : Cond.fieldLink own index (T k).1 (T k).2.1 (T k).2.2.1 ∈ Ts) (hfin : (T k).2.2.2 = false) {v : Value} (hn : narrow (ty0 k) v = v) (hfit : fits (ty0 k) v = true) (hl : k < fs.length) (hdg : decode cc pc = .ok (.putfield index, 3))
    (kk : ∀ (H1 : Heap) (locs1 : List Loc), kk_wd G A s.heap (ws.set q0 (a, .inr (ci, fs.set k v))) H1 locs1 → W p l e R s m args below meth c H1 locs1 cells slots Q (F0 m (pc + 3) ls rest)) : W p l e R s m args below meth c H locs cells slots Q (F0 m pc ls (v :: .ref a :: rest)) :=
  va_put F.1.1 F.1.2.1 F.1.2.2.2.2 hin ty0 hty hnm F.1.2.2.2.1 F.2.1 hw.1 hw.2.1 hw.2.2.1 q0 he hc k hk (F.1.2.2.2.2 _ hlink) (fun _ h => h) hfin (hty k hk) hn hfit hl hdg (fun H1 locs1 hP hD hS => kk H1 locs1 ⟨hP, hD, hS, hw.2.2.2⟩)
theorem kk_iald (F : kk_at p m c cc nL s args Ts own G cI cJ ad A) (hw : kk_wd G A s.heap ws H locs) (q0 : Nat) {n : Nat} {f : Nat → Int32} (he : ws[q0]? = some (a, .inl (cI, n, .inl f))) {i v : Int32} (hv : kk_rd n f i = some v) (hdg : decode cc pc = .ok (.iaload, 1))
    (kk : W p l e R s m args below meth c H locs cells slots Q (F0 m (pc + 1) ls (.int v :: rest))) : W p l e R s m args below meth c H locs cells slots Q (F0 m pc ls (.int i :: .ref a :: rest)) :=
  va_iald F.1.1 F.1.2.1 F.2.1 hw.1 q0 0 he rfl (kk_rd_ok hv).1 hdg (by rw [(kk_rd_ok hv).2]; exact kk)
theorem kk_lald (F : kk_at p m c cc nL s args Ts own G cI cJ ad A) (hw : kk_wd G A s.heap ws H locs) (q0 : Nat) {n : Nat} {f : Nat → Int64} (he : ws[q0]? = some (a, .inl (cJ, n, .inr (.inl f)))) {i : Int32} {v : Int64} (hv : kk_rd n f i = some v) (hdg : decode cc pc = .ok (.laload, 1))
    (kk : W p l e R s m args below meth c H locs cells slots Q (F0 m (pc + 1) ls (.long v :: rest))) : W p l e R s m args below meth c H locs cells slots Q (F0 m pc ls (.int i :: .ref a :: rest)) :=
  va_lald F.1.1 F.1.2.1 F.2.1 hw.1 q0 1 he rfl (kk_rd_ok hv).1 hdg (by rw [(kk_rd_ok hv).2]; exact kk)
theorem kk_iast (F : kk_at p m c cc nL s args Ts own G cI cJ ad A) (hw : kk_wd G A s.heap ws H locs) (q0 : Nat) {n : Nat} {f : Nat → Int32} (he : ws[q0]? = some (a, .inl (cI, n, .inl f))) {i x : Int32} {g : Nat → Int32} (hv : kk_wr n f i x = some g) (hdg : decode cc pc = .ok (.iastore, 1))
    (kk : ∀ (H1 : Heap) (locs1 : List Loc), kk_wd G A s.heap (ws.set q0 (a, .inl (cI, n, .inl g))) H1 locs1 → W p l e R s m args below meth c H1 locs1 cells slots Q (F0 m (pc + 1) ls rest)) : W p l e R s m args below meth c H locs cells slots Q (F0 m pc ls (.int x :: .int i :: .ref a :: rest)) :=
  va_iast F.1.1 F.1.2.1 F.2.1 hw.1 hw.2.1 hw.2.2.1 q0 0 he rfl (kk_wr_ok hv).1 hdg (fun H1 locs1 hP hD hS => by rw [(kk_wr_ok hv).2] at hP hD; exact kk H1 locs1 ⟨hP, hD, hS, hw.2.2.2⟩)
theorem kk_last (F : kk_at p m c cc nL s args Ts own G cI cJ ad A) (hw : kk_wd G A s.heap ws H locs) (q0 : Nat) {n : Nat} {f : Nat → Int64} (he : ws[q0]? = some (a, .inl (cJ, n, .inr (.inl f)))) {i : Int32} {x : Int64} {g : Nat → Int64} (hv : kk_wrL n f i x = some g) (hdg : decode cc pc = .ok (.lastore, 1))
    (kk : ∀ (H1 : Heap) (locs1 : List Loc), kk_wd G A s.heap (ws.set q0 (a, .inl (cJ, n, .inr (.inl g)))) H1 locs1 → W p l e R s m args below meth c H1 locs1 cells slots Q (F0 m (pc + 1) ls rest)) : W p l e R s m args below meth c H locs cells slots Q (F0 m pc ls (.long x :: .int i :: .ref a :: rest)) :=
  va_last F.1.1 F.1.2.1 F.2.1 hw.1 hw.2.1 hw.2.2.1 q0 1 he rfl (kk_wrL_ok hv).1 hdg (fun H1 locs1 hP hD hS => by rw [(kk_wrL_ok hv).2] at hP hD; exact kk H1 locs1 ⟨hP, hD, hS, hw.2.2.2⟩)
theorem kk_alenI (F : kk_at p m c cc nL s args Ts own G cI cJ ad A) (hw : kk_wd G A s.heap ws H locs) (q0 : Nat) {n : Nat} {f : Nat → Int32} (he : ws[q0]? = some (a, .inl (cI, n, .inl f))) (hdg : decode cc pc = .ok (.arraylength, 1))
    (kk : W p l e R s m args below meth c H locs cells slots Q (F0 m (pc + 1) ls (.int (nI n) :: rest))) : W p l e R s m args below meth c H locs cells slots Q (F0 m pc ls (.ref a :: rest)) :=
  va_alen F.1.1 F.1.2.1 F.2.1 hw.1 q0 0 he rfl rfl hdg kk
theorem kk_alenL (F : kk_at p m c cc nL s args Ts own G cI cJ ad A) (hw : kk_wd G A s.heap ws H locs) (q0 : Nat) {n : Nat} {f : Nat → Int64} (he : ws[q0]? = some (a, .inl (cJ, n, .inr (.inl f)))) (hdg : decode cc pc = .ok (.arraylength, 1))
    (kk : W p l e R s m args below meth c H locs cells slots Q (F0 m (pc + 1) ls (.int (nI n) :: rest))) : W p l e R s m args below meth c H locs cells slots Q (F0 m pc ls (.ref a :: rest)) :=
  va_alen F.1.1 F.1.2.1 F.2.1 hw.1 q0 1 he rfl rfl hdg kk
/-- a static constant of Hash -/
theorem kk_gets {index : Nat} (k : Nat) (hk : k < 6) (F : kk_at p m c cc nL s args Ts own G cI cJ ad A) (hw : kk_wd G A s.heap ws H locs) (hlink : Cond.fieldLink own index "PerfectPew$Hash" (kk_en k) "LPerfectPew$Hash;" ∈ Ts) (hdg : decode cc pc = .ok (.getstatic index, 3))
    (kk : W p l e R s m args below meth c H locs cells slots Q (F0 m (pc + 3) ls (.ref (ad k) :: rest))) : W p l e R s m args below meth c H locs cells slots Q (F0 m pc ls rest) :=
  va_gets F.1.1 F.1.2.1 (F.2.2.2.1 k hk).1 hw.2.2.1 F.1.2.2.2.1 (F.1.2.2.2.2 _ hlink) (fun _ h => h) hdg kk
theorem kk_getOF {index k : Nat} {o n d : String} {v : Value} (F : kk_at p m c cc nL s args Ts own G cI cJ ad A) (hw : kk_wd G A s.heap ws H locs) (hZ : va_OF o n d v (ad k) A s s.heap) (hlink : Cond.fieldLink own index o n d ∈ Ts) (hdg : decode cc pc = .ok (.getfield index, 3))
    (kk : W p l e R s m args below meth c H locs cells slots Q (F0 m (pc + 3) ls (v :: rest))) : W p l e R s m args below meth c H locs cells slots Q (F0 m pc ls (.ref (ad k) :: rest)) := by
  obtain ⟨cf, k9, fi, f, cell, h1, h2, h3, h4, h5, h6⟩ := hZ.kept hw.2.2.1.2.1
  exact W.getf F.1.1 F.1.2.1 F.1.2.2.2.1 (F.1.2.2.2.2 _ hlink) h1 h2 h3 h4 (v := v) h5 rfl rfl hdg kk
theorem kk_max {index : Nat} {x y : Int32} (F : kk_at p m c cc nL s args Ts own G cI cJ ad A) (hls : ls.size = nL) (hlink : Cond.methodLink own index Lib.Math.max.name ∈ Ts) (hstat : Cond.static Lib.Math.max.name ∈ Ts) (hini : Cond.initialized "java/lang/Math" ∈ Ts) (hcode : Cond.code Lib.Math.max.name Lib.Math.max.code 2 (some .int) ∈ Ts)
    (hframes : 1 ≤ R.frames) (hlocals : (rest.map fun v => v.category).sum + 13 ≤ R.locals) (hcs : cells ≤ R.cells ∧ slots ≤ R.slots) (hdg : decode cc pc = .ok (.invokestatic index, 3))
    (kk : W p l e R s m args below meth c H locs cells slots Q (F0 m (pc + 3) ls (.int (if x < y then y else x) :: rest))) : W p l e R s m args below meth c H locs cells slots Q (F0 m pc ls (.int y :: .int x :: rest)) := by
  have hts := F.1.2.2.2.2
  exact va_mmax F.1.1 F.1.2.1 (F.1.2.2.1.trans hls.symm) F.1.2.2.2.1 (hts _ hlink) (hts _ hstat) (hts _ hini) (hts _ hcode) hframes hlocals hcs.1 hcs.2 hdg kk
theorem kk_min {index : Nat} {x y : Int32} (F : kk_at p m c cc nL s args Ts own G cI cJ ad A) (hls : ls.size = nL) (hlink : Cond.methodLink own index Lib.Math.min.name ∈ Ts) (hstat : Cond.static Lib.Math.min.name ∈ Ts) (hini : Cond.initialized "java/lang/Math" ∈ Ts) (hcode : Cond.code Lib.Math.min.name Lib.Math.min.code 2 (some .int) ∈ Ts)
    (hframes : 1 ≤ R.frames) (hlocals : (rest.map fun v => v.category).sum + 13 ≤ R.locals) (hcs : cells ≤ R.cells ∧ slots ≤ R.slots) (hdg : decode cc pc = .ok (.invokestatic index, 3))
    (kk : W p l e R s m args below meth c H locs cells slots Q (F0 m (pc + 3) ls (.int (if y < x then y else x) :: rest))) : W p l e R s m args below meth c H locs cells slots Q (F0 m pc ls (.int y :: .int x :: rest)) := by
  have hts := F.1.2.2.2.2
  exact va_mmin F.1.1 F.1.2.1 (F.1.2.2.1.trans hls.symm) F.1.2.2.2.1 (hts _ hlink) (hts _ hstat) (hts _ hini) (hts _ hcode) hframes hlocals hcs.1 hcs.2 hdg kk
end KKINS
