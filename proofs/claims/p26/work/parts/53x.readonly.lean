/-! ===== calls that change nothing ===== -/
theorem kk_puts_same : ∀ (is : List Nat) (WC ws : va_W), is.map (fun i => ws[i]?) = WC.map some → kk_puts ws is WC = ws
  | [], _, ws, _ => by simp [kk_puts]
  | i :: is, WC, ws, h => by
    cases WC with
    | nil => cases h
    | cons e w1 =>
      simp only [List.map_cons, List.cons.injEq] at h
      obtain ⟨hi, rfl⟩ := List.getElem?_eq_some_iff.mp h.1
      rw [kk_puts, List.set_getElem_self]
      exact kk_puts_same is w1 ws h.2
section KKRO
variable {p : Program} {l : Launch} {e : Env} {R : Room} {s : State} {m : MethodId} {args : Array Value} {below : List Frame} {meth : Method} {c : Code} {H : Heap} {locs : List Loc} {cells slots : Nat} {Q : State → Prop}
variable {G : va_G} {A : Nat → Prop} {ws WC : va_W} {mc ms pc : Nat} {rest st : List Value} {ls : Array Slot} {a : Array Value}
theorem kk_callIr {r : Int32} (k1 k2 : Nat) (hw : kk_wd G A s.heap ws H locs)
    (hr : ∀ (is : List Nat), va_nd is = true → is.map (fun i => ws[i]?) = WC.map some → va_Run p l e R s m args below meth c H locs cells slots mc ms (F0 m pc ls st) rest (va_Qi (fun x (_ : Unit) => x = r) (fun _ t => va_P G vwCl WC t.heap) (va_A WC H.size) a) (va_A WC H.size))
    (hk : cells + mc = k1 ∧ slots + ms = k2) (is : List Nat) (hnd : va_nd is = true) (hC : is.map (fun i => ws[i]?) = WC.map some)
    (kk : ∀ (H1 : Heap) (locs1 : List Loc), kk_wd G A s.heap ws H1 locs1 → W p l e R s m args below meth c H1 locs1 k1 k2 Q (F0 m (pc + 3) ls (.int r :: rest))) : W p l e R s m args below meth c H locs cells slots Q (F0 m pc ls st) :=
  kk_callI k1 k2 hw hr hk is hnd hC rfl (fun H1 locs1 hw1 => kk H1 locs1 (by rw [kk_puts_same is WC ws hC] at hw1; exact hw1))
theorem kk_callLr {r : Int64} (k1 k2 : Nat) (hw : kk_wd G A s.heap ws H locs)
    (hr : ∀ (is : List Nat), va_nd is = true → is.map (fun i => ws[i]?) = WC.map some → va_Run p l e R s m args below meth c H locs cells slots mc ms (F0 m pc ls st) rest (va_Ql (fun x (_ : Unit) => x = r) (fun _ t => va_P G vwCl WC t.heap) (va_A WC H.size) a) (va_A WC H.size))
    (hk : cells + mc = k1 ∧ slots + ms = k2) (is : List Nat) (hnd : va_nd is = true) (hC : is.map (fun i => ws[i]?) = WC.map some)
    (kk : ∀ (H1 : Heap) (locs1 : List Loc), kk_wd G A s.heap ws H1 locs1 → W p l e R s m args below meth c H1 locs1 k1 k2 Q (F0 m (pc + 3) ls (.long r :: rest))) : W p l e R s m args below meth c H locs cells slots Q (F0 m pc ls st) :=
  kk_callL k1 k2 hw hr hk is hnd hC rfl (fun H1 locs1 hw1 => kk H1 locs1 (by rw [kk_puts_same is WC ws hC] at hw1; exact hw1))
theorem kk_callVr (k1 k2 : Nat) (hw : kk_wd G A s.heap ws H locs)
    (hr : ∀ (is : List Nat), va_nd is = true → is.map (fun i => ws[i]?) = WC.map some → va_Run p l e R s m args below meth c H locs cells slots mc ms (F0 m pc ls st) rest (va_Qv (fun (_ : Unit) => True) (fun _ t => va_P G vwCl WC t.heap) (va_A WC H.size) a) (va_A WC H.size))
    (hk : cells + mc = k1 ∧ slots + ms = k2) (is : List Nat) (hnd : va_nd is = true) (hC : is.map (fun i => ws[i]?) = WC.map some)
    (kk : ∀ (H1 : Heap) (locs1 : List Loc), kk_wd G A s.heap ws H1 locs1 → W p l e R s m args below meth c H1 locs1 k1 k2 Q (F0 m (pc + 3) ls rest)) : W p l e R s m args below meth c H locs cells slots Q (F0 m pc ls st) :=
  kk_callV k1 k2 hw hr hk is hnd hC rfl (fun H1 locs1 hw1 => kk H1 locs1 (by rw [kk_puts_same is WC ws hC] at hw1; exact hw1))
end KKRO
