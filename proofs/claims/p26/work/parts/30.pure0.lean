/-! ===== the pure side: what the functions of 10.. answer; rows of ints, loops ===== -/
theorem pu_rd {α : Type} {n : Nat} {f : Nat → α} {k : Nat} (hk : k < n) (hn : n < 2 ^ 31) : kk_rd n f (nI k) = some (f k) := by
  unfold kk_rd
  rw [if_neg (nI_in hk hn), nI_clamp (Nat.lt_trans hk hn)]
theorem pu_wr {n : Nat} {f : Nat → Int32} {k : Nat} {x : Int32} (hk : k < n) (hn : n < 2 ^ 31) : kk_wr n f (nI k) x = some (upd f k x) := by
  unfold kk_wr
  rw [if_neg (nI_in hk hn), nI_clamp (Nat.lt_trans hk hn)]
theorem pu_wrL {n : Nat} {f : Nat → Int64} {k : Nat} {x : Int64} (hk : k < n) (hn : n < 2 ^ 31) : kk_wrL n f (nI k) x = some (vp_updL f k x) := by
  unfold kk_wrL
  rw [if_neg (nI_in hk hn), nI_clamp (Nat.lt_trans hk hn)]
theorem pu_bind {α β : Type} {o : Option α} {a : α} {f : α → Option β} (h : o = some a) : o.bind f = f a := by rw [h]; rfl
theorem pu_us {f : Nat → Int32} {k : Nat} {x : Int32} : upd f k x k = x := pk_us
theorem pu_un {f : Nat → Int32} {k j : Nat} {x : Int32} (h : j ≠ k) : upd f k x j = f j := pk_un h
/-- a loop that counts up: at i the state is st i; at e it goes out -/
theorem pu_up {σ ρ : Type} {f : σ → Option (σ ⊕ ρ)} (st : Nat → σ → Prop) (Post : ρ → Prop) (e : Nat)
    (step : ∀ i s, i < e → st i s → (∃ s', f s = some (.inl s') ∧ st (i + 1) s') ∨ (∃ r, f s = some (.inr r) ∧ Post r))
    (exit : ∀ s, st e s → ∃ r, f s = some (.inr r) ∧ Post r) :
    ∀ (n i : Nat) (s : σ), i ≤ e → e < n + i → st i s → ∃ r, kk_iter f n s = some r ∧ Post r := by
  intro n
  induction n with
  | zero => intro i s h1 h2; omega
  | succ n ih =>
    intro i s h1 h2 hs
    rw [kk_iter]
    rcases Nat.lt_or_ge i e with h | h
    · rcases step i s h hs with ⟨s', h3, h4⟩ | ⟨r, h3, h4⟩
      · obtain ⟨r, h5, h6⟩ := ih (i + 1) s' h (by omega) h4
        exact ⟨r, by rw [h3]; exact h5, h6⟩
      · exact ⟨r, by rw [h3]; rfl, h4⟩
    · have : i = e := by omega
      subst this
      obtain ⟨r, h3, h4⟩ := exit s hs
      exact ⟨r, by rw [h3]; rfl, h4⟩
/-- a loop with a measure that falls -/
theorem pu_down {σ ρ : Type} {f : σ → Option (σ ⊕ ρ)} (Inv : σ → Prop) (μ : σ → Nat) (Post : ρ → Prop)
    (step : ∀ s, Inv s → (∃ s', f s = some (.inl s') ∧ Inv s' ∧ μ s' < μ s) ∨ (∃ r, f s = some (.inr r) ∧ Post r)) :
    ∀ (n : Nat) (s : σ), μ s < n → Inv s → ∃ r, kk_iter f n s = some r ∧ Post r := by
  intro n
  induction n with
  | zero => intro s h; omega
  | succ n ih =>
    intro s h hs
    rw [kk_iter]
    rcases step s hs with ⟨s', h3, h4, h5⟩ | ⟨r, h3, h4⟩
    · obtain ⟨r, h6, h7⟩ := ih s' (by omega) h4
      exact ⟨r, by rw [h3]; exact h6, h7⟩
    · exact ⟨r, by rw [h3]; rfl, h4⟩
theorem pu_get {N n k : Nat} {f : Nat → Int32} (hk : k < n) (hn : n < 2 ^ 31) : F_X6_get N n f (nI k) = some (f k) := by
  unfold F_X6_get J_X6_get_23
  rw [if_neg (nI_pos (Nat.lt_trans hk hn)), if_neg (nI_ge hk hn), pu_rd hk hn]
  rfl
theorem pu_get_out {N n k : Nat} {f : Nat → Int32} (hk : n ≤ k) (hn : k < 2 ^ 31) : F_X6_get N n f (nI k) = some 0 := by
  unfold F_X6_get J_X6_get_22 J_X6_get_23
  rw [if_neg (nI_pos hn), if_pos (nI_le hk hn)]
theorem pu_get_m1 {N n : Nat} {f : Nat → Int32} : F_X6_get N n f (-1) = some 0 := by
  unfold F_X6_get J_X6_get_22 J_X6_get_23
  rw [if_pos (by decide)]
theorem pu_set {N n k : Nat} {f : Nat → Int32} {x : Int32} (hk : k < n) (hn : n < 2 ^ 31) : F_X6_set N n f (nI k) x = some (upd f k x) := by
  unfold F_X6_set J_X6_set_20
  rw [if_neg (nI_pos (Nat.lt_trans hk hn)), if_neg (nI_ge hk hn), pu_wr hk hn]
  rfl
theorem pu_set_out {N n k : Nat} {f : Nat → Int32} {x : Int32} (hk : n ≤ k) (hn : k < 2 ^ 31) : F_X6_set N n f (nI k) x = some f := by
  unfold F_X6_set J_X6_set_20
  rw [if_neg (nI_pos hn), if_pos (nI_le hk hn)]
/-- filled with one value -/
theorem pu_fill {N n : Nat} {f : Nat → Int32} {x : Int32} (hn : n < 2 ^ 31) (hN : n < N) : ∃ g, F_X6_fill N n f x = some g ∧ (∀ k, k < n → g k = x) := by
  unfold F_X6_fill F_J7_fill_53178 J_J7_fill_53178_20
  obtain ⟨r, h1, h2⟩ := pu_up (f := fun (σ : (Nat → Int32) × Int32) => L_J7_fill_53178_5 N n x (nI n) σ.1 σ.2) (fun i s => s.2 = nI i ∧ ∀ k, k < i → s.1 k = x) (fun r => ∀ k, k < n → r k = x) n
    (fun i s hi hs => by
      obtain ⟨g, j⟩ := s
      obtain ⟨rfl, h⟩ := hs
      refine Or.inl ⟨(upd g i x, nI (i + 1)), ?_, rfl, ?_⟩
      · show L_J7_fill_53178_5 N n x (nI n) g (nI i) = _
        unfold L_J7_fill_53178_5
        rw [if_neg (nI_ge hi hn), pu_wr hi hn, nI_1]
        rfl
      · intro k hk
        by_cases e : k = i
        · rw [e]; exact pu_us
        · show upd g i x k = x
          rw [pu_un e]; exact h k (by omega))
    (fun s hs => by
      obtain ⟨g, j⟩ := s
      obtain ⟨rfl, h⟩ := hs
      refine ⟨g, ?_, h⟩
      show L_J7_fill_53178_5 N n x (nI n) g (nI n) = _
      unfold L_J7_fill_53178_5
      rw [if_pos (nI_le (Nat.le_refl n) hn)])
    N 0 (f, 0) (Nat.zero_le n) (by omega) ⟨nI_0.symm, fun k hk => absurd hk (Nat.not_lt_zero k)⟩
  exact ⟨r, by rw [h1]; rfl, h2⟩
