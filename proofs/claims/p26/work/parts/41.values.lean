/-! ===== the values, as the other lays them ===== -/
def EqE (ε : Nat → Nat) (n : Nat) (V : Nat → Int32) (k : Nat) : Prop := ∃ x y, x < n ∧ y < n ∧ V (ε (2 * k)) = nI x ∧ V (ε (2 * k + 1)) = nI y ∧ (x + y) % n = k
def VI (ε ρ : Nat → Nat) (n M : Nat) (V : Nat → Int32) : Prop :=
  (∀ v, v < M → V v = -1 ∨ ∃ x, x < n ∧ V v = nI x) ∧ (∀ v, v < M → ρ v = v → V v = nI 0) ∧
  ∀ j, j < n → EqE ε n V j ∨ ∀ p : Nat → Bool, (∀ k, k < n → k ≠ j → Ct ε p k) → ∀ v, v < M → V v ≠ -1 → p v = p (ρ v)
def un (V : Nat → Int32) (M : Nat) : Nat := cc (fun v => decide (V v = -1)) M
theorem cc_drop {p q : Nat → Bool} {t b : Nat} (h : ∀ i, i < t → q i = true → p i = true) (hb : b < t) (h1 : p b = true) (h2 : ¬ q b = true) : cc q t < cc p t := by
  induction t with
  | zero => exact absurd hb (Nat.not_lt_zero b)
  | succ t ih =>
    rw [cc_s, cc_s]
    have h3 : cc q t ≤ cc p t := cc_imp (fun i hi => h i (by omega))
    by_cases e : b = t
    · rw [← e, if_pos h1, if_neg h2, e]; omega
    · have h4 := ih (fun i hi => h i (by omega)) (by omega)
      have h5 := h t (by omega)
      by_cases e2 : q t = true
      · rw [if_pos e2, if_pos (h5 e2)]; omega
      · rw [if_neg e2]; omega
theorem un_upd {V : Nat → Int32} {M b : Nat} {x : Int32} (hb : b < M) (h : V b = -1) (hx : x ≠ -1) : un (upd V b x) M < un V M := by
  refine cc_drop (b := b) (fun i hi hq => ?_) hb (by simpa using h) (by rw [pu_us]; simpa using hx)
  by_cases e : i = b
  · rw [e]; simpa using h
  · rw [pu_un e] at hq; exact hq
theorem vmod {n x k : Nat} (hx : x < n) (hk : k < n) : (x + (k + n - x) % n) % n = k := by
  rw [Nat.add_mod_mod, show x + (k + n - x) = k + n by omega, Nat.add_mod_right, Nat.mod_eq_of_lt hk]
/-- one vertex gets its value along the edge k -/
theorem VI_step {ε ρ : Nat → Nat} {n M k a b x : Nat} {V : Nat → Int32} (hn : n ≤ 120) (h : VI ε ρ n M V) (hk : k < n) (hrho : ρ (ε (2 * k)) = ρ (ε (2 * k + 1)))
    (hab : (ε (2 * k) = a ∧ ε (2 * k + 1) = b) ∨ (ε (2 * k) = b ∧ ε (2 * k + 1) = a)) (ha : a < M) (hb : b < M) (hx : x < n) (hva : V a = nI x) (hvb : V b = -1) (hrb : ∀ v, v < M → ρ (ρ v) = ρ v) : VI ε ρ n M (upd V b (nI ((k + n - x) % n))) := by
  have hy : (k + n - x) % n < n := Nat.mod_lt _ (by omega)
  have hne : a ≠ b := fun e => nI_m1 (k := x) (by omega) (by rw [← hva, e, hvb])
  refine ⟨fun v hv => ?_, fun v hv hr => ?_, fun j hj => ?_⟩
  · by_cases e : v = b
    · rw [e, pu_us]; exact Or.inr ⟨_, hy, rfl⟩
    · rw [pu_un e]; exact h.1 v hv
  · by_cases e : v = b
    · rw [e] at hr
      have := h.2.1 b hb hr
      rw [hvb] at this
      exact absurd this.symm (nI_m1 (by decide))
    · rw [pu_un e]; exact h.2.1 v hv hr
  · by_cases ej : j = k
    · rw [ej]
      left
      rcases hab with ⟨e1, e2⟩ | ⟨e1, e2⟩
      · refine ⟨x, _, hx, hy, ?_, ?_, vmod hx hk⟩
        · rw [e1, pu_un hne]; exact hva
        · rw [e2, pu_us]
      · refine ⟨_, x, hy, hx, ?_, ?_, ?_⟩
        · rw [e1, pu_us]
        · rw [e2, pu_un hne]; exact hva
        · rw [Nat.add_comm]; exact vmod hx hk
    · rcases h.2.2 j hj with ⟨y, z, q1, q2, q3, q4, q5⟩ | q
      · left
        have w1 : ε (2 * j) ≠ b := fun e => nI_m1 (k := y) (by omega) (by rw [← q3, e, hvb])
        have w2 : ε (2 * j + 1) ≠ b := fun e => nI_m1 (k := z) (by omega) (by rw [← q4, e, hvb])
        exact ⟨y, z, q1, q2, by rw [pu_un w1]; exact q3, by rw [pu_un w2]; exact q4, q5⟩
      · right
        intro p hp v hv hs
        by_cases e : v = b
        · have h5 := hp k hk (fun e9 => ej e9.symm)
          have h6 := q p hp a ha (by rw [hva]; exact nI_m1 (by omega))
          unfold Ct at h5
          rw [e]
          rcases hab with ⟨e1, e2⟩ | ⟨e1, e2⟩
          · rw [e1, e2] at h5 hrho; rw [← h5, h6, hrho]
          · rw [e1, e2] at h5 hrho; rw [h5, h6, hrho]
        · rw [pu_un e] at hs
          exact q p hp v hv hs
theorem pu_kn {k n x : Nat} (h : x ≤ k + n) : nI k + nI n - nI x = nI (k + n - x) := by rw [nI_add, pk_sub h]
def StE (ε : Nat → Nat) (V : Nat → Int32) (k : Nat) : Prop := V (ε (2 * k)) = -1 ↔ V (ε (2 * k + 1)) = -1
theorem pu_pass {N n M : Nat} {ε ρ : Nat → Nat} {es V : Nat → Int32} (hFu : 1000 ≤ N) (hn : n ≤ 120) (hM : M ≤ 360) (hes : ∀ e, e < 2 * n → es e = nI (ε e)) (hem : ∀ e, ε e < M) (hrho : ∀ k, k < n → ρ (ε (2 * k)) = ρ (ε (2 * k + 1))) (hrb : ∀ v, v < M → ρ (ρ v) = ρ v) (h : VI ε ρ n M V) :
    ∃ V' x, kk_iter (fun (σ : ((Nat → Int32) × Int32 × Int32)) => L_X8_layValues_48 N (nI n) es σ.1 σ.2.1 σ.2.2) N (V, 0, 0) = some (V', x) ∧ VI ε ρ n M V' ∧
      ((x = 0 ∧ ∀ k, k < n → StE ε V' k) ∨ (x = 1 ∧ un V' M < un V M)) := by
  obtain ⟨⟨V', x⟩, h2, h3, h4⟩ := pu_up (f := fun (σ : ((Nat → Int32) × Int32 × Int32)) => L_X8_layValues_48 N (nI n) es σ.1 σ.2.1 σ.2.2)
    (fun k σ => σ.2.2 = nI k ∧ VI ε ρ n M σ.1 ∧ ((σ.2.1 = 0 ∧ σ.1 = V ∧ ∀ i, i < k → StE ε V i) ∨ (σ.2.1 = 1 ∧ un σ.1 M < un V M)))
    (fun σ => VI ε ρ n M σ.1 ∧ ((σ.2 = 0 ∧ ∀ k, k < n → StE ε σ.1 k) ∨ (σ.2 = 1 ∧ un σ.1 M < un V M))) n
    (fun k σ hk hσ => by
      obtain ⟨W, x, c⟩ := σ
      obtain ⟨h3, h4, h5⟩ := hσ
      dsimp only at h3 h4 h5 ⊢
      subst h3
      have ha := hem (2 * k)
      have hb := hem (2 * k + 1)
      have hle : un W M ≤ un V M := by
        rcases h5 with ⟨_, e, _⟩ | ⟨_, e⟩
        · rw [e]; exact Nat.le_refl _
        · exact Nat.le_of_lt e
      have hkeep : StE ε W k → ((x = 0 ∧ W = V ∧ ∀ i, i < k + 1 → StE ε V i) ∨ (x = 1 ∧ un W M < un V M)) := fun hst => by
        rcases h5 with ⟨e1, e2, e3⟩ | e1
        · refine Or.inl ⟨e1, e2, fun i hi => ?_⟩
          by_cases e : i = k
          · rw [e, ← e2]; exact hst
          · exact e3 i (by omega)
        · exact Or.inr e1
      unfold L_X8_layValues_48 J_X8_layValues_128 J_X8_layValues_176
      rw [if_neg (nI_ge hk (by omega)), pu_2, pu_bind (pu_rd (by omega) (by decide)), hes _ (by omega), nI_1 (2 * k), pu_bind (pu_rd (by omega) (by decide)), hes _ (by omega), pu_bind (pu_rd (by omega) (by decide))]
      by_cases e : W (ε (2 * k)) = -1
      · rw [if_pos e, pu_bind (pu_rd (by omega) (by decide))]
        rcases h4.1 _ hb with e2 | ⟨y, hy, e2⟩
        · rw [if_pos e2, nI_1]
          exact Or.inl ⟨_, rfl, rfl, h4, hkeep ⟨fun _ => e2, fun _ => e⟩⟩
        · rw [if_neg (by rw [e2]; exact nI_m1 (by omega)), pu_bind (pu_rd (by omega) (by decide)), if_pos e, pu_bind (pu_rd (by omega) (by decide)), e2, pu_nz (by omega) (by omega), pu_kn (by omega), pu_rem (by omega) (by omega) (by omega), pu_bind (pu_wr (by omega) (by decide)), nI_1]
          have hym : (k + n - y) % n < n := Nat.mod_lt _ (by omega)
          refine Or.inl ⟨_, rfl, rfl, VI_step hn h4 hk (hrho k hk) (Or.inr ⟨rfl, rfl⟩) hb ha hy e2 e hrb, Or.inr ⟨rfl, ?_⟩⟩
          have := un_upd (V := W) (x := nI ((k + n - y) % n)) ha e (nI_m1 (by omega))
          dsimp only
          omega
      · obtain ⟨y, hy, e2⟩ : ∃ y, y < n ∧ W (ε (2 * k)) = nI y := by
          rcases h4.1 _ ha with e3 | e3
          · exact absurd e3 e
          · exact e3
        rw [if_neg e, pu_bind (pu_rd (by omega) (by decide))]
        by_cases e3 : W (ε (2 * k + 1)) = -1
        · rw [if_pos e3, pu_bind (pu_rd (by omega) (by decide)), e2, pu_nz (by omega) (by omega), pu_kn (by omega), pu_rem (by omega) (by omega) (by omega), pu_bind (pu_wr (by omega) (by decide)), nI_1]
          have hym : (k + n - y) % n < n := Nat.mod_lt _ (by omega)
          refine Or.inl ⟨_, rfl, rfl, VI_step hn h4 hk (hrho k hk) (Or.inl ⟨rfl, rfl⟩) ha hb hy e2 e3 hrb, Or.inr ⟨rfl, ?_⟩⟩
          have := un_upd (V := W) (x := nI ((k + n - y) % n)) hb e3 (nI_m1 (by omega))
          dsimp only
          omega
        · rw [if_neg e3, pu_bind (pu_rd (by omega) (by decide)), if_neg e3, pu_bind (pu_rd (by omega) (by decide)), if_neg e, nI_1]
          exact Or.inl ⟨_, rfl, rfl, h4, hkeep ⟨fun e4 => absurd e4 e, fun e4 => absurd e4 e3⟩⟩)
    (fun σ hσ => by
      obtain ⟨W, x, c⟩ := σ
      obtain ⟨h3, h4, h5⟩ := hσ
      dsimp only at h3 h4 h5 ⊢
      subst h3
      unfold L_X8_layValues_48
      rw [if_pos (nI_le (Nat.le_refl _) (by omega))]
      refine ⟨_, rfl, h4, ?_⟩
      rcases h5 with ⟨e1, e2, e3⟩ | e1
      · exact Or.inl ⟨e1, e2 ▸ e3⟩
      · exact Or.inr e1)
    N 0 (V, 0, 0) (Nat.zero_le _) (by omega) ⟨nI_0.symm, h, Or.inl ⟨rfl, rfl, fun i hi => absurd hi (Nat.not_lt_zero i)⟩⟩
  exact ⟨V', x, h2, h3, h4⟩
/-- what the values are in the end -/
def Good (ε ρ : Nat → Nat) (n M : Nat) (mu : Nat → Nat) : Prop := (∀ v, v < M → mu v < n) ∧ (∀ v, v < M → ρ v = v → mu v = 0) ∧ ∀ k, k < n → (mu (ε (2 * k)) + mu (ε (2 * k + 1))) % n = k
theorem pu_layValues {N n : Nat} {ε π ρ : Nat → Nat} {es rs V0 : Nat → Int32} (hFu : 1000 ≤ N) (h1 : 1 ≤ n) (hn : n ≤ 120) (hes : ∀ e, e < 2 * n → es e = nI (ε e)) (hem : ∀ e, ε e < 3 * n) (hrs : ∀ v, v < 3 * n → rs v = nI (π v)) (hU : UF ε π ρ (3 * n) n) (hA : AC ε n) :
    ∃ V, F_X8_layValues N (nI n) V0 rs es = some V ∧ ∃ mu, Good ε ρ n (3 * n) mu ∧ ∀ v, v < 3 * n → V v = nI (mu v) := by
  have hrb : ∀ v, v < 3 * n → ρ (ρ v) = ρ v := fun v hv => RtOk_rr hU.1 hv
  unfold F_X8_layValues
  obtain ⟨V1, h2, h3⟩ := pu_up (f := fun (σ : ((Nat → Int32) × Int32)) => L_X8_layValues_2 N (nI n) rs σ.1 σ.2) (fun i σ => σ.2 = nI i ∧ ∀ v, v < i → σ.1 v = if ρ v = v then nI 0 else -1) (fun r => ∀ v, v < 3 * n → r v = if ρ v = v then nI 0 else -1) (3 * n)
    (fun i σ hi hσ => by
      obtain ⟨g, c⟩ := σ
      obtain ⟨h3, h4⟩ := hσ
      dsimp only at h3 h4 ⊢
      subst h3
      have h9 := (hU.1 i hi).2.1
      unfold L_X8_layValues_2 J_X8_layValues_31
      rw [pu_3, if_neg (nI_ge hi (by omega)), pu_bind (pu_root hFu (by omega) hU.1 hrs hi), nI_1]
      have hgo : ∀ x : Int32, x = (if ρ i = i then nI 0 else -1) → ∀ v, v < i + 1 → upd g i x v = if ρ v = v then nI 0 else -1 := fun x hx v hv => by
        by_cases e : v = i
        · rw [e, pu_us]; exact hx
        · rw [pu_un e]; exact h4 v (by omega)
      by_cases e : ρ i = i
      · rw [if_pos (congrArg nI e), pu_bind (pu_wr (by omega) (by decide))]
        exact Or.inl ⟨_, rfl, rfl, hgo _ (by rw [if_pos e]; rfl)⟩
      · rw [if_neg (fun e2 => e ((nI_eq (by omega) (by omega)).mp e2)), pu_bind (pu_wr (by omega) (by decide))]
        exact Or.inl ⟨_, rfl, rfl, hgo _ (by rw [if_neg e])⟩)
    (fun σ hσ => by
      obtain ⟨g, c⟩ := σ
      obtain ⟨h3, h4⟩ := hσ
      dsimp only at h3 h4 ⊢
      subst h3
      unfold L_X8_layValues_2
      rw [pu_3, if_pos (nI_le (Nat.le_refl _) (by omega))]
      exact ⟨_, rfl, h4⟩)
    N 0 (V0, 0) (Nat.zero_le _) (by omega) ⟨nI_0.symm, fun v hv => absurd hv (Nat.not_lt_zero v)⟩
  rw [pu_bind h2]
  have hV1 : VI ε ρ n (3 * n) V1 := by
    refine ⟨fun v hv => ?_, fun v hv hr => ?_, fun j hj => Or.inr fun p hp v hv hs => ?_⟩
    · rw [h3 v hv]
      split
      · exact Or.inr ⟨0, h1, rfl⟩
      · exact Or.inl rfl
    · rw [h3 v hv, if_pos hr]
    · rw [h3 v hv] at hs
      by_cases e : ρ v = v
      · rw [e]
      · rw [if_neg e] at hs; exact absurd rfl hs
  unfold J_X8_layValues_38 J_X8_layValues_185
  obtain ⟨V, h4, h5, h6⟩ := pu_down (f := fun (σ : ((Nat → Int32) × Int32)) => L_X8_layValues_40 N (nI n) es σ.1 σ.2)
    (fun σ => VI ε ρ n (3 * n) σ.1 ∧ (σ.2 = 1 ∨ (σ.2 = 0 ∧ ∀ k, k < n → StE ε σ.1 k))) (fun σ => if σ.2 = 1 then un σ.1 (3 * n) + 1 else 0) (fun W => VI ε ρ n (3 * n) W ∧ ∀ k, k < n → StE ε W k)
    (fun σ hσ => by
      obtain ⟨W, x⟩ := σ
      obtain ⟨h4, h5⟩ := hσ
      dsimp only at h4 h5 ⊢
      unfold L_X8_layValues_40 J_X8_layValues_182
      rcases h5 with rfl | ⟨rfl, h5⟩
      · rw [if_neg (show ¬ (1 : Int32) = 0 by decide)]
        obtain ⟨W', x, a1, a2, a3⟩ := pu_pass hFu hn (by omega) hes hem hU.2.1 hrb h4
        rw [pu_bind a1]
        refine Or.inl ⟨_, rfl, ⟨a2, ?_⟩, ?_⟩
        · rcases a3 with ⟨e, a4⟩ | ⟨e, _⟩
          · exact Or.inr ⟨e, a4⟩
          · exact Or.inl e
        · dsimp only
          rw [if_pos rfl]
          rcases a3 with ⟨rfl, a4⟩ | ⟨rfl, a4⟩
          · rw [if_neg (by decide)]; omega
          · rw [if_pos rfl]; omega
      · rw [if_pos rfl]
        exact Or.inr ⟨_, rfl, h4, h5⟩)
    N (V1, 1) (by
      dsimp only
      rw [if_pos rfl]
      have : un V1 (3 * n) ≤ 3 * n := cc_le _ _
      omega) ⟨hV1, Or.inl rfl⟩
  rw [pu_bind h4]
  have hall : ∀ v, v < 3 * n → V v ≠ -1 := by
    intro v hv
    have hp := hU.2.2 (fun v => decide (V v = -1)) (fun k hk => by
      unfold Ct
      have := h6 k hk
      unfold StE at this
      dsimp only
      by_cases e : V (ε (2 * k)) = -1
      · rw [decide_eq_true e, decide_eq_true (this.mp e)]
      · rw [decide_eq_false e, decide_eq_false (fun e2 => e (this.mpr e2))]) v hv
    have h9 := hU.1 v hv
    have h7 := h5.2.1 (ρ v) (by omega) (hrb v hv)
    rw [h7, decide_eq_false (nI_m1 (by decide))] at hp
    exact of_decide_eq_false hp
  have hnat : ∀ v, v < 3 * n → V v = nI (V v).toNatClampNeg ∧ (V v).toNatClampNeg < n := fun v hv => by
    rcases h5.1 v hv with e | ⟨x, hx, e⟩
    · exact absurd e (hall v hv)
    · rw [e, nI_clamp (by omega)]; exact ⟨rfl, hx⟩
  refine ⟨V, rfl, fun v => (V v).toNatClampNeg, ⟨fun v hv => (hnat v hv).2, fun v hv hr => ?_, fun k hk => ?_⟩, fun v hv => (hnat v hv).1⟩
  · dsimp only
    rw [h5.2.1 v hv hr, nI_clamp (by decide)]
  · dsimp only
    rcases h5.2.2 k hk with ⟨x, y, q1, q2, q3, q4, q5⟩ | q
    · rw [q3, q4, nI_clamp (by omega), nI_clamp (by omega)]; exact q5
    · obtain ⟨p, hp, hp2⟩ := hA k hk
      have qa := q p hp2 _ (hem (2 * k)) (hall _ (hem _))
      have qb := q p hp2 _ (hem (2 * k + 1)) (hall _ (hem _))
      exact absurd (by unfold Ct; rw [qa, qb, hU.2.1 k hk]) hp
