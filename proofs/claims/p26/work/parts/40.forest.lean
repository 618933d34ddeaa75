/-! ===== graphs without a circle: what both ways decide ===== -/
def Ct (ε : Nat → Nat) (p : Nat → Bool) (k : Nat) : Prop := p (ε (2 * k)) = p (ε (2 * k + 1))
def AC (ε : Nat → Nat) (n : Nat) : Prop := ∀ j, j < n → ∃ p : Nat → Bool, ¬ Ct ε p j ∧ ∀ k, k < n → k ≠ j → Ct ε p k
def RtOk (π ρ : Nat → Nat) (M : Nat) : Prop := ∀ v, v < M → π v ≤ v ∧ ρ v ≤ v ∧ π (ρ v) = ρ v ∧ ρ (π v) = ρ v ∧ (π v = v → ρ v = v)
theorem RtOk_rr {π ρ : Nat → Nat} {M v : Nat} (h : RtOk π ρ M) (hv : v < M) : ρ (ρ v) = ρ v := by
  have h1 := h v hv
  exact (h (ρ v) (by omega)).2.2.2.2 h1.2.2.1
theorem pu_root {N M v : Nat} {π ρ : Nat → Nat} {f : Nat → Int32} (hFu : 1000 ≤ N) (hM : M ≤ 360) (h : RtOk π ρ M) (hf : ∀ x, x < M → f x = nI (π x)) (hv : v < M) : F_X8_root N f (nI v) = some (nI (ρ v)) := by
  unfold F_X8_root J_X8_root_22
  obtain ⟨r, h1, rfl⟩ := pu_down (f := fun (σ : Int32) => L_X8_root_2 N f σ) (fun s => ∃ i, i < M ∧ s = nI i ∧ ρ i = ρ v) (fun s => s.toNatClampNeg) (fun r => r = nI (ρ v))
    (fun s hs => by
      obtain ⟨i, hi, rfl, h2⟩ := hs
      have h3 := h i hi
      show (∃ s', L_X8_root_2 N f (nI i) = some (.inl s') ∧ _) ∨ (∃ r, L_X8_root_2 N f (nI i) = some (.inr r) ∧ _)
      unfold L_X8_root_2
      rw [pu_bind (pu_rd (by omega) (by decide)), hf i hi]
      by_cases e : π i = i
      · rw [e, if_pos rfl]
        refine Or.inr ⟨_, rfl, ?_⟩
        rw [← h2, h3.2.2.2.2 e]
      · rw [if_neg (fun e2 => e ((nI_eq (by omega) (by omega)).mp e2)), pu_bind (pu_rd (by omega) (by decide)), hf i hi]
        refine Or.inl ⟨_, rfl, ⟨π i, by omega, rfl, by rw [h3.2.2.2.1, h2]⟩, ?_⟩
        show (nI (π i)).toNatClampNeg < (nI i).toNatClampNeg
        rw [nI_clamp (by omega), nI_clamp (by omega)]
        omega)
    N (nI v) (by
      show (nI v).toNatClampNeg < N
      rw [nI_clamp (by omega)]; omega) ⟨v, hv, rfl, rfl⟩
  rw [pu_bind h1]
/-- two trees joined at their roots -/
theorem RtOk_join {π ρ : Nat → Nat} {M x m : Nat} (h : RtOk π ρ M) (hx : x < M) (hm : m < x) (hrx : ρ x = x) (hrm : ρ m = m) :
    RtOk (fun v => if v = x then m else π v) (fun v => if ρ v = x then m else ρ v) M := by
  intro v hv
  have h1 := h v hv
  have h2 := h m (by omega)
  have hpm : π m = m := by have := h2.2.2.1; rw [hrm] at this; exact this
  dsimp only
  refine ⟨?_, ?_, ?_, ?_, ?_⟩
  · split <;> omega
  · split <;> omega
  · by_cases e : ρ v = x
    · rw [if_pos e, if_neg (by omega)]; exact hpm
    · rw [if_neg e, if_neg e]; exact h1.2.2.1
  · by_cases e : v = x
    · rw [e, if_pos rfl, hrm, if_neg (by omega), hrx, if_pos rfl]
    · rw [if_neg e, h1.2.2.2.1]
  · intro e
    by_cases e2 : v = x
    · rw [if_pos e2] at e; omega
    · rw [if_neg e2] at e
      rw [h1.2.2.2.2 e, if_neg e2]
/-- the trees after the first k edges -/
def UF (ε π ρ : Nat → Nat) (M k : Nat) : Prop := RtOk π ρ M ∧ (∀ i, i < k → ρ (ε (2 * i)) = ρ (ε (2 * i + 1))) ∧ (∀ p : Nat → Bool, (∀ i, i < k → Ct ε p i) → ∀ v, v < M → p v = p (ρ v))
theorem UF_join {ε π ρ : Nat → Nat} {M k x m : Nat} (h : UF ε π ρ M k) (hA : AC ε k) (ha : ε (2 * k) < M) (hb : ε (2 * k + 1) < M) (hm : m < x)
    (hc : (ρ (ε (2 * k)) = x ∧ ρ (ε (2 * k + 1)) = m) ∨ (ρ (ε (2 * k)) = m ∧ ρ (ε (2 * k + 1)) = x)) :
    UF ε (fun v => if v = x then m else π v) (fun v => if ρ v = x then m else ρ v) M (k + 1) ∧ AC ε (k + 1) := by
  obtain ⟨h1, h2, h3⟩ := h
  have qa := h1 _ ha
  have qb := h1 _ hb
  have ra := RtOk_rr h1 ha
  have rb := RtOk_rr h1 hb
  have hx : x < M := by rcases hc with ⟨e1, e2⟩ | ⟨e1, e2⟩ <;> omega
  have hrx : ρ x = x := by rcases hc with ⟨e1, e2⟩ | ⟨e1, e2⟩ <;> simp_all
  have hrm : ρ m = m := by rcases hc with ⟨e1, e2⟩ | ⟨e1, e2⟩ <;> simp_all
  refine ⟨⟨RtOk_join h1 hx hm hrx hrm, fun i hi => ?_, fun p hp v hv => ?_⟩, fun j hj => ?_⟩
  · dsimp only
    by_cases e : i = k
    · rw [e]
      rcases hc with ⟨e1, e2⟩ | ⟨e1, e2⟩
      · rw [e1, e2, if_pos rfl, if_neg (by omega)]
      · rw [e1, e2, if_pos rfl, if_neg (by omega)]
    · rw [h2 i (by omega)]
  · dsimp only
    have h4 := h3 p (fun i hi => hp i (by omega))
    have h5 := hp k (by omega)
    unfold Ct at h5
    by_cases e : ρ v = x
    · rw [if_pos e, h4 v hv, e]
      rw [h4 _ ha, h4 _ hb] at h5
      rcases hc with ⟨e1, e2⟩ | ⟨e1, e2⟩
      · rw [e1, e2] at h5; exact h5
      · rw [e1, e2] at h5; exact h5.symm
    · rw [if_neg e]; exact h4 v hv
  · have hne : ρ (ε (2 * k)) ≠ ρ (ε (2 * k + 1)) := by rcases hc with ⟨e1, e2⟩ | ⟨e1, e2⟩ <;> omega
    by_cases e : j = k
    · refine ⟨fun v => decide (ρ v = ρ (ε (2 * k))), ?_, fun i hi hi2 => ?_⟩
      · rw [e]
        unfold Ct
        simp only [decide_true]
        intro e2
        exact hne (of_decide_eq_true e2.symm).symm
      · unfold Ct
        simp only [h2 i (by omega)]
    · obtain ⟨p, hp, hp2⟩ := hA j (by omega)
      by_cases e2 : Ct ε p k
      · refine ⟨p, hp, fun i hi hi2 => ?_⟩
        by_cases e3 : i = k
        · rw [e3]; exact e2
        · exact hp2 i (by omega) hi2
      · refine ⟨fun v => xor (p v) (decide (ρ v = ρ (ε (2 * k + 1)))), ?_, fun i hi hi2 => ?_⟩
        · intro e4
          apply hp
          unfold Ct at e4 ⊢
          simp only [h2 j (by omega)] at e4
          exact Bool.xor_right_inj.mp (by rw [Bool.xor_comm, e4, Bool.xor_comm])
        · by_cases e3 : i = k
          · rw [e3]
            unfold Ct at e2 ⊢
            dsimp only
            rw [decide_eq_false hne, decide_eq_true (show ρ (ε (2 * k + 1)) = ρ (ε (2 * k + 1)) from rfl)]
            revert e2
            cases p (ε (2 * k)) <;> cases p (ε (2 * k + 1)) <;> simp
          · have h6 := hp2 i (by omega) hi2
            unfold Ct at h6 ⊢
            dsimp only
            rw [h2 i (by omega), h6]
/-- a circle closed: no way to part its ends -/
theorem UF_circle {ε π ρ : Nat → Nat} {M k n : Nat} (h : UF ε π ρ M k) (hk : k < n) (ha : ε (2 * k) < M) (hb : ε (2 * k + 1) < M) (e : ρ (ε (2 * k)) = ρ (ε (2 * k + 1))) : ¬ AC ε n := by
  intro hA
  obtain ⟨p, hp, hp2⟩ := hA k hk
  have h4 := h.2.2 p (fun i hi => hp2 i (by omega) (by omega))
  apply hp
  unfold Ct
  rw [h4 _ ha, h4 _ hb, e]
/-- the ends of the edges at a seed -/
def eN (κ : Nat → Nat) (n s e : Nat) : Nat := hN (4 + e % 2) (κ (e / 2)) s % (3 * n)
theorem eN_lt {κ n s e} (h : 1 ≤ n) : eN κ n s e < 3 * n := Nat.mod_lt _ (by omega)
theorem eN_a {κ n s k} : eN κ n s (2 * k) = hN 4 (κ k) s % (3 * n) := by
  unfold eN
  rw [show 2 * k % 2 = 0 by omega, show 2 * k / 2 = k by omega]
theorem eN_b {κ n s k} : eN κ n s (2 * k + 1) = hN 5 (κ k) s % (3 * n) := by
  unfold eN
  rw [show (2 * k + 1) % 2 = 1 by omega, show (2 * k + 1) / 2 = k by omega]
theorem pu_3 {n : Nat} : 3 * nI n = nI (3 * n) := pk_mul 3 n
theorem pu_2 {n : Nat} : 2 * nI n = nI (2 * n) := pk_mul 2 n
theorem pu_circle {N n s : Nat} {κ : Nat → Nat} {f : Nat → Int32} (hFu : 1000 ≤ N) (hk : KeyOk κ n) (hf : HoldK f κ n) (h1 : 1 ≤ n) (hs : s < 200) (r0 e0 : Nat → Int32) :
    ∃ fl r' e', F_X8_hasNoCircle N (nI n) f r0 e0 (nI s) = some (fl, r', e') ∧
      ((fl = 0 ∧ ¬ AC (eN κ n s) n) ∨ (fl = 1 ∧ AC (eN κ n s) n ∧ (∀ e, e < 2 * n → e' e = nI (eN κ n s e)) ∧ ∃ π ρ, (∀ v, v < 3 * n → r' v = nI (π v)) ∧ UF (eN κ n s) π ρ (3 * n) n)) := by
  have hn := hk.1
  unfold F_X8_hasNoCircle
  obtain ⟨r1, h2, h3⟩ := pu_up (f := fun (σ : ((Nat → Int32) × Int32)) => L_X8_hasNoCircle_2 N (nI n) σ.1 σ.2) (fun i σ => σ.2 = nI i ∧ ∀ v, v < i → σ.1 v = nI v) (fun r => ∀ v, v < 3 * n → r v = nI v) (3 * n)
    (fun i σ hi hσ => by
      obtain ⟨g, c⟩ := σ
      obtain ⟨h3, h4⟩ := hσ
      dsimp only at h3 h4 ⊢
      subst h3
      unfold L_X8_hasNoCircle_2
      rw [pu_3, if_neg (nI_ge hi (by omega)), pu_bind (pu_wr (by omega) (by decide)), nI_1]
      refine Or.inl ⟨_, rfl, rfl, fun v hv => ?_⟩
      dsimp only
      by_cases e : v = i
      · rw [e, pu_us]
      · rw [pu_un e]; exact h4 v (by omega))
    (fun σ hσ => by
      obtain ⟨g, c⟩ := σ
      obtain ⟨h3, h4⟩ := hσ
      dsimp only at h3 h4 ⊢
      subst h3
      unfold L_X8_hasNoCircle_2
      rw [pu_3, if_pos (nI_le (Nat.le_refl _) (by omega))]
      exact ⟨_, rfl, h4⟩)
    N 0 (r0, 0) (Nat.zero_le _) (by omega) ⟨nI_0.symm, fun v hv => absurd hv (Nat.not_lt_zero v)⟩
  rw [pu_bind h2]
  unfold J_X8_hasNoCircle_25
  obtain ⟨⟨r', e', fl⟩, h4, h5⟩ := pu_up (f := fun (σ : ((Nat → Int32) × (Nat → Int32) × Int32 × Int32)) => L_X8_hasNoCircle_29 N (nI n) f (nI s) σ.1 σ.2.1 σ.2.2.1 σ.2.2.2)
    (fun k σ => σ.2.2.2 = nI k ∧ ((σ.2.2.1 = 0 ∧ ¬ AC (eN κ n s) n) ∨ (σ.2.2.1 = 1 ∧ AC (eN κ n s) k ∧ (∀ e, e < 2 * k → σ.2.1 e = nI (eN κ n s e)) ∧ ∃ π ρ, (∀ v, v < 3 * n → σ.1 v = nI (π v)) ∧ UF (eN κ n s) π ρ (3 * n) k)))
    (fun σ => ((σ.2.2 = 0 ∧ ¬ AC (eN κ n s) n) ∨ (σ.2.2 = 1 ∧ AC (eN κ n s) n ∧ (∀ e, e < 2 * n → σ.2.1 e = nI (eN κ n s e)) ∧ ∃ π ρ, (∀ v, v < 3 * n → σ.1 v = nI (π v)) ∧ UF (eN κ n s) π ρ (3 * n) n))) n
    (fun k σ hk2 hσ => by
      obtain ⟨g, es, x, c⟩ := σ
      obtain ⟨h3, h4⟩ := hσ
      dsimp only at h3 h4 ⊢
      subst h3
      unfold L_X8_hasNoCircle_29
      rw [if_neg (nI_ge hk2 (by omega))]
      rcases h4 with ⟨rfl, h5⟩ | ⟨rfl, h5, h6, π, ρ, h7, h8⟩
      · rw [if_pos rfl]
        exact Or.inr ⟨_, rfl, Or.inl ⟨rfl, h5⟩⟩
      · have hki := hk.2.2 k hk2
        have b4 := hN_lt 4 (κ k) s
        have b5 := hN_lt 5 (κ k) s
        have hea : eN κ n s (2 * k) < 3 * n := eN_lt h1
        have heb : eN κ n s (2 * k + 1) < 3 * n := eN_lt h1
        have ha := h8.1 _ hea
        have hb := h8.1 _ heb
        rw [if_neg (show ¬ (1 : Int32) = 0 by decide), pu_bind (pu_rd (by omega) (by decide)), hf k hk2, pu_bind (pu_mh4 hki hs), pu_3, pu_2, pu_nz (by omega) (by omega), pu_rem (by omega) (by omega) (by omega), ← eN_a, pu_bind (pu_wr (by omega) (by decide)), pu_bind (pu_rd (by omega) (by decide)), hf k hk2, pu_bind (pu_mh5 hki hs), pu_nz (by omega) (by omega), pu_rem (by omega) (by omega) (by omega), ← eN_b, nI_1, pu_bind (pu_wr (by omega) (by decide)), pu_bind (pu_rd (by omega) (by decide)), pu_un (show 2 * k ≠ 2 * k + 1 by omega), pu_us, pu_bind (pu_root hFu (by omega) h8.1 h7 hea), pu_bind (pu_rd (by omega) (by decide)), pu_us, pu_bind (pu_root hFu (by omega) h8.1 h7 heb)]
        have hes : ∀ e, e < 2 * (k + 1) → upd (upd es (2 * k) (nI (eN κ n s (2 * k)))) (2 * k + 1) (nI (eN κ n s (2 * k + 1))) e = nI (eN κ n s e) := fun e he => by
          by_cases e1 : e = 2 * k + 1
          · rw [e1, pu_us]
          · rw [pu_un e1]
            by_cases e2 : e = 2 * k
            · rw [e2, pu_us]
            · rw [pu_un e2]; exact h6 e (by omega)
        unfold J_X8_hasNoCircle_137 J_X8_hasNoCircle_156 J_X8_hasNoCircle_170
        rw [nI_1]
        by_cases e : ρ (eN κ n s (2 * k)) = ρ (eN κ n s (2 * k + 1))
        · rw [if_pos (congrArg nI e), if_pos (nI_le (by omega) (by omega)), if_pos (nI_le (by omega) (by omega)), pu_bind (pu_wr (by omega) (by decide))]
          exact Or.inl ⟨_, rfl, rfl, Or.inl ⟨rfl, UF_circle h8 hk2 hea heb e⟩⟩
        · rw [if_neg (fun e2 => e ((nI_eq (by omega) (by omega)).mp e2))]
          rcases Nat.lt_or_ge (ρ (eN κ n s (2 * k + 1))) (ρ (eN κ n s (2 * k))) with q | q
          · rw [if_neg (nI_ge q (by omega)), if_neg (nI_ge q (by omega)), pu_bind (pu_wr (by omega) (by decide))]
            have hj := UF_join h8 h5 hea heb q (Or.inl ⟨rfl, rfl⟩)
            refine Or.inl ⟨_, rfl, rfl, Or.inr ⟨rfl, hj.2, hes, _, _, fun v hv => ?_, hj.1⟩⟩
            dsimp only
            by_cases e3 : v = ρ (eN κ n s (2 * k))
            · rw [e3, pu_us, if_pos rfl]
            · rw [pu_un e3, if_neg e3]; exact h7 v hv
          · rw [if_pos (nI_le q (by omega)), if_pos (nI_le q (by omega)), pu_bind (pu_wr (by omega) (by decide))]
            have hj := UF_join (x := ρ (eN κ n s (2 * k + 1))) (m := ρ (eN κ n s (2 * k))) h8 h5 hea heb (by omega) (Or.inr ⟨rfl, rfl⟩)
            refine Or.inl ⟨_, rfl, rfl, Or.inr ⟨rfl, hj.2, hes, _, _, fun v hv => ?_, hj.1⟩⟩
            dsimp only
            by_cases e3 : v = ρ (eN κ n s (2 * k + 1))
            · rw [e3, pu_us, if_pos rfl]
            · rw [pu_un e3, if_neg e3]; exact h7 v hv)
    (fun σ hσ => by
      obtain ⟨g, es, x, c⟩ := σ
      obtain ⟨h3, h4⟩ := hσ
      dsimp only at h3 h4 ⊢
      subst h3
      unfold L_X8_hasNoCircle_29
      rw [if_pos (nI_le (Nat.le_refl _) (by omega))]
      exact ⟨_, rfl, h4⟩)
    N 0 (r1, e0, 1, 0) (Nat.zero_le _) (by omega)
    ⟨nI_0.symm, Or.inr ⟨rfl, fun j hj => absurd hj (Nat.not_lt_zero j), fun e he => absurd he (by omega), fun v => v, fun v => v, h3, fun v hv => ⟨Nat.le_refl v, Nat.le_refl v, rfl, rfl, fun _ => rfl⟩, fun i hi => absurd hi (Nat.not_lt_zero i), fun p _ v _ => rfl⟩⟩
  rw [pu_bind h4]
  unfold J_X8_hasNoCircle_177
  dsimp only at h5 ⊢
  refine ⟨fl, r', e', ?_, h5⟩
  rcases h5 with ⟨rfl, _⟩ | ⟨rfl, _⟩ <;> rfl
