/-! ===== the law's own look whether the graph has no circle ===== -/
/-- each vertex's representative behind k edges, flat; no edge closed a circle -/
def UL (ε ρ : Nat → Nat) (M k : Nat) : Prop := (∀ v, v < M → ρ v < M) ∧ (∀ i, i < k → ρ (ε (2 * i)) = ρ (ε (2 * i + 1))) ∧ (∀ p : Nat → Bool, (∀ i, i < k → Ct ε p i) → ∀ v, v < M → p v = p (ρ v)) ∧ AC ε k
theorem UL_circle {ε ρ : Nat → Nat} {M k n : Nat} (h : UL ε ρ M k) (hk : k < n) (ha : ε (2 * k) < M) (hb : ε (2 * k + 1) < M) (e : ρ (ε (2 * k)) = ρ (ε (2 * k + 1))) : ¬ AC ε n := by
  intro hA
  obtain ⟨p, hp, hp2⟩ := hA k hk
  have h4 := h.2.2.1 p (fun i hi => hp2 i (by omega) (by omega))
  apply hp
  unfold Ct
  rw [h4 _ ha, h4 _ hb, e]
theorem UL_join {ε ρ : Nat → Nat} {M k : Nat} (h : UL ε ρ M k) (ha : ε (2 * k) < M) (hb : ε (2 * k + 1) < M) (e : ρ (ε (2 * k)) ≠ ρ (ε (2 * k + 1))) :
    UL ε (fun v => if ρ v = ρ (ε (2 * k + 1)) then ρ (ε (2 * k)) else ρ v) M (k + 1) := by
  obtain ⟨h1, h2, h3, h4⟩ := h
  refine ⟨fun v hv => ?_, fun i hi => ?_, fun p hp v hv => ?_, fun j hj => ?_⟩
  · dsimp only
    split
    · exact h1 _ ha
    · exact h1 v hv
  · dsimp only
    by_cases q : i = k
    · subst q
      rw [if_neg e, if_pos rfl]
    · rw [h2 i (by omega)]
  · have h5 := h3 p (fun i hi => hp i (by omega))
    dsimp only
    by_cases q : ρ v = ρ (ε (2 * k + 1))
    · rw [if_pos q, h5 v hv, q, ← h5 _ hb, ← h5 _ ha]
      exact (hp k (by omega)).symm
    · rw [if_neg q]; exact h5 v hv
  · by_cases q : j = k
    · subst q
      refine ⟨fun v => decide (ρ v = ρ (ε (2 * j))), fun hc => ?_, fun i hi hij => ?_⟩
      · unfold Ct at hc
        dsimp only at hc
        rw [decide_eq_true rfl] at hc
        exact e (of_decide_eq_true hc.symm).symm
      · unfold Ct
        dsimp only
        rw [h2 i (by omega)]
    · obtain ⟨p, hp, hp2⟩ := h4 j (by omega)
      by_cases hk : Ct ε p k
      · refine ⟨p, hp, fun i hi hij => ?_⟩
        by_cases q2 : i = k
        · rw [q2]; exact hk
        · exact hp2 i (by omega) hij
      · have hs : ∀ i, i < k → ((if ρ (ε (2 * i)) = ρ (ε (2 * k + 1)) then !p (ε (2 * i)) else p (ε (2 * i))) = (if ρ (ε (2 * i + 1)) = ρ (ε (2 * k + 1)) then !p (ε (2 * i + 1)) else p (ε (2 * i + 1))) ↔ Ct ε p i) := fun i hi => by
          unfold Ct
          rw [h2 i hi]
          by_cases q3 : ρ (ε (2 * i + 1)) = ρ (ε (2 * k + 1))
          · rw [if_pos q3, if_pos q3]
            constructor
            · intro h9
              have := congrArg (fun b => !b) h9
              simpa using this
            · intro h9
              rw [h9]
          · rw [if_neg q3, if_neg q3]
        refine ⟨fun v => if ρ v = ρ (ε (2 * k + 1)) then !p v else p v, fun hc => hp ((hs j (by omega)).mp hc), fun i hi hij => ?_⟩
        by_cases q2 : i = k
        · subst q2
          unfold Ct
          dsimp only
          rw [if_neg e, if_pos rfl]
          unfold Ct at hk
          cases hp9 : p (ε (2 * i)) <;> cases hp8 : p (ε (2 * i + 1)) <;> first | rfl | (exfalso; apply hk; rw [hp9, hp8])
        · exact (hs i (by omega)).mpr (hp2 i (by omega) hij)
theorem pl_j3 {n : Nat} : (3 : Int32) * nI n = nI (3 * n) := pu_3
theorem pl_jinit {N n : Nat} (hFu : 1000 ≤ N) (hn : n ≤ 20) (g : Nat → Int32) :
    ∃ g', kk_iter (fun (σ : ((Nat → Int32) × Int32)) => L_L_joined_15 N 64 (nI n) σ.1 σ.2) N (g, 0) = some g' ∧ ∀ v, v < 3 * n → g' v = nI v := by
  refine pu_up (f := fun (σ : ((Nat → Int32) × Int32)) => L_L_joined_15 N 64 (nI n) σ.1 σ.2) (fun i σ => σ.2 = nI i ∧ ∀ v, v < i → σ.1 v = nI v) _ (3 * n)
    (fun i σ hi hσ => by
      obtain ⟨g, c⟩ := σ
      obtain ⟨h3, h4⟩ := hσ
      dsimp only at h3 h4 ⊢
      subst h3
      unfold L_L_joined_15
      rw [pl_j3, if_neg (nI_ge hi (by omega)), pu_bind (pu_wr (by omega) (by decide)), nI_1]
      refine Or.inl ⟨_, rfl, rfl, fun x hx => ?_⟩
      dsimp only
      by_cases e : x = i
      · rw [e, pu_us]
      · rw [pu_un e]; exact h4 x (by omega))
    (fun σ hσ => by
      obtain ⟨g, c⟩ := σ
      obtain ⟨h3, h4⟩ := hσ
      dsimp only at h3 h4 ⊢
      subst h3
      unfold L_L_joined_15
      rw [pl_j3, if_pos (nI_le (Nat.le_refl _) (by omega))]
      exact ⟨_, rfl, h4⟩)
    N 0 (g, 0) (Nat.zero_le _) (by omega) ⟨nI_0.symm, fun x hx => absurd hx (Nat.not_lt_zero x)⟩
theorem pl_jput {N n x m : Nat} {ρ : Nat → Nat} {g : Nat → Int32} (hFu : 1000 ≤ N) (hn : n ≤ 20) (hx : x < 3 * n) (hm : m < 3 * n) (hg : ∀ v, v < 3 * n → ρ v < 3 * n ∧ g v = nI (ρ v)) :
    ∃ g', kk_iter (fun (σ : ((Nat → Int32) × Int32)) => L_L_joined_108 N 64 (nI n) (nI m) (nI x) σ.1 σ.2) N (g, 0) = some g' ∧ ∀ v, v < 3 * n → g' v = nI (if ρ v = x then m else ρ v) := by
  obtain ⟨g', h1, h2⟩ := pu_up (f := fun (σ : ((Nat → Int32) × Int32)) => L_L_joined_108 N 64 (nI n) (nI m) (nI x) σ.1 σ.2) (fun i σ => σ.2 = nI i ∧ (∀ v, v < i → σ.1 v = nI (if ρ v = x then m else ρ v)) ∧ ∀ v, i ≤ v → v < 3 * n → σ.1 v = nI (ρ v)) (fun r => ∀ v, v < 3 * n → r v = nI (if ρ v = x then m else ρ v)) (3 * n)
    (fun i σ hi hσ => by
      obtain ⟨g, c⟩ := σ
      obtain ⟨h3, h4, h5⟩ := hσ
      dsimp only at h3 h4 h5 ⊢
      subst h3
      have h6 := (hg i hi).1
      unfold L_L_joined_108 J_L_joined_137
      rw [pl_j3, if_neg (nI_ge hi (by omega)), pu_bind (pu_rd (by omega) (by decide)), h5 i (Nat.le_refl i) hi]
      by_cases e : ρ i = x
      · rw [if_pos (congrArg nI e), pu_bind (pu_wr (by omega) (by decide)), nI_1]
        refine Or.inl ⟨_, rfl, rfl, fun v hv => ?_, fun v hv hv2 => ?_⟩
        · dsimp only
          by_cases e2 : v = i
          · rw [e2, pu_us, if_pos e]
          · rw [pu_un e2]; exact h4 v (by omega)
        · dsimp only
          rw [pu_un (by omega)]; exact h5 v (by omega) hv2
      · rw [if_neg (fun e2 => e ((nI_eq (by omega) (by omega)).mp e2)), pu_bind (pu_rd (by omega) (by decide)), h5 i (Nat.le_refl i) hi, pu_bind (pu_wr (by omega) (by decide)), nI_1]
        refine Or.inl ⟨_, rfl, rfl, fun v hv => ?_, fun v hv hv2 => ?_⟩
        · dsimp only
          by_cases e2 : v = i
          · rw [e2, pu_us, if_neg e]
          · rw [pu_un e2]; exact h4 v (by omega)
        · dsimp only
          rw [pu_un (by omega)]; exact h5 v (by omega) hv2)
    (fun σ hσ => by
      obtain ⟨g, c⟩ := σ
      obtain ⟨h3, h4, h5⟩ := hσ
      dsimp only at h3 h4 h5 ⊢
      subst h3
      unfold L_L_joined_108
      rw [pl_j3, if_pos (nI_le (Nat.le_refl _) (by omega))]
      exact ⟨_, rfl, h4⟩)
    N 0 (g, 0) (Nat.zero_le _) (by omega) ⟨nI_0.symm, fun v hv => absurd hv (Nat.not_lt_zero v), fun v _ hv => (hg v hv).2⟩
  exact ⟨g', h1, h2⟩
theorem pl_circle {N n s : Nat} {κ : Nat → Nat} {f : Nat → Int32} (hFu : 1000 ≤ N) (hk : KeyOk κ n) (hf : HoldK f κ n) (h1 : 1 ≤ n) (hn : n ≤ 20) (hs : s < 200) (g : Nat → Int32) (hg : ∀ v, v < 3 * n → g v = nI v) :
    ∃ g' fl, kk_iter (fun (σ : ((Nat → Int32) × Int32 × Int32)) => L_L_joined_38 N 32 64 f (nI n) (nI s) σ.1 σ.2.1 σ.2.2) N (g, 1, 0) = some (g', fl) ∧ ((fl = 0 ∧ ¬ AC (eN κ n s) n) ∨ (fl = 1 ∧ AC (eN κ n s) n)) := by
  have h3n : 0 < 3 * n := by omega
  have hem : ∀ e, eN κ n s e < 3 * n := fun e => eN_lt h1
  obtain ⟨⟨g', fl⟩, h2, h3⟩ := pu_up (f := fun (σ : ((Nat → Int32) × Int32 × Int32)) => L_L_joined_38 N 32 64 f (nI n) (nI s) σ.1 σ.2.1 σ.2.2)
    (fun i σ => σ.2.2 = nI i ∧ ((σ.2.1 = 0 ∧ ¬ AC (eN κ n s) n) ∨ (σ.2.1 = 1 ∧ ∃ ρ, UL (eN κ n s) ρ (3 * n) i ∧ ∀ v, v < 3 * n → σ.1 v = nI (ρ v))))
    (fun r => (r.2 = 0 ∧ ¬ AC (eN κ n s) n) ∨ (r.2 = 1 ∧ AC (eN κ n s) n)) n
    (fun i σ hi hσ => by
      obtain ⟨g, x, c⟩ := σ
      obtain ⟨h3, h4⟩ := hσ
      dsimp only at h3 h4 ⊢
      subst h3
      have hki := hk.2.2 i hi
      have h5 := hN_lt 4 (κ i) s
      have h6 := hN_lt 5 (κ i) s
      unfold L_L_joined_38 J_L_joined_103 J_L_joined_144
      rw [if_neg (nI_ge hi (by omega))]
      rcases h4 with ⟨rfl, h4⟩ | ⟨rfl, ρ, hU, hρ⟩
      · rw [if_pos rfl]
        exact Or.inr ⟨_, rfl, Or.inl ⟨rfl, h4⟩⟩
      · have ha := hem (2 * i)
        have hb := hem (2 * i + 1)
        have hra := hU.1 _ ha
        have hrb := hU.1 _ hb
        rw [if_neg (show ¬ (1 : Int32) = 0 by decide), pu_bind (pu_rd (by omega) (by decide)), hf i hi, pu_bind (pl_h4 hki hs), pl_j3, pu_nzL h3n (by omega), pl_mod (by omega) h3n (by omega), lN_i, ← eN_a, pu_bind (pu_rd (by omega) (by decide)), hρ _ ha,
          pu_bind (pu_rd (by omega) (by decide)), hf i hi, pu_bind (pl_h5 hki hs), pu_nzL h3n (by omega), pl_mod (by omega) h3n (by omega), lN_i, ← eN_b, pu_bind (pu_rd (by omega) (by decide)), hρ _ hb]
        obtain ⟨g2, c1, c2⟩ := pl_jput (N := N) (x := ρ (eN κ n s (2 * i + 1))) (m := ρ (eN κ n s (2 * i))) hFu hn hrb hra (fun v hv => ⟨hU.1 v hv, hρ v hv⟩)
        by_cases e : ρ (eN κ n s (2 * i)) = ρ (eN κ n s (2 * i + 1))
        · rw [if_pos (congrArg nI e), pu_bind c1, nI_1]
          exact Or.inl ⟨_, rfl, rfl, Or.inl ⟨rfl, UL_circle hU hi ha hb e⟩⟩
        · rw [if_neg (fun e2 => e ((nI_eq (by omega) (by omega)).mp e2)), pu_bind c1, nI_1]
          exact Or.inl ⟨_, rfl, rfl, Or.inr ⟨rfl, _, UL_join hU ha hb e, c2⟩⟩)
    (fun σ hσ => by
      obtain ⟨g, x, c⟩ := σ
      obtain ⟨h3, h4⟩ := hσ
      dsimp only at h3 h4 ⊢
      subst h3
      unfold L_L_joined_38
      rw [if_pos (nI_le (Nat.le_refl _) (by omega))]
      refine ⟨_, rfl, ?_⟩
      rcases h4 with ⟨rfl, h4⟩ | ⟨rfl, ρ, hU, hρ⟩
      · exact Or.inl ⟨rfl, h4⟩
      · exact Or.inr ⟨rfl, hU.2.2.2⟩)
    N 0 (g, 1, 0) (Nat.zero_le _) (by omega) ⟨nI_0.symm, Or.inr ⟨rfl, fun v => v, ⟨fun v hv => hv, fun i hi => absurd hi (Nat.not_lt_zero i), fun p _ v _ => rfl, fun j hj => absurd hj (Nat.not_lt_zero j)⟩, hg⟩⟩
  exact ⟨g', fl, h2, h3⟩
theorem HG_ex {n s : Nat} {κ : Nat → Nat} (hk : KeyOk κ n) (h1 : 1 ≤ n) (hs : s < 200) : ∃ mu, HG (eN κ n s) n (3 * n) mu := by
  have hn := hk.1
  by_cases hA : AC (eN κ n s) n
  · obtain ⟨fl, r', e', e3, e4⟩ := pu_circle (N := 1000) (f := fun i => nI (κ i)) (Nat.le_refl _) hk (fun i _ => rfl) h1 hs (fun _ => 0) (fun _ => 0)
    rcases e4 with ⟨_, e5⟩ | ⟨_, e5, e6, π, ρ, e7, e8⟩
    · exact absurd hA e5
    · obtain ⟨V2, d1, mu, d2, d3⟩ := pu_layValues (N := 1000) (V0 := fun _ => 0) (Nat.le_refl _) h1 hn e6 (fun e => eN_lt h1) e7 e8 e5
      exact ⟨mu, fun _ => ⟨d2.1, d2.2.2, ρ, fun v hv => (e8.1 v hv).2.1, d2.2.1, e8.2.2⟩⟩
  · exact ⟨fun _ => 0, fun h => absurd h hA⟩
theorem pl_gsettle2 {N κ n} {f f2 : Nat → Int32} (hFu : 1000 ≤ N) (hk : KeyOk κ n) (hf : HoldK f κ n) (hf2 : HoldK f2 κ n) (h1 : 1 ≤ n) (hn : n ≤ 20)
    (x1 x2 x3 x4 x5 x6 : Int32) (g1 g2 g3 g4 g5 g6 m1 : Nat → Int32) :
    ∃ fl rc sd tC gC fg fb fm w V R m2, F_X1_settle N x1 x2 x3 x4 x5 x6 g1 g2 g3 g4 g5 g6 (nI n) f = some (fl, rc, nI n, nI (3 * n), sd, tC, gC, fg, fb, fm, w, V, R) ∧
      F_L_joined N 32 f2 64 m1 (nI n) = some (fl, m2) ∧
      (fl = 0 ∨ (fl = 1 ∧ ∃ s, s < 200 ∧ sd = nI s ∧ ∃ mu : Nat → Nat, (∀ v, v < 3 * n → mu v < n ∧ V v = nI (mu v)) ∧ ∀ k, k < n → (mu (eN κ n s (2 * k)) + mu (eN κ n s (2 * k + 1))) % n = k)) := by
  have hn2 := hk.1
  unfold F_X1_settle F_L_joined
  rw [pu_3]
  obtain ⟨r, w, h2, h3, h4⟩ := pu_up2
    (f := fun (σ : (Int32 × Int32 × Int32 × Int32 × (Nat → Int32) × (Nat → Int32) × (Nat → Int32) × (Nat → Int32) × (Nat → Int32) × (Nat → Int32) × Int32)) => L_X1_settle_20 N (nI n) (nI (3 * n)) f σ.1 σ.2.1 σ.2.2.1 σ.2.2.2.1 σ.2.2.2.2.1 σ.2.2.2.2.2.1 σ.2.2.2.2.2.2.1 σ.2.2.2.2.2.2.2.1 σ.2.2.2.2.2.2.2.2.1 σ.2.2.2.2.2.2.2.2.2.1 σ.2.2.2.2.2.2.2.2.2.2)
    (g := fun (σ : ((Nat → Int32) × Int32)) => L_L_joined_2 N 32 64 f2 (nI n) σ.1 σ.2)
    (fun i σ υ => σ.2.2.2.2.2.2.2.2.2.2 = nI i ∧ υ.2 = nI i)
    (fun r w => (∃ z w2, r = .inr z ∧ w = .inr w2) ∨ ∃ s rc tC gC fg fb fm w9 V R w2, r = .inl (rc, nI s, tC, gC, fg, fb, fm, w9, V, R) ∧ w = .inl w2 ∧ s < 200 ∧ ∃ mu : Nat → Nat, (∀ v, v < 3 * n → mu v < n ∧ V v = nI (mu v)) ∧ ∀ k, k < n → (mu (eN κ n s (2 * k)) + mu (eN κ n s (2 * k + 1))) % n = k) 200
    (fun i σ υ hi hσ => by
      obtain ⟨a1, a2, a3, a4, a5, a6, a7, a8, a9, a10, a11⟩ := σ
      obtain ⟨b1, b2⟩ := υ
      obtain ⟨h3, h4⟩ := hσ
      dsimp only at h3 h4 ⊢
      subst h3 h4
      obtain ⟨tC, gC, fg, fb, fm, e1, e2⟩ := pu_layEdges (s := i) hFu hk hf h1 hi a3 a4 a5 a6 a7
      obtain ⟨gi, e3, e4⟩ := pl_jinit (N := N) (n := n) hFu hn b1
      obtain ⟨gj, jl, e5, e6⟩ := pl_circle hFu hk hf2 h1 hn hi gi e4
      obtain ⟨mu, hmu⟩ := HG_ex (s := i) hk h1 hi
      obtain ⟨fl, rc, w', V', R', c1, c2⟩ := pu_giveValues (rc0 := a1) (mu := mu) hFu h1 hn2 (fun e => eN_lt h1) e2 hmu a8 a9 a10
      unfold L_X1_settle_20 L_L_joined_2 J_L_joined_35 J_L_joined_150
      rw [if_neg (show ¬ (200 : Int32) ≤ nI i from nI_ge (b := 200) hi (by decide)), if_neg (show ¬ (200 : Int32) ≤ nI i from nI_ge (b := 200) hi (by decide)), pu_bind e1, pu_bind e3, pu_bind e5]
      dsimp only
      rw [pu_bind c1]
      dsimp only
      rcases e6 with ⟨rfl, e7⟩ | ⟨rfl, e7⟩
      · rcases c2 with ⟨rfl, _⟩ | ⟨rfl, c3, _⟩
        · rw [if_pos rfl, if_pos rfl, nI_1]
          exact Or.inl ⟨_, _, rfl, rfl, rfl, rfl⟩
        · exact absurd c3 e7
      · rcases c2 with ⟨_, c3⟩ | ⟨rfl, _, c3⟩
        · exact absurd e7 c3
        · rw [if_neg (show ¬ (1 : Int32) = 0 by decide), if_neg (show ¬ (1 : Int32) = 0 by decide)]
          have h9 := hmu e7
          exact Or.inr (Or.inr ⟨_, _, rfl, rfl, Or.inr ⟨i, _, _, _, _, _, _, _, _, _, _, rfl, rfl, hi, mu, fun v hv => ⟨h9.1 v hv, c3 v hv⟩, h9.2.1⟩⟩))
    (fun σ υ hσ => by
      obtain ⟨a1, a2, a3, a4, a5, a6, a7, a8, a9, a10, a11⟩ := σ
      obtain ⟨b1, b2⟩ := υ
      obtain ⟨h3, h4⟩ := hσ
      dsimp only at h3 h4 ⊢
      subst h3 h4
      unfold L_X1_settle_20 L_L_joined_2
      rw [if_pos (show (200 : Int32) ≤ nI 200 from nI_le (Nat.le_refl 200) (by decide)), if_pos (show (200 : Int32) ≤ nI 200 from nI_le (Nat.le_refl 200) (by decide))]
      exact ⟨_, _, rfl, rfl, Or.inl ⟨_, _, rfl, rfl⟩⟩)
    N 0 (x1, x4, x5, x6, g1, g2, g3, g4, g5, g6, 0) (m1, 0) (Nat.zero_le _) (by omega) ⟨nI_0.symm, nI_0.symm⟩
  rw [pu_bind h2, pu_bind h3]
  rcases h4 with ⟨z, w2, rfl, rfl⟩ | ⟨s, rc, tC, gC, fg, fb, fm, w9, V, R, w2, rfl, rfl, h5, h6⟩
  · unfold J_X1_settle_52 J_L_joined_163
    exact ⟨_, _, _, _, _, _, _, _, _, _, _, _, rfl, rfl, Or.inl rfl⟩
  · unfold J_X1_settle_44 J_L_joined_155
    exact ⟨_, _, _, _, _, _, _, _, _, _, _, _, rfl, rfl, Or.inr ⟨rfl, s, h5, rfl, h6⟩⟩
