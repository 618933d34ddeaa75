/-! ===== all the values given ===== -/
theorem pu_walkFrom {N n lo : Nat} {rc0 : Int32} {ε mu : Nat → Nat} {fg fb fm R w V : Nat → Int32} (hFu : 1000 ≤ N) (h1 : 1 ≤ n) (hn : n ≤ 120) (hem : ∀ e, ε e < 3 * n) (hE : EdK ε n fg fb fm) (hH : HG ε n (3 * n) mu)
    (hG : GI ε n (3 * n) mu w V) (hD : DN ε n (3 * n) w V (fun _ => False)) (hlo : lo < 3 * n) (hV : V lo = -1) (hbe : ∀ v, v < lo → V v ≠ -1) :
    ∃ fl rc w' V' R', F_X1_walkFrom N rc0 (nI n) (nI (3 * n)) fg fb fm w V R (nI lo) = some (fl, rc, w', V', R') ∧
      ((fl = 0 ∧ ¬ AC ε n) ∨ (fl = 1 ∧ GI ε n (3 * n) mu w' V' ∧ DN ε n (3 * n) w' V' (fun _ => False) ∧ V' lo ≠ -1 ∧ ∀ v, V v ≠ -1 → V' v ≠ -1)) := by
  have hsl : ∀ v, V v ≠ -1 → upd V lo 0 v ≠ -1 := fun v hv => by
    rw [pu_un (fun e => hv (by rw [e]; exact hV))]; exact hv
  have h0m : (0 : Int32) ≠ -1 := by decide
  have hdrop := un_upd (V := V) (x := 0) hlo hV h0m
  have hun : un V (3 * n) ≤ 3 * n := cc_le _ _
  have hG1 : GI ε n (3 * n) mu w (upd V lo 0) := by
    refine ⟨fun v hv => ?_, hG.2.1, hG.2.2.1, fun e he hw => hsl _ (hG.2.2.2.1 e he hw), fun hA v hv hs => ?_⟩
    · by_cases e : v = lo
      · rw [e, pu_us]; exact Or.inr ⟨0, h1, rfl⟩
      · rw [pu_un e]; exact hG.1 v hv
    · by_cases e : v = lo
      · obtain ⟨_, _, ρ, r1, r2, r3⟩ := hH hA
        rw [e, pu_us]
        have hr : ρ lo = lo := by
          rcases Nat.lt_or_ge (ρ lo) lo with q | q
          · have q1 := r3 (fun x => decide (V x = -1)) (fun k hk => by
              unfold Ct
              dsimp only
              by_cases a : V (ε (2 * k)) = -1
              · by_cases b : V (ε (2 * k + 1)) = -1
                · rw [decide_eq_true a, decide_eq_true b]
                · have q2 := hD _ (hem _) b (fun h => h) (2 * k + 1) (by omega) rfl
                  have q3 := hG.2.2.2.1 (2 * k) (by omega) (by rw [show 2 * k / 2 = (2 * k + 1) / 2 by omega]; exact q2)
                  exact absurd a q3
              · by_cases b : V (ε (2 * k + 1)) = -1
                · have q2 := hD _ (hem _) a (fun h => h) (2 * k) (by omega) rfl
                  have q3 := hG.2.2.2.1 (2 * k + 1) (by omega) (by rw [show (2 * k + 1) / 2 = 2 * k / 2 by omega]; exact q2)
                  exact absurd b q3
                · rw [decide_eq_false a, decide_eq_false b]) lo hlo
            rw [decide_eq_true hV, decide_eq_false (hbe _ q)] at q1
            exact absurd q1 (by decide)
          · have := r1 lo hlo
            omega
        rw [r2 lo hlo hr]; rfl
      · rw [pu_un e] at hs ⊢
        exact hG.2.2.2.2 hA v hv hs
  have hQ1 : QI ε n (3 * n) lo 1 (upd R 0 (nI lo)) w (upd V lo 0) := by
    refine ⟨fun i hi => ?_, by omega, fun p hp i v hi hiv hv => ?_⟩
    · have : i = 0 := by omega
      rw [this, pu_us]
      exact ⟨lo, hlo, rfl, by rw [pu_us]; exact h0m⟩
    · have : i = 0 := by omega
      rw [this, pu_us] at hiv
      rw [(nI_eq (by omega) (by omega)).mp hiv]
  have hD1 : DN ε n (3 * n) w (upd V lo 0) (XQ 0 1 (upd R 0 (nI lo))) := by
    intro v hv hs hX e he hev
    have e2 : v ≠ lo := fun e2 => hX ⟨0, Nat.le_refl 0, by omega, by rw [pu_us, e2]⟩
    rw [pu_un e2] at hs
    exact hD v hv hs (fun h => h) e he hev
  unfold F_X1_walkFrom
  rw [pu_bind (show F_X1_reach N 0 V R (nI lo) 0 = some (nI 1, upd V lo 0, upd R 0 (nI lo)) from pu_reach (c := 0) (by decide) (by omega))]
  obtain ⟨r, h2, h3⟩ := pu_up (f := fun (σ : (Int32 × (Nat → Int32) × (Nat → Int32) × (Nat → Int32) × Int32)) => L_X1_walkFrom_13 N (nI n) (nI (3 * n)) fg fb fm σ.1 σ.2.1 σ.2.2.1 σ.2.2.2.1 σ.2.2.2.2)
    (fun i σ => σ.2.2.2.2 = nI i ∧ ∃ c, σ.1 = nI c ∧ i ≤ c ∧ GI ε n (3 * n) mu σ.2.1 σ.2.2.1 ∧ QI ε n (3 * n) lo c σ.2.2.2.1 σ.2.1 σ.2.2.1 ∧ DN ε n (3 * n) σ.2.1 σ.2.2.1 (XQ i c σ.2.2.2.1) ∧ ∀ v, upd V lo 0 v ≠ -1 → σ.2.2.1 v ≠ -1)
    (fun r => (∃ z, r = .inl z ∧ ¬ AC ε n) ∨ ∃ rc w' V' R', r = .inr (rc, w', V', R') ∧ GI ε n (3 * n) mu w' V' ∧ DN ε n (3 * n) w' V' (fun _ => False) ∧ ∀ v, upd V lo 0 v ≠ -1 → V' v ≠ -1) (3 * n)
    (fun i σ hi hσ => by
      obtain ⟨rc, w, V1, R, pl⟩ := σ
      obtain ⟨h3, c, h4, h5, hG, hQ, hD, hmo⟩ := hσ
      dsimp only at h3 h4 h5 hG hQ hD hmo ⊢
      subst h3 h4
      have hcM : c ≤ 3 * n := by have := hQ.2.1; omega
      unfold L_X1_walkFrom_13
      rcases Nat.lt_or_ge i c with q | q
      · obtain ⟨u, hu, hR, _⟩ := hQ.1 i q
        rw [if_neg (nI_ge q (by omega)), if_neg (nI_ge hi (by omega)), pu_bind (pu_get (by omega) (by decide)), hR]
        obtain ⟨fl, rc, w', V', R', a1, a2⟩ := pu_walkOn hFu h1 hn hem hE hH hG hQ hD q hR hu
        rw [pu_bind a1]
        dsimp only
        rcases a2 with ⟨rfl, a3⟩ | ⟨rfl, c', rfl, a3, a4, a5, a6, a7⟩
        · rw [if_pos rfl]
          exact Or.inr ⟨_, rfl, Or.inl ⟨_, rfl, a3⟩⟩
        · rw [if_neg (show ¬ (1 : Int32) = 0 by decide), nI_1]
          exact Or.inl ⟨_, rfl, rfl, c', rfl, by omega, a4, a5, a6, fun v hv => a7 v (hmo v hv)⟩
      · rw [if_pos (nI_le q (by omega))]
        refine Or.inr ⟨_, rfl, Or.inr ⟨_, _, _, _, rfl, hG, fun v hv hs _ => hD v hv hs (fun ⟨q1, b1, b2, _⟩ => by omega), hmo⟩⟩)
    (fun σ hσ => by
      obtain ⟨rc, w, V1, R, pl⟩ := σ
      obtain ⟨h3, c, h4, h5, hG, hQ, hD, hmo⟩ := hσ
      dsimp only at h3 h4 h5 hG hQ hD hmo ⊢
      subst h3 h4
      have hcM : c ≤ 3 * n := by have := hQ.2.1; omega
      unfold L_X1_walkFrom_13
      rw [if_pos (nI_le hcM (by omega))]
      exact ⟨_, rfl, Or.inr ⟨_, _, _, _, rfl, hG, fun v hv hs _ => hD v hv hs (fun ⟨q1, b1, b2, _⟩ => by omega), hmo⟩⟩)
    N 0 (nI 1, w, upd V lo 0, upd R 0 (nI lo), 0) (Nat.zero_le _) (by omega) ⟨nI_0.symm, 1, rfl, by omega, hG1, hQ1, hD1, fun v h => h⟩
  rw [pu_bind h2]
  rcases h3 with ⟨z, rfl, h4⟩ | ⟨rc, w', V', R', rfl, h4, h5, h6⟩
  · unfold J_X1_walkFrom_44
    exact ⟨_, _, _, _, _, rfl, Or.inl ⟨rfl, h4⟩⟩
  · unfold J_X1_walkFrom_52
    exact ⟨_, _, _, _, _, rfl, Or.inr ⟨rfl, h4, h5, h6 lo (by rw [pu_us]; exact h0m), fun v hv => h6 v (hsl v hv)⟩⟩
theorem pu_giveValues {N n : Nat} {rc0 : Int32} {ε mu : Nat → Nat} {fg fb fm : Nat → Int32} (hFu : 1000 ≤ N) (h1 : 1 ≤ n) (hn : n ≤ 120) (hem : ∀ e, ε e < 3 * n) (hE : EdK ε n fg fb fm) (hH : HG ε n (3 * n) mu) (w0 V0 R0 : Nat → Int32) :
    ∃ fl rc w' V' R', F_X1_giveValues N rc0 (nI n) (nI (3 * n)) fg fb fm w0 V0 R0 = some (fl, rc, w', V', R') ∧
      ((fl = 0 ∧ ¬ AC ε n) ∨ (fl = 1 ∧ AC ε n ∧ ∀ v, v < 3 * n → V' v = nI (mu v))) := by
  obtain ⟨V1, hv1, hv2⟩ := pu_fill (N := N) (n := 360) (f := V0) (x := -1) (by decide) (by omega)
  obtain ⟨w1, hw1, hw2⟩ := pu_fill (N := N) (n := 120) (f := w0) (x := 0) (by decide) (by omega)
  unfold F_X1_giveValues
  rw [pu_bind hv1, pu_bind hw1]
  obtain ⟨r, h2, h3⟩ := pu_up (f := fun (σ : (Int32 × (Nat → Int32) × (Nat → Int32) × (Nat → Int32) × Int32)) => L_X1_giveValues_18 N (nI n) (nI (3 * n)) fg fb fm σ.1 σ.2.1 σ.2.2.1 σ.2.2.2.1 σ.2.2.2.2)
    (fun i σ => σ.2.2.2.2 = nI i ∧ GI ε n (3 * n) mu σ.2.1 σ.2.2.1 ∧ DN ε n (3 * n) σ.2.1 σ.2.2.1 (fun _ => False) ∧ ∀ v, v < i → σ.2.2.1 v ≠ -1)
    (fun r => (∃ z, r = .inl z ∧ ¬ AC ε n) ∨ ∃ rc w' V' R', r = .inr (rc, w', V', R') ∧ GI ε n (3 * n) mu w' V' ∧ DN ε n (3 * n) w' V' (fun _ => False) ∧ ∀ v, v < 3 * n → V' v ≠ -1) (3 * n)
    (fun i σ hi hσ => by
      obtain ⟨rc, w, V, R, pl⟩ := σ
      obtain ⟨h3, hG, hD, hbe⟩ := hσ
      dsimp only at h3 hG hD hbe ⊢
      subst h3
      unfold L_X1_giveValues_18 J_X1_giveValues_48
      rw [if_neg (nI_ge hi (by omega)), pu_bind (pu_get (by omega) (by decide)), nI_1]
      by_cases e : V i = -1
      · obtain ⟨fl, rc', w', V', R', a1, a2⟩ := pu_walkFrom (rc0 := rc) (R := R) hFu h1 hn hem hE hH hG hD hi e hbe
        rw [if_pos e, pu_bind a1]
        dsimp only
        rcases a2 with ⟨rfl, a3⟩ | ⟨rfl, a3, a4, a5, a6⟩
        · rw [if_pos rfl]
          exact Or.inr ⟨_, rfl, Or.inl ⟨_, rfl, a3⟩⟩
        · rw [if_neg (show ¬ (1 : Int32) = 0 by decide)]
          refine Or.inl ⟨_, rfl, rfl, a3, a4, fun v hv => ?_⟩
          dsimp only
          by_cases e2 : v = i
          · rw [e2]; exact a5
          · exact a6 v (hbe v (by omega))
      · rw [if_neg e]
        refine Or.inl ⟨_, rfl, rfl, hG, hD, fun v hv => ?_⟩
        dsimp only
        by_cases e2 : v = i
        · rw [e2]; exact e
        · exact hbe v (by omega))
    (fun σ hσ => by
      obtain ⟨rc, w, V, R, pl⟩ := σ
      obtain ⟨h3, hG, hD, hbe⟩ := hσ
      dsimp only at h3 hG hD hbe ⊢
      subst h3
      unfold L_X1_giveValues_18
      rw [if_pos (nI_le (Nat.le_refl _) (by omega))]
      exact ⟨_, rfl, Or.inr ⟨_, _, _, _, rfl, hG, hD, hbe⟩⟩)
    N 0 (rc0, w1, V1, R0, 0) (Nat.zero_le _) (by omega)
    ⟨nI_0.symm, ⟨fun v hv => Or.inl (hv2 v (by omega)), fun k hk => Or.inl (hw2 k (by omega)), fun j hj hw => absurd hw (w01 (hw2 j (by omega))), fun e he hw => absurd hw (w01 (hw2 _ (by omega))), fun _ v hv hs => absurd (hv2 v (by omega)) hs⟩, fun v hv hs => absurd (hv2 v (by omega)) hs, fun v hv => absurd hv (Nat.not_lt_zero v)⟩
  rw [pu_bind h2]
  rcases h3 with ⟨z, rfl, h4⟩ | ⟨rc, w', V', R', rfl, hG, hD, hall⟩
  · unfold J_X1_giveValues_46
    exact ⟨_, _, _, _, _, rfl, Or.inl ⟨rfl, h4⟩⟩
  · have hwk : ∀ k, k < n → w' k = 1 := fun k hk => by
      have := hD _ (hem (2 * k)) (hall _ (hem _)) (fun h => h) (2 * k) (by omega) rfl
      rw [show 2 * k / 2 = k by omega] at this
      exact this
    have hA : AC ε n := fun j hj => by
      obtain ⟨p, hp, hp2⟩ := hG.2.2.1 j hj (hwk j hj)
      exact ⟨p, hp, fun k hk hkj => hp2 k hk (hwk k hk) hkj⟩
    unfold J_X1_giveValues_54
    exact ⟨_, _, _, _, _, rfl, Or.inr ⟨rfl, hA, fun v hv => hG.2.2.2.2 hA v hv (hall v hv)⟩⟩
