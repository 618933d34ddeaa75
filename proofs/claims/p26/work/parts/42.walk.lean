/-! ===== the program's walk over the graph ===== -/
def ot (e : Nat) : Nat := if e % 2 = 0 then e + 1 else e - 1
theorem ot_a {k : Nat} : ot (2 * k) = 2 * k + 1 := by unfold ot; rw [if_pos (by omega)]
theorem ot_b {k : Nat} : ot (2 * k + 1) = 2 * k := by unfold ot; rw [if_neg (by omega)]; omega
theorem ot_half {e : Nat} : ot e / 2 = e / 2 := by unfold ot; split <;> omega
theorem ot_lt {e n : Nat} (h : e < 2 * n) : ot e < 2 * n := by unfold ot; split <;> omega
theorem ot_or {e f : Nat} (h : f / 2 = e / 2) : f = e ∨ f = ot e := by unfold ot; split <;> omega
theorem pu_x1 {e : Nat} (h : e < 240) : nI e ^^^ 1 = nI (ot e) := (by decide +kernel : ∀ e, e < 240 → nI e ^^^ 1 = nI (ot e)) e h
theorem Ct_e {ε : Nat → Nat} {p : Nat → Bool} {e : Nat} : Ct ε p (e / 2) ↔ p (ε e) = p (ε (ot e)) := by
  unfold Ct
  rcases Nat.mod_two_eq_zero_or_one e with h | h
  · obtain ⟨k, rfl⟩ : ∃ k, e = 2 * k := ⟨e / 2, by omega⟩
    rw [ot_a, show 2 * k / 2 = k by omega]
  · obtain ⟨k, rfl⟩ : ∃ k, e = 2 * k + 1 := ⟨e / 2, by omega⟩
    rw [ot_b, show (2 * k + 1) / 2 = k by omega]
    exact ⟨fun h => h.symm, fun h => h.symm⟩
theorem eq_e {ε mu : Nat → Nat} {n e : Nat} (h : (mu (ε (2 * (e / 2))) + mu (ε (2 * (e / 2) + 1))) % n = e / 2) : (mu (ε e) + mu (ε (ot e))) % n = e / 2 := by
  rcases Nat.mod_two_eq_zero_or_one e with h2 | h2
  · obtain ⟨k, rfl⟩ : ∃ k, e = 2 * k := ⟨e / 2, by omega⟩
    rw [ot_a]
    rw [show 2 * k / 2 = k by omega] at h ⊢
    exact h
  · obtain ⟨k, rfl⟩ : ∃ k, e = 2 * k + 1 := ⟨e / 2, by omega⟩
    rw [ot_b, Nat.add_comm]
    rw [show (2 * k + 1) / 2 = k by omega] at h ⊢
    exact h
theorem vsub {n a b k : Nat} (ha : a < n) (hb : b < n) (h : (a + b) % n = k) : (k + n - a) % n = b := by
  rcases Nat.lt_or_ge (a + b) n with q | q
  · rw [Nat.mod_eq_of_lt q] at h
    rw [← h, show a + b + n - a = b + n by omega, Nat.add_mod_right, Nat.mod_eq_of_lt hb]
  · rw [Nat.mod_eq_sub_mod q, Nat.mod_eq_of_lt (by omega)] at h
    rw [← h, show a + b - n + n - a = b by omega, Nat.mod_eq_of_lt hb]
def HG (ε : Nat → Nat) (n M : Nat) (mu : Nat → Nat) : Prop := AC ε n → (∀ v, v < M → mu v < n) ∧ (∀ k, k < n → (mu (ε (2 * k)) + mu (ε (2 * k + 1))) % n = k) ∧
  ∃ ρ : Nat → Nat, (∀ v, v < M → ρ v ≤ v) ∧ (∀ v, v < M → ρ v = v → mu v = 0) ∧ ∀ p : Nat → Bool, (∀ k, k < n → Ct ε p k) → ∀ v, v < M → p v = p (ρ v)
def GI (ε : Nat → Nat) (n M : Nat) (mu : Nat → Nat) (w V : Nat → Int32) : Prop :=
  (∀ v, v < M → V v = -1 ∨ ∃ x, x < n ∧ V v = nI x) ∧ (∀ k, k < n → w k = 0 ∨ w k = 1) ∧
  (∀ j, j < n → w j = 1 → ∃ p : Nat → Bool, ¬ Ct ε p j ∧ ∀ k, k < n → w k = 1 → k ≠ j → Ct ε p k) ∧
  (∀ e, e < 2 * n → w (e / 2) = 1 → V (ε e) ≠ -1) ∧ (AC ε n → ∀ v, v < M → V v ≠ -1 → V v = nI (mu v))
def QI (ε : Nat → Nat) (n M lo c : Nat) (R w V : Nat → Int32) : Prop :=
  (∀ i, i < c → ∃ v, v < M ∧ R i = nI v ∧ V v ≠ -1) ∧ c + un V M ≤ M ∧
  (∀ p : Nat → Bool, (∀ k, k < n → w k = 1 → Ct ε p k) → ∀ i v, i < c → R i = nI v → v < M → p v = p lo)
def DN (ε : Nat → Nat) (n M : Nat) (w V : Nat → Int32) (X : Nat → Prop) : Prop := ∀ v, v < M → V v ≠ -1 → ¬ X v → ∀ e, e < 2 * n → ε e = v → w (e / 2) = 1
def XQ (i c : Nat) (R : Nat → Int32) (v : Nat) : Prop := ∃ q, i ≤ q ∧ q < c ∧ R q = nI v
theorem w01 {w : Nat → Int32} {k : Nat} (h : w k = 0) : ¬ w k = 1 := by rw [h]; decide
theorem step_bad {ε mu : Nat → Nat} {n M lo c i u e : Nat} {R w V : Nat → Int32} (hem : ∀ e, ε e < M) (hQ : QI ε n M lo c R w V) (hD : DN ε n M w V (XQ i c R)) (hi : i < c) (hR : R i = nI u) (hu : u < M) (he : e < 2 * n) (heu : ε e = u) (hw : w (e / 2) = 0) (hnx : V (ε (ot e)) ≠ -1) : ¬ AC ε n := by
  intro hA
  obtain ⟨p, hp, hp2⟩ := hA (e / 2) (by omega)
  have hcw : ∀ k, k < n → w k = 1 → Ct ε p k := fun k hk hwk => hp2 k hk (fun e2 => by rw [e2] at hwk; exact w01 hw hwk)
  by_cases hx : XQ i c R (ε (ot e))
  · obtain ⟨q, h1, h2, h3⟩ := hx
    apply hp
    rw [Ct_e, heu, hQ.2.2 p hcw q _ h2 h3 (hem _), hQ.2.2 p hcw i _ hi hR hu]
  · have h1 := hD _ (hem _) hnx hx (ot e) (ot_lt he) rfl
    rw [ot_half] at h1
    exact w01 hw h1
theorem step_good {ε mu : Nat → Nat} {n M lo c i u e x : Nat} {R w V : Nat → Int32} (hn : n ≤ 120) (hM : M ≤ 360) (hem : ∀ e, ε e < M) (hH : HG ε n M mu) (hG : GI ε n M mu w V) (hQ : QI ε n M lo c R w V) (hD : DN ε n M w V (XQ i c R)) (hi : i < c) (hR : R i = nI u) (hu : u < M) (he : e < 2 * n) (heu : ε e = u) (hw : w (e / 2) = 0)
    (hnx : V (ε (ot e)) = -1) (hx : x < n) (hV : V u = nI x) :
    c < M ∧ GI ε n M mu (upd w (e / 2) 1) (upd V (ε (ot e)) (nI ((e / 2 + n - x) % n))) ∧ QI ε n M lo (c + 1) (upd R c (nI (ε (ot e)))) (upd w (e / 2) 1) (upd V (ε (ot e)) (nI ((e / 2 + n - x) % n))) ∧
      DN ε n M (upd w (e / 2) 1) (upd V (ε (ot e)) (nI ((e / 2 + n - x) % n))) (XQ i (c + 1) (upd R c (nI (ε (ot e))))) := by
  have hk : e / 2 < n := by omega
  have hy : (e / 2 + n - x) % n < n := Nat.mod_lt _ (by omega)
  have hym : nI ((e / 2 + n - x) % n) ≠ -1 := nI_m1 (by omega)
  have hVu : V u ≠ -1 := by rw [hV]; exact nI_m1 (by omega)
  have hne : u ≠ ε (ot e) := fun e2 => hVu (by rw [e2]; exact hnx)
  have hdrop := un_upd (V := V) (x := nI ((e / 2 + n - x) % n)) (hem (ot e)) hnx hym
  have hcM : c < M := by have := hQ.2.1; omega
  have hold : ∀ k, upd w (e / 2) 1 k = 1 → k ≠ e / 2 → w k = 1 := fun k h1 h2 => by rw [pu_un h2] at h1; exact h1
  have hset : ∀ v, V v ≠ -1 → upd V (ε (ot e)) (nI ((e / 2 + n - x) % n)) v = V v := fun v h1 => pu_un (fun e2 => h1 (by rw [e2]; exact hnx))
  have hoff : ∀ f, f < 2 * n → w (f / 2) = 1 → ε f ≠ ε (ot e) := fun f h1 h2 e2 => hG.2.2.2.1 f h1 h2 (by rw [e2]; exact hnx)
  refine ⟨hcM, ⟨fun v hv => ?_, fun k hk2 => ?_, fun j hj hwj => ?_, fun f hf hwf => ?_, fun hA v hv hs => ?_⟩, ⟨fun q hq => ?_, by have := hQ.2.1; omega, fun p hp q v hq hq2 hv => ?_⟩, fun v hv hs hX f hf hfv => ?_⟩
  · by_cases e2 : v = ε (ot e)
    · rw [e2, pu_us]; exact Or.inr ⟨_, hy, rfl⟩
    · rw [pu_un e2]; exact hG.1 v hv
  · by_cases e2 : k = e / 2
    · rw [e2, pu_us]; exact Or.inr rfl
    · rw [pu_un e2]; exact hG.2.1 k hk2
  · by_cases e2 : j = e / 2
    · refine ⟨fun v => decide (v = ε (ot e)), ?_, fun k hk2 hwk hkj => ?_⟩
      · rw [e2, Ct_e, heu]
        rw [decide_eq_false hne, decide_eq_true (show ε (ot e) = ε (ot e) from rfl)]
        decide
      · have h1 := hold k hwk (fun e3 => hkj (e3.trans e2.symm))
        unfold Ct
        dsimp only
        rw [decide_eq_false (hoff (2 * k) (by omega) (by rw [show 2 * k / 2 = k by omega]; exact h1)), decide_eq_false (hoff (2 * k + 1) (by omega) (by rw [show (2 * k + 1) / 2 = k by omega]; exact h1))]
    · obtain ⟨p, hp, hp2⟩ := hG.2.2.1 j hj (hold j hwj e2)
      have hsame : ∀ k, k < n → w k = 1 → (Ct ε (fun v => if v = ε (ot e) then p u else p v) k ↔ Ct ε p k) := fun k hk2 h1 => by
        unfold Ct
        dsimp only
        rw [if_neg (hoff (2 * k) (by omega) (by rw [show 2 * k / 2 = k by omega]; exact h1)), if_neg (hoff (2 * k + 1) (by omega) (by rw [show (2 * k + 1) / 2 = k by omega]; exact h1))]
      refine ⟨fun v => if v = ε (ot e) then p u else p v, fun h1 => hp ((hsame j hj (hold j hwj e2)).mp h1), fun k hk2 hwk hkj => ?_⟩
      by_cases e3 : k = e / 2
      · rw [e3, Ct_e, heu]
        rw [if_neg hne, if_pos rfl]
      · exact (hsame k hk2 (hold k hwk e3)).mpr (hp2 k hk2 (hold k hwk e3) hkj)
  · by_cases e2 : f / 2 = e / 2
    · rcases ot_or e2 with e3 | e3
      · rw [e3, heu, hset u hVu]; exact hVu
      · rw [e3, pu_us]; exact hym
    · have h1 := hG.2.2.2.1 f hf (hold _ hwf e2)
      rw [hset _ h1]; exact h1
  · by_cases e2 : v = ε (ot e)
    · rw [e2, pu_us]
      obtain ⟨h1, h2, _⟩ := hH hA
      have h3 := hG.2.2.2.2 hA u hu hVu
      rw [hV] at h3
      have h4 := h1 u hu
      have h5 : x = mu u := (nI_eq (by omega) (by omega)).mp h3
      have h6 := eq_e (ε := ε) (mu := mu) (e := e) (h2 (e / 2) hk)
      rw [heu] at h6
      rw [h5, vsub h4 (h1 _ (hem _)) h6]
    · rw [pu_un e2] at hs ⊢
      exact hG.2.2.2.2 hA v hv hs
  · by_cases e2 : q = c
    · rw [e2, pu_us]
      exact ⟨_, hem _, rfl, by rw [pu_us]; exact hym⟩
    · obtain ⟨v, h1, h2, h3⟩ := hQ.1 q (by omega)
      rw [pu_un e2]
      exact ⟨v, h1, h2, by rw [hset v h3]; exact h3⟩
  · have hcw : ∀ k, k < n → w k = 1 → Ct ε p k := fun k hk2 h1 => hp k hk2 (by
      by_cases e2 : k = e / 2
      · rw [e2, pu_us]
      · rw [pu_un e2]; exact h1)
    by_cases e2 : q = c
    · rw [e2, pu_us] at hq2
      have h1 : ε (ot e) = v := (nI_eq (by have := hem (ot e); omega) (by omega)).mp hq2
      have h2 := hp (e / 2) hk pu_us
      rw [Ct_e, heu] at h2
      rw [← h1, ← h2]
      exact hQ.2.2 p hcw i u hi hR hu
    · rw [pu_un e2] at hq2
      exact hQ.2.2 p hcw q v (by omega) hq2 hv
  · have e2 : v ≠ ε (ot e) := fun e2 => hX ⟨c, by omega, by omega, by rw [pu_us, e2]⟩
    rw [pu_un e2] at hs
    have h1 := hD v hv hs (fun ⟨q, a1, a2, a3⟩ => hX ⟨q, a1, by omega, by rw [pu_un (by omega)]; exact a3⟩) f hf hfv
    by_cases e3 : f / 2 = e / 2
    · rw [e3, pu_us]
    · rw [pu_un e3]; exact h1
def EdK (ε : Nat → Nat) (n : Nat) (fg fb fm : Nat → Int32) : Prop := (∀ e, e < 2 * n → fg e = nI (ε e)) ∧ (∀ b, b ≤ 3 * n → fb b = nI (cL ε b (2 * n))) ∧ ∀ e, e < 2 * n → fm (posN ε (2 * n) e) = nI e
theorem pu_reach {N c v : Nat} {V R : Nat → Int32} {x : Int32} (hc : c < 360) (hv : v < 360) : F_X1_reach N (nI c) V R (nI v) x = some (nI (c + 1), upd V v x, upd R c (nI v)) := by
  unfold F_X1_reach
  rw [pu_bind (pu_set hv (by decide)), pu_bind (pu_set hc (by decide)), nI_1]
theorem pu_kx {k n x : Nat} (h : x ≤ n) : nI k - nI x + nI n = nI (k + n - x) := by
  have e : nI k - nI x + nI n = nI k + (nI n - nI x) := by
    rw [Int32.sub_eq_add_neg, Int32.sub_eq_add_neg, Int32.add_assoc, Int32.add_comm (-nI x)]
  rw [e, pk_sub h, nI_add]
  congr 1
  omega
theorem pu_walkOn {N n lo c i u : Nat} {ε mu : Nat → Nat} {fg fb fm R w V : Nat → Int32} (hFu : 1000 ≤ N) (h1 : 1 ≤ n) (hn : n ≤ 120) (hem : ∀ e, ε e < 3 * n) (hE : EdK ε n fg fb fm) (hH : HG ε n (3 * n) mu)
    (hG : GI ε n (3 * n) mu w V) (hQ : QI ε n (3 * n) lo c R w V) (hD : DN ε n (3 * n) w V (XQ i c R)) (hi : i < c) (hR : R i = nI u) (hu : u < 3 * n) :
    ∃ fl rc w' V' R', F_X1_walkOn N (nI c) (nI n) fg fb fm w V R (nI u) = some (fl, rc, w', V', R') ∧
      ((fl = 0 ∧ ¬ AC ε n) ∨ (fl = 1 ∧ ∃ c', rc = nI c' ∧ i < c' ∧ GI ε n (3 * n) mu w' V' ∧ QI ε n (3 * n) lo c' R' w' V' ∧ DN ε n (3 * n) w' V' (XQ (i + 1) c' R') ∧ ∀ v, V v ≠ -1 → V' v ≠ -1)) := by
  have hcl : cL ε u (2 * n) ≤ 2 * n := cL_le
  have hcl2 : cL ε (u + 1) (2 * n) ≤ 2 * n := cL_le
  have hce : cE ε u (2 * n) ≤ 2 * n := cE_le
  rw [cL_b] at hcl2
  have hend : ∀ N, F_X2_endOf N 361 fb (nI u) = some (nI (cL ε u (2 * n) + cE ε u (2 * n))) := fun N => by
    unfold F_X2_endOf
    rw [nI_1, pu_bind (pu_get (by omega) (by decide)), hE.2.1 (u + 1) (by omega), cL_b]
  unfold F_X1_walkOn F_X2_beginOf
  rw [pu_bind (by rw [pu_bind (pu_get (by omega) (by decide)), hE.2.1 u (by omega)])]
  obtain ⟨r, h2, h3⟩ := pu_up (f := fun (σ : (Int32 × (Nat → Int32) × (Nat → Int32) × (Nat → Int32) × Int32)) => L_X1_walkOn_9 N (nI n) fg fb fm (nI u) σ.1 σ.2.1 σ.2.2.1 σ.2.2.2.1 σ.2.2.2.2)
    (fun j σ => σ.2.2.2.2 = nI (cL ε u (2 * n) + j) ∧ ∃ c', σ.1 = nI c' ∧ i < c' ∧ GI ε n (3 * n) mu σ.2.1 σ.2.2.1 ∧ QI ε n (3 * n) lo c' σ.2.2.2.1 σ.2.1 σ.2.2.1 ∧ DN ε n (3 * n) σ.2.1 σ.2.2.1 (XQ i c' σ.2.2.2.1) ∧ (∀ v, V v ≠ -1 → σ.2.2.1 v ≠ -1) ∧ σ.2.2.2.1 i = nI u ∧ ∀ e, e < 2 * n → ε e = u → cE ε u e < j → σ.2.1 (e / 2) = 1)
    (fun r => (∃ z, r = .inl z ∧ ¬ AC ε n) ∨ ∃ c' w' V' R', r = .inr (nI c', w', V', R') ∧ i < c' ∧ GI ε n (3 * n) mu w' V' ∧ QI ε n (3 * n) lo c' R' w' V' ∧ DN ε n (3 * n) w' V' (XQ (i + 1) c' R') ∧ ∀ v, V v ≠ -1 → V' v ≠ -1) (cE ε u (2 * n))
    (fun j σ hj hσ => by
      obtain ⟨rc, w, V1, R, pl⟩ := σ
      obtain ⟨h3, c', h4, h5, hG, hQ, hD, hmo, hR, hdone⟩ := hσ
      dsimp only at h3 h4 h5 hG hQ hD hmo hR hdone ⊢
      subst h3 h4
      obtain ⟨he, heu, hej⟩ : sel (fun i => decide (ε i = u)) (2 * n) j < 2 * n ∧ ε (sel (fun i => decide (ε i = u)) (2 * n) j) = u ∧ cE ε u (sel (fun i => decide (ε i = u)) (2 * n) j) = j := by
        have q := sel_ok (p := fun i => decide (ε i = u)) (t := 2 * n) (j := j) hj
        exact ⟨q.1, of_decide_eq_true q.2.1, q.2.2⟩
      have hnext : ∀ f, f < 2 * n → ε f = u → cE ε u f < j + 1 → f = sel (fun i => decide (ε i = u)) (2 * n) j ∨ cE ε u f < j := fun f hf hfu hfj => by
        by_cases q : cE ε u f < j
        · exact Or.inr q
        · left
          have q2 : cE ε u f = cE ε u (sel (fun i => decide (ε i = u)) (2 * n) j) := by omega
          exact cc_inj (p := fun i => decide (ε i = u)) (by simpa using hfu) (by simpa using heu) q2
      have hm := hE.2.2 _ he
      have hpo : posN ε (2 * n) (sel (fun i => decide (ε i = u)) (2 * n) j) = cL ε u (2 * n) + j := by unfold posN; rw [heu, hej]
      rw [hpo] at hm
      generalize sel (fun i => decide (ε i = u)) (2 * n) j = e at he heu hej hnext hm
      unfold L_X1_walkOn_9 F_X2_memberAt F_X2_groupOf J_X1_walkOn_113
      rw [pu_bind (hend N), if_neg (nI_ge (by omega) (by omega)), pu_bind (by rw [pu_bind (pu_get (by omega) (by decide)), hm]), pu_shr1 (by omega), pu_bind (pu_get (by omega) (by decide)), pu_x1 (by omega), nI_1]
      rcases hG.2.1 (e / 2) (by omega) with hw | hw
      · have hoe := ot_lt he
        rw [if_pos hw, pu_bind (pu_set (by omega) (by decide)), pu_bind (by rw [pu_bind (pu_get (by omega) (by decide)), hE.1 _ hoe]), pu_bind (pu_get (by have := hem (ot e); omega) (by decide))]
        by_cases hnx : V1 (ε (ot e)) = -1
        · obtain ⟨v, hv1, hv2, hv3⟩ := hQ.1 i h5
          have huv : u = v := (nI_eq (by omega) (by omega)).mp (hR.symm.trans hv2)
          rw [← huv] at hv3
          obtain ⟨x, hx, hVx⟩ : ∃ x, x < n ∧ V1 u = nI x := by
            rcases hG.1 u hu with q | q
            · exact absurd q hv3
            · exact q
          obtain ⟨g1, g2, g3, g4⟩ := step_good hn (by omega) hem hH hG hQ hD h5 hR hu he heu hw hnx hx hVx
          rw [if_pos hnx, pu_bind (pu_get (by omega) (by decide)), hVx, pu_kx (by omega), pu_bind (pu_rmd (by omega) (by omega) (by omega)), pu_bind (pu_reach (by omega) (by have := hem (ot e); omega))]
          refine Or.inl ⟨_, rfl, rfl, c' + 1, rfl, by omega, g2, g3, g4, fun v hv => ?_, ?_, fun f hf hfu hfj => ?_⟩
          · dsimp only
            have q := hmo v hv
            rw [pu_un (fun e2 => q (by rw [e2]; exact hnx))]; exact q
          · dsimp only
            rw [pu_un (by omega)]; exact hR
          · dsimp only
            rcases hnext f hf hfu hfj with q | q
            · rw [q, pu_us]
            · by_cases e3 : f / 2 = e / 2
              · rw [e3, pu_us]
              · rw [pu_un e3]; exact hdone f hf hfu q
        · rw [if_neg hnx]
          exact Or.inr ⟨_, rfl, Or.inl ⟨_, rfl, step_bad (mu := mu) hem hQ hD h5 hR hu he heu hw hnx⟩⟩
      · rw [if_neg (by rw [hw]; decide)]
        refine Or.inl ⟨_, rfl, rfl, c', rfl, h5, hG, hQ, hD, hmo, hR, fun f hf hfu hfj => ?_⟩
        dsimp only
        rcases hnext f hf hfu hfj with q | q
        · rw [q]; exact hw
        · exact hdone f hf hfu q)
    (fun σ hσ => by
      obtain ⟨rc, w, V1, R, pl⟩ := σ
      obtain ⟨h3, c', h4, h5, hG, hQ, hD, hmo, hR, hdone⟩ := hσ
      dsimp only at h3 h4 h5 hG hQ hD hmo hR hdone ⊢
      subst h3 h4
      unfold L_X1_walkOn_9
      rw [pu_bind (hend N), if_pos (nI_le (Nat.le_refl _) (by omega))]
      refine ⟨_, rfl, Or.inr ⟨c', w, V1, R, rfl, h5, hG, hQ, fun v hv hs hX f hf hfv => ?_, hmo⟩⟩
      by_cases e2 : XQ i c' R v
      · obtain ⟨q, a1, a2, a3⟩ := e2
        have hqi : q = i := by
          rcases Nat.lt_or_ge i q with q2 | q2
          · exact absurd ⟨q, q2, a2, a3⟩ hX
          · omega
        rw [hqi, hR] at a3
        have hvu : u = v := (nI_eq (by omega) (by omega)).mp a3
        rw [← hvu] at hfv
        exact hdone f hf hfv (by
          have q9 := cE_lt (gr := ε) (a := f) (t := 2 * n) hf
          rw [hfv] at q9
          exact q9)
      · exact hD v hv hs e2 f hf hfv)
    N 0 (nI c, w, V, R, nI (cL ε u (2 * n))) (Nat.zero_le _) (by omega) ⟨rfl, c, rfl, hi, hG, hQ, hD, fun v h => h, hR, fun e _ _ h => absurd h (Nat.not_lt_zero _)⟩
  rw [pu_bind h2]
  rcases h3 with ⟨z, rfl, h4⟩ | ⟨c', w', V', R', rfl, h4⟩
  · unfold J_X1_walkOn_82
    exact ⟨_, _, _, _, _, rfl, Or.inl ⟨rfl, h4⟩⟩
  · unfold J_X1_walkOn_119
    exact ⟨_, _, _, _, _, rfl, Or.inr ⟨rfl, c', rfl, h4⟩⟩
