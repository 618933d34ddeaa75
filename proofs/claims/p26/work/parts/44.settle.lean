/-! ===== the seeds tried in their order, both ways side by side ===== -/
theorem pu_settle2 {N κ n B L} {f f2 : Nat → Int32} (hFu : 1000 ≤ N) (hk : KeyOk κ n) (hf : HoldK f κ n) (hf2 : HoldK f2 κ n) (h1 : 1 ≤ n) (hL : 1 ≤ L) (hBL : B = (n + L - 1) / L) (h0 : 0 < B) (hB : B ≤ 120) (hL2 : L ≤ 6)
    (x1 x2 x3 x4 x5 : Int32) (g1 g2 g3 g4 g5 g6 g7 g8 m1 m2 m3 : Nat → Int32) :
    ∃ fl sd tC gC fg fb fm fs ft fn dsp ρ g' tS' τ' z, F_X0_settle N x1 x2 x3 x4 x5 g1 g2 g3 g4 g5 g6 g7 g8 (nI n) f (nI L) = some (fl, nI n, nI B, sd, tC, gC, fg, fb, fm, fs, ft, fn, dsp, ρ) ∧
      kk_iter (fun (σ : ((Nat → Int32) × (Nat → Int32) × (Nat → Int32) × Int32)) => L_X8_build_65 N (nI n) f2 (nI B) σ.1 σ.2.1 σ.2.2.1 σ.2.2.2) N (m1, m2, m3, 0) = some (g', tS', τ', z) ∧
      ((fl = 0 ∧ z = nI 40) ∨ (fl = 1 ∧ ∃ s, s < 40 ∧ sd = nI s ∧ z = nI s ∧ HdK κ n B s fb fm fs ft ∧ RO n κ ρ τ' ∧ DO B n dsp tS' ∧ ∀ r, r < n → PlD κ n B s dsp ρ r)) := by
  have hn := hk.1
  unfold F_X0_settle
  rw [pu_bind (pu_dup (by omega) (by omega) (by omega)), ← hBL]
  obtain ⟨r, w, h2, h3, h4⟩ := pu_up2
    (f := fun (σ : (Int32 × Int32 × Int32 × (Nat → Int32) × (Nat → Int32) × (Nat → Int32) × (Nat → Int32) × (Nat → Int32) × (Nat → Int32) × (Nat → Int32) × (Nat → Int32) × Int32)) => L_X0_settle_22 N (nI n) (nI B) f σ.1 σ.2.1 σ.2.2.1 σ.2.2.2.1 σ.2.2.2.2.1 σ.2.2.2.2.2.1 σ.2.2.2.2.2.2.1 σ.2.2.2.2.2.2.2.1 σ.2.2.2.2.2.2.2.2.1 σ.2.2.2.2.2.2.2.2.2.1 σ.2.2.2.2.2.2.2.2.2.2.1 σ.2.2.2.2.2.2.2.2.2.2.2)
    (g := fun (σ : ((Nat → Int32) × (Nat → Int32) × (Nat → Int32) × Int32)) => L_X8_build_65 N (nI n) f2 (nI B) σ.1 σ.2.1 σ.2.2.1 σ.2.2.2)
    (fun i σ υ => σ.2.2.2.2.2.2.2.2.2.2.2 = nI i ∧ υ.2.2.2 = nI i)
    (fun r w => (∃ z, r = .inr z ∧ w.2.2.2 = nI 40) ∨ ∃ s tC gC fg fb fm fs ft fn dsp ρ g' tS' τ', r = .inl (nI s, tC, gC, fg, fb, fm, fs, ft, fn, dsp, ρ) ∧ w = (g', tS', τ', nI s) ∧ s < 40 ∧ HdK κ n B s fb fm fs ft ∧ RO n κ ρ τ' ∧ DO B n dsp tS' ∧ ∀ r, r < n → PlD κ n B s dsp ρ r) 40
    (fun i σ υ hi hσ => by
      obtain ⟨a1, a2, a3, a4, a5, a6, a7, a8, a9, a10, a11, a12⟩ := σ
      obtain ⟨b1, b2, b3, b4⟩ := υ
      obtain ⟨h3, h4⟩ := hσ
      dsimp only at h3 h4 ⊢
      subst h3 h4
      obtain ⟨tC, gC, fg, fb, fm, fs, ft, e1, e2⟩ := pu_hashKeys (s := i) hFu hk hf h0 hB (by omega) a2 a3 a4 a5 a6 a7 a8
      obtain ⟨fl, fn', dsp', ρ', g', tS', τ', e3, e4, e5⟩ := pu_try hFu hk hf2 e2 h1 h0 hB (by omega) a9 a10 a11 b1 b2 b3
      unfold L_X0_settle_22 L_X8_build_65
      rw [if_neg (show ¬ (40 : Int32) ≤ nI i from nI_ge (b := 40) hi (by decide)), if_neg (show ¬ (40 : Int32) ≤ nI i from nI_ge (b := 40) hi (by decide)), pu_bind e1, pu_bind e4]
      dsimp only
      rw [pu_bind e3]
      dsimp only
      rcases e5 with rfl | ⟨rfl, e6, e7, e8⟩
      · rw [if_pos rfl, if_pos rfl, nI_1]
        exact Or.inl ⟨_, _, rfl, rfl, rfl, rfl⟩
      · rw [if_neg (show ¬ (1 : Int32) = 0 by decide), if_neg (show ¬ (1 : Int32) = 0 by decide)]
        exact Or.inr (Or.inr ⟨_, _, rfl, rfl, Or.inr ⟨i, _, _, _, _, _, _, _, _, _, _, _, _, _, rfl, rfl, hi, e2, e6, e7, e8⟩⟩))
    (fun σ υ hσ => by
      obtain ⟨a1, a2, a3, a4, a5, a6, a7, a8, a9, a10, a11, a12⟩ := σ
      obtain ⟨b1, b2, b3, b4⟩ := υ
      obtain ⟨h3, h4⟩ := hσ
      dsimp only at h3 h4 ⊢
      subst h3 h4
      unfold L_X0_settle_22 L_X8_build_65
      rw [if_pos (show (40 : Int32) ≤ nI 40 from nI_le (Nat.le_refl 40) (by decide)), if_pos (show (40 : Int32) ≤ nI 40 from nI_le (Nat.le_refl 40) (by decide))]
      exact ⟨_, _, rfl, rfl, Or.inl ⟨_, rfl, rfl⟩⟩)
    N 0 (x3, x4, x5, g1, g2, g3, g4, g5, g6, g7, g8, 0) (m1, m2, m3, 0) (Nat.zero_le _) (by omega) ⟨nI_0.symm, nI_0.symm⟩
  rw [pu_bind h2]
  rcases h4 with ⟨z, rfl, h5⟩ | ⟨s, tC, gC, fg, fb, fm, fs, ft, fn, dsp, ρ, g', tS', τ', rfl, rfl, h5⟩
  · obtain ⟨w1, w2, w3, w4⟩ := w
    unfold J_X0_settle_53
    exact ⟨_, _, _, _, _, _, _, _, _, _, _, _, _, _, _, _, rfl, h3, Or.inl ⟨rfl, h5⟩⟩
  · unfold J_X0_settle_45
    exact ⟨_, _, _, _, _, _, _, _, _, _, _, _, _, _, _, _, rfl, h3, Or.inr ⟨rfl, s, h5.1, rfl, rfl, h5.2⟩⟩
theorem pu_vertexOf {N M c s key : Nat} (h0 : 0 < M) (hM : M ≤ 360) (hk : key < 100000) (hs : s < 200) : F_X1_vertexOf N (nI M) (nI s) c (nI key) = some (nI (hN c key s % M)) := by
  unfold F_X1_vertexOf
  have h7 := hN_lt c key s
  rw [pu_bind (pu_of hk hs), pu_bind (pu_rmd (by omega) h0 (by omega))]
theorem cE_put {ε : Nat → Nat} {G t : Nat} {fb : Nat → Int32} (h : ∀ b, b ≤ G → fb b = nI (cE ε b t)) : ∀ b, b ≤ G → upd fb (ε t) (nI (cE ε (ε t) t + 1)) b = nI (cE ε b (t + 1)) := by
  intro b hb
  rw [cE_s]
  by_cases e : b = ε t
  · rw [e, pu_us, if_pos rfl]
  · rw [pu_un e, if_neg (fun e2 => e e2.symm)]; exact h b hb
theorem grp_put {ε : Nat → Nat} {t : Nat} {fg : Nat → Int32} (h : ∀ e, e < t → fg e = nI (ε e)) : ∀ e, e < t + 1 → upd fg t (nI (ε t)) e = nI (ε e) := by
  intro e he
  by_cases e2 : e = t
  · rw [e2, pu_us]
  · rw [pu_un e2]; exact h e (by omega)
theorem pu_layEdges {N n s : Nat} {κ : Nat → Nat} {f : Nat → Int32} (hFu : 1000 ≤ N) (hk : KeyOk κ n) (hf : HoldK f κ n) (h1 : 1 ≤ n) (hs : s < 200) (x1 x2 : Int32) (g1 g2 g3 : Nat → Int32) :
    ∃ tC gC fg fb fm, F_X1_layEdges N (nI n) (nI (3 * n)) (nI s) x1 x2 g1 g2 g3 f = some (tC, gC, fg, fb, fm) ∧ EdK (eN κ n s) n fg fb fm := by
  have hn := hk.1
  unfold F_X1_layEdges F_X2_restart
  obtain ⟨z, hz, hz0⟩ := pu_fill (N := N) (n := 361) (f := g2) (x := 0) (by decide) (by omega)
  rw [pu_2, pu_bind (by rw [pu_bind hz])]
  dsimp only
  obtain ⟨⟨fg, fb⟩, h2, h3, h4⟩ := pu_up (f := fun (σ : ((Nat → Int32) × (Nat → Int32) × Int32)) => L_X1_layEdges_19 N (nI n) (nI (3 * n)) (nI s) f σ.1 σ.2.1 σ.2.2)
    (fun i σ => σ.2.2 = nI i ∧ (∀ e, e < 2 * i → σ.1 e = nI (eN κ n s e)) ∧ ∀ b, b ≤ 3 * n → σ.2.1 b = nI (cE (eN κ n s) b (2 * i)))
    (fun σ => (∀ e, e < 2 * n → σ.1 e = nI (eN κ n s e)) ∧ ∀ b, b ≤ 3 * n → σ.2 b = nI (cE (eN κ n s) b (2 * n))) n
    (fun i σ hi hσ => by
      obtain ⟨fg, fb, c⟩ := σ
      obtain ⟨h2, h3, h4⟩ := hσ
      dsimp only at h2 h3 h4 ⊢
      subst h2
      have hki := hk.2.2 i hi
      have ha : eN κ n s (2 * i) < 3 * n := eN_lt h1
      have hb : eN κ n s (2 * i + 1) < 3 * n := eN_lt h1
      unfold L_X1_layEdges_19
      rw [if_neg (nI_ge hi (by omega)), pu_bind (pu_at (by omega)), hf i hi, pu_bind (pu_vertexOf (by omega) (by omega) hki hs), ← eN_a, pu_2, pu_bind (pu_assign (by omega) (by decide) (by omega) (by decide) (h4 _ (by omega)))]
      dsimp only
      rw [pu_bind (pu_vertexOf (by omega) (by omega) hki hs), ← eN_b, nI_1 (2 * i), pu_bind (pu_assign (by omega) (by decide) (by omega) (by decide) (cE_put h4 _ (by omega))), nI_1 i]
      refine Or.inl ⟨_, rfl, rfl, ?_, ?_⟩
      · exact grp_put (grp_put h3)
      · exact cE_put (cE_put h4))
    (fun σ hσ => by
      obtain ⟨fg, fb, c⟩ := σ
      obtain ⟨h2, h3, h4⟩ := hσ
      dsimp only at h2 h3 h4 ⊢
      subst h2
      unfold L_X1_layEdges_19
      rw [if_pos (nI_le (Nat.le_refl n) (by omega))]
      exact ⟨_, rfl, h3, h4⟩)
    N 0 (g1, z, 0) (Nat.zero_le n) (by omega) ⟨nI_0.symm, fun e he => absurd he (by omega), fun b hb => hz0 b (by omega)⟩
  rw [pu_bind h2]
  unfold J_X1_layEdges_77
  dsimp only at h3 h4 ⊢
  obtain ⟨fb', fm', h6, h7, h8⟩ := pu_arrange (N := N) (nG := 240) (nB := 361) (nM := 240) (T := 2 * n) (G := 3 * n) (gr := eN κ n s) (fg := fg) (fb := fb) (fm := g3) (by omega) (by decide) (by decide) (by decide) (by omega) (by omega) (by omega) (fun t ht => eN_lt h1) h3 h4
  rw [pu_bind h6]
  exact ⟨_, _, _, _, _, rfl, h3, h7, h8⟩
theorem pu_gsettle2 {N κ n} {f f2 : Nat → Int32} {z : Int32} (hFu : 1000 ≤ N) (hk : KeyOk κ n) (hf : HoldK f κ n) (hf2 : HoldK f2 κ n) (h1 : 1 ≤ n) (hz : ¬ (40 : Int32) ≤ z)
    (x1 x2 x3 x4 x5 x6 : Int32) (g1 g2 g3 g4 g5 g6 m1 m2 m3 : Nat → Int32) :
    ∃ fl rc sd tC gC fg fb fm w V R r' e' q, F_X1_settle N x1 x2 x3 x4 x5 x6 g1 g2 g3 g4 g5 g6 (nI n) f = some (fl, rc, nI n, nI (3 * n), sd, tC, gC, fg, fb, fm, w, V, R) ∧
      kk_iter (fun (σ : ((Nat → Int32) × (Nat → Int32) × Int32)) => L_X8_build_91 N (nI n) f2 z σ.1 σ.2.1 σ.2.2) N (m1, m2, 0) = some (r', e', q) ∧
      ((fl = 0 ∧ q = nI 200) ∨ (fl = 1 ∧ ∃ s, s < 200 ∧ sd = nI s ∧ q = nI s ∧ ∃ (V' : Nat → Int32) (mu : Nat → Nat), F_X8_layValues N (nI n) m3 r' e' = some V' ∧ (∀ v, v < 3 * n → mu v < n) ∧ ∀ v, v < 3 * n → V v = nI (mu v) ∧ V' v = nI (mu v))) := by
  have hn := hk.1
  unfold F_X1_settle
  rw [pu_3]
  obtain ⟨r, w, h2, h3, h4⟩ := pu_up2
    (f := fun (σ : (Int32 × Int32 × Int32 × Int32 × (Nat → Int32) × (Nat → Int32) × (Nat → Int32) × (Nat → Int32) × (Nat → Int32) × (Nat → Int32) × Int32)) => L_X1_settle_20 N (nI n) (nI (3 * n)) f σ.1 σ.2.1 σ.2.2.1 σ.2.2.2.1 σ.2.2.2.2.1 σ.2.2.2.2.2.1 σ.2.2.2.2.2.2.1 σ.2.2.2.2.2.2.2.1 σ.2.2.2.2.2.2.2.2.1 σ.2.2.2.2.2.2.2.2.2.1 σ.2.2.2.2.2.2.2.2.2.2)
    (g := fun (σ : ((Nat → Int32) × (Nat → Int32) × Int32)) => L_X8_build_91 N (nI n) f2 z σ.1 σ.2.1 σ.2.2)
    (fun i σ υ => σ.2.2.2.2.2.2.2.2.2.2 = nI i ∧ υ.2.2 = nI i)
    (fun r w => (∃ z, r = .inr z ∧ w.2.2 = nI 200) ∨ ∃ s rc tC gC fg fb fm w9 V R r' e', r = .inl (rc, nI s, tC, gC, fg, fb, fm, w9, V, R) ∧ w = (r', e', nI s) ∧ s < 200 ∧ ∃ (V' : Nat → Int32) (mu : Nat → Nat), F_X8_layValues N (nI n) m3 r' e' = some V' ∧ (∀ v, v < 3 * n → mu v < n) ∧ ∀ v, v < 3 * n → V v = nI (mu v) ∧ V' v = nI (mu v)) 200
    (fun i σ υ hi hσ => by
      obtain ⟨a1, a2, a3, a4, a5, a6, a7, a8, a9, a10, a11⟩ := σ
      obtain ⟨b1, b2, b3⟩ := υ
      obtain ⟨h3, h4⟩ := hσ
      dsimp only at h3 h4 ⊢
      subst h3 h4
      obtain ⟨tC, gC, fg, fb, fm, e1, e2⟩ := pu_layEdges (s := i) hFu hk hf h1 hi a3 a4 a5 a6 a7
      obtain ⟨fl, r', e', e3, e4⟩ := pu_circle hFu hk hf2 h1 hi b1 b2
      unfold L_X1_settle_20 L_X8_build_91
      rw [if_neg (show ¬ (200 : Int32) ≤ nI i from nI_ge (b := 200) hi (by decide)), if_neg hz, if_neg (show ¬ (200 : Int32) ≤ nI i from nI_ge (b := 200) hi (by decide)), pu_bind e1, pu_bind e3]
      dsimp only
      rcases e4 with ⟨rfl, e5⟩ | ⟨rfl, e5, e6, π, ρ, e7, e8⟩
      · obtain ⟨fl, rc, w', V', R', c1, c2⟩ := pu_giveValues (rc0 := a1) (mu := fun _ => 0) hFu h1 hn (fun e => eN_lt h1) e2 (fun hA => absurd hA e5) a8 a9 a10
        rw [pu_bind c1]
        dsimp only
        rcases c2 with ⟨rfl, _⟩ | ⟨rfl, c3, _⟩
        · rw [if_pos rfl, if_pos rfl, nI_1]
          exact Or.inl ⟨_, _, rfl, rfl, rfl, rfl⟩
        · exact absurd c3 e5
      · obtain ⟨V2, d1, mu, d2, d3⟩ := pu_layValues (V0 := m3) hFu h1 hn e6 (fun e => eN_lt h1) e7 e8 e5
        obtain ⟨fl, rc, w', V', R', c1, c2⟩ := pu_giveValues (rc0 := a1) (mu := mu) hFu h1 hn (fun e => eN_lt h1) e2 (fun _ => ⟨d2.1, d2.2.2, ρ, fun v hv => (e8.1 v hv).2.1, d2.2.1, e8.2.2⟩) a8 a9 a10
        rw [pu_bind c1]
        dsimp only
        rcases c2 with ⟨_, c3⟩ | ⟨rfl, _, c3⟩
        · exact absurd e5 c3
        · rw [if_neg (show ¬ (1 : Int32) = 0 by decide), if_neg (show ¬ (1 : Int32) = 0 by decide)]
          exact Or.inr (Or.inr ⟨_, _, rfl, rfl, Or.inr ⟨i, _, _, _, _, _, _, _, _, _, _, _, rfl, rfl, hi, V2, mu, d1, d2.1, fun v hv => ⟨c3 v hv, d3 v hv⟩⟩⟩))
    (fun σ υ hσ => by
      obtain ⟨a1, a2, a3, a4, a5, a6, a7, a8, a9, a10, a11⟩ := σ
      obtain ⟨b1, b2, b3⟩ := υ
      obtain ⟨h3, h4⟩ := hσ
      dsimp only at h3 h4 ⊢
      subst h3 h4
      unfold L_X1_settle_20 L_X8_build_91
      rw [if_pos (show (200 : Int32) ≤ nI 200 from nI_le (Nat.le_refl 200) (by decide)), if_neg hz, if_pos (show (200 : Int32) ≤ nI 200 from nI_le (Nat.le_refl 200) (by decide))]
      exact ⟨_, _, rfl, rfl, Or.inl ⟨_, rfl, rfl⟩⟩)
    N 0 (x1, x4, x5, x6, g1, g2, g3, g4, g5, g6, 0) (m1, m2, 0) (Nat.zero_le _) (by omega) ⟨nI_0.symm, nI_0.symm⟩
  rw [pu_bind h2]
  rcases h4 with ⟨z, rfl, h5⟩ | ⟨s, rc, tC, gC, fg, fb, fm, w9, V, R, r', e', rfl, rfl, h5, h6⟩
  · obtain ⟨w1, w2, w3⟩ := w
    unfold J_X1_settle_52
    exact ⟨_, _, _, _, _, _, _, _, _, _, _, _, _, _, rfl, h3, Or.inl ⟨rfl, h5⟩⟩
  · unfold J_X1_settle_44
    exact ⟨_, _, _, _, _, _, _, _, _, _, _, _, _, _, rfl, h3, Or.inr ⟨rfl, s, h5, rfl, rfl, h6⟩⟩
