/-! ===== one seed tried, both ways side by side ===== -/
def mxN (κ : Nat → Nat) (n B s : Nat) : Nat → Nat
  | 0 => 0
  | b + 1 => if mxN κ n B s b < cN κ n B s b then cN κ n B s b else mxN κ n B s b
theorem mxN_le {κ n B s b} : mxN κ n B s b ≤ n := by
  induction b with
  | zero => exact Nat.zero_le n
  | succ b ih => rw [mxN]; split; exact cN_le; exact ih
theorem mxN_ge {κ n B s b i} (h : i < b) : cN κ n B s i ≤ mxN κ n B s b := by
  induction b with
  | zero => exact absurd h (Nat.not_lt_zero i)
  | succ b ih =>
    rw [mxN]
    by_cases e : i = b
    · rw [e]; split <;> omega
    · have := ih (by omega)
      split <;> omega
theorem pu_largest {N κ n B s} {fb fm fs ft : Nat → Int32} (hFu : 1000 ≤ N) (h : HdK κ n B s fb fm fs ft) (hn : n ≤ 120) (hB : B ≤ 120) : F_X0_largestBucket N (nI B) fb = some (nI (mxN κ n B s B)) := by
  unfold F_X0_largestBucket J_X0_largestBucket_31
  obtain ⟨r, h2, rfl⟩ := pu_up (f := fun (σ : (Int32 × Int32)) => L_X0_largestBucket_4 N (nI B) fb σ.1 σ.2) (fun i σ => σ.1 = nI (mxN κ n B s i) ∧ σ.2 = nI i) (fun r => r = nI (mxN κ n B s B)) B
    (fun i σ hi hσ => by
      obtain ⟨x, c⟩ := σ
      obtain ⟨h3, h4⟩ := hσ
      dsimp only at h3 h4 ⊢
      subst h3 h4
      have h5 : mxN κ n B s i ≤ n := mxN_le
      have h6 : cN κ n B s i ≤ n := cN_le
      unfold L_X0_largestBucket_4
      rw [if_neg (nI_ge hi (by omega)), pu_bind (pu_size h hB hi), nI_1]
      refine Or.inl ⟨_, rfl, ?_, rfl⟩
      dsimp only
      rw [mxN]
      by_cases e : mxN κ n B s i < cN κ n B s i
      · rw [if_pos e, if_pos (nI_lt e (by omega))]
      · rw [if_neg e, if_neg (nI_nlt (by omega) (by omega))])
    (fun σ hσ => by
      obtain ⟨x, c⟩ := σ
      obtain ⟨h3, h4⟩ := hσ
      dsimp only at h3 h4 ⊢
      subst h3 h4
      unfold L_X0_largestBucket_4
      rw [if_pos (nI_le (Nat.le_refl _) (by omega))]
      exact ⟨_, rfl, rfl⟩)
    N 0 (0, 0) (Nat.zero_le _) (by omega) ⟨nI_0.symm, nI_0.symm⟩
  rw [pu_bind h2]
theorem pu_mlargest {N κ n B s} {f : Nat → Int32} (hFu : 1000 ≤ N) (hk : KeyOk κ n) (hf : HoldK f κ n) (h0 : 0 < B) (hB : B ≤ 120) (hs : s < 200) (g0 : Nat → Int32) :
    ∃ g, kk_iter (fun (σ : ((Nat → Int32) × Int32 × Int32)) => L_X8_displaces_37 N (nI n) f (nI s) (nI B) σ.1 σ.2.1 σ.2.2) N (g0, 0, 0) = some (g, nI (mxN κ n B s B)) := by
  have hn := hk.1
  obtain ⟨⟨g, r⟩, h2, h3⟩ := pu_up (f := fun (σ : ((Nat → Int32) × Int32 × Int32)) => L_X8_displaces_37 N (nI n) f (nI s) (nI B) σ.1 σ.2.1 σ.2.2) (fun i σ => σ.2.1 = nI (mxN κ n B s i) ∧ σ.2.2 = nI i) (fun r => r.2 = nI (mxN κ n B s B)) B
    (fun i σ hi hσ => by
      obtain ⟨g, x, c⟩ := σ
      obtain ⟨h3, h4⟩ := hσ
      dsimp only at h3 h4 ⊢
      subst h3 h4
      have h5 : mxN κ n B s i ≤ n := mxN_le
      have h6 : cN κ n B s i ≤ n := cN_le
      obtain ⟨g', hg, _⟩ := pu_gather hFu hk hf h0 hB hs hi g
      unfold L_X8_displaces_37 J_X8_displaces_65
      rw [if_neg (nI_ge hi (by omega)), pu_bind hg, nI_1]
      dsimp only
      by_cases e : mxN κ n B s i < cN κ n B s i
      · rw [if_neg (nI_ge e (by omega))]
        refine Or.inl ⟨_, rfl, ?_, rfl⟩
        rw [mxN, if_pos e]
      · rw [if_pos (nI_le (by omega) (by omega))]
        refine Or.inl ⟨_, rfl, ?_, rfl⟩
        rw [mxN, if_neg e])
    (fun σ hσ => by
      obtain ⟨g, x, c⟩ := σ
      obtain ⟨h3, h4⟩ := hσ
      dsimp only at h3 h4 ⊢
      subst h3 h4
      unfold L_X8_displaces_37
      rw [if_pos (nI_le (Nat.le_refl _) (by omega))]
      exact ⟨_, rfl, rfl⟩)
    N 0 (g0, 0, 0) (Nat.zero_le _) (by omega) ⟨nI_0.symm, nI_0.symm⟩
  dsimp only at h3
  subst h3
  exact ⟨g, h2⟩
/-- what is laid when buckets above z, and of z those below b, are laid -/
def Pls (κ : Nat → Nat) (n B s : Nat) (dsp ρ : Nat → Int32) (z b : Nat) : Prop := ∀ r, r < n → (z < cN κ n B s (grN κ B s r) ∨ (cN κ n B s (grN κ B s r) = z ∧ grN κ B s r < b)) → PlD κ n B s dsp ρ r
theorem pu_inner {N κ n B s z} {f fb fm fs ft : Nat → Int32} (hFu : 1000 ≤ N) (hk : KeyOk κ n) (hf : HoldK f κ n) (h : HdK κ n B s fb fm fs ft) (h1 : 1 ≤ n) (h0 : 0 < B) (hB : B ≤ 120) (hs : s < 200) (hz : z ≤ n) {fn g dsp ρ tS τ : Nat → Int32}
    (hR : RO n κ ρ τ) (hD : DO B n dsp tS) (hP : Pls κ n B s dsp ρ z 0) :
    ∃ r w, kk_iter (fun (σ : ((Nat → Int32) × (Nat → Int32) × (Nat → Int32) × Int32)) => L_X0_displaceAll_27 N (nI n) (nI B) fb fm fs ft (nI z) σ.1 σ.2.1 σ.2.2.1 σ.2.2.2) N (fn, dsp, ρ, 0) = some r ∧
      kk_iter (fun (σ : ((Nat → Int32) × (Nat → Int32) × (Nat → Int32) × Int32 × Int32)) => L_X8_displaces_91 N (nI n) f (nI s) (nI B) (nI z) σ.1 σ.2.1 σ.2.2.1 σ.2.2.2.1 σ.2.2.2.2) N (g, tS, τ, 1, 0) = some w ∧
      ((∃ q, r = .inl q ∧ w.2.2.2 = 0) ∨ ∃ fn' dsp' ρ' g' tS' τ', r = .inr (fn', dsp', ρ') ∧ w = (g', tS', τ', 1) ∧ RO n κ ρ' τ' ∧ DO B n dsp' tS' ∧ Pls κ n B s dsp' ρ' z B) := by
  have hn := hk.1
  refine pu_up2 (f := fun (σ : ((Nat → Int32) × (Nat → Int32) × (Nat → Int32) × Int32)) => L_X0_displaceAll_27 N (nI n) (nI B) fb fm fs ft (nI z) σ.1 σ.2.1 σ.2.2.1 σ.2.2.2)
    (g := fun (σ : ((Nat → Int32) × (Nat → Int32) × (Nat → Int32) × Int32 × Int32)) => L_X8_displaces_91 N (nI n) f (nI s) (nI B) (nI z) σ.1 σ.2.1 σ.2.2.1 σ.2.2.2.1 σ.2.2.2.2)
    (fun b σ υ => σ.2.2.2 = nI b ∧ υ.2.2.2.2 = nI b ∧ υ.2.2.2.1 = 1 ∧ RO n κ σ.2.2.1 υ.2.2.1 ∧ DO B n σ.2.1 υ.2.1 ∧ Pls κ n B s σ.2.1 σ.2.2.1 z b) _ B
    (fun b σ υ hb hσ => by
      obtain ⟨fn, dsp, ρ, c⟩ := σ
      obtain ⟨g, tS, τ, x, c2⟩ := υ
      obtain ⟨h3, h4, h5, h6, h7, h8⟩ := hσ
      dsimp only at h3 h4 h5 h6 h7 h8 ⊢
      subst h3 h4 h5
      have hc : cN κ n B s b ≤ n := cN_le
      obtain ⟨g', hg, _⟩ := pu_gather hFu hk hf h0 hB hs hb g
      unfold L_X0_displaceAll_27 L_X8_displaces_91 J_X8_displaces_126 J_X8_displaces_131 J_X0_displaceAll_57
      rw [if_neg (nI_ge hb (by omega)), if_neg (nI_ge hb (by omega)), if_neg (by decide), pu_bind (pu_size h hB hb), pu_bind hg]
      dsimp only
      rw [nI_1]
      by_cases e : cN κ n B s b = z
      · rw [if_pos (congrArg nI e), if_pos (congrArg nI e)]
        obtain ⟨fl, fn', dsp', ρ', g2, tS', τ', a1, a2, a3⟩ := pu_lay2 hFu hk hf h h1 h0 hB hb hs fn g' h6 h7
        rw [pu_bind a1, pu_bind a2]
        dsimp only
        rcases a3 with rfl | ⟨rfl, a4, a5, a6, a7⟩
        · rw [if_pos rfl, if_pos rfl]
          refine Or.inr (Or.inl ⟨_, (g2, tS', τ', 0), _, rfl, rfl, ?_, Or.inl ⟨_, rfl, rfl⟩⟩)
          dsimp only
          rcases Nat.lt_or_ge (b + 1) B with q | q
          · rw [if_neg (nI_ge q (by omega)), if_pos rfl]
          · rw [if_pos (nI_le q (by omega))]
        · rw [if_neg (by decide), if_neg (by decide)]
          refine Or.inl ⟨_, _, rfl, rfl, rfl, rfl, rfl, a4, a5, fun r hr hr2 => ?_⟩
          dsimp only
          by_cases e2 : grN κ B s r = b
          · exact a7 r hr e2
          · exact a6 r hr e2 (h8 r hr (by
              rcases hr2 with q | ⟨q, q2⟩
              · exact Or.inl q
              · exact Or.inr ⟨q, by omega⟩))
      · rw [if_neg (fun e2 => e ((nI_eq (by omega) (by omega)).mp e2)), if_neg (fun e2 => e ((nI_eq (by omega) (by omega)).mp e2))]
        refine Or.inl ⟨_, _, rfl, rfl, rfl, rfl, rfl, h6, h7, fun r hr hr2 => ?_⟩
        dsimp only
        refine h8 r hr ?_
        rcases hr2 with q | ⟨q, q2⟩
        · exact Or.inl q
        · refine Or.inr ⟨q, ?_⟩
          have : grN κ B s r ≠ b := fun e2 => e (e2 ▸ q)
          omega)
    (fun σ υ hσ => by
      obtain ⟨fn, dsp, ρ, c⟩ := σ
      obtain ⟨g, tS, τ, x, c2⟩ := υ
      obtain ⟨h3, h4, h5, h6, h7, h8⟩ := hσ
      dsimp only at h3 h4 h5 h6 h7 h8 ⊢
      subst h3 h4 h5
      unfold L_X0_displaceAll_27 L_X8_displaces_91
      rw [if_pos (nI_le (Nat.le_refl _) (by omega)), if_pos (nI_le (Nat.le_refl _) (by omega))]
      exact ⟨_, _, rfl, rfl, Or.inr ⟨_, _, _, _, _, _, rfl, rfl, h6, h7, h8⟩⟩)
    N 0 (fn, dsp, ρ, 0) (g, tS, τ, 1, 0) (Nat.zero_le _) (by omega) ⟨nI_0.symm, nI_0.symm, rfl, hR, hD, hP⟩
theorem pu_try {N κ n B s} {f fb fm fs ft : Nat → Int32} (hFu : 1000 ≤ N) (hk : KeyOk κ n) (hf : HoldK f κ n) (h : HdK κ n B s fb fm fs ft) (h1 : 1 ≤ n) (h0 : 0 < B) (hB : B ≤ 120) (hs : s < 200) (fn dsp ρ g tS τ : Nat → Int32) :
    ∃ fl fn' dsp' ρ' g' tS' τ', F_X0_displaceAll N (nI n) (nI B) fb fm fs ft fn dsp ρ = some (fl, fn', dsp', ρ') ∧ F_X8_displaces N (nI n) f g tS τ (nI s) (nI B) = some (fl, g', tS', τ') ∧
      (fl = 0 ∨ (fl = 1 ∧ RO n κ ρ' τ' ∧ DO B n dsp' tS' ∧ ∀ r, r < n → PlD κ n B s dsp' ρ' r)) := by
  have hn := hk.1
  obtain ⟨d1, hd1, hd2⟩ := pu_fill (N := N) (n := 120) (f := dsp) (x := 0) (by decide) (by omega)
  obtain ⟨r1, hr1, hr2⟩ := pu_fill (N := N) (n := 120) (f := ρ) (x := -1) (by decide) (by omega)
  obtain ⟨⟨s1, t1⟩, hm1, hm2, hm3⟩ := pu_up (f := fun (σ : ((Nat → Int32) × (Nat → Int32) × Int32)) => L_X8_displaces_5 N σ.1 σ.2.1 σ.2.2) (fun i σ => σ.2.2 = nI i ∧ (∀ x, x < i → σ.1 x = 0) ∧ ∀ x, x < i → σ.2.1 x = -1) (fun r => (∀ x, x < 120 → r.1 x = 0) ∧ ∀ x, x < 120 → r.2 x = -1) 120
    (fun i σ hi hσ => by
      obtain ⟨a, b, c⟩ := σ
      obtain ⟨h3, h4, h5⟩ := hσ
      dsimp only at h3 h4 h5 ⊢
      subst h3
      unfold L_X8_displaces_5
      rw [if_neg (show ¬ (120 : Int32) ≤ nI i from nI_ge (b := 120) hi (by decide)), pu_bind (pu_wr hi (by decide)), pu_bind (pu_wr hi (by decide)), nI_1]
      refine Or.inl ⟨_, rfl, rfl, fun x hx => ?_, fun x hx => ?_⟩
      · dsimp only
        by_cases e : x = i
        · rw [e, pu_us]
        · rw [pu_un e]; exact h4 x (by omega)
      · dsimp only
        by_cases e : x = i
        · rw [e, pu_us]
        · rw [pu_un e]; exact h5 x (by omega))
    (fun σ hσ => by
      obtain ⟨a, b, c⟩ := σ
      obtain ⟨h3, h4, h5⟩ := hσ
      dsimp only at h3 h4 h5 ⊢
      subst h3
      unfold L_X8_displaces_5
      rw [if_pos (show (120 : Int32) ≤ nI 120 from nI_le (Nat.le_refl 120) (by decide))]
      exact ⟨_, rfl, h4, h5⟩)
    N 0 (tS, τ, 0) (Nat.zero_le _) (by omega) ⟨nI_0.symm, fun x hx => absurd hx (Nat.not_lt_zero x), fun x hx => absurd hx (Nat.not_lt_zero x)⟩
  dsimp only at hm2 hm3
  obtain ⟨g1, hg1⟩ := pu_mlargest hFu hk hf h0 hB hs g
  unfold F_X0_displaceAll F_X8_displaces J_X8_displaces_34 J_X8_displaces_72
  rw [pu_bind hd1, pu_bind hr1, pu_bind (pu_largest hFu h hn hB), pu_bind hm1, pu_bind (show kk_iter _ N (g, (0 : Int32), (0 : Int32)) = _ from hg1)]
  have hmx : mxN κ n B s B ≤ n := mxN_le
  obtain ⟨r, w, a1, a2, a3⟩ := pu_up2 (f := fun (σ : ((Nat → Int32) × (Nat → Int32) × (Nat → Int32) × Int32)) => L_X0_displaceAll_21 N (nI n) (nI B) fb fm fs ft σ.1 σ.2.1 σ.2.2.1 σ.2.2.2)
    (g := fun (σ : ((Nat → Int32) × (Nat → Int32) × (Nat → Int32) × Int32 × Int32)) => L_X8_displaces_78 N (nI n) f (nI s) (nI B) σ.1 σ.2.1 σ.2.2.1 σ.2.2.2.1 σ.2.2.2.2)
    (fun i σ υ => σ.2.2.2 = nI (mxN κ n B s B - i) ∧ υ.2.2.2.2 = nI (mxN κ n B s B - i) ∧ υ.2.2.2.1 = 1 ∧ RO n κ σ.2.2.1 υ.2.2.1 ∧ DO B n σ.2.1 υ.2.1 ∧ Pls κ n B s σ.2.1 σ.2.2.1 (mxN κ n B s B - i) 0)
    (fun r w => (∃ q, r = .inl q ∧ w.2.2.2 = 0) ∨ ∃ fn' dsp' ρ' g' tS' τ', r = .inr (fn', dsp', ρ') ∧ w = (g', tS', τ', 1) ∧ RO n κ ρ' τ' ∧ DO B n dsp' tS' ∧ Pls κ n B s dsp' ρ' 0 0) (mxN κ n B s B)
    (fun i σ υ hi hσ => by
      obtain ⟨fn, dsp, ρ, c⟩ := σ
      obtain ⟨g, tS, τ, x, c2⟩ := υ
      obtain ⟨h3, h4, h5, h6, h7, h8⟩ := hσ
      dsimp only at h3 h4 h5 h6 h7 h8 ⊢
      subst h3 h4 h5
      obtain ⟨m, hm⟩ : ∃ m, mxN κ n B s B - i = m + 1 := ⟨mxN κ n B s B - i - 1, by omega⟩
      have hm2 : mxN κ n B s B - (i + 1) = m := by omega
      rw [hm] at h8 ⊢
      rw [hm2]
      obtain ⟨r, w, b1, b2, b3⟩ := pu_inner (fn := fn) (g := g) hFu hk hf h h1 h0 hB hs (show m + 1 ≤ n by omega) h6 h7 h8
      unfold L_X0_displaceAll_21 L_X8_displaces_78 J_X0_displaceAll_63 J_X8_displaces_139
      rw [if_neg (nI_nle (by omega) (by omega)), if_neg (nI_nle (by omega) (by omega)), if_neg (by decide), pu_bind b1, pu_bind b2]
      rcases b3 with ⟨q, rfl, b4⟩ | ⟨fn', dsp', ρ', g', tS', τ', rfl, rfl, b4, b5, b6⟩
      · obtain ⟨w1, w2, w3, w4⟩ := w
        dsimp only at b4
        subst b4
        refine Or.inr (Or.inl ⟨_, (w1, w2, w3, 0), _, rfl, rfl, ?_, Or.inl ⟨_, rfl, rfl⟩⟩)
        dsimp only
        split
        · rfl
        · rw [if_pos rfl]
      · dsimp only [Sum.elim_inr]
        rw [pk_m1]
        refine Or.inl ⟨_, _, rfl, rfl, rfl, rfl, rfl, b4, b5, fun r hr hr2 => b6 r hr ?_⟩
        have hgr : grN κ B s r < B := bkN_lt h0
        rcases hr2 with q | ⟨q, q2⟩
        · rcases Nat.lt_or_ge (m + 1) (cN κ n B s (grN κ B s r)) with q3 | q3
          · exact Or.inl q3
          · exact Or.inr ⟨by omega, hgr⟩
        · omega)
    (fun σ υ hσ => by
      obtain ⟨fn, dsp, ρ, c⟩ := σ
      obtain ⟨g, tS, τ, x, c2⟩ := υ
      obtain ⟨h3, h4, h5, h6, h7, h8⟩ := hσ
      dsimp only at h3 h4 h5 h6 h7 h8 ⊢
      subst h3 h4 h5
      have e : mxN κ n B s B - mxN κ n B s B = 0 := Nat.sub_self _
      rw [e] at h8 ⊢
      unfold L_X0_displaceAll_21 L_X8_displaces_78
      rw [if_pos (show nI 0 ≤ 0 by decide), if_pos (show nI 0 ≤ 0 by decide)]
      exact ⟨_, _, rfl, rfl, Or.inr ⟨_, _, _, _, _, _, rfl, rfl, h6, h7, h8⟩⟩)
    N 0 (fn, d1, r1, nI (mxN κ n B s B)) (g1, s1, t1, 1, nI (mxN κ n B s B)) (Nat.zero_le _) (by omega)
    ⟨rfl, rfl, rfl, fun x hx => Or.inl ⟨hr2 x (by omega), hm3 x (by omega)⟩, fun b hb => ⟨0, h1, hd2 b (by omega), hm2 b (by omega)⟩, fun r hr hr2 => by
      have h9 : cN κ n B s (grN κ B s r) ≤ mxN κ n B s B := mxN_ge (bkN_lt h0)
      rcases hr2 with q | ⟨q, q2⟩
      · exact absurd q (by omega)
      · omega⟩
  rw [pu_bind a1, pu_bind a2]
  rcases a3 with ⟨q, rfl, a4⟩ | ⟨fn', dsp', ρ', g', tS', τ', rfl, rfl, a4, a5, a6⟩
  · unfold J_X0_displaceAll_55 J_X8_displaces_145
    rw [a4]
    exact ⟨_, _, _, _, _, _, _, rfl, rfl, Or.inl rfl⟩
  · unfold J_X0_displaceAll_69 J_X8_displaces_145
    refine ⟨_, _, _, _, _, _, _, rfl, rfl, Or.inr ⟨rfl, a4, a5, fun r hr => a6 r hr (Or.inl ?_)⟩⟩
    have := (mN_of (κ := κ) (B := B) (s := s) hr).1
    omega
