/-! ===== displacing: the program's way and the law's, side by side ===== -/
def RR (n : Nat) (ρ : Nat → Int32) : Prop := ∀ x, x < n → ρ x = -1 ∨ ∃ r, r < n ∧ ρ x = nI r
def DE (κ : Nat → Nat) (n B s : Nat) (dsp : Nat → Int32) : Prop := ∀ b, b < B → ∃ d, d < n ∧ dsp b = nI d ∧ (cN κ n B s b = 0 → d = 0)
theorem RR_laid {κ n B s b} {ρ ρ' : Nat → Int32} {a : Nat → Nat} (h : RR n ρ) (hL : LaidD ρ ρ' (cN κ n B s b) a (vN κ n B s b)) : RR n ρ' := by
  intro x hx
  by_cases e : ∃ j, j < cN κ n B s b ∧ a j = x
  · obtain ⟨j, hj, rfl⟩ := e
    exact Or.inr ⟨mN κ n B s b j, (mN_ok hj).1, hL.1 j hj⟩
  · rw [hL.2 x (fun j hj e3 => e ⟨j, hj, e3⟩)]
    exact h x hx
theorem DE_upd {κ n B s b d} {dsp : Nat → Int32} (h : DE κ n B s dsp) (hd : d < n) (hc : 1 ≤ cN κ n B s b) : DE κ n B s (upd dsp b (nI d)) := by
  intro x hx
  by_cases e : x = b
  · subst e
    exact ⟨d, hd, pu_us, fun h9 => absurd h9 (by omega)⟩
  · rw [pu_un e]; exact h x hx
theorem pl_lay2 {N κ n B s b T} {f g fb fm fs ft : Nat → Int32} (hFu : 1000 ≤ N) (hk : KeyOk κ n) (hf : HoldK f κ n) (h : HdK κ n B s fb fm fs ft) (h1 : 1 ≤ n) (hn : n ≤ 20) (h0 : 0 < B) (hB : B ≤ 120) (hb : b < B) (hs : s < 200) (hg : ∀ x, x < n → g x = nI (grN κ B s x)) (hc : 1 ≤ cN κ n B s b) (fn : Nat → Int32) {dsp ρ : Nat → Int32}
    (hT : TO n ρ T) (hR : RR n ρ) (hD : DE κ n B s dsp) :
    ∃ fl fn' dsp' ρ' z j, F_X0_displace N (nI n) fb fm fs ft fn dsp ρ (nI b) = some (fl, fn', dsp', ρ') ∧
      kk_iter (fun (σ : (Int64 × Int32)) => L_L_displaced_131 N 32 32 f g (nI n) (nI s) (lN T) (nI (cN κ n B s b)) (nI b) σ.1 σ.2) N (0, 0) = some z ∧
      J_L_displaced_253 N (lN T) (nI (cN κ n B s b)) (nI b) z = some (.inl (j, fl, nI (b + 1))) ∧
      (fl = 0 ∨ (fl = 1 ∧ ∃ T', j = lN T' ∧ TO n ρ' T' ∧ RR n ρ' ∧ DE κ n B s dsp' ∧ (∀ r, r < n → grN κ B s r ≠ b → PlD κ n B s dsp ρ r → PlD κ n B s dsp' ρ' r) ∧ ∀ r, r < n → grN κ B s r = b → PlD κ n B s dsp' ρ' r)) := by
  obtain ⟨fl, fn', dsp', ρ', h2, h3⟩ := pu_displace hFu h h1 (by omega) hB hb fn dsp ρ
  obtain ⟨z, h4, h5⟩ := pl_shift (T := T) hFu hk hf h1 hn h0 hB hb hs hg hc
  have hfit : ∀ d, FitX κ n B s b d T n ↔ FitD ρ (cN κ n B s b) (aN κ n B s b d) := fun d => FitX_D h1 hT
  have hmod : ∀ d, FitD ρ (cN κ n B s b) (aN κ n B s b (d % n)) ↔ FitD ρ (cN κ n B s b) (aN κ n B s b d) := fun d => by
    have : aN κ n B s b (d % n) = aN κ n B s b d := funext (fun j => atN_mod)
    rw [this]
  rcases h3 with ⟨d, h6, h7, h8, rfl, rfl, h9⟩ | ⟨h6, rfl⟩
  · rcases h5 with ⟨d2, g6, g7, g8, g9⟩ | ⟨g6, j, g9⟩
    · have : d = d2 := by
        rcases Nat.lt_trichotomy d d2 with q | q | q
        · exact absurd ((hfit d).mpr h7) (g8 d q)
        · exact q
        · exact absurd ((hfit d2).mp g7) (h8 d2 q)
      subst this
      refine ⟨_, _, _, _, _, _, h2, h4, g9, Or.inr ⟨rfl, _, rfl, TO_laid h1 hn hT g7 h9, RR_laid hR h9, DE_upd hD h6 hc, fun r hr hne hp => ?_, fun r hr hgr => ?_⟩⟩
      · obtain ⟨d1, hd1, hd2, hx2⟩ := hp
        refine ⟨d1, hd1, (pu_un hne).trans hd2, ?_⟩
        rw [h9.2 (atN n s d1 (κ r)) (fun j hj e => by
          have := h7.1 j hj
          rw [e, hx2] at this
          exact nI_m1 (by omega) this)]
        exact hx2
      · have hm := mN_of (κ := κ) (B := B) (s := s) hr
        rw [hgr] at hm
        have h10 := h9.1 _ hm.1
        unfold aN vN at h10
        rw [hm.2] at h10
        exact ⟨d, h6, by rw [hgr]; exact pu_us, h10⟩
    · exact absurd ((hfit d).mpr h7) (g6 d (by omega))
  · rcases h5 with ⟨d2, g6, g7, g8, g9⟩ | ⟨g6, j, g9⟩
    · exact absurd ((hmod d2).mpr ((hfit d2).mp g7)) (h6 _ (Nat.mod_lt _ h1))
    · exact ⟨_, _, _, _, _, _, h2, h4, g9, Or.inl rfl⟩
theorem pl_inner {N κ n B s z T} {f g fb fm fs ft : Nat → Int32} (hFu : 1000 ≤ N) (hk : KeyOk κ n) (hf : HoldK f κ n) (h : HdK κ n B s fb fm fs ft) (h1 : 1 ≤ n) (hn : n ≤ 20) (h0 : 0 < B) (hB : B ≤ 120) (hs : s < 200) (hg : ∀ x, x < n → g x = nI (grN κ B s x)) (hz1 : 1 ≤ z) (hz : z ≤ n) {fn dsp ρ : Nat → Int32}
    (hT : TO n ρ T) (hR : RR n ρ) (hD : DE κ n B s dsp) (hP : Pls κ n B s dsp ρ z 0) :
    ∃ r w, kk_iter (fun (σ : ((Nat → Int32) × (Nat → Int32) × (Nat → Int32) × Int32)) => L_X0_displaceAll_27 N (nI n) (nI B) fb fm fs ft (nI z) σ.1 σ.2.1 σ.2.2.1 σ.2.2.2) N (fn, dsp, ρ, 0) = some r ∧
      kk_iter (fun (σ : (Int64 × Int32 × Int32)) => L_L_displaced_67 N 32 32 f g (nI n) (nI B) (nI s) (nI z) σ.1 σ.2.1 σ.2.2) N (lN T, 1, 0) = some w ∧
      ((∃ q, r = .inl q ∧ w.2 = 0) ∨ ∃ fn' dsp' ρ' T', r = .inr (fn', dsp', ρ') ∧ w = (lN T', 1) ∧ TO n ρ' T' ∧ RR n ρ' ∧ DE κ n B s dsp' ∧ Pls κ n B s dsp' ρ' z B) := by
  refine pu_up2 (f := fun (σ : ((Nat → Int32) × (Nat → Int32) × (Nat → Int32) × Int32)) => L_X0_displaceAll_27 N (nI n) (nI B) fb fm fs ft (nI z) σ.1 σ.2.1 σ.2.2.1 σ.2.2.2)
    (g := fun (σ : (Int64 × Int32 × Int32)) => L_L_displaced_67 N 32 32 f g (nI n) (nI B) (nI s) (nI z) σ.1 σ.2.1 σ.2.2)
    (fun b σ υ => σ.2.2.2 = nI b ∧ υ.2.2 = nI b ∧ υ.2.1 = 1 ∧ (∃ T', υ.1 = lN T' ∧ TO n σ.2.2.1 T') ∧ RR n σ.2.2.1 ∧ DE κ n B s σ.2.1 ∧ Pls κ n B s σ.2.1 σ.2.2.1 z b) _ B
    (fun b σ υ hb hσ => by
      obtain ⟨fn, dsp, ρ, c⟩ := σ
      obtain ⟨j, x, c2⟩ := υ
      obtain ⟨h3, h4, h5, ⟨T', h6, hT⟩, hR, hD, h8⟩ := hσ
      dsimp only at h3 h4 h5 h6 hT hR hD h8 ⊢
      subst h3 h4 h5 h6
      have hc : cN κ n B s b ≤ n := cN_le
      have hin := pl_in (N := N) (κ := κ) (s := s) hFu hn h0 hB hb hg
      unfold L_X0_displaceAll_27 L_L_displaced_67 J_L_displaced_115 J_L_displaced_277 J_X0_displaceAll_57
      rw [if_neg (nI_ge hb (by omega)), if_neg (nI_ge hb (by omega)), if_neg (by decide), pu_bind (pu_size h hB hb), pu_bind hin, nI_1]
      by_cases e : cN κ n B s b = z
      · obtain ⟨fl, fn', dsp', ρ', z1, j1, a1, a2, a3, a4⟩ := pl_lay2 hFu hk hf h h1 hn h0 hB hb hs hg (by omega) fn hT hR hD
        rw [e] at a2 a3
        rw [if_pos (congrArg nI e), if_pos (congrArg nI e), pu_bind a1, pu_bind a2, a3]
        dsimp only
        rcases a4 with rfl | ⟨rfl, T2, rfl, a5, a6, a7, a8, a9⟩
        · rw [if_pos rfl]
          refine Or.inr (Or.inl ⟨_, (j1, 0), _, rfl, rfl, ?_, Or.inl ⟨_, rfl, rfl⟩⟩)
          dsimp only
          rcases Nat.lt_or_ge (b + 1) B with q | q
          · rw [if_neg (nI_ge q (by omega)), if_pos rfl]
          · rw [if_pos (nI_le q (by omega))]
        · rw [if_neg (by decide)]
          refine Or.inl ⟨_, _, rfl, rfl, rfl, rfl, rfl, ⟨T2, rfl, a5⟩, a6, a7, fun r hr hr2 => ?_⟩
          dsimp only
          by_cases e2 : grN κ B s r = b
          · exact a9 r hr e2
          · exact a8 r hr e2 (h8 r hr (by
              rcases hr2 with q | ⟨q, q2⟩
              · exact Or.inl q
              · exact Or.inr ⟨q, by omega⟩))
      · rw [if_neg (fun e2 => e ((nI_eq (by omega) (by omega)).mp e2)), if_neg (fun e2 => e ((nI_eq (by omega) (by omega)).mp e2))]
        refine Or.inl ⟨_, _, rfl, rfl, rfl, rfl, rfl, ⟨T', rfl, hT⟩, hR, hD, fun r hr hr2 => ?_⟩
        dsimp only
        refine h8 r hr ?_
        rcases hr2 with q | ⟨q, q2⟩
        · exact Or.inl q
        · refine Or.inr ⟨q, ?_⟩
          have : grN κ B s r ≠ b := fun e2 => e (e2 ▸ q)
          omega)
    (fun σ υ hσ => by
      obtain ⟨fn, dsp, ρ, c⟩ := σ
      obtain ⟨j, x, c2⟩ := υ
      obtain ⟨h3, h4, h5, ⟨T', h6, hT⟩, hR, hD, h8⟩ := hσ
      dsimp only at h3 h4 h5 h6 hT hR hD h8 ⊢
      subst h3 h4 h5 h6
      unfold L_X0_displaceAll_27 L_L_displaced_67
      rw [if_pos (nI_le (Nat.le_refl _) (by omega)), if_pos (nI_le (Nat.le_refl _) (by omega))]
      exact ⟨_, _, rfl, rfl, Or.inr ⟨_, _, _, T', rfl, rfl, hT, hR, hD, h8⟩⟩)
    N 0 (fn, dsp, ρ, 0) (lN T, 1, 0) (Nat.zero_le _) (by omega) ⟨nI_0.symm, nI_0.symm, rfl, ⟨T, rfl, hT⟩, hR, hD, hP⟩
theorem pl_noop {N κ n B s z} {f g : Nat → Int32} {j : Int64} (hFu : 1000 ≤ N) (hn : n ≤ 20) (h0 : 0 < B) (hB : B ≤ 120) (hg : ∀ x, x < n → g x = nI (grN κ B s x)) (hz : z ≤ n) (hno : ∀ b, b < B → cN κ n B s b ≠ z) :
    kk_iter (fun (σ : (Int64 × Int32 × Int32)) => L_L_displaced_67 N 32 32 f g (nI n) (nI B) (nI s) (nI z) σ.1 σ.2.1 σ.2.2) N (j, 1, 0) = some (j, 1) := by
  obtain ⟨r, h1, rfl⟩ := pu_up (f := fun (σ : (Int64 × Int32 × Int32)) => L_L_displaced_67 N 32 32 f g (nI n) (nI B) (nI s) (nI z) σ.1 σ.2.1 σ.2.2) (fun i σ => σ = (j, 1, nI i)) (fun r => r = (j, 1)) B
    (fun b σ hb hσ => by
      subst hσ
      dsimp only
      have hc : cN κ n B s b ≤ n := cN_le
      have hin := pl_in (N := N) (κ := κ) (s := s) hFu hn h0 hB hb hg
      unfold L_L_displaced_67 J_L_displaced_115 J_L_displaced_277
      rw [if_neg (nI_ge hb (by omega)), if_neg (by decide), pu_bind hin, nI_1, if_neg (fun e2 => hno b hb ((nI_eq (by omega) (by omega)).mp e2))]
      exact Or.inl ⟨_, rfl, rfl⟩)
    (fun σ hσ => by
      subst hσ
      dsimp only
      unfold L_L_displaced_67
      rw [if_pos (nI_le (Nat.le_refl _) (by omega))]
      exact ⟨_, rfl, rfl⟩)
    N 0 (j, 1, 0) (Nat.zero_le _) (by omega) rfl
  exact h1
theorem pl_try {N κ n B s} {f g fb fm fs ft : Nat → Int32} (hFu : 2000 ≤ N) (hk : KeyOk κ n) (hf : HoldK f κ n) (h : HdK κ n B s fb fm fs ft) (h1 : 1 ≤ n) (hn : n ≤ 20) (h0 : 0 < B) (hB : B ≤ 120) (hs : s < 200) (hg : ∀ x, x < n → g x = nI (grN κ B s x)) (fn dsp ρ : Nat → Int32) :
    ∃ fl fn' dsp' ρ', F_X0_displaceAll N (nI n) (nI B) fb fm fs ft fn dsp ρ = some (fl, fn', dsp', ρ') ∧
      kk_iter (fun (σ : (Int64 × Int32 × Int32)) => L_L_displaced_54 N 32 32 f g (nI n) (nI B) (nI s) σ.1 σ.2.1 σ.2.2) N (0, 1, nI n) = some fl ∧
      (fl = 0 ∨ (fl = 1 ∧ RR n ρ' ∧ DE κ n B s dsp' ∧ ∀ r, r < n → PlD κ n B s dsp' ρ' r)) := by
  obtain ⟨d1, hd1, hd2⟩ := pu_fill (N := N) (n := 120) (f := dsp) (x := 0) (by decide) (by omega)
  obtain ⟨r1, hr1, hr2⟩ := pu_fill (N := N) (n := 120) (f := ρ) (x := -1) (by decide) (by omega)
  unfold F_X0_displaceAll
  rw [pu_bind hd1, pu_bind hr1, pu_bind (pu_largest (by omega) h (by omega) hB)]
  have hmx : mxN κ n B s B ≤ n := mxN_le
  obtain ⟨r, w, a1, a2, a3⟩ := pu_up2 (f := fun (σ : ((Nat → Int32) × (Nat → Int32) × (Nat → Int32) × Int32)) => L_X0_displaceAll_21 N (nI n) (nI B) fb fm fs ft σ.1 σ.2.1 σ.2.2.1 σ.2.2.2)
    (g := fun (σ : (Int64 × Int32 × Int32)) => L_L_displaced_54 N 32 32 f g (nI n) (nI B) (nI s) σ.1 σ.2.1 σ.2.2)
    (fun i σ υ => σ.2.2.2 = nI (mxN κ n B s B - i) ∧ υ.2.2 = nI (mxN κ n B s B - i) ∧ υ.2.1 = 1 ∧ (∃ T', υ.1 = lN T' ∧ TO n σ.2.2.1 T') ∧ RR n σ.2.2.1 ∧ DE κ n B s σ.2.1 ∧ Pls κ n B s σ.2.1 σ.2.2.1 (mxN κ n B s B - i) 0)
    (fun r w => (∃ q, r = .inl q ∧ w = 0) ∨ ∃ fn' dsp' ρ', r = .inr (fn', dsp', ρ') ∧ w = 1 ∧ RR n ρ' ∧ DE κ n B s dsp' ∧ Pls κ n B s dsp' ρ' 0 0) (mxN κ n B s B)
    (fun i σ υ hi hσ => by
      obtain ⟨fn, dsp, ρ, c⟩ := σ
      obtain ⟨j, x, c2⟩ := υ
      obtain ⟨h3, h4, h5, ⟨T', h6, hT⟩, hR, hD, h8⟩ := hσ
      dsimp only at h3 h4 h5 h6 hT hR hD h8 ⊢
      subst h3 h4 h5 h6
      obtain ⟨m, hm⟩ : ∃ m, mxN κ n B s B - i = m + 1 := ⟨mxN κ n B s B - i - 1, by omega⟩
      have hm2 : mxN κ n B s B - (i + 1) = m := by omega
      rw [hm] at h8 ⊢
      rw [hm2]
      obtain ⟨r, w, b1, b2, b3⟩ := pl_inner (N := N) (fn := fn) (by omega) hk hf h h1 hn h0 hB hs hg (show 1 ≤ m + 1 by omega) (show m + 1 ≤ n by omega) hT hR hD h8
      unfold L_X0_displaceAll_21 L_L_displaced_54 J_X0_displaceAll_63 J_L_displaced_283
      rw [if_neg (nI_nle (by omega) (by omega)), if_neg (nI_nle (by omega) (by omega)), if_neg (by decide), pu_bind b1, pu_bind b2, pk_m1]
      rcases b3 with ⟨q, rfl, b4⟩ | ⟨fn', dsp', ρ', T2, rfl, rfl, b4, b5, b6, b7⟩
      · obtain ⟨w1, w2⟩ := w
        dsimp only at b4
        subst b4
        refine Or.inr (Or.inl ⟨_, 0, (w1, 0, nI m), rfl, rfl, ?_, Or.inl ⟨_, rfl, rfl⟩⟩)
        dsimp only
        split
        · rfl
        · rw [if_pos rfl]
      · dsimp only [Sum.elim_inr]
        refine Or.inl ⟨_, _, rfl, rfl, rfl, rfl, rfl, ⟨T2, rfl, b4⟩, b5, b6, fun r hr hr2 => b7 r hr ?_⟩
        have hgr : grN κ B s r < B := bkN_lt h0
        rcases hr2 with q | ⟨q, q2⟩
        · rcases Nat.lt_or_ge (m + 1) (cN κ n B s (grN κ B s r)) with q3 | q3
          · exact Or.inl q3
          · exact Or.inr ⟨by omega, hgr⟩
        · omega)
    (fun σ υ hσ => by
      obtain ⟨fn, dsp, ρ, c⟩ := σ
      obtain ⟨j, x, c2⟩ := υ
      obtain ⟨h3, h4, h5, ⟨T', h6, hT⟩, hR, hD, h8⟩ := hσ
      dsimp only at h3 h4 h5 h6 hT hR hD h8 ⊢
      subst h3 h4 h5 h6
      have e : mxN κ n B s B - mxN κ n B s B = 0 := Nat.sub_self _
      rw [e] at h8 ⊢
      unfold L_X0_displaceAll_21 L_L_displaced_54
      rw [if_pos (show nI 0 ≤ 0 by decide), if_pos (show nI 0 ≤ 0 by decide)]
      exact ⟨_, _, rfl, rfl, Or.inr ⟨_, _, _, rfl, rfl, hR, hD, h8⟩⟩)
    (N - (n - mxN κ n B s B)) 0 (fn, d1, r1, nI (mxN κ n B s B)) (0, 1, nI (mxN κ n B s B)) (Nat.zero_le _) (by omega)
    ⟨rfl, rfl, rfl, ⟨0, rfl, fun y hy => by
      dsimp only
      rw [hr2 y (by omega), Nat.zero_testBit]
      exact ⟨fun h9 => absurd h9 (by decide), fun h9 => absurd rfl h9⟩⟩, fun x hx => Or.inl (hr2 x (by omega)), fun b hb => ⟨0, h1, hd2 b (by omega), fun _ => rfl⟩, fun r hr hr2 => by
      have h9 : cN κ n B s (grN κ B s r) ≤ mxN κ n B s B := mxN_ge (bkN_lt h0)
      rcases hr2 with q | ⟨q, q2⟩
      · exact absurd q (by omega)
      · omega⟩
  have a4 := kk_mono (n - mxN κ n B s B) a1
  rw [show N - (n - mxN κ n B s B) + (n - mxN κ n B s B) = N by omega] at a4
  have a5 := kk_skip (f := fun (σ : (Int64 × Int32 × Int32)) => L_L_displaced_54 N 32 32 f g (nI n) (nI B) (nI s) σ.1 σ.2.1 σ.2.2) (n - mxN κ n B s B) (fun i => ((0 : Int64), (1 : Int32), nI (n - i)))
    (fun i hi => by
      dsimp only
      obtain ⟨m, hm⟩ : ∃ m, n - i = m + 1 := ⟨n - i - 1, by omega⟩
      rw [hm, show n - (i + 1) = m by omega]
      unfold L_L_displaced_54 J_L_displaced_283
      rw [if_neg (nI_nle (by omega) (by omega)), if_neg (by decide), pu_bind (pl_noop (by omega) hn h0 hB hg (by omega) (fun b hb e => by
        have := mxN_ge (κ := κ) (n := n) (B := B) (s := s) hb
        omega)), pk_m1]) (N - (n - mxN κ n B s B))
  rw [show n - mxN κ n B s B + (N - (n - mxN κ n B s B)) = N by omega] at a5
  have a6 : kk_iter (fun (σ : (Int64 × Int32 × Int32)) => L_L_displaced_54 N 32 32 f g (nI n) (nI B) (nI s) σ.1 σ.2.1 σ.2.2) N (0, 1, nI n) = some w := by
    refine Eq.trans a5 ?_
    rw [show n - (n - mxN κ n B s B) = mxN κ n B s B by omega]
    exact a2
  rw [pu_bind a4]
  rcases a3 with ⟨q, rfl, rfl⟩ | ⟨fn', dsp', ρ', rfl, rfl, b1, b2, b3⟩
  · unfold J_X0_displaceAll_55
    exact ⟨_, _, _, _, rfl, a6, Or.inl rfl⟩
  · unfold J_X0_displaceAll_69
    refine ⟨_, _, _, _, rfl, a6, Or.inr ⟨rfl, b1, b2, fun r hr => b3 r hr (Or.inl ?_)⟩⟩
    have := (mN_of (κ := κ) (B := B) (s := s) hr).1
    omega
theorem pl_settle2 {N κ n B L} {f f2 : Nat → Int32} (hFu : 2000 ≤ N) (hk : KeyOk κ n) (hf : HoldK f κ n) (hf2 : HoldK f2 κ n) (h1 : 1 ≤ n) (hn : n ≤ 20) (hL : 1 ≤ L) (hBL : B = (n + L - 1) / L) (h0 : 0 < B) (hB : B ≤ 120) (hL2 : L ≤ 6)
    (x1 x2 x3 x4 x5 : Int32) (g1 g2 g3 g4 g5 g6 g7 g8 m1 : Nat → Int32) :
    ∃ fl sd tC gC fg fb fm fs ft fn dsp ρ m2, F_X0_settle N x1 x2 x3 x4 x5 g1 g2 g3 g4 g5 g6 g7 g8 (nI n) f (nI L) = some (fl, nI n, nI B, sd, tC, gC, fg, fb, fm, fs, ft, fn, dsp, ρ) ∧
      F_L_displaced N 32 f2 32 m1 (nI n) (nI B) = some (fl, m2) ∧
      (fl = 0 ∨ (fl = 1 ∧ ∃ s, s < 40 ∧ sd = nI s ∧ HdK κ n B s fb fm fs ft ∧ RR n ρ ∧ DE κ n B s dsp ∧ ∀ r, r < n → PlD κ n B s dsp ρ r)) := by
  unfold F_X0_settle F_L_displaced
  rw [pu_bind (pu_dup (by omega) (by omega) (by omega)), ← hBL]
  obtain ⟨r, w, h2, h3, h4⟩ := pu_up2
    (f := fun (σ : (Int32 × Int32 × Int32 × (Nat → Int32) × (Nat → Int32) × (Nat → Int32) × (Nat → Int32) × (Nat → Int32) × (Nat → Int32) × (Nat → Int32) × (Nat → Int32) × Int32)) => L_X0_settle_22 N (nI n) (nI B) f σ.1 σ.2.1 σ.2.2.1 σ.2.2.2.1 σ.2.2.2.2.1 σ.2.2.2.2.2.1 σ.2.2.2.2.2.2.1 σ.2.2.2.2.2.2.2.1 σ.2.2.2.2.2.2.2.2.1 σ.2.2.2.2.2.2.2.2.2.1 σ.2.2.2.2.2.2.2.2.2.2.1 σ.2.2.2.2.2.2.2.2.2.2.2)
    (g := fun (σ : ((Nat → Int32) × Int32)) => L_L_displaced_3 N 32 32 f2 (nI n) (nI B) σ.1 σ.2)
    (fun i σ υ => σ.2.2.2.2.2.2.2.2.2.2.2 = nI i ∧ υ.2 = nI i)
    (fun r w => (∃ z w2, r = .inr z ∧ w = .inr w2) ∨ ∃ s tC gC fg fb fm fs ft fn dsp ρ w2, r = .inl (nI s, tC, gC, fg, fb, fm, fs, ft, fn, dsp, ρ) ∧ w = .inl w2 ∧ s < 40 ∧ HdK κ n B s fb fm fs ft ∧ RR n ρ ∧ DE κ n B s dsp ∧ ∀ r, r < n → PlD κ n B s dsp ρ r) 40
    (fun i σ υ hi hσ => by
      obtain ⟨a1, a2, a3, a4, a5, a6, a7, a8, a9, a10, a11, a12⟩ := σ
      obtain ⟨b1, b2⟩ := υ
      obtain ⟨h3, h4⟩ := hσ
      dsimp only at h3 h4 ⊢
      subst h3 h4
      obtain ⟨tC, gC, fg, fb, fm, fs, ft, e1, e2⟩ := pu_hashKeys (N := N) (s := i) (by omega) hk hf h0 hB (by omega) a2 a3 a4 a5 a6 a7 a8
      obtain ⟨g', c1, c2⟩ := pl_bk (N := N) (s := i) (by omega) hk hf2 hn h0 hB (by omega) b1
      obtain ⟨fl, fn', dsp', ρ', e3, e4, e5⟩ := pl_try hFu hk hf2 e2 h1 hn h0 hB (by omega) c2 a9 a10 a11
      unfold L_X0_settle_22 L_L_displaced_3 J_L_displaced_51 J_L_displaced_289
      rw [if_neg (show ¬ (40 : Int32) ≤ nI i from nI_ge (b := 40) hi (by decide)), if_neg (show ¬ (40 : Int32) ≤ nI i from nI_ge (b := 40) hi (by decide)), pu_bind e1, pu_bind c1]
      dsimp only
      rw [pu_bind e3, pu_bind e4]
      dsimp only
      rcases e5 with rfl | ⟨rfl, e6, e7, e8⟩
      · rw [if_pos rfl, if_pos rfl, nI_1]
        exact Or.inl ⟨_, _, rfl, rfl, rfl, rfl⟩
      · rw [if_neg (show ¬ (1 : Int32) = 0 by decide), if_neg (show ¬ (1 : Int32) = 0 by decide)]
        exact Or.inr (Or.inr ⟨_, _, rfl, rfl, Or.inr ⟨i, _, _, _, _, _, _, _, _, _, _, _, rfl, rfl, hi, e2, e6, e7, e8⟩⟩))
    (fun σ υ hσ => by
      obtain ⟨a1, a2, a3, a4, a5, a6, a7, a8, a9, a10, a11, a12⟩ := σ
      obtain ⟨b1, b2⟩ := υ
      obtain ⟨h3, h4⟩ := hσ
      dsimp only at h3 h4 ⊢
      subst h3 h4
      unfold L_X0_settle_22 L_L_displaced_3
      rw [if_pos (show (40 : Int32) ≤ nI 40 from nI_le (Nat.le_refl 40) (by decide)), if_pos (show (40 : Int32) ≤ nI 40 from nI_le (Nat.le_refl 40) (by decide))]
      exact ⟨_, _, rfl, rfl, Or.inl ⟨_, _, rfl, rfl⟩⟩)
    N 0 (x3, x4, x5, g1, g2, g3, g4, g5, g6, g7, g8, 0) (m1, 0) (Nat.zero_le _) (by omega) ⟨nI_0.symm, nI_0.symm⟩
  rw [pu_bind h2, pu_bind h3]
  rcases h4 with ⟨z, w2, rfl, rfl⟩ | ⟨s, tC, gC, fg, fb, fm, fs, ft, fn, dsp, ρ, w2, rfl, rfl, h5⟩
  · unfold J_X0_settle_53 J_L_displaced_302
    exact ⟨_, _, _, _, _, _, _, _, _, _, _, _, _, rfl, rfl, Or.inl rfl⟩
  · unfold J_X0_settle_45 J_L_displaced_294
    exact ⟨_, _, _, _, _, _, _, _, _, _, _, _, _, rfl, rfl, Or.inr ⟨rfl, s, h5.1, rfl, h5.2⟩⟩
