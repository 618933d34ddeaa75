/-! ===== the keys hashed: the buckets in order, as the program keeps them and as the other gathers them ===== -/
def grN (κ : Nat → Nat) (B s : Nat) : Nat → Nat := fun r => bkN B s (κ r)
def HdK (κ : Nat → Nat) (n B s : Nat) (fb fm fs ft : Nat → Int32) : Prop :=
  (∀ b, b ≤ B → fb b = nI (cL (grN κ B s) b n)) ∧ (∀ r, r < n → fm (posN (grN κ B s) n r) = nI r) ∧
  (∀ r, r < n → fs r = nI (hN 1 (κ r) s)) ∧ ∀ r, r < n → ft r = nI (stN n s (κ r))
theorem pu_at {N r : Nat} {f : Nat → Int32} (hr : r < 120) : F_X4_at N f (nI r) = some (f r) := by
  unfold F_X4_at
  rw [pu_bind (pu_get hr (by decide))]
theorem pu_hashKeys {N n B s : Nat} {κ : Nat → Nat} {f : Nat → Int32} (hFu : 1000 ≤ N) (hk : KeyOk κ n) (hf : HoldK f κ n) (h0 : 0 < B) (hB : B ≤ 120) (hs : s < 200) (x1 x2 : Int32) (g1 g2 g3 g4 g5 : Nat → Int32) :
    ∃ tC gC fg fb fm fs ft, F_X0_hashKeys N (nI n) (nI B) (nI s) x1 x2 g1 g2 g3 g4 g5 f = some (tC, gC, fg, fb, fm, fs, ft) ∧ HdK κ n B s fb fm fs ft := by
  have hn := hk.1
  have hkb := hk.2.2
  unfold F_X0_hashKeys F_X2_restart
  obtain ⟨z, hz, hz0⟩ := pu_fill (N := N) (n := 121) (f := g2) (x := 0) (by decide) (by omega)
  rw [pu_bind (by rw [pu_bind hz])]
  dsimp only
  obtain ⟨⟨fg, fb, fs, ft⟩, h1, h2, h3, h4, h5⟩ := pu_up (f := fun (σ : ((Nat → Int32) × (Nat → Int32) × (Nat → Int32) × (Nat → Int32) × Int32)) => L_X0_hashKeys_17 N (nI n) (nI B) (nI s) f σ.1 σ.2.1 σ.2.2.1 σ.2.2.2.1 σ.2.2.2.2)
    (fun i σ => σ.2.2.2.2 = nI i ∧ (∀ t, t < i → σ.1 t = nI (grN κ B s t)) ∧ (∀ b, b ≤ B → σ.2.1 b = nI (cE (grN κ B s) b i)) ∧ (∀ r, r < i → σ.2.2.1 r = nI (hN 1 (κ r) s)) ∧ ∀ r, r < i → σ.2.2.2.1 r = nI (stN n s (κ r)))
    (fun σ => (∀ t, t < n → σ.1 t = nI (grN κ B s t)) ∧ (∀ b, b ≤ B → σ.2.1 b = nI (cE (grN κ B s) b n)) ∧ (∀ r, r < n → σ.2.2.1 r = nI (hN 1 (κ r) s)) ∧ ∀ r, r < n → σ.2.2.2 r = nI (stN n s (κ r))) n
    (fun i σ hi hσ => by
      obtain ⟨fg, fb, fs, ft, c⟩ := σ
      obtain ⟨h2, h3, h4, h5, h6⟩ := hσ
      dsimp only at h2 h3 h4 h5 h6 ⊢
      subst h2
      have hki := hkb i hi
      have hbk : bkN B s (κ i) < B := bkN_lt h0
      unfold L_X0_hashKeys_17
      rw [if_neg (nI_ge hi (by omega)), pu_bind (pu_at (by omega)), hf i hi, pu_bind (pu_bucketOf h0 hB hki hs), pu_bind (pu_assign (by omega) (by decide) (by omega) (by decide) (h4 _ (by omega))), pu_bind (pu_of hki hs), pu_bind (pu_set (by omega) (by decide)), pu_bind (pu_stepOf hn hki hs), pu_bind (pu_set (by omega) (by decide)), nI_1]
      refine Or.inl ⟨_, rfl, rfl, fun t ht => ?_, fun b hb => ?_, fun r hr => ?_, fun r hr => ?_⟩
      · dsimp only
        by_cases e : t = i
        · rw [e, pu_us]; rfl
        · rw [pu_un e]; exact h3 t (by omega)
      · dsimp only
        rw [cE_s]
        by_cases e : b = bkN B s (κ i)
        · rw [e, pu_us, if_pos (show grN κ B s i = bkN B s (κ i) from rfl)]
        · rw [pu_un e, if_neg (fun e2 => e e2.symm)]; exact h4 b hb
      · dsimp only
        by_cases e : r = i
        · rw [e, pu_us]
        · rw [pu_un e]; exact h5 r (by omega)
      · dsimp only
        by_cases e : r = i
        · rw [e, pu_us]
        · rw [pu_un e]; exact h6 r (by omega))
    (fun σ hσ => by
      obtain ⟨fg, fb, fs, ft, c⟩ := σ
      obtain ⟨h2, h3, h4, h5, h6⟩ := hσ
      dsimp only at h2 h3 h4 h5 h6 ⊢
      subst h2
      unfold L_X0_hashKeys_17
      rw [if_pos (nI_le (Nat.le_refl n) (by omega))]
      exact ⟨_, rfl, h3, h4, h5, h6⟩)
    N 0 (g1, z, g4, g5, 0) (Nat.zero_le n) (by omega) ⟨nI_0.symm, fun t ht => absurd ht (Nat.not_lt_zero t), fun b hb => hz0 b (by omega), fun t ht => absurd ht (Nat.not_lt_zero t), fun t ht => absurd ht (Nat.not_lt_zero t)⟩
  rw [pu_bind h1]
  unfold J_X0_hashKeys_82
  dsimp only at h2 h3 h4 h5 ⊢
  obtain ⟨fb', fm', h6, h7, h8⟩ := pu_arrange (N := N) (nG := 120) (nB := 121) (nM := 120) (T := n) (G := B) (gr := grN κ B s) (fg := fg) (fb := fb) (fm := g3) (by omega) (by decide) (by decide) (by decide) hn hn (by omega) (fun t ht => bkN_lt h0) h2 h3
  rw [pu_bind h6]
  exact ⟨_, _, _, _, _, _, _, rfl, h7, h8, h4, h5⟩
def pB (κ : Nat → Nat) (B s b : Nat) : Nat → Bool := fun i => decide (grN κ B s i = b)
/-- the j-th rank of bucket b -/
def mN (κ : Nat → Nat) (n B s b j : Nat) : Nat := sel (pB κ B s b) n j
def cN (κ : Nat → Nat) (n B s b : Nat) : Nat := cE (grN κ B s) b n
theorem cN_le {κ : Nat → Nat} {n B s b : Nat} : cN κ n B s b ≤ n := cE_le
theorem mN_ok {κ : Nat → Nat} {n B s b j : Nat} (h : j < cN κ n B s b) : mN κ n B s b j < n ∧ grN κ B s (mN κ n B s b j) = b ∧ cE (grN κ B s) b (mN κ n B s b j) = j := by
  have h1 := sel_ok (p := pB κ B s b) (t := n) (j := j) h
  exact ⟨h1.1, of_decide_eq_true h1.2.1, h1.2.2⟩
theorem mN_inj {κ : Nat → Nat} {n B s b i j : Nat} (hi : i < cN κ n B s b) (hj : j < cN κ n B s b) (h : mN κ n B s b i = mN κ n B s b j) : i = j := by
  have h1 := (mN_ok hi).2.2
  have h2 := (mN_ok hj).2.2
  rw [h] at h1
  omega
theorem mN_of {κ : Nat → Nat} {n B s r : Nat} (h : r < n) : cE (grN κ B s) (grN κ B s r) r < cN κ n B s (grN κ B s r) ∧ mN κ n B s (grN κ B s r) (cE (grN κ B s) (grN κ B s r) r) = r :=
  ⟨cE_lt h, sel_of (p := pB κ B s (grN κ B s r)) h (by simp [pB])⟩
theorem pu_memb {N κ n B s b j} {fb fm fs ft : Nat → Int32} (h : HdK κ n B s fb fm fs ft) (hn : n ≤ 120) (hj : j < cN κ n B s b) : F_X2_memberAt N 120 fm (nI (cL (grN κ B s) b n + j)) = some (nI (mN κ n B s b j)) := by
  unfold F_X2_memberAt
  have h1 := mN_ok hj
  have h2 := h.2.1 _ h1.1
  have h3 := posN_lt (gr := grN κ B s) h1.1
  have h4 : cL (grN κ B s) (grN κ B s (mN κ n B s b j) + 1) n ≤ n := cL_le
  have h5 : posN (grN κ B s) n (mN κ n B s b j) = cL (grN κ B s) b n + j := by unfold posN; rw [h1.2.1, h1.2.2]
  rw [h5] at h2 h3
  rw [pu_bind (pu_get (by omega) (by decide)), h2]
theorem pu_begin {N κ n B s b} {fb fm fs ft : Nat → Int32} (h : HdK κ n B s fb fm fs ft) (hB : B ≤ 120) (hb : b < B) : F_X2_beginOf N 121 fb (nI b) = some (nI (cL (grN κ B s) b n)) := by
  unfold F_X2_beginOf
  rw [pu_bind (pu_get (by omega) (by decide)), h.1 b (by omega)]
theorem pu_end {N κ n B s b} {fb fm fs ft : Nat → Int32} (h : HdK κ n B s fb fm fs ft) (hB : B ≤ 120) (hb : b < B) : F_X2_endOf N 121 fb (nI b) = some (nI (cL (grN κ B s) b n + cN κ n B s b)) := by
  unfold F_X2_endOf
  rw [nI_1, pu_bind (pu_get (by omega) (by decide)), h.1 (b + 1) (by omega), cL_b]; rfl
theorem pu_size {N κ n B s b} {fb fm fs ft : Nat → Int32} (h : HdK κ n B s fb fm fs ft) (hB : B ≤ 120) (hb : b < B) : F_X2_sizeOf N 121 fb (nI b) = some (nI (cN κ n B s b)) := by
  unfold F_X2_sizeOf
  rw [pu_bind (pu_end h hB hb), pu_bind (pu_begin h hB hb), pk_sub (by omega)]
  congr 2
  omega
/-- the other gathers -/
def GathK (κ : Nat → Nat) (n B s b : Nat) (g : Nat → Int32) : Prop := ∀ j, j < cN κ n B s b → g j = nI (κ (mN κ n B s b j))
theorem pu_gather {N n B s b : Nat} {κ : Nat → Nat} {f : Nat → Int32} (hFu : 1000 ≤ N) (hk : KeyOk κ n) (hf : HoldK f κ n) (h0 : 0 < B) (hB : B ≤ 120) (hs : s < 200) (hb : b < B) (g0 : Nat → Int32) :
    ∃ g, F_X8_gather N (nI n) f g0 (nI b) (nI s) (nI B) = some (nI (cN κ n B s b), g) ∧ GathK κ n B s b g := by
  have hn := hk.1
  have hkb := hk.2.2
  unfold F_X8_gather J_X8_gather_56
  obtain ⟨⟨g, c⟩, h1, h2, h3⟩ := pu_up (f := fun (σ : ((Nat → Int32) × Int32 × Int32)) => L_X8_gather_6 N (nI n) f (nI b) (nI s) (nI B) σ.1 σ.2.1 σ.2.2)
    (fun i σ => σ.2.1 = nI (cE (grN κ B s) b i) ∧ σ.2.2 = nI i ∧ ∀ r, r < i → grN κ B s r = b → σ.1 (cE (grN κ B s) b r) = nI (κ r))
    (fun σ => σ.2 = nI (cE (grN κ B s) b n) ∧ ∀ r, r < n → grN κ B s r = b → σ.1 (cE (grN κ B s) b r) = nI (κ r)) n
    (fun i σ hi hσ => by
      obtain ⟨g, a, c⟩ := σ
      obtain ⟨h2, h3, h4⟩ := hσ
      dsimp only at h2 h3 h4 ⊢
      subst h2 h3
      have hki := hkb i hi
      have h8 := hN_lt 0 (κ i) s
      have hce : cE (grN κ B s) b i ≤ i := cE_le
      have hbk : bkN B s (κ i) < B := bkN_lt h0
      unfold L_X8_gather_6 J_X8_gather_50
      rw [if_neg (nI_ge hi (by omega)), pu_bind (pu_rd (by omega) (by decide)), hf i hi, pu_bind (pu_mh0 hki hs), pu_nz h0 (by omega), pu_rem (by omega) h0 (by omega), cE_s, nI_1 i]
      rw [show hN 0 (κ i) s % B = grN κ B s i from rfl]
      by_cases e : grN κ B s i = b
      · rw [if_pos (congrArg nI e), if_pos e, pu_bind (pu_rd (by omega) (by decide)), hf i hi, pu_bind (pu_wr (by omega) (by decide)), nI_1]
        refine Or.inl ⟨_, rfl, rfl, rfl, fun r hr hr2 => ?_⟩
        dsimp only
        by_cases e2 : r = i
        · rw [e2, pu_us]
        · rw [pu_un (show cE (grN κ B s) b r ≠ cE (grN κ B s) b i from fun e3 => e2 (cc_inj (p := fun i => decide (grN κ B s i = b)) (by simpa using hr2) (by simpa using e) e3))]
          exact h4 r (by omega) hr2
      · rw [if_neg (fun e2 => e ((nI_eq (by have : grN κ B s i < B := hbk; omega) (by omega)).mp e2)), if_neg e]
        refine Or.inl ⟨_, rfl, rfl, rfl, fun r hr hr2 => ?_⟩
        have : r ≠ i := fun e2 => e (e2 ▸ hr2)
        exact h4 r (by omega) hr2)
    (fun σ hσ => by
      obtain ⟨g, a, c⟩ := σ
      obtain ⟨h2, h3, h4⟩ := hσ
      dsimp only at h2 h3 h4 ⊢
      subst h2 h3
      unfold L_X8_gather_6
      rw [if_pos (nI_le (Nat.le_refl n) (by omega))]
      exact ⟨_, rfl, rfl, h4⟩)
    N 0 (g0, 0, 0) (Nat.zero_le n) (by omega) ⟨nI_0.symm, nI_0.symm, fun t ht => absurd ht (Nat.not_lt_zero t)⟩
  rw [pu_bind h1]
  dsimp only at h2 h3 ⊢
  subst h2
  refine ⟨g, rfl, fun j hj => ?_⟩
  have h4 := mN_ok hj
  have h5 := h3 _ h4.1 h4.2.1
  rw [h4.2.2] at h5
  exact h5
