/-! ===== counting; the groups ===== -/
def cc (p : Nat → Bool) : Nat → Nat
  | 0 => 0
  | t + 1 => cc p t + (if p t = true then 1 else 0)
theorem cc_s {p : Nat → Bool} {t : Nat} : cc p (t + 1) = cc p t + (if p t = true then 1 else 0) := rfl
theorem cc_le (p : Nat → Bool) (t : Nat) : cc p t ≤ t := by
  induction t with
  | zero => exact Nat.le_refl 0
  | succ t ih => rw [cc_s]; split <;> omega
theorem cc_mono (p : Nat → Bool) {a b : Nat} (h : a ≤ b) : cc p a ≤ cc p b := by
  induction h with
  | refl => exact Nat.le_refl _
  | step h ih => rw [Nat.succ_eq_add_one, cc_s]; omega
theorem cc_lt {p : Nat → Bool} {a b : Nat} (h : a < b) (ha : p a = true) : cc p a < cc p b := by
  have h1 := cc_mono p (show a + 1 ≤ b from h)
  rw [cc_s, if_pos ha] at h1
  omega
theorem cc_congr {p q : Nat → Bool} {t : Nat} (h : ∀ i, i < t → p i = q i) : cc p t = cc q t := by
  induction t with
  | zero => rfl
  | succ t ih => rw [cc_s, cc_s, ih (fun i hi => h i (by omega)), h t (by omega)]
theorem cc_imp {p q : Nat → Bool} {t : Nat} (h : ∀ i, i < t → p i = true → q i = true) : cc p t ≤ cc q t := by
  induction t with
  | zero => exact Nat.le_refl _
  | succ t ih =>
    have h1 := ih (fun i hi => h i (by omega))
    have h2 := h t (by omega)
    rw [cc_s, cc_s]
    by_cases e : p t = true
    · rw [if_pos e, if_pos (h2 e)]; omega
    · rw [if_neg e]; omega
theorem cc_zero {p : Nat → Bool} {t : Nat} (h : ∀ i, i < t → ¬ p i = true) : cc p t = 0 := by
  induction t with
  | zero => rfl
  | succ t ih => rw [cc_s, ih (fun i hi => h i (by omega)), if_neg (h t (by omega))]
theorem cc_inj {p : Nat → Bool} {a b : Nat} (ha : p a = true) (hb : p b = true) (h : cc p a = cc p b) : a = b := by
  rcases Nat.lt_trichotomy a b with q | q | q
  · have := cc_lt q ha; omega
  · exact q
  · have := cc_lt q hb; omega
/-- the j-th that holds -/
def sel (p : Nat → Bool) : Nat → Nat → Nat
  | 0, _ => 0
  | t + 1, j => if p t = true ∧ cc p t = j then t else sel p t j
theorem sel_ok {p : Nat → Bool} {t j : Nat} (h : j < cc p t) : sel p t j < t ∧ p (sel p t j) = true ∧ cc p (sel p t j) = j := by
  induction t with
  | zero => exact absurd h (Nat.not_lt_zero j)
  | succ t ih =>
    unfold sel
    by_cases e : p t = true ∧ cc p t = j
    · rw [if_pos e]; exact ⟨by omega, e.1, e.2⟩
    · rw [if_neg e]
      rw [cc_s] at h
      have : j < cc p t := by
        by_cases e2 : p t = true
        · rw [if_pos e2] at h
          have : ¬ cc p t = j := fun e3 => e ⟨e2, e3⟩
          omega
        · rw [if_neg e2] at h; omega
      have := ih this
      exact ⟨by omega, this.2⟩
theorem sel_of {p : Nat → Bool} {t r : Nat} (hr : r < t) (h : p r = true) : sel p t (cc p r) = r := by
  have h1 := sel_ok (cc_lt hr h)
  exact cc_inj h1.2.1 h h1.2.2
def cE (gr : Nat → Nat) (b t : Nat) : Nat := cc (fun i => decide (gr i = b)) t
def cL (gr : Nat → Nat) (b t : Nat) : Nat := cc (fun i => decide (gr i < b)) t
theorem cE_s {gr : Nat → Nat} {b t : Nat} : cE gr b (t + 1) = cE gr b t + (if gr t = b then 1 else 0) := by
  unfold cE
  rw [cc_s]
  by_cases e : gr t = b
  · rw [if_pos e, if_pos (by simpa using e)]
  · rw [if_neg e, if_neg (by simpa using e)]
theorem cL_s {gr : Nat → Nat} {b t : Nat} : cL gr b (t + 1) = cL gr b t + (if gr t < b then 1 else 0) := by
  unfold cL
  rw [cc_s]
  by_cases e : gr t < b
  · rw [if_pos e, if_pos (by simpa using e)]
  · rw [if_neg e, if_neg (by simpa using e)]
theorem cL_b {gr : Nat → Nat} {b t : Nat} : cL gr (b + 1) t = cL gr b t + cE gr b t := by
  induction t with
  | zero => rfl
  | succ t ih =>
    rw [cL_s, cL_s, cE_s, ih]
    by_cases e : gr t = b
    · rw [if_pos e, if_pos (by omega), if_neg (by omega)]; omega
    · rw [if_neg e]
      by_cases e2 : gr t < b
      · rw [if_pos (by omega), if_pos e2]; omega
      · rw [if_neg (by omega), if_neg e2]; omega
theorem cL_0 {gr : Nat → Nat} {t : Nat} : cL gr 0 t = 0 := cc_zero (fun i _ => by simp)
theorem cL_mono {gr : Nat → Nat} {a b t : Nat} (h : a ≤ b) : cL gr a t ≤ cL gr b t := cc_imp (fun i _ hi => by
  have : gr i < a := by simpa using hi
  have : gr i < b := by omega
  simpa using this)
theorem cL_le {gr : Nat → Nat} {b t : Nat} : cL gr b t ≤ t := cc_le _ t
theorem cE_le {gr : Nat → Nat} {b t : Nat} : cE gr b t ≤ t := cc_le _ t
theorem cE_lt {gr : Nat → Nat} {a t : Nat} (h : a < t) : cE gr (gr a) a < cE gr (gr a) t := cc_lt h (by simp)
theorem cE_out {gr : Nat → Nat} {b t : Nat} (h : ∀ i, i < t → gr i ≠ b) : cE gr b t = 0 := cc_zero (fun i hi => by simpa using h i hi)
def posN (gr : Nat → Nat) (T t : Nat) : Nat := cL gr (gr t) T + cE gr (gr t) t
theorem posN_lt {gr : Nat → Nat} {T t : Nat} (h : t < T) : posN gr T t < cL gr (gr t + 1) T := by
  unfold posN
  rw [cL_b]
  have := cE_lt (gr := gr) h
  omega
theorem posN_inj {gr : Nat → Nat} {T t u : Nat} (ht : t < T) (hu : u < T) (h : posN gr T t = posN gr T u) : t = u := by
  have h1 := posN_lt (gr := gr) ht
  have h2 := posN_lt (gr := gr) hu
  rcases Nat.lt_trichotomy (gr t) (gr u) with q | q | q
  · have h3 : cL gr (gr t + 1) T ≤ cL gr (gr u) T := cL_mono q
    unfold posN at h h1 h2; omega
  · unfold posN at h
    rw [q] at h
    have h4 : cE gr (gr u) t = cE gr (gr u) u := by omega
    exact cc_inj (p := fun i => decide (gr i = gr u)) (by simpa using q) (by simp) h4
  · have h3 : cL gr (gr u + 1) T ≤ cL gr (gr t) T := cL_mono q
    unfold posN at h h1 h2; omega
theorem pu_assign {N nG nB t b v : Nat} {fg fb : Nat → Int32} (ht : t < nG) (hG : nG < 1000) (hb : b < nB) (hB : nB < 1000) (hf : fb b = nI v) :
    F_X2_assign N nG fg nB fb (nI t) (nI b) = some (upd fg t (nI b), upd fb b (nI (v + 1))) := by
  unfold F_X2_assign
  rw [pu_bind (pu_set ht (by omega)), pu_bind (pu_get hb (by omega)), hf, nI_1, pu_bind (pu_set hb (by omega))]
theorem pu_arrange {N nG nB nM T G : Nat} {gr : Nat → Nat} {fg fb fm : Nat → Int32} (hN : 1000 ≤ N) (hG : nG < 900) (hB : nB < 900) (hM : nM < 900) (hT : T ≤ nG) (hTM : T ≤ nM) (hGB : G < nB)
    (hgr : ∀ t, t < T → gr t < G) (hfg : ∀ t, t < T → fg t = nI (gr t)) (hfb : ∀ b, b ≤ G → fb b = nI (cE gr b T)) :
    ∃ fb' fm', F_X2_arrange N (nI T) (nI G) nG fg nB fb nM fm = some (fb', fm') ∧ (∀ b, b ≤ G → fb' b = nI (cL gr b T)) ∧ ∀ t, t < T → fm' (posN gr T t) = nI t := by
  unfold F_X2_arrange
  obtain ⟨fb1, h1, h2⟩ := pu_up (f := fun (σ : ((Nat → Int32) × Int32 × Int32)) => L_X2_arrange_4 N nB (nI G) σ.1 σ.2.1 σ.2.2)
    (fun i s => s.2.1 = nI (cL gr i T) ∧ s.2.2 = nI i ∧ (∀ b, b < i → s.1 b = nI (cL gr (b + 1) T)) ∧ ∀ b, i ≤ b → b ≤ G → s.1 b = nI (cE gr b T))
    (fun g => ∀ b, b ≤ G → g b = nI (cL gr (b + 1) T)) (G + 1)
    (fun i s hi hs => by
      obtain ⟨g, a, c⟩ := s
      obtain ⟨h3, h4, h5, h6⟩ := hs
      dsimp only at h3 h4 h5 h6 ⊢
      subst h3 h4
      unfold L_X2_arrange_4
      rw [if_neg (nI_nlt (by omega) (by omega)), pu_bind (pu_get (by omega) (by omega)), pu_bind (pu_set (by omega) (by omega)), h6 i (Nat.le_refl i) (by omega), nI_add, nI_1, ← cL_b]
      refine Or.inl ⟨_, rfl, rfl, rfl, fun b hb => ?_, fun b hb hb2 => ?_⟩
      · dsimp only
        by_cases e : b = i
        · rw [e, pu_us]
        · rw [pu_un e]; exact h5 b (by omega)
      · dsimp only
        rw [pu_un (by omega)]; exact h6 b (by omega) hb2)
    (fun s hs => by
      obtain ⟨g, a, c⟩ := s
      obtain ⟨h3, h4, h5, h6⟩ := hs
      dsimp only at h3 h4 h5 h6 ⊢
      subst h3 h4
      unfold L_X2_arrange_4
      rw [if_pos (nI_lt (by omega) (by omega))]
      exact ⟨g, rfl, fun b hb => h5 b (by omega)⟩)
    N 0 (fb, 0, 0) (by omega) (by omega) ⟨by rw [cL_0]; rfl, rfl, fun b hb => absurd hb (Nat.not_lt_zero b), fun b _ hb => hfb b hb⟩
  rw [pu_bind h1]
  unfold J_X2_arrange_38 J_X2_arrange_96
  obtain ⟨⟨fb2, fm2⟩, h7, h8⟩ := pu_up (f := fun (σ : ((Nat → Int32) × (Nat → Int32) × Int32)) => L_X2_arrange_45 N nG nB nM fg σ.1 σ.2.1 σ.2.2)
    (fun u s => s.2.2 = nI (T - u) + (-1) ∧ (∀ b, b ≤ G → s.1 b = nI (cL gr b T + cE gr b (T - u))) ∧ ∀ t, T - u ≤ t → t < T → s.2.1 (posN gr T t) = nI t)
    (fun g => (∀ b, b ≤ G → g.1 b = nI (cL gr b T)) ∧ ∀ t, t < T → g.2 (posN gr T t) = nI t) T
    (fun u s hu hs => by
      obtain ⟨g, h, c⟩ := s
      obtain ⟨h3, h4, h5⟩ := hs
      dsimp only at h3 h4 h5 ⊢
      subst h3
      obtain ⟨m, hm⟩ : ∃ m, T - u = m + 1 := ⟨T - u - 1, by omega⟩
      have hm2 : T - (u + 1) = m := by omega
      rw [hm] at h4 h5 ⊢
      rw [hm2, pk_m1]
      have hmT : m < T := by omega
      have hgm := hgr m hmT
      have hp := posN_lt (gr := gr) hmT
      have hp2 : cL gr (gr m + 1) T ≤ T := cL_le
      have h9 : g (gr m) = nI (posN gr T m + 1) := by
        rw [h4 (gr m) (by omega), cE_s, if_pos rfl]; rfl
      unfold L_X2_arrange_45
      rw [if_neg (nI_pos (by omega)), pu_bind (pu_get (by omega) (by omega)), hfg m hmT, pu_bind (pu_get (by omega) (by omega)), h9, nI_pred, pu_bind (pu_set (by omega) (by omega)), pu_bind (pu_set (by omega) (by omega))]
      refine Or.inl ⟨_, rfl, rfl, fun b hb => ?_, fun t ht ht2 => ?_⟩
      · dsimp only
        by_cases e : b = gr m
        · rw [e, pu_us]; rfl
        · rw [pu_un e, h4 b hb, cE_s, if_neg (fun e2 => e e2.symm)]; rfl
      · dsimp only
        by_cases e : t = m
        · rw [e, pu_us]
        · rw [pu_un (fun e2 => e (posN_inj ht2 hmT e2))]; exact h5 t (by omega) ht2)
    (fun s hs => by
      obtain ⟨g, h, c⟩ := s
      obtain ⟨h3, h4, h5⟩ := hs
      dsimp only at h3 h4 h5 ⊢
      subst h3
      have e : T - T = 0 := Nat.sub_self T
      rw [e] at h4 h5 ⊢
      unfold L_X2_arrange_45
      rw [if_pos (by decide)]
      exact ⟨_, rfl, fun b hb => h4 b hb, fun t ht => h5 t (Nat.zero_le t) ht⟩)
    N 0 (fb1, fm, nI T + (-1)) (Nat.zero_le T) (by omega) ⟨rfl, fun b hb => by rw [Nat.sub_zero, ← cL_b]; exact h2 b hb, fun t ht ht2 => by omega⟩
  have e : nI T - 1 = nI T + (-1) := Int32.sub_eq_add_neg (nI T) 1
  rw [e, pu_bind h7]
  exact ⟨fb2, fm2, rfl, h8.1, h8.2⟩
