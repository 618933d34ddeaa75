/-! ===== a bucket laid: the program's way and the other's ===== -/
def FitD (ρ : Nat → Int32) (c : Nat) (a : Nat → Nat) : Prop := (∀ j, j < c → ρ (a j) = -1) ∧ ∀ i j, i < j → j < c → a i ≠ a j
def LaidD (ρ ρ' : Nat → Int32) (c : Nat) (a : Nat → Nat) (v : Nat → Int32) : Prop := (∀ j, j < c → ρ' (a j) = v j) ∧ ∀ x, (∀ j, j < c → a j ≠ x) → ρ' x = ρ x
theorem FitD_0 {ρ : Nat → Int32} {a : Nat → Nat} : FitD ρ 0 a := ⟨fun j h => absurd h (Nat.not_lt_zero j), fun i j _ h => absurd h (Nat.not_lt_zero j)⟩
theorem FitD_s {ρ : Nat → Int32} {a : Nat → Nat} {k : Nat} : FitD ρ (k + 1) a ↔ FitD ρ k a ∧ ρ (a k) = -1 ∧ ∀ q, q < k → a q ≠ a k := by
  constructor
  · rintro ⟨h1, h2⟩
    exact ⟨⟨fun j h => h1 j (by omega), fun i j h h3 => h2 i j h (by omega)⟩, h1 k (by omega), fun q h => h2 q k h (by omega)⟩
  · rintro ⟨⟨h1, h2⟩, h3, h4⟩
    refine ⟨fun j h => ?_, fun i j h h5 => ?_⟩
    · by_cases e : j = k
      · rw [e]; exact h3
      · exact h1 j (by omega)
    · by_cases e : j = k
      · rw [e]; exact h4 i (by omega)
      · exact h2 i j h (by omega)
theorem FitD_le {ρ : Nat → Int32} {a : Nat → Nat} {k c : Nat} (h : k ≤ c) (hf : FitD ρ c a) : FitD ρ k a := ⟨fun j hj => hf.1 j (by omega), fun i j h1 h2 => hf.2 i j h1 (by omega)⟩
theorem LaidD_0 {ρ : Nat → Int32} {a : Nat → Nat} {v : Nat → Int32} : LaidD ρ ρ 0 a v := ⟨fun j h => absurd h (Nat.not_lt_zero j), fun _ _ => rfl⟩
theorem LaidD_s {ρ ρ' : Nat → Int32} {a : Nat → Nat} {v : Nat → Int32} {k : Nat} (h : LaidD ρ ρ' k a v) (hv : ∀ i, i < k → a i = a k → v i = v k) : LaidD ρ (upd ρ' (a k) (v k)) (k + 1) a v := by
  refine ⟨fun j hj => ?_, fun x hx => ?_⟩
  · by_cases e : a j = a k
    · rw [e, pu_us]
      by_cases e2 : j = k
      · rw [e2]
      · exact (hv j (by omega) e).symm
    · rw [pu_un e]
      exact h.1 j (by
        have : j ≠ k := fun e2 => e (e2 ▸ rfl)
        omega)
  · rw [pu_un (fun e => hx k (by omega) e.symm)]
    exact h.2 x (fun j hj => hx j (by omega))
theorem nI_m1 {k : Nat} (h : k < 2 ^ 31) : nI k ≠ -1 := fun e => nI_pos h (by rw [e]; decide)
def aN (κ : Nat → Nat) (n B s b d : Nat) : Nat → Nat := fun j => atN n s d (κ (mN κ n B s b j))
def vN (κ : Nat → Nat) (n B s b : Nat) : Nat → Int32 := fun j => nI (mN κ n B s b j)
def wN (κ : Nat → Nat) (n B s b : Nat) : Nat → Int32 := fun j => nI (κ (mN κ n B s b j))
theorem pu_with {N κ n B s b d j} {fb fm fs ft : Nat → Int32} (h : HdK κ n B s fb fm fs ft) (h1 : 1 ≤ n) (hn : n ≤ 120) (hd : d < 512) (hj : j < cN κ n B s b) :
    F_X0_numberWith N (nI n) fs ft (nI (mN κ n B s b j)) (nI d) = some (nI (aN κ n B s b d j)) := by
  have h2 := mN_ok hj
  exact pu_numberWith h1 hn hd (by omega) (h.2.2.1 _ h2.1) (h.2.2.2 _ h2.1)
theorem pu_takeBack {N κ n B s b d j} {fb fm fs ft : Nat → Int32} (hFu : 1000 ≤ N) (h : HdK κ n B s fb fm fs ft) (h1 : 1 ≤ n) (hn : n ≤ 120) (hj : j ≤ cN κ n B s b) {fn ρ ρ' : Nat → Int32}
    (hF : FitD ρ j (aN κ n B s b d)) (hL : LaidD ρ ρ' j (aN κ n B s b d) (vN κ n B s b)) (hfn : ∀ i, i < j → fn (mN κ n B s b i) = nI (aN κ n B s b d i)) :
    F_X0_takeBack N fm fn ρ' (nI (cL (grN κ B s) b n)) (nI (cL (grN κ B s) b n + j)) = some ρ := by
  have hb : cL (grN κ B s) b n ≤ n := cL_le
  have hc : cN κ n B s b ≤ n := cN_le
  unfold F_X0_takeBack J_X0_takeBack_40
  obtain ⟨r, h2, h3⟩ := pu_up (f := fun (σ : ((Nat → Int32) × Int32)) => L_X0_takeBack_2 N fm fn (nI (cL (grN κ B s) b n + j)) σ.1 σ.2)
    (fun i σ => σ.2 = nI (cL (grN κ B s) b n + i) ∧ LaidD ρ' σ.1 i (aN κ n B s b d) (fun _ => -1)) (fun r => LaidD ρ' r j (aN κ n B s b d) (fun _ => -1)) j
    (fun i σ hi hσ => by
      obtain ⟨r, c⟩ := σ
      obtain ⟨h3, h4⟩ := hσ
      dsimp only at h3 h4 ⊢
      subst h3
      have h5 := mN_ok (show i < cN κ n B s b by omega)
      have h6 : aN κ n B s b d i < n := atN_lt h1
      unfold L_X0_takeBack_2
      rw [if_neg (nI_ge (by omega) (by omega)), pu_bind (pu_memb h hn (by omega)), pu_bind (pu_get (by omega) (by decide)), hfn i hi, pu_bind (pu_set (by omega) (by decide)), nI_1]
      exact Or.inl ⟨_, rfl, rfl, LaidD_s h4 (fun _ _ _ => rfl)⟩)
    (fun σ hσ => by
      obtain ⟨r, c⟩ := σ
      obtain ⟨h3, h4⟩ := hσ
      dsimp only at h3 h4 ⊢
      subst h3
      unfold L_X0_takeBack_2
      rw [if_pos (nI_le (Nat.le_refl _) (by omega))]
      exact ⟨_, rfl, h4⟩)
    N 0 (ρ', nI (cL (grN κ B s) b n)) (Nat.zero_le j) (by omega) ⟨rfl, LaidD_0⟩
  rw [pu_bind h2]
  congr 1
  funext x
  by_cases e : ∃ i, i < j ∧ aN κ n B s b d i = x
  · obtain ⟨i, hi, rfl⟩ := e
    rw [h3.1 i hi, hF.1 i hi]
  · have e2 : ∀ i, i < j → aN κ n B s b d i ≠ x := fun i hi e3 => e ⟨i, hi, e3⟩
    rw [h3.2 x e2, hL.2 x e2]
theorem pu_place {N κ n B s b d} {fb fm fs ft : Nat → Int32} (hFu : 1000 ≤ N) (h : HdK κ n B s fb fm fs ft) (h1 : 1 ≤ n) (hn : n ≤ 120) (hB : B ≤ 120) (hb : b < B) (hd : d < 512) (fn ρ : Nat → Int32) :
    ∃ fl fn' ρ', F_X0_place N (nI n) fb fm fs ft fn ρ (nI b) (nI d) = some (fl, fn', ρ') ∧
      ((FitD ρ (cN κ n B s b) (aN κ n B s b d) ∧ fl = 1 ∧ LaidD ρ ρ' (cN κ n B s b) (aN κ n B s b d) (vN κ n B s b)) ∨ (¬ FitD ρ (cN κ n B s b) (aN κ n B s b d) ∧ fl = 0 ∧ ρ' = ρ)) := by
  have hbe : cL (grN κ B s) b n ≤ n := cL_le
  have hc : cN κ n B s b ≤ n := cN_le
  unfold F_X0_place
  rw [pu_bind (pu_begin h hB hb), pu_bind (pu_end h hB hb)]
  obtain ⟨r, h2, h3⟩ := pu_up (f := fun (σ : ((Nat → Int32) × (Nat → Int32) × Int32)) => L_X0_place_22 N (nI n) fm fs ft (nI d) (nI (cL (grN κ B s) b n + cN κ n B s b)) σ.1 σ.2.1 σ.2.2)
    (fun j σ => σ.2.2 = nI (cL (grN κ B s) b n + j) ∧ FitD ρ j (aN κ n B s b d) ∧ LaidD ρ σ.2.1 j (aN κ n B s b d) (vN κ n B s b) ∧ ∀ i, i < j → σ.1 (mN κ n B s b i) = nI (aN κ n B s b d i))
    (fun r => (∃ fn' ρ', r = .inr (fn', ρ') ∧ FitD ρ (cN κ n B s b) (aN κ n B s b d) ∧ LaidD ρ ρ' (cN κ n B s b) (aN κ n B s b d) (vN κ n B s b)) ∨
      (∃ fn' ρ' j, r = .inl (fn', ρ', nI (cL (grN κ B s) b n + j)) ∧ ¬ FitD ρ (cN κ n B s b) (aN κ n B s b d) ∧ j < cN κ n B s b ∧ FitD ρ j (aN κ n B s b d) ∧ LaidD ρ ρ' j (aN κ n B s b d) (vN κ n B s b) ∧ ∀ i, i < j → fn' (mN κ n B s b i) = nI (aN κ n B s b d i))) (cN κ n B s b)
    (fun j σ hj hσ => by
      obtain ⟨fn, ρ', c⟩ := σ
      obtain ⟨h3, h4, h5, h6⟩ := hσ
      dsimp only at h3 h4 h5 h6 ⊢
      subst h3
      have h7 := mN_ok hj
      have h8 : aN κ n B s b d j < n := atN_lt h1
      unfold L_X0_place_22
      rw [if_neg (nI_ge (by omega) (by omega)), pu_bind (pu_memb h hn hj), pu_bind (pu_with h h1 hn hd hj), pu_bind (pu_get (by omega) (by decide))]
      have hno : ∀ i, i < j → aN κ n B s b d i = aN κ n B s b d j → ρ' (aN κ n B s b d j) ≠ -1 := fun i hi e => by
        rw [← e, h5.1 i hi]
        have := mN_ok (show i < cN κ n B s b by omega)
        exact nI_m1 (by omega)
      by_cases e : ρ' (aN κ n B s b d j) = -1
      · have hF : FitD ρ (j + 1) (aN κ n B s b d) := FitD_s.mpr ⟨h4, by rw [← h5.2 _ (fun i hi e2 => hno i hi e2 e)]; exact e, fun q hq e2 => hno q hq e2 e⟩
        rw [if_pos e, pu_bind (pu_set (by omega) (by decide)), pu_bind (pu_set (by omega) (by decide)), nI_1]
        refine Or.inl ⟨_, rfl, rfl, hF, LaidD_s h5 (fun i hi e2 => absurd e2 ((FitD_s.mp hF).2.2 i hi)), fun i hi => ?_⟩
        dsimp only
        by_cases e2 : i = j
        · rw [e2, pu_us]
        · rw [pu_un (fun e3 => e2 (mN_inj (by omega) hj e3))]; exact h6 i (by omega)
      · rw [if_neg e]
        refine Or.inr ⟨_, rfl, Or.inr ⟨_, _, j, rfl, fun hF => e ?_, hj, h4, h5, h6⟩⟩
        have hF2 := FitD_s.mp (FitD_le (show j + 1 ≤ cN κ n B s b from hj) hF)
        rw [h5.2 _ (fun i hi e2 => hF2.2.2 i hi e2)]
        exact hF2.2.1)
    (fun σ hσ => by
      obtain ⟨fn, ρ', c⟩ := σ
      obtain ⟨h3, h4, h5, h6⟩ := hσ
      dsimp only at h3 h4 h5 h6 ⊢
      subst h3
      unfold L_X0_place_22
      rw [if_pos (nI_le (Nat.le_refl _) (by omega))]
      exact ⟨_, rfl, Or.inl ⟨_, _, rfl, h4, h5⟩⟩)
    N 0 (fn, ρ, nI (cL (grN κ B s) b n)) (Nat.zero_le _) (by omega) ⟨rfl, FitD_0, LaidD_0, fun i hi => absurd hi (Nat.not_lt_zero i)⟩
  rw [pu_bind h2]
  rcases h3 with ⟨fn', ρ', rfl, h4, h5⟩ | ⟨fn', ρ', j, rfl, h4, h5, h6, h7, h8⟩
  · unfold J_X0_place_99
    exact ⟨_, _, _, rfl, Or.inl ⟨h4, rfl, h5⟩⟩
  · unfold J_X0_place_62
    dsimp only [Sum.elim_inl]
    rw [pu_bind (pu_takeBack hFu h h1 hn (Nat.le_of_lt h5) h6 h7 h8)]
    exact ⟨_, _, _, rfl, Or.inr ⟨h4, rfl, rfl⟩⟩
/-- the other's trial -/
theorem pu_goes {N κ n B s b d} {g τ : Nat → Int32} (hFu : 1000 ≤ N) (hk : KeyOk κ n) (h1 : 1 ≤ n) (hs : s < 200) (hd : d < 512) (hg : GathK κ n B s b g) :
    ∃ r, F_X8_goes N (nI n) g τ (nI (cN κ n B s b)) (nI s) (nI d) = some r ∧ ((r = 1 ∧ FitD τ (cN κ n B s b) (aN κ n B s b d)) ∨ (r = 0 ∧ ¬ FitD τ (cN κ n B s b) (aN κ n B s b d))) := by
  have hn := hk.1
  have hc : cN κ n B s b ≤ n := cN_le
  unfold F_X8_goes
  have hin : ∀ k fl, k < cN κ n B s b → (fl = 0 ∨ fl = 1) → ∃ r, kk_iter (fun (σ : (Int32 × Int32)) => L_X8_goes_56 N (nI n) g (nI s) (nI d) (nI k) (nI (aN κ n B s b d k)) σ.1 σ.2) N (fl, 0) = some r ∧
      ((r = 1 ∧ fl = 1 ∧ ∀ q, q < k → aN κ n B s b d q ≠ aN κ n B s b d k) ∨ (r = 0 ∧ ¬ (fl = 1 ∧ ∀ q, q < k → aN κ n B s b d q ≠ aN κ n B s b d k))) := by
    intro k fl hk2 hfl
    refine pu_up (f := fun (σ : (Int32 × Int32)) => L_X8_goes_56 N (nI n) g (nI s) (nI d) (nI k) (nI (aN κ n B s b d k)) σ.1 σ.2)
      (fun i σ => σ.2 = nI i ∧ ((σ.1 = 1 ∧ fl = 1 ∧ ∀ q, q < i → aN κ n B s b d q ≠ aN κ n B s b d k) ∨ (σ.1 = 0 ∧ ¬ (fl = 1 ∧ ∀ q, q < k → aN κ n B s b d q ≠ aN κ n B s b d k)))) _ k
      (fun i σ hi hσ => by
        obtain ⟨x, c⟩ := σ
        obtain ⟨h3, h4⟩ := hσ
        dsimp only at h3 h4 ⊢
        subst h3
        unfold L_X8_goes_56 J_X8_goes_94
        rw [if_neg (nI_ge hi (by omega))]
        rcases h4 with ⟨rfl, h5, h6⟩ | ⟨rfl, h5⟩
        · have h7 := mN_ok (show i < cN κ n B s b by omega)
          have hki := hk.2.2 _ h7.1
          rw [if_neg (by decide), pu_bind (pu_rd (by omega) (by decide)), hg i (by omega), pu_bind (pu_mplace h1 hn hki hs hd), nI_1]
          rw [show atN n s d (κ (mN κ n B s b i)) = aN κ n B s b d i from rfl]
          have h8 : aN κ n B s b d i < n := atN_lt h1
          have h9 : aN κ n B s b d k < n := atN_lt h1
          by_cases e : aN κ n B s b d i = aN κ n B s b d k
          · rw [if_pos (congrArg nI e)]
            exact Or.inl ⟨_, rfl, rfl, Or.inr ⟨rfl, fun h10 => h10.2 i hi e⟩⟩
          · rw [if_neg (fun e2 => e ((nI_eq (by omega) (by omega)).mp e2))]
            refine Or.inl ⟨_, rfl, rfl, Or.inl ⟨rfl, h5, fun q hq => ?_⟩⟩
            by_cases e2 : q = i
            · rw [e2]; exact e
            · exact h6 q (by omega)
        · rw [if_pos rfl]
          exact Or.inr ⟨_, rfl, Or.inr ⟨rfl, h5⟩⟩)
      (fun σ hσ => by
        obtain ⟨x, c⟩ := σ
        obtain ⟨h3, h4⟩ := hσ
        dsimp only at h3 h4 ⊢
        subst h3
        unfold L_X8_goes_56
        rw [if_pos (nI_le (Nat.le_refl _) (by omega))]
        exact ⟨_, rfl, h4⟩)
      N 0 (fl, 0) (Nat.zero_le _) (by omega) ⟨nI_0.symm, ?_⟩
    rcases hfl with rfl | rfl
    · exact Or.inr ⟨rfl, fun h => absurd h.1 (by decide)⟩
    · exact Or.inl ⟨rfl, rfl, fun q hq => absurd hq (Nat.not_lt_zero q)⟩
  obtain ⟨r, h2, h3⟩ := pu_up (f := fun (σ : (Int32 × Int32)) => L_X8_goes_6 N (nI n) g τ (nI (cN κ n B s b)) (nI s) (nI d) σ.1 σ.2)
    (fun i σ => σ.2 = nI i ∧ ((σ.1 = 1 ∧ FitD τ i (aN κ n B s b d)) ∨ (σ.1 = 0 ∧ ¬ FitD τ i (aN κ n B s b d))))
    (fun r => (r = 1 ∧ FitD τ (cN κ n B s b) (aN κ n B s b d)) ∨ (r = 0 ∧ ¬ FitD τ (cN κ n B s b) (aN κ n B s b d))) (cN κ n B s b)
    (fun i σ hi hσ => by
      obtain ⟨x, c⟩ := σ
      obtain ⟨h3, h4⟩ := hσ
      dsimp only at h3 h4 ⊢
      subst h3
      unfold L_X8_goes_6 J_X8_goes_51 J_X8_goes_102
      rw [if_neg (nI_ge hi (by omega))]
      rcases h4 with ⟨rfl, h5⟩ | ⟨rfl, h5⟩
      · have h7 := mN_ok hi
        have hki := hk.2.2 _ h7.1
        have h8 : aN κ n B s b d i < n := atN_lt h1
        rw [if_neg (by decide), pu_bind (pu_rd (by omega) (by decide)), hg i hi, pu_bind (pu_mplace h1 hn hki hs hd)]
        rw [show atN n s d (κ (mN κ n B s b i)) = aN κ n B s b d i from rfl, pu_bind (pu_rd (by omega) (by decide)), nI_1]
        by_cases e : τ (aN κ n B s b d i) = -1
        · rw [if_pos e]
          obtain ⟨r, h9, h10⟩ := hin i 1 hi (Or.inr rfl)
          rw [pu_bind h9]
          rcases h10 with ⟨rfl, _, h11⟩ | ⟨rfl, h11⟩
          · exact Or.inl ⟨_, rfl, rfl, Or.inl ⟨rfl, FitD_s.mpr ⟨h5, e, h11⟩⟩⟩
          · exact Or.inl ⟨_, rfl, rfl, Or.inr ⟨rfl, fun hF => h11 ⟨rfl, (FitD_s.mp hF).2.2⟩⟩⟩
        · rw [if_neg e]
          obtain ⟨r, h9, h10⟩ := hin i 0 hi (Or.inl rfl)
          rw [pu_bind h9]
          rcases h10 with ⟨rfl, h11, _⟩ | ⟨rfl, h11⟩
          · exact absurd h11 (by decide)
          · exact Or.inl ⟨_, rfl, rfl, Or.inr ⟨rfl, fun hF => e (FitD_s.mp hF).2.1⟩⟩
      · rw [if_pos rfl]
        exact Or.inr ⟨_, rfl, Or.inr ⟨rfl, fun hF => h5 (FitD_le (Nat.le_of_lt hi) hF)⟩⟩)
    (fun σ hσ => by
      obtain ⟨x, c⟩ := σ
      obtain ⟨h3, h4⟩ := hσ
      dsimp only at h3 h4 ⊢
      subst h3
      unfold L_X8_goes_6
      rw [if_pos (nI_le (Nat.le_refl _) (by omega))]
      exact ⟨_, rfl, h4⟩)
    N 0 (1, 0) (Nat.zero_le _) (by omega) ⟨nI_0.symm, Or.inl ⟨rfl, FitD_0⟩⟩
  rw [pu_bind h2]
  unfold J_X8_goes_108
  refine ⟨r, ?_, h3⟩
  rcases h3 with ⟨rfl, _⟩ | ⟨rfl, _⟩ <;> rfl
