/-! ===== the law's own look whether the keys can be displaced ===== -/
/-- the free numbers that the ranks below i of bucket b would take with the displacement d -/
def mkN (κ : Nat → Nat) (n B s b d T : Nat) : Nat → Nat
  | 0 => 0
  | x + 1 => mkN κ n B s b d T x ||| (if grN κ B s x = b then (if T.testBit (atN n s d (κ x)) = true then 0 else 2 ^ atN n s d (κ x)) else 0)
theorem mkN_s {κ n B s b d T x} : mkN κ n B s b d T (x + 1) = mkN κ n B s b d T x ||| (if grN κ B s x = b then (if T.testBit (atN n s d (κ x)) = true then 0 else 2 ^ atN n s d (κ x)) else 0) := rfl
theorem mkN_bit {κ n B s b d T i y} : (mkN κ n B s b d T i).testBit y = true ↔ ∃ x, x < i ∧ grN κ B s x = b ∧ atN n s d (κ x) = y ∧ T.testBit y = false := by
  induction i with
  | zero =>
    constructor
    · intro h
      have : Nat.testBit 0 y = true := h
      rw [Nat.zero_testBit] at this
      cases this
    · rintro ⟨x, hx, _⟩
      exact absurd hx (Nat.not_lt_zero x)
  | succ i ih =>
    rw [mkN_s, Nat.testBit_or, Bool.or_eq_true, ih]
    constructor
    · rintro (⟨x, h1, h2⟩ | h)
      · exact ⟨x, by omega, h2⟩
      · by_cases e : grN κ B s i = b
        · rw [if_pos e] at h
          by_cases e2 : T.testBit (atN n s d (κ i)) = true
          · rw [if_pos e2, Nat.zero_testBit] at h
            cases h
          · rw [if_neg e2, Nat.testBit_two_pow] at h
            have e3 := of_decide_eq_true h
            exact ⟨i, by omega, e, e3, by rw [← e3]; exact Bool.eq_false_iff.mpr e2⟩
        · rw [if_neg e, Nat.zero_testBit] at h
          cases h
    · rintro ⟨x, h1, h2, h3, h4⟩
      by_cases e : x = i
      · subst e
        right
        rw [if_pos h2, h3, if_neg (by rw [h4]; decide), Nat.testBit_two_pow_self]
      · exact Or.inl ⟨x, by omega, h2, h3, h4⟩
theorem mkN_lt {κ n B s b d T i} (h1 : 1 ≤ n) (hn : n ≤ 20) : mkN κ n B s b d T i < 2 ^ 32 := by
  induction i with
  | zero => exact Nat.two_pow_pos 32
  | succ i ih =>
    rw [mkN_s]
    refine Nat.or_lt_two_pow ih ?_
    split
    · split
      · exact Nat.two_pow_pos 32
      · exact Nat.pow_lt_pow_right (by decide) (Nat.lt_of_lt_of_le (atN_lt h1) (by omega))
    · exact Nat.two_pow_pos 32
/-- the ranks below i of bucket b all get free numbers, each another one -/
def FitX (κ : Nat → Nat) (n B s b d T i : Nat) : Prop := ∀ x, x < i → grN κ B s x = b → T.testBit (atN n s d (κ x)) = false ∧ ∀ x', x' < x → grN κ B s x' = b → atN n s d (κ x') ≠ atN n s d (κ x)
theorem FitX_s {κ n B s b d T i} : FitX κ n B s b d T (i + 1) ↔ FitX κ n B s b d T i ∧ (grN κ B s i = b → T.testBit (atN n s d (κ i)) = false ∧ ∀ x', x' < i → grN κ B s x' = b → atN n s d (κ x') ≠ atN n s d (κ i)) := by
  constructor
  · intro h
    exact ⟨fun x hx => h x (by omega), h i (by omega)⟩
  · rintro ⟨h1, h2⟩ x hx
    by_cases e : x = i
    · subst e; exact h2
    · exact h1 x (by omega)
theorem mkN_cnt {κ : Nat → Nat} {n B s b d T : Nat} (h1 : 1 ≤ n) (hn : n ≤ 20) : ∀ i, cc (Nat.testBit (mkN κ n B s b d T i)) 32 ≤ cE (grN κ B s) b i ∧ (cc (Nat.testBit (mkN κ n B s b d T i)) 32 = cE (grN κ B s) b i ↔ FitX κ n B s b d T i) := by
  intro i
  induction i with
  | zero =>
    have h0 : cc (Nat.testBit (mkN κ n B s b d T 0)) 32 = 0 := cc_zero (fun i _ h => by
      have : Nat.testBit 0 i = true := h
      rw [Nat.zero_testBit] at this
      cases this)
    exact ⟨by rw [h0]; exact Nat.zero_le _, fun _ x hx => absurd hx (Nat.not_lt_zero x), fun _ => h0⟩
  | succ i ih =>
    obtain ⟨ih1, ih2⟩ := ih
    rw [cE_s, FitX_s]
    by_cases e : grN κ B s i = b
    · rw [if_pos e]
      have ha : atN n s d (κ i) < 32 := Nat.lt_of_lt_of_le (atN_lt h1) (by omega)
      by_cases e2 : T.testBit (atN n s d (κ i)) = true
      · have hm : mkN κ n B s b d T (i + 1) = mkN κ n B s b d T i := by rw [mkN_s, if_pos e, if_pos e2, Nat.or_zero]
        rw [hm]
        refine ⟨by omega, fun h => absurd h (by omega), fun h => ?_⟩
        have := (h.2 e).1
        rw [e2] at this
        cases this
      · have hq : ∀ t, t ≠ atN n s d (κ i) → Nat.testBit (mkN κ n B s b d T (i + 1)) t = Nat.testBit (mkN κ n B s b d T i) t := fun t ht => by
          rw [mkN_s, if_pos e, if_neg e2, Nat.testBit_or, Nat.testBit_two_pow, decide_eq_false (fun h => ht h.symm), Bool.or_false]
        have hqa : Nat.testBit (mkN κ n B s b d T (i + 1)) (atN n s d (κ i)) = true := by
          rw [mkN_s, if_pos e, if_neg e2, Nat.testBit_or, Nat.testBit_two_pow_self, Bool.or_true]
        rw [cc_set ha hq hqa]
        have e3 : T.testBit (atN n s d (κ i)) = false := Bool.eq_false_iff.mpr e2
        by_cases e4 : Nat.testBit (mkN κ n B s b d T i) (atN n s d (κ i)) = true
        · rw [if_pos e4]
          refine ⟨by omega, fun h => absurd h (by omega), fun h => ?_⟩
          obtain ⟨x', hx, hx2, hx3, _⟩ := mkN_bit.mp e4
          exact absurd hx3 ((h.2 e).2 x' hx hx2)
        · rw [if_neg e4]
          refine ⟨by omega, fun h => ⟨ih2.mp (by omega), fun _ => ⟨e3, fun x' hx hx2 h9 => e4 (mkN_bit.mpr ⟨x', hx, hx2, h9, e3⟩)⟩⟩, fun h => ?_⟩
          have := ih2.mpr h.1
          omega
    · rw [if_neg e]
      have hm : mkN κ n B s b d T (i + 1) = mkN κ n B s b d T i := by rw [mkN_s, if_neg e, Nat.or_zero]
      rw [hm]
      exact ⟨ih1, fun h => ⟨ih2.mp h, fun h9 => absurd h9 e⟩, fun h => ih2.mpr h.1⟩
/-- the taken numbers, as bits and as the program has them -/
def TO (n : Nat) (ρ : Nat → Int32) (T : Nat) : Prop := ∀ y, y < n → (T.testBit y = true ↔ ρ y ≠ -1)
theorem FitX_D {κ n B s b d T} {ρ : Nat → Int32} (h1 : 1 ≤ n) (hT : TO n ρ T) : FitX κ n B s b d T n ↔ FitD ρ (cN κ n B s b) (aN κ n B s b d) := by
  have hc : ∀ y, y < n → (T.testBit y = false ↔ ρ y = -1) := fun y hy => by
    have h9 := hT y hy
    constructor
    · intro h
      by_cases e : ρ y = -1
      · exact e
      · rw [h9.mpr e] at h; cases h
    · intro h
      cases e : T.testBit y with
      | false => rfl
      | true => exact absurd h (h9.mp e)
  constructor
  · intro h
    have hne : ∀ i j, i < cN κ n B s b → j < cN κ n B s b → i ≠ j → aN κ n B s b d i ≠ aN κ n B s b d j := fun i j hi hj hij => by
      have hi2 := mN_ok hi
      have hj2 := mN_ok hj
      rcases Nat.lt_trichotomy (mN κ n B s b i) (mN κ n B s b j) with q | q | q
      · exact (h _ hj2.1 hj2.2.1).2 _ q hi2.2.1
      · exact absurd (mN_inj hi hj q) hij
      · exact fun e => (h _ hi2.1 hi2.2.1).2 _ q hj2.2.1 e.symm
    refine ⟨fun j hj => ?_, fun i j hij hj => hne i j (by omega) hj (by omega)⟩
    have hj2 := mN_ok hj
    exact (hc _ (atN_lt h1)).mp (h _ hj2.1 hj2.2.1).1
  · rintro ⟨ha, hb⟩ x hx hgx
    have hm := mN_of (κ := κ) (B := B) (s := s) hx
    rw [hgx] at hm
    have e1 : aN κ n B s b d (cE (grN κ B s) b x) = atN n s d (κ x) := by unfold aN; rw [hm.2]
    refine ⟨?_, fun x' hx' hgx' e => ?_⟩
    · have h9 := ha _ hm.1
      rw [e1] at h9
      exact (hc _ (atN_lt h1)).mpr h9
    · have hm' := mN_of (κ := κ) (B := B) (s := s) (show x' < n by omega)
      rw [hgx'] at hm'
      have e2 : aN κ n B s b d (cE (grN κ B s) b x') = atN n s d (κ x') := by unfold aN; rw [hm'.2]
      have hlt := cE_lt (gr := grN κ B s) hx'
      rw [hgx'] at hlt
      have h9 := hb _ _ hlt hm.1
      rw [e1, e2] at h9
      exact h9 e
theorem TO_laid {κ n B s b d T} {ρ ρ' : Nat → Int32} (h1 : 1 ≤ n) (hn : n ≤ 20) (hT : TO n ρ T) (hF : FitX κ n B s b d T n) (hL : LaidD ρ ρ' (cN κ n B s b) (aN κ n B s b d) (vN κ n B s b)) : TO n ρ' (T ||| mkN κ n B s b d T n) := by
  intro y hy
  rw [Nat.testBit_or, Bool.or_eq_true, mkN_bit, hT y hy]
  by_cases e : ∃ j, j < cN κ n B s b ∧ aN κ n B s b d j = y
  · obtain ⟨j, hj, rfl⟩ := e
    have h5 := mN_ok hj
    have h6 := hL.1 j hj
    have h7 : ρ' (aN κ n B s b d j) ≠ -1 := by
      rw [h6]
      exact nI_m1 (by omega)
    exact ⟨fun _ => h7, fun _ => Or.inr ⟨_, h5.1, h5.2.1, rfl, (hF _ h5.1 h5.2.1).1⟩⟩
  · have e2 : ∀ j, j < cN κ n B s b → aN κ n B s b d j ≠ y := fun j hj e3 => e ⟨j, hj, e3⟩
    rw [hL.2 y e2]
    refine ⟨fun h => h.resolve_right ?_, Or.inl⟩
    rintro ⟨x, hx, hgx, hax, _⟩
    have hm := mN_of (κ := κ) (B := B) (s := s) hx
    rw [hgx] at hm
    exact e2 _ hm.1 (by unfold aN; rw [hm.2]; exact hax)
/-! the loops -/
theorem pl_bk {N n B s : Nat} {κ : Nat → Nat} {f : Nat → Int32} (hFu : 1000 ≤ N) (hk : KeyOk κ n) (hf : HoldK f κ n) (hn : n ≤ 20) (h0 : 0 < B) (hB : B ≤ 120) (hs : s < 200) (g : Nat → Int32) :
    ∃ g', kk_iter (fun (σ : ((Nat → Int32) × Int32)) => L_L_displaced_19 N 32 32 f (nI n) (nI B) (nI s) σ.1 σ.2) N (g, 0) = some g' ∧ ∀ x, x < n → g' x = nI (grN κ B s x) := by
  refine pu_up (f := fun (σ : ((Nat → Int32) × Int32)) => L_L_displaced_19 N 32 32 f (nI n) (nI B) (nI s) σ.1 σ.2) (fun i σ => σ.2 = nI i ∧ ∀ x, x < i → σ.1 x = nI (grN κ B s x)) _ n
    (fun i σ hi hσ => by
      obtain ⟨g, c⟩ := σ
      obtain ⟨h3, h4⟩ := hσ
      dsimp only at h3 h4 ⊢
      subst h3
      have hki := hk.2.2 i hi
      have h5 := hN_lt 0 (κ i) s
      unfold L_L_displaced_19
      rw [if_neg (nI_ge hi (by omega)), pu_bind (pu_rd (by omega) (by decide)), hf i hi, pu_bind (pl_h0 hki hs), pu_nzL h0 (by omega), pl_mod (by omega) h0 (by omega), lN_i, pu_bind (pu_wr (by omega) (by decide)), nI_1]
      refine Or.inl ⟨_, rfl, rfl, fun x hx => ?_⟩
      dsimp only
      by_cases e : x = i
      · rw [e, pu_us]; rfl
      · rw [pu_un e]; exact h4 x (by omega))
    (fun σ hσ => by
      obtain ⟨g, c⟩ := σ
      obtain ⟨h3, h4⟩ := hσ
      dsimp only at h3 h4 ⊢
      subst h3
      unfold L_L_displaced_19
      rw [if_pos (nI_le (Nat.le_refl _) (by omega))]
      exact ⟨_, rfl, h4⟩)
    N 0 (g, 0) (Nat.zero_le _) (by omega) ⟨nI_0.symm, fun x hx => absurd hx (Nat.not_lt_zero x)⟩
theorem pl_in {N n B s b : Nat} {κ : Nat → Nat} {g : Nat → Int32} (hFu : 1000 ≤ N) (hn : n ≤ 20) (h0 : 0 < B) (hB : B ≤ 120) (hb : b < B) (hg : ∀ x, x < n → g x = nI (grN κ B s x)) :
    kk_iter (fun (σ : (Int32 × Int32)) => L_L_displaced_84 N 32 g (nI n) (nI b) σ.1 σ.2) N (0, 0) = some (nI (cN κ n B s b)) := by
  obtain ⟨r, h1, rfl⟩ := pu_up (f := fun (σ : (Int32 × Int32)) => L_L_displaced_84 N 32 g (nI n) (nI b) σ.1 σ.2) (fun i σ => σ.1 = nI (cE (grN κ B s) b i) ∧ σ.2 = nI i) (fun r => r = nI (cN κ n B s b)) n
    (fun i σ hi hσ => by
      obtain ⟨a, c⟩ := σ
      obtain ⟨h3, h4⟩ := hσ
      dsimp only at h3 h4 ⊢
      subst h3 h4
      have hgi : grN κ B s i < B := bkN_lt h0
      unfold L_L_displaced_84 J_L_displaced_106
      rw [if_neg (nI_ge hi (by omega)), pu_bind (pu_rd (by omega) (by decide)), hg i hi, cE_s, nI_1]
      by_cases e : grN κ B s i = b
      · rw [if_pos (congrArg nI e), if_pos e, nI_1]
        exact Or.inl ⟨_, rfl, rfl, rfl⟩
      · rw [if_neg (fun e2 => e ((nI_eq (by omega) (by omega)).mp e2)), if_neg e, Int32.add_zero, nI_1]
        exact Or.inl ⟨_, rfl, rfl, rfl⟩)
    (fun σ hσ => by
      obtain ⟨a, c⟩ := σ
      obtain ⟨h3, h4⟩ := hσ
      dsimp only at h3 h4 ⊢
      subst h3 h4
      unfold L_L_displaced_84
      rw [if_pos (nI_le (Nat.le_refl _) (by omega))]
      exact ⟨_, rfl, rfl⟩)
    N 0 (0, 0) (Nat.zero_le _) (by omega) ⟨nI_0.symm, nI_0.symm⟩
  exact h1
theorem pl_214 {N n m T d h st i : Nat} (h1 : 1 ≤ n) (hn : n ≤ 20) (hh : h < 1000003) (hd : d < 512) (hst : st ≤ 120) :
    J_L_displaced_214 N (nI n) (lN T) (lN m) (nI i) 1 (lN h) (Int32.toInt64 (nI d)) (lN st) = some (.inl (lN (m ||| (if T.testBit ((h + d * st) % n) = true then 0 else 2 ^ ((h + d * st) % n))), nI (i + 1))) := by
  have h2 : d * st ≤ 512 * 120 := Nat.mul_le_mul (Nat.le_of_lt hd) hst
  have h3 : (h + d * st) % n < n := Nat.mod_lt _ h1
  unfold J_L_displaced_214 J_L_displaced_225
  rw [pu_nzL h1 (by omega), nI_l (n := d) (by omega), lN_mul, lN_add, pl_mod (by omega) h1 (by omega), lN_i, nI_l (by omega), pb_bit (by omega), pb_free, pb_or, nI_1]
theorem pl_mask {N n B s b d T : Nat} {κ : Nat → Nat} {f g : Nat → Int32} (hFu : 1000 ≤ N) (hk : KeyOk κ n) (hf : HoldK f κ n) (h1 : 1 ≤ n) (hn : n ≤ 20) (h0 : 0 < B) (hB : B ≤ 120) (hb : b < B) (hs : s < 200) (hd : d < 512) (hg : ∀ x, x < n → g x = nI (grN κ B s x)) :
    kk_iter (fun (σ : (Int64 × Int32)) => L_L_displaced_155 N 32 32 f g (nI n) (nI s) (lN T) (nI b) (nI d) σ.1 σ.2) N (0, 0) = some (lN (mkN κ n B s b d T n)) := by
  obtain ⟨r, h2, rfl⟩ := pu_up (f := fun (σ : (Int64 × Int32)) => L_L_displaced_155 N 32 32 f g (nI n) (nI s) (lN T) (nI b) (nI d) σ.1 σ.2) (fun i σ => σ.1 = lN (mkN κ n B s b d T i) ∧ σ.2 = nI i) (fun r => r = lN (mkN κ n B s b d T n)) n
    (fun i σ hi hσ => by
      obtain ⟨a, c⟩ := σ
      obtain ⟨h3, h4⟩ := hσ
      dsimp only at h3 h4 ⊢
      subst h3 h4
      have hki := hk.2.2 i hi
      have hgi : grN κ B s i < B := bkN_lt h0
      have h5 := hN_lt 1 (κ i) s
      have h6 := hN_lt 2 (κ i) s
      unfold L_L_displaced_155
      rw [if_neg (nI_ge hi (by omega)), pu_bind (pu_rd (by omega) (by decide)), hg i hi, mkN_s]
      by_cases e : grN κ B s i = b
      · rw [if_pos (congrArg nI e), if_pos e, pu_bind (pu_rd (by omega) (by decide)), hf i hi, pu_bind (pl_h1 hki hs)]
        by_cases e2 : n = 1
        · rw [if_pos (show nI n = 1 by rw [e2]; rfl)]
          have h7 := pl_214 (N := N) (n := n) (m := mkN κ n B s b d T i) (T := T) (d := d) (h := hN 1 (κ i) s) (st := 1) (i := i) h1 hn h5 hd (by decide)
          have h8 : (hN 1 (κ i) s + d * 1) % n = atN n s d (κ i) := by unfold atN stN; rw [if_pos (by omega)]
          rw [h8] at h7
          exact Or.inl ⟨_, h7, rfl, rfl⟩
        · rw [if_neg (show ¬ nI n = 1 from fun e3 => e2 ((nI_eq (b := 1) (by omega) (by decide)).mp e3)), pu_bind (pu_rd (by omega) (by decide)), hf i hi, pu_bind (pl_h2 hki hs)]
          have e4 : nI n - 1 = nI (n - 1) := pk_sub (b := 1) h1
          have h9 : hN 2 (κ i) s % (n - 1) < n - 1 := Nat.mod_lt _ (by omega)
          rw [e4, pu_nzL (by omega) (by omega), pl_mod (by omega) (by omega) (by omega), show (1 : Int64) + lN (hN 2 (κ i) s % (n - 1)) = lN (1 + hN 2 (κ i) s % (n - 1)) from lN_add 1 _]
          have h7 := pl_214 (N := N) (n := n) (m := mkN κ n B s b d T i) (T := T) (d := d) (h := hN 1 (κ i) s) (st := 1 + hN 2 (κ i) s % (n - 1)) (i := i) h1 hn h5 hd (by omega)
          have h8 : (hN 1 (κ i) s + d * (1 + hN 2 (κ i) s % (n - 1))) % n = atN n s d (κ i) := by unfold atN stN; rw [if_neg (by omega)]
          rw [h8] at h7
          exact Or.inl ⟨_, h7, rfl, rfl⟩
      · rw [if_neg (fun e2 => e ((nI_eq (by omega) (by omega)).mp e2)), if_neg e]
        unfold J_L_displaced_225
        rw [pb_none, nI_1, Nat.or_zero]
        exact Or.inl ⟨_, rfl, rfl, rfl⟩)
    (fun σ hσ => by
      obtain ⟨a, c⟩ := σ
      obtain ⟨h3, h4⟩ := hσ
      dsimp only at h3 h4 ⊢
      subst h3 h4
      unfold L_L_displaced_155
      rw [if_pos (nI_le (Nat.le_refl _) (by omega))]
      exact ⟨_, rfl, rfl⟩)
    N 0 (0, 0) (Nat.zero_le _) (by omega) ⟨rfl, nI_0.symm⟩
  exact h2
theorem pl_shift {N n B s b T : Nat} {κ : Nat → Nat} {f g : Nat → Int32} (hFu : 1000 ≤ N) (hk : KeyOk κ n) (hf : HoldK f κ n) (h1 : 1 ≤ n) (hn : n ≤ 20) (h0 : 0 < B) (hB : B ≤ 120) (hb : b < B) (hs : s < 200) (hg : ∀ x, x < n → g x = nI (grN κ B s x)) (hc : 1 ≤ cN κ n B s b) :
    ∃ z, kk_iter (fun (σ : (Int64 × Int32)) => L_L_displaced_131 N 32 32 f g (nI n) (nI s) (lN T) (nI (cN κ n B s b)) (nI b) σ.1 σ.2) N (0, 0) = some z ∧
      ((∃ d, d < 512 ∧ FitX κ n B s b d T n ∧ (∀ d', d' < d → ¬ FitX κ n B s b d' T n) ∧ J_L_displaced_253 N (lN T) (nI (cN κ n B s b)) (nI b) z = some (.inl (lN (T ||| mkN κ n B s b d T n), 1, nI (b + 1)))) ∨
        ((∀ d, d < 512 → ¬ FitX κ n B s b d T n) ∧ ∃ j, J_L_displaced_253 N (lN T) (nI (cN κ n B s b)) (nI b) z = some (.inl (j, 0, nI (b + 1))))) := by
  have hcn : cN κ n B s b ≤ n := cN_le
  have hone : ∀ d, F_L_ones N (lN (mkN κ n B s b d T n)) = some (nI (cc (Nat.testBit (mkN κ n B s b d T n)) 32)) := fun d => pl_ones hFu (mkN_lt h1 hn)
  have hcc : ∀ d, nI (cc (Nat.testBit (mkN κ n B s b d T n)) 32) = nI (cN κ n B s b) ↔ FitX κ n B s b d T n := fun d => by
    have h3 := cc_le (Nat.testBit (mkN κ n B s b d T n)) 32
    rw [nI_eq (by omega) (by omega)]
    exact (mkN_cnt h1 hn n).2
  obtain ⟨z, h2, k, hk5, rfl, hk6, hk7⟩ := pu_up (f := fun (σ : (Int64 × Int32)) => L_L_displaced_131 N 32 32 f g (nI n) (nI s) (lN T) (nI (cN κ n B s b)) (nI b) σ.1 σ.2)
    (fun i σ => σ.2 = nI i ∧ (i = 0 → σ.1 = 0) ∧ ∀ k, i = k + 1 → σ.1 = lN (mkN κ n B s b k T n) ∧ ∀ d', d' < k → ¬ FitX κ n B s b d' T n)
    (fun r => ∃ k, k < 512 ∧ r = lN (mkN κ n B s b k T n) ∧ (∀ d', d' < k → ¬ FitX κ n B s b d' T n) ∧ (FitX κ n B s b k T n ∨ k = 511)) 512
    (fun i σ hi hσ => by
      obtain ⟨a, c⟩ := σ
      obtain ⟨h3, h4, h5⟩ := hσ
      dsimp only at h3 h4 h5 ⊢
      subst h3
      unfold L_L_displaced_131 J_L_displaced_247
      rw [if_neg (show ¬ (512 : Int32) ≤ nI i from nI_ge (b := 512) hi (by decide))]
      have hmk := pl_mask (T := T) hFu hk hf h1 hn h0 hB hb hs hi hg
      rcases Nat.eq_zero_or_pos i with q | q
      · have h6 : F_L_ones N (0 : Int64) = some (nI 0) := by
          have h7 := pl_ones (N := N) (m := 0) hFu (by decide)
          rw [cc_zero (p := Nat.testBit 0) (fun t _ h => by rw [Nat.zero_testBit] at h; cases h)] at h7
          exact h7
        rw [h4 q, pu_bind h6, if_neg (fun e => by
          have := (nI_eq (by omega) (by omega)).mp e
          omega), pu_bind hmk, nI_1]
        refine Or.inl ⟨_, rfl, rfl, fun h => absurd h (by omega), fun k hk9 => ?_⟩
        have : k = i := by omega
        subst this
        exact ⟨rfl, fun d' hd' => absurd hd' (by omega)⟩
      · obtain ⟨k, rfl⟩ : ∃ k, i = k + 1 := ⟨i - 1, by omega⟩
        obtain ⟨h6, h7⟩ := h5 k rfl
        rw [h6, pu_bind (hone k)]
        by_cases e : FitX κ n B s b k T n
        · rw [if_pos ((hcc k).mpr e)]
          exact Or.inr ⟨_, rfl, k, by omega, rfl, h7, Or.inl e⟩
        · rw [if_neg (fun e2 => e ((hcc k).mp e2)), pu_bind hmk, nI_1]
          refine Or.inl ⟨_, rfl, rfl, fun h => absurd h (by omega), fun k' hk9 => ?_⟩
          have : k' = k + 1 := by omega
          subst this
          refine ⟨rfl, fun d' hd' => ?_⟩
          by_cases e3 : d' = k
          · rw [e3]; exact e
          · exact h7 d' (by omega))
    (fun σ hσ => by
      obtain ⟨a, c⟩ := σ
      obtain ⟨h3, h4, h5⟩ := hσ
      dsimp only at h3 h4 h5 ⊢
      subst h3
      obtain ⟨h6, h7⟩ := h5 511 rfl
      unfold L_L_displaced_131
      rw [if_pos (show (512 : Int32) ≤ nI 512 from nI_le (Nat.le_refl 512) (by decide))]
      exact ⟨_, rfl, 511, by decide, h6, h7, Or.inr rfl⟩)
    N 0 (0, 0) (Nat.zero_le _) (by omega) ⟨nI_0.symm, fun _ => rfl, fun k hk9 => absurd hk9 (by omega)⟩
  refine ⟨_, h2, ?_⟩
  unfold J_L_displaced_253 J_L_displaced_268 J_L_displaced_277
  rw [pu_bind (hone k), nI_1, pb_or]
  by_cases e : FitX κ n B s b k T n
  · rw [if_pos ((hcc k).mpr e)]
    exact Or.inl ⟨k, hk5, e, hk6, rfl⟩
  · rw [if_neg (fun e2 => e ((hcc k).mp e2))]
    refine Or.inr ⟨fun d hd => ?_, _, rfl⟩
    have h8 : k = 511 := hk7.resolve_left e
    by_cases e3 : d = k
    · rw [e3]; exact e
    · exact hk6 d (by omega)
