/-! ===== all the buckets laid, both ways side by side ===== -/
theorem pu_up2 {σ ρ τ ω : Type} {f : σ → Option (σ ⊕ ρ)} {g : τ → Option (τ ⊕ ω)} (st : Nat → σ → τ → Prop) (Post : ρ → ω → Prop) (e : Nat)
    (step : ∀ i s t, i < e → st i s t → (∃ s' t', f s = some (.inl s') ∧ g t = some (.inl t') ∧ st (i + 1) s' t') ∨ (∃ r w t', f s = some (.inr r) ∧ g t = some (.inl t') ∧ g t' = some (.inr w) ∧ Post r w) ∨ (∃ r w, f s = some (.inr r) ∧ g t = some (.inr w) ∧ Post r w))
    (exit : ∀ s t, st e s t → ∃ r w, f s = some (.inr r) ∧ g t = some (.inr w) ∧ Post r w) :
    ∀ (n i : Nat) (s : σ) (t : τ), i ≤ e → e + 1 < n + i → st i s t → ∃ r w, kk_iter f n s = some r ∧ kk_iter g n t = some w ∧ Post r w := by
  intro n
  induction n with
  | zero => intro i s t h1 h2; omega
  | succ n ih =>
    intro i s t h1 h2 hs
    rw [kk_iter, kk_iter]
    rcases Nat.lt_or_ge i e with h | h
    · rcases step i s t h hs with ⟨s', t', h3, h4, h5⟩ | ⟨r, w, t', h3, h4, h5, h6⟩ | ⟨r, w, h3, h4, h5⟩
      · obtain ⟨r, w, h6, h7, h8⟩ := ih (i + 1) s' t' h (by omega) h5
        exact ⟨r, w, by rw [h3]; exact h6, by rw [h4]; exact h7, h8⟩
      · obtain ⟨m, rfl⟩ : ∃ m, n = m + 1 := ⟨n - 1, by omega⟩
        exact ⟨r, w, by rw [h3]; rfl, by
          rw [h4]
          show kk_iter g (m + 1) t' = some w
          rw [kk_iter, h5]; rfl, h6⟩
      · exact ⟨r, w, by rw [h3]; rfl, by rw [h4]; rfl, h5⟩
    · have : i = e := by omega
      subst this
      obtain ⟨r, w, h3, h4, h5⟩ := exit s t hs
      exact ⟨r, w, by rw [h3]; rfl, by rw [h4]; rfl, h5⟩
theorem pu_displace {N κ n B s b} {fb fm fs ft : Nat → Int32} (hFu : 1000 ≤ N) (h : HdK κ n B s fb fm fs ft) (h1 : 1 ≤ n) (hn : n ≤ 120) (hB : B ≤ 120) (hb : b < B) (fn dsp ρ : Nat → Int32) :
    ∃ fl fn' dsp' ρ', F_X0_displace N (nI n) fb fm fs ft fn dsp ρ (nI b) = some (fl, fn', dsp', ρ') ∧
      ((∃ d, d < n ∧ FitD ρ (cN κ n B s b) (aN κ n B s b d) ∧ (∀ d', d' < d → ¬ FitD ρ (cN κ n B s b) (aN κ n B s b d')) ∧ fl = 1 ∧ dsp' = upd dsp b (nI d) ∧ LaidD ρ ρ' (cN κ n B s b) (aN κ n B s b d) (vN κ n B s b)) ∨
        ((∀ d, d < n → ¬ FitD ρ (cN κ n B s b) (aN κ n B s b d)) ∧ fl = 0)) := by
  unfold F_X0_displace
  rw [if_pos (show nI n < 512 from nI_lt (b := 512) (by omega) (by decide))]
  obtain ⟨r, h2, h3⟩ := pu_up (f := fun (σ : ((Nat → Int32) × (Nat → Int32) × Int32)) => L_X0_displace_13 N (nI n) fb fm fs ft (nI b) (nI n) σ.1 σ.2.1 σ.2.2)
    (fun d σ => σ.2.2 = nI d ∧ σ.2.1 = ρ ∧ ∀ d', d' < d → ¬ FitD ρ (cN κ n B s b) (aN κ n B s b d'))
    (fun r => (∃ fn' ρ' d, r = .inl (fn', ρ', nI d) ∧ d < n ∧ FitD ρ (cN κ n B s b) (aN κ n B s b d) ∧ (∀ d', d' < d → ¬ FitD ρ (cN κ n B s b) (aN κ n B s b d')) ∧ LaidD ρ ρ' (cN κ n B s b) (aN κ n B s b d) (vN κ n B s b)) ∨
      (∃ z, r = .inr z ∧ ∀ d, d < n → ¬ FitD ρ (cN κ n B s b) (aN κ n B s b d))) n
    (fun d σ hd hσ => by
      obtain ⟨fn, ρ1, c⟩ := σ
      obtain ⟨h3, h4, h5⟩ := hσ
      dsimp only at h3 h4 h5 ⊢
      subst h3 h4
      obtain ⟨fl, fn', ρ', h6, h7⟩ := pu_place (s := s) (d := d) hFu h h1 hn hB hb (by omega) fn ρ1
      unfold L_X0_displace_13
      rw [if_neg (nI_ge hd (by omega)), pu_bind h6]
      rcases h7 with ⟨h8, rfl, h9⟩ | ⟨h8, rfl, rfl⟩
      · rw [if_neg (show ¬ (1 : Int32) = 0 by decide)]
        exact Or.inr ⟨_, rfl, Or.inl ⟨_, _, d, rfl, hd, h8, h5, h9⟩⟩
      · rw [if_pos rfl, nI_1]
        refine Or.inl ⟨_, rfl, rfl, rfl, fun d' hd' => ?_⟩
        by_cases e : d' = d
        · rw [e]; exact h8
        · exact h5 d' (by omega))
    (fun σ hσ => by
      obtain ⟨fn, ρ1, c⟩ := σ
      obtain ⟨h3, h4, h5⟩ := hσ
      dsimp only at h3 h4 h5 ⊢
      subst h3 h4
      unfold L_X0_displace_13
      rw [if_pos (nI_le (Nat.le_refl _) (by omega))]
      exact ⟨_, rfl, Or.inr ⟨_, rfl, h5⟩⟩)
    N 0 (fn, ρ, 0) (Nat.zero_le _) (by omega) ⟨nI_0.symm, rfl, fun d' hd' => absurd hd' (Nat.not_lt_zero d')⟩
  rw [pu_bind h2]
  rcases h3 with ⟨fn', ρ', d, rfl, h4, h5, h6, h7⟩ | ⟨z, rfl, h4⟩
  · unfold J_X0_displace_27
    dsimp only [Sum.elim_inl]
    rw [pu_bind (pu_set (by omega) (by decide))]
    exact ⟨_, _, _, _, rfl, Or.inl ⟨d, h4, h5, h6, rfl, rfl, h7⟩⟩
  · unfold J_X0_displace_44
    exact ⟨_, _, _, _, rfl, Or.inr ⟨h4, rfl⟩⟩
theorem pu_lays {N κ n B s b} {f : Nat → Int32} (hFu : 1000 ≤ N) (hk : KeyOk κ n) (hf : HoldK f κ n) (h1 : 1 ≤ n) (h0 : 0 < B) (hB : B ≤ 120) (hb : b < B) (hs : s < 200) (g0 tS τ : Nat → Int32) :
    ∃ fl g' tS' τ', F_X8_lays N (nI n) f g0 tS τ (nI b) (nI s) (nI B) = some (fl, g', tS', τ') ∧
      ((∃ d, d < 512 ∧ FitD τ (cN κ n B s b) (aN κ n B s b d) ∧ (∀ d', d' < d → ¬ FitD τ (cN κ n B s b) (aN κ n B s b d')) ∧ fl = 1 ∧ tS' = upd tS b (nI d) ∧ LaidD τ τ' (cN κ n B s b) (aN κ n B s b d) (wN κ n B s b)) ∨
        ((∀ d, d < 512 → ¬ FitD τ (cN κ n B s b) (aN κ n B s b d)) ∧ fl = 0)) := by
  have hn := hk.1
  have hc : cN κ n B s b ≤ n := cN_le
  obtain ⟨g, hg, hg2⟩ := pu_gather hFu hk hf h0 hB hs hb g0
  unfold F_X8_lays
  rw [pu_bind hg]
  dsimp only
  obtain ⟨r, h2, h3⟩ := pu_up (f := fun (σ : Int32) => L_X8_lays_12 N (nI n) g τ (nI s) (nI (cN κ n B s b)) σ)
    (fun d σ => σ = nI d ∧ ∀ d', d' < d → ¬ FitD τ (cN κ n B s b) (aN κ n B s b d'))
    (fun r => (∃ d, r = nI d ∧ d < 512 ∧ FitD τ (cN κ n B s b) (aN κ n B s b d) ∧ ∀ d', d' < d → ¬ FitD τ (cN κ n B s b) (aN κ n B s b d')) ∨ (r = nI 512 ∧ ∀ d, d < 512 → ¬ FitD τ (cN κ n B s b) (aN κ n B s b d))) 512
    (fun d σ hd hσ => by
      obtain ⟨h3, h5⟩ := hσ
      subst h3
      obtain ⟨fl, h6, h7⟩ := pu_goes (τ := τ) hFu hk h1 hs hd hg2
      show (∃ s', L_X8_lays_12 N (nI n) g τ (nI s) (nI (cN κ n B s b)) (nI d) = some (.inl s') ∧ _) ∨ (∃ r, L_X8_lays_12 N (nI n) g τ (nI s) (nI (cN κ n B s b)) (nI d) = some (.inr r) ∧ _)
      unfold L_X8_lays_12
      rw [if_neg (show ¬ (512 : Int32) ≤ nI d from nI_ge (b := 512) hd (by decide)), pu_bind h6]
      rcases h7 with ⟨rfl, h8⟩ | ⟨rfl, h8⟩
      · rw [if_neg (by decide)]
        exact Or.inr ⟨_, rfl, Or.inl ⟨d, rfl, hd, h8, h5⟩⟩
      · rw [if_pos rfl, nI_1]
        refine Or.inl ⟨_, rfl, rfl, fun d' hd' => ?_⟩
        by_cases e : d' = d
        · rw [e]; exact h8
        · exact h5 d' (by omega))
    (fun σ hσ => by
      obtain ⟨h3, h5⟩ := hσ
      subst h3
      show ∃ r, L_X8_lays_12 N (nI n) g τ (nI s) (nI (cN κ n B s b)) (nI 512) = some (.inr r) ∧ _
      unfold L_X8_lays_12
      rw [if_pos (show (512 : Int32) ≤ nI 512 from nI_le (Nat.le_refl 512) (by decide))]
      exact ⟨_, rfl, Or.inr ⟨rfl, h5⟩⟩)
    N 0 0 (Nat.zero_le _) (by omega) ⟨nI_0.symm, fun d' hd' => absurd hd' (Nat.not_lt_zero d')⟩
  rw [pu_bind h2]
  unfold J_X8_lays_38 J_X8_lays_101
  rcases h3 with ⟨d, rfl, h4, h5, h6⟩ | ⟨rfl, h4⟩
  · rw [if_neg (show ¬ nI d = 512 from fun e => by
      have := (nI_eq (b := 512) (by omega) (by decide)).mp e
      omega), pu_bind (pu_wr (by omega) (by decide))]
    obtain ⟨τ', h7, h8⟩ := pu_up (f := fun (σ : ((Nat → Int32) × Int32)) => L_X8_lays_59 N (nI n) g (nI s) (nI (cN κ n B s b)) (nI d) σ.1 σ.2)
      (fun i σ => σ.2 = nI i ∧ LaidD τ σ.1 i (aN κ n B s b d) (wN κ n B s b)) (fun r => LaidD τ r (cN κ n B s b) (aN κ n B s b d) (wN κ n B s b)) (cN κ n B s b)
      (fun i σ hi hσ => by
        obtain ⟨τ1, c⟩ := σ
        obtain ⟨h3, h8⟩ := hσ
        dsimp only at h3 h8 ⊢
        subst h3
        have h7 := mN_ok hi
        have hki := hk.2.2 _ h7.1
        have h9 : aN κ n B s b d i < n := atN_lt h1
        unfold L_X8_lays_59
        rw [if_neg (nI_ge hi (by omega)), pu_bind (pu_rd (by omega) (by decide)), hg2 i hi, pu_bind (pu_mplace h1 hn hki hs h4)]
        rw [show atN n s d (κ (mN κ n B s b i)) = aN κ n B s b d i from rfl, pu_bind (pu_rd (by omega) (by decide)), hg2 i hi, pu_bind (pu_wr (by omega) (by decide)), nI_1]
        exact Or.inl ⟨_, rfl, rfl, LaidD_s h8 (fun q hq e => absurd e (h5.2 q i hq hi))⟩)
      (fun σ hσ => by
        obtain ⟨τ1, c⟩ := σ
        obtain ⟨h3, h8⟩ := hσ
        dsimp only at h3 h8 ⊢
        subst h3
        unfold L_X8_lays_59
        rw [if_pos (nI_le (Nat.le_refl _) (by omega))]
        exact ⟨_, rfl, h8⟩)
      N 0 (τ, 0) (Nat.zero_le _) (by omega) ⟨nI_0.symm, LaidD_0⟩
    rw [pu_bind h7]
    exact ⟨_, _, _, _, rfl, Or.inl ⟨d, h4, h5, h6, rfl, rfl, h8⟩⟩
  · rw [if_pos (show nI 512 = 512 from rfl)]
    exact ⟨_, _, _, _, rfl, Or.inr ⟨h4, rfl⟩⟩
def RO (n : Nat) (κ : Nat → Nat) (ρ τ : Nat → Int32) : Prop := ∀ x, x < n → (ρ x = -1 ∧ τ x = -1) ∨ ∃ r, r < n ∧ ρ x = nI r ∧ τ x = nI (κ r)
def DO (B n : Nat) (dsp tS : Nat → Int32) : Prop := ∀ b, b < B → ∃ d, d < n ∧ dsp b = nI d ∧ tS b = nI d
/-- the rank r lies at the number that its bucket's displacement gives it -/
def PlD (κ : Nat → Nat) (n B s : Nat) (dsp ρ : Nat → Int32) (r : Nat) : Prop := ∃ d, d < n ∧ dsp (grN κ B s r) = nI d ∧ ρ (atN n s d (κ r)) = nI r
theorem RO_m1 {n κ ρ τ} (hk : KeyOk κ n) (h : RO n κ ρ τ) {x : Nat} (hx : x < n) : ρ x = -1 ↔ τ x = -1 := by
  rcases h x hx with ⟨h1, h2⟩ | ⟨r, h1, h2, h3⟩
  · exact ⟨fun _ => h2, fun _ => h1⟩
  · rw [h2, h3]
    have hn := hk.1
    have := hk.2.2 r h1
    exact ⟨fun e => absurd e (nI_m1 (by omega)), fun e => absurd e (nI_m1 (by omega))⟩
theorem RO_fit {n κ ρ τ c a} (hk : KeyOk κ n) (h : RO n κ ρ τ) (ha : ∀ j, a j < n) : FitD ρ c a ↔ FitD τ c a := by
  unfold FitD
  constructor
  · rintro ⟨h1, h2⟩
    exact ⟨fun j hj => (RO_m1 hk h (ha j)).mp (h1 j hj), h2⟩
  · rintro ⟨h1, h2⟩
    exact ⟨fun j hj => (RO_m1 hk h (ha j)).mpr (h1 j hj), h2⟩
theorem RO_laid {n κ B s b ρ τ ρ' τ' a} (h : RO n κ ρ τ) (h1 : LaidD ρ ρ' (cN κ n B s b) a (vN κ n B s b)) (h2 : LaidD τ τ' (cN κ n B s b) a (wN κ n B s b)) : RO n κ ρ' τ' := by
  intro x hx
  by_cases e : ∃ j, j < cN κ n B s b ∧ a j = x
  · obtain ⟨j, hj, rfl⟩ := e
    exact Or.inr ⟨mN κ n B s b j, (mN_ok hj).1, h1.1 j hj, h2.1 j hj⟩
  · have e2 : ∀ j, j < cN κ n B s b → a j ≠ x := fun j hj e3 => e ⟨j, hj, e3⟩
    rw [h1.2 x e2, h2.2 x e2]
    exact h x hx
theorem DO_upd {B n b d dsp tS} (h : DO B n dsp tS) (hd : d < n) : DO B n (upd dsp b (nI d)) (upd tS b (nI d)) := by
  intro x hx
  by_cases e : x = b
  · rw [e, pu_us, pu_us]; exact ⟨d, hd, rfl, rfl⟩
  · rw [pu_un e, pu_un e]; exact h x hx
theorem pu_lay2 {N κ n B s b} {f fb fm fs ft : Nat → Int32} (hFu : 1000 ≤ N) (hk : KeyOk κ n) (hf : HoldK f κ n) (h : HdK κ n B s fb fm fs ft) (h1 : 1 ≤ n) (h0 : 0 < B) (hB : B ≤ 120) (hb : b < B) (hs : s < 200) (fn g0 : Nat → Int32) {dsp ρ tS τ : Nat → Int32}
    (hR : RO n κ ρ τ) (hD : DO B n dsp tS) :
    ∃ fl fn' dsp' ρ' g' tS' τ', F_X0_displace N (nI n) fb fm fs ft fn dsp ρ (nI b) = some (fl, fn', dsp', ρ') ∧ F_X8_lays N (nI n) f g0 tS τ (nI b) (nI s) (nI B) = some (fl, g', tS', τ') ∧
      (fl = 0 ∨ (fl = 1 ∧ RO n κ ρ' τ' ∧ DO B n dsp' tS' ∧ (∀ r, r < n → grN κ B s r ≠ b → PlD κ n B s dsp ρ r → PlD κ n B s dsp' ρ' r) ∧ ∀ r, r < n → grN κ B s r = b → PlD κ n B s dsp' ρ' r)) := by
  have hn := hk.1
  obtain ⟨fl, fn', dsp', ρ', h2, h3⟩ := pu_displace hFu h h1 hn hB hb fn dsp ρ
  obtain ⟨fl2, g', tS', τ', h4, h5⟩ := pu_lays hFu hk hf h1 h0 hB hb hs g0 tS τ
  have hfit : ∀ d, FitD ρ (cN κ n B s b) (aN κ n B s b d) ↔ FitD τ (cN κ n B s b) (aN κ n B s b d) := fun d => RO_fit hk hR (fun j => atN_lt h1)
  have hmod : ∀ d, FitD τ (cN κ n B s b) (aN κ n B s b (d % n)) ↔ FitD τ (cN κ n B s b) (aN κ n B s b d) := fun d => by
    have : aN κ n B s b (d % n) = aN κ n B s b d := funext (fun j => atN_mod)
    rw [this]
  rcases h3 with ⟨d, h6, h7, h8, rfl, rfl, h9⟩ | ⟨h6, rfl⟩
  · rcases h5 with ⟨d2, g6, g7, g8, rfl, rfl, g9⟩ | ⟨g6, rfl⟩
    · have : d = d2 := by
        rcases Nat.lt_trichotomy d d2 with q | q | q
        · exact absurd ((hfit d).mp h7) (g8 d q)
        · exact q
        · exact absurd ((hfit d2).mpr g7) (h8 d2 q)
      subst this
      refine ⟨_, _, _, _, _, _, _, h2, h4, Or.inr ⟨rfl, RO_laid hR h9 g9, DO_upd hD h6, fun r hr hne hp => ?_, fun r hr hgr => ?_⟩⟩
      · obtain ⟨d1, hd1, hd2, hx2⟩ := hp
        refine ⟨d1, hd1, (pu_un hne).trans hd2, ?_⟩
        rw [h9.2 (atN n s d1 (κ r)) (fun j hj e => by
          have := h7.1 j hj
          rw [e, hx2] at this
          exact nI_m1 (by omega) this)]
        exact hx2
      · have hm := mN_of (κ := κ) (B := B) (s := s) hr
        rw [hgr] at hm
        have h10 := h9.1 _ hm.1
        unfold aN vN at h10
        rw [hm.2] at h10
        exact ⟨d, h6, by rw [hgr]; exact pu_us, h10⟩
    · exact absurd ((hfit d).mp h7) (g6 d (by omega))
  · rcases h5 with ⟨d2, g6, g7, g8, rfl, rfl, g9⟩ | ⟨g6, rfl⟩
    · exact absurd ((hfit (d2 % n)).mpr ((hmod d2).mpr g7)) (h6 _ (Nat.mod_lt _ h1))
    · exact ⟨_, _, _, _, _, _, _, h2, h4, Or.inl rfl⟩
