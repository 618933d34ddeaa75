/-! ===== the keys in rising order: ranks, searches ===== -/
def SortK (κ : Nat → Nat) (n : Nat) : Prop := ∀ i j, i < j → j < n → κ i < κ j
def HoldK (f : Nat → Int32) (κ : Nat → Nat) (n : Nat) : Prop := ∀ i, i < n → f i = nI (κ i)
def KeyOk (κ : Nat → Nat) (n : Nat) : Prop := n ≤ 120 ∧ SortK κ n ∧ ∀ i, i < n → κ i < 100000
def IsRk (κ : Nat → Nat) (n key r : Nat) : Prop := r ≤ n ∧ (∀ i, i < r → κ i < key) ∧ ∀ i, r ≤ i → i < n → key ≤ κ i
theorem IsRk_uniq {κ : Nat → Nat} {n key r r' : Nat} (h : IsRk κ n key r) (h' : IsRk κ n key r') : r = r' := by
  rcases Nat.lt_trichotomy r r' with q | q | q
  · have h1 := h'.2.1 r q
    have h2 := h.2.2 r (Nat.le_refl r) (Nat.lt_of_lt_of_le q h'.1)
    omega
  · exact q
  · have h1 := h.2.1 r' q
    have h2 := h'.2.2 r' (Nat.le_refl r') (Nat.lt_of_lt_of_le q h.1)
    omega
theorem pu_shr1 {n : Nat} (h : n < 2 ^ 31) : nI n >>> ((1 : Int32) &&& 31) = nI (n / 2) := pk_shrN h _ 1 (by decide)
theorem pu_rankOf {N n key : Nat} {κ : Nat → Nat} {f : Nat → Int32} (hN : 200 ≤ N) (hk : KeyOk κ n) (hf : HoldK f κ n) (hkey : key < 100000) : ∃ r, F_X4_rankOf N (nI n) f (nI key) = some (nI r) ∧ IsRk κ n key r := by
  obtain ⟨hn, hs, hb⟩ := hk
  unfold F_X4_rankOf J_X4_rankOf_28
  obtain ⟨r, h1, k, rfl, h2⟩ := pu_up (f := fun (σ : Int32) => L_X4_rankOf_2 N (nI n) f (nI key) σ) (fun i s => s = nI i ∧ ∀ j, j < i → κ j < key) (fun r => ∃ k, r = nI k ∧ IsRk κ n key k) n
    (fun i s hi hs9 => by
      obtain ⟨rfl, h3⟩ := hs9
      show (∃ s', L_X4_rankOf_2 N (nI n) f (nI key) (nI i) = some (.inl s') ∧ _) ∨ (∃ r, L_X4_rankOf_2 N (nI n) f (nI key) (nI i) = some (.inr r) ∧ _)
      unfold L_X4_rankOf_2
      rw [if_neg (nI_ge hi (by omega)), pu_bind (pu_get (by omega) (by omega)), hf i hi, nI_1]
      have hki := hb i hi
      rcases Nat.lt_or_ge (κ i) key with g | g
      · rw [if_neg (nI_ge g (by omega))]
        refine Or.inl ⟨_, rfl, rfl, fun j hj => ?_⟩
        rcases Nat.lt_or_ge j i with w | w
        · exact h3 j w
        · have : j = i := by omega
          rw [this]; exact g
      · rw [if_pos (nI_le g (by omega))]
        refine Or.inr ⟨_, rfl, i, rfl, by omega, h3, fun j hj hj2 => ?_⟩
        rcases Nat.lt_or_ge i j with w | w
        · exact Nat.le_trans g (Nat.le_of_lt (hs i j w hj2))
        · have : j = i := by omega
          rw [this]; exact g)
    (fun s hs9 => by
      obtain ⟨rfl, h3⟩ := hs9
      show ∃ r, L_X4_rankOf_2 N (nI n) f (nI key) (nI n) = some (.inr r) ∧ _
      unfold L_X4_rankOf_2
      rw [if_pos (nI_le (Nat.le_refl n) (by omega))]
      exact ⟨_, rfl, n, rfl, Nat.le_refl n, h3, fun j hj hj2 => absurd hj (by omega)⟩)
    N 0 0 (Nat.zero_le n) (by omega) ⟨nI_0.symm, fun j h => absurd h (Nat.not_lt_zero j)⟩
  exact ⟨k, by rw [h1]; rfl, h2⟩
theorem pu_below {N n key : Nat} {κ : Nat → Nat} {f : Nat → Int32} (hN : 200 ≤ N) (hk : KeyOk κ n) (hf : HoldK f κ n) (hkey : key < 100000) : ∃ r, F_X8_below N (nI n) f (nI key) = some (nI r) ∧ IsRk κ n key r := by
  obtain ⟨hn, hs, hb⟩ := hk
  unfold F_X8_below J_X8_below_26
  obtain ⟨r, h1, k, rfl, h2⟩ := pu_up (f := fun (σ : Int32) => L_X8_below_2 N (nI n) f (nI key) σ) (fun i s => s = nI i ∧ ∀ j, j < i → κ j < key) (fun r => ∃ k, r = nI k ∧ IsRk κ n key k) n
    (fun i s hi hs9 => by
      obtain ⟨rfl, h3⟩ := hs9
      show (∃ s', L_X8_below_2 N (nI n) f (nI key) (nI i) = some (.inl s') ∧ _) ∨ (∃ r, L_X8_below_2 N (nI n) f (nI key) (nI i) = some (.inr r) ∧ _)
      unfold L_X8_below_2
      rw [if_neg (nI_ge hi (by omega)), pu_bind (pu_rd (by omega) (by omega)), hf i hi, nI_1]
      have hki := hb i hi
      rcases Nat.lt_or_ge (κ i) key with g | g
      · rw [if_neg (nI_ge g (by omega))]
        refine Or.inl ⟨_, rfl, rfl, fun j hj => ?_⟩
        rcases Nat.lt_or_ge j i with w | w
        · exact h3 j w
        · have : j = i := by omega
          rw [this]; exact g
      · rw [if_pos (nI_le g (by omega))]
        refine Or.inr ⟨_, rfl, i, rfl, by omega, h3, fun j hj hj2 => ?_⟩
        rcases Nat.lt_or_ge i j with w | w
        · exact Nat.le_trans g (Nat.le_of_lt (hs i j w hj2))
        · have : j = i := by omega
          rw [this]; exact g)
    (fun s hs9 => by
      obtain ⟨rfl, h3⟩ := hs9
      show ∃ r, L_X8_below_2 N (nI n) f (nI key) (nI n) = some (.inr r) ∧ _
      unfold L_X8_below_2
      rw [if_pos (nI_le (Nat.le_refl n) (by omega))]
      exact ⟨_, rfl, n, rfl, Nat.le_refl n, h3, fun j hj hj2 => absurd hj (by omega)⟩)
    N 0 0 (Nat.zero_le n) (by omega) ⟨nI_0.symm, fun j h => absurd h (Nat.not_lt_zero j)⟩
  exact ⟨k, by rw [h1]; rfl, h2⟩
/-- is the key there? -/
def InK (κ : Nat → Nat) (n key : Nat) : Prop := ∃ i, i < n ∧ κ i = key
theorem InK_rk {κ : Nat → Nat} {n key r : Nat} (hs : SortK κ n) (h : IsRk κ n key r) : InK κ n key ↔ r < n ∧ κ r = key := by
  constructor
  · rintro ⟨i, hi, rfl⟩
    have h1 : i = r := by
      rcases Nat.lt_trichotomy i r with q | q | q
      · exact absurd (h.2.1 i q) (Nat.lt_irrefl _)
      · exact q
      · have h3 := h.2.2 r (Nat.le_refl r) (by omega)
        have h4 := hs r i q hi
        omega
    subst h1
    exact ⟨hi, rfl⟩
  · rintro ⟨h1, h2⟩
    exact ⟨r, h1, h2⟩
theorem pu_bl0 {α : Type} {f : Unit → Option α} : (kk_bl 0).bind f = f () := rfl
theorem pu_bl1 {α : Type} {f : Unit → Option α} : (kk_bl 1).bind f = f () := rfl
theorem pu_holds {N n key : Nat} {κ : Nat → Nat} {f : Nat → Int32} (hN : 200 ≤ N) (hk : KeyOk κ n) (hf : HoldK f κ n) (hkey : key < 100000) :
    (InK κ n key → F_X4_holds N (nI n) f (nI key) = some 1) ∧ (¬ InK κ n key → F_X4_holds N (nI n) f (nI key) = some 0) := by
  obtain ⟨r, h1, h2⟩ := pu_rankOf hN hk hf hkey
  have hb := hk.2.2
  have hn := hk.1
  rw [InK_rk hk.2.1 h2]
  unfold F_X4_holds J_X4_holds_30 J_X4_holds_31
  rw [pu_bind h1]
  rcases Nat.lt_or_ge r n with q | q
  · rw [if_neg (nI_ge q (by omega)), pu_bind (pu_get (by omega) (by omega)), hf r q]
    refine ⟨fun h => ?_, fun h => ?_⟩
    · rw [if_pos ((nI_eq (by have := hb r q; omega) (by omega)).mpr h.2)]; rfl
    · rw [if_neg (fun e => h ⟨q, (nI_eq (by have := hb r q; omega) (by omega)).mp e⟩)]; rfl
  · rw [if_pos (nI_le q (by have := h2.1; omega))]
    exact ⟨fun h => absurd h.1 (by omega), fun _ => rfl⟩
theorem pu_is {N n key : Nat} {κ : Nat → Nat} {f : Nat → Int32} (hN : 200 ≤ N) (hk : KeyOk κ n) (hf : HoldK f κ n) (hkey : key < 100000) :
    (InK κ n key → F_X8_is N (nI n) f (nI key) = some 1) ∧ (¬ InK κ n key → F_X8_is N (nI n) f (nI key) = some 0) := by
  obtain ⟨r, h1, h2⟩ := pu_below hN hk hf hkey
  have hb := hk.2.2
  have hn := hk.1
  rw [InK_rk hk.2.1 h2]
  unfold F_X8_is J_X8_is_28 J_X8_is_29
  rw [pu_bind h1]
  rcases Nat.lt_or_ge r n with q | q
  · rw [if_neg (nI_ge q (by omega)), pu_bind (pu_rd (by omega) (by omega)), hf r q]
    refine ⟨fun h => ?_, fun h => ?_⟩
    · rw [if_pos ((nI_eq (by have := hb r q; omega) (by omega)).mpr h.2)]; rfl
    · rw [if_neg (fun e => h ⟨q, (nI_eq (by have := hb r q; omega) (by omega)).mp e⟩)]; rfl
  · rw [if_pos (nI_le q (by have := h2.1; omega))]
    exact ⟨fun h => absurd h.1 (by omega), fun _ => rfl⟩
/-- a key put in at its rank; one taken out -/
def InsK (κ : Nat → Nat) (r key : Nat) : Nat → Nat := fun i => if i < r then κ i else if i = r then key else κ (i - 1)
def DelK (κ : Nat → Nat) (r : Nat) : Nat → Nat := fun i => if i < r then κ i else κ (i + 1)
theorem InsK_ok {κ : Nat → Nat} {n key r : Nat} (hk : KeyOk κ n) (hkey : key < 100000) (hr : IsRk κ n key r) (hno : ¬ InK κ n key) (hn : n < 120) : KeyOk (InsK κ r key) (n + 1) := by
  obtain ⟨h0, hs, hb⟩ := hk
  have hlt : ∀ i, r ≤ i → i < n → key < κ i := fun i h1 h2 => by
    have := hr.2.2 i h1 h2
    rcases Nat.lt_or_ge key (κ i) with q | q
    · exact q
    · exact absurd ⟨i, h2, by omega⟩ hno
  have hrn := hr.1
  refine ⟨by omega, fun i j hij hj => ?_, fun i hi => ?_⟩
  · unfold InsK
    by_cases a1 : i < r
    · rw [if_pos a1]
      by_cases a2 : j < r
      · rw [if_pos a2]; exact hs i j hij (by omega)
      · rw [if_neg a2]
        by_cases a3 : j = r
        · rw [if_pos a3]; exact hr.2.1 i a1
        · rw [if_neg a3]; exact hs i (j - 1) (by omega) (by omega)
    · rw [if_neg a1]
      by_cases a2 : i = r
      · rw [if_pos a2, if_neg (by omega), if_neg (by omega)]; exact hlt (j - 1) (by omega) (by omega)
      · rw [if_neg a2, if_neg (by omega), if_neg (by omega)]; exact hs (i - 1) (j - 1) (by omega) (by omega)
  · unfold InsK
    by_cases a1 : i < r
    · rw [if_pos a1]; exact hb i (by omega)
    · rw [if_neg a1]
      by_cases a2 : i = r
      · rw [if_pos a2]; exact hkey
      · rw [if_neg a2]; exact hb (i - 1) (by omega)
theorem DelK_ok {κ : Nat → Nat} {n r : Nat} (hk : KeyOk κ n) (hr : r < n) : KeyOk (DelK κ r) (n - 1) := by
  obtain ⟨h0, hs, hb⟩ := hk
  refine ⟨by omega, fun i j hij hj => ?_, fun i hi => ?_⟩
  · unfold DelK
    by_cases a1 : i < r
    · rw [if_pos a1]
      by_cases a2 : j < r
      · rw [if_pos a2]; exact hs i j hij (by omega)
      · rw [if_neg a2]; exact hs i (j + 1) (by omega) (by omega)
    · rw [if_neg a1, if_neg (by omega)]; exact hs (i + 1) (j + 1) (by omega) (by omega)
  · unfold DelK
    by_cases a1 : i < r
    · rw [if_pos a1]; exact hb i (by omega)
    · rw [if_neg a1]; exact hb (i + 1) (by omega)
theorem pu_insert {N n key : Nat} {κ : Nat → Nat} {f : Nat → Int32} (hN : 200 ≤ N) (hk : KeyOk κ n) (hf : HoldK f κ n) (hkey : key < 100000) (hn : n < 120) {r : Nat} (hr : IsRk κ n key r) :
    ∃ g, F_X4_insert N (nI n) f (nI key) = some (nI (n + 1), g) ∧ HoldK g (InsK κ r key) (n + 1) := by
  obtain ⟨r', h1, h2⟩ := pu_rankOf hN hk hf hkey
  cases IsRk_uniq hr h2
  have hrn := hr.1
  unfold F_X4_insert J_X4_insert_40
  rw [pu_bind h1]
  obtain ⟨g, h3, h4⟩ := pu_up (f := fun (σ : ((Nat → Int32) × Int32)) => L_X4_insert_11 N (nI r) σ.1 σ.2)
    (fun t s => s.2 = nI (n - t) ∧ ∀ i, i < n + 1 → i ≠ n - t → s.1 i = if i < n - t then nI (κ i) else nI (κ (i - 1)))
    (fun g => ∀ i, i < n + 1 → i ≠ r → g i = if i < r then nI (κ i) else nI (κ (i - 1))) (n - r)
    (fun t s ht hs9 => by
      obtain ⟨g, j⟩ := s
      obtain ⟨rfl, h5⟩ := hs9
      dsimp only at h5
      show (∃ s', L_X4_insert_11 N (nI r) g (nI (n - t)) = some (.inl s') ∧ _) ∨ (∃ r9, L_X4_insert_11 N (nI r) g (nI (n - t)) = some (.inr r9) ∧ _)
      obtain ⟨m, hm⟩ : ∃ m, n - t = m + 1 := ⟨n - t - 1, by omega⟩
      have hm2 : n - (t + 1) = m := by omega
      rw [hm] at h5 ⊢
      unfold L_X4_insert_11
      rw [if_neg (nI_ge (by omega) (by omega)), nI_pred, pu_bind (pu_get (by omega) (by omega)), pu_bind (pu_set (by omega) (by omega)), pk_m1]
      refine Or.inl ⟨_, rfl, by rw [hm2], fun i hi hi2 => ?_⟩
      rw [hm2] at hi2 ⊢
      show upd g (m + 1) (g m) i = _
      by_cases e : i = m + 1
      · subst e
        rw [pu_us, if_neg (by omega), h5 m (by omega) (by omega), if_pos (by omega)]
        rfl
      · rw [pu_un e, h5 i hi e]
        by_cases e2 : i < m
        · rw [if_pos (by omega), if_pos e2]
        · rw [if_neg (by omega), if_neg e2])
    (fun s hs9 => by
      obtain ⟨g, j⟩ := s
      obtain ⟨rfl, h5⟩ := hs9
      dsimp only at h5
      have e : n - (n - r) = r := by omega
      rw [e] at h5
      show ∃ r9, L_X4_insert_11 N (nI r) g (nI (n - (n - r))) = some (.inr r9) ∧ _
      rw [e]
      unfold L_X4_insert_11
      rw [if_pos (nI_le (Nat.le_refl r) (by omega))]
      exact ⟨g, rfl, h5⟩)
    N 0 (f, nI n) (Nat.zero_le _) (by omega) ⟨rfl, fun i hi hi2 => by
      show f i = _
      rw [if_pos (by omega)]; exact hf i (by omega)⟩
  rw [pu_bind h3, pu_bind (pu_set (by omega) (by omega)), nI_1]
  refine ⟨_, rfl, fun i hi => ?_⟩
  unfold InsK
  by_cases e : i = r
  · subst e
    rw [pu_us, if_neg (by omega), if_pos rfl]
  · rw [pu_un e, h4 i hi e]
    by_cases e2 : i < r
    · rw [if_pos e2, if_pos e2]
    · rw [if_neg e2, if_neg e2, if_neg e]
theorem pu_put {N n key : Nat} {κ : Nat → Nat} {f : Nat → Int32} (hN : 200 ≤ N) (hk : KeyOk κ n) (hf : HoldK f κ n) (hkey : key < 100000) (hn : n < 120) {r : Nat} (hr : IsRk κ n key r) :
    ∃ g, F_X8_put N (nI n) f (nI key) = some (nI (n + 1), g) ∧ HoldK g (InsK κ r key) (n + 1) := by
  obtain ⟨r', h1, h2⟩ := pu_below hN hk hf hkey
  cases IsRk_uniq hr h2
  have hrn := hr.1
  unfold F_X8_put J_X8_put_36
  rw [pu_bind h1]
  obtain ⟨g, h3, h4⟩ := pu_up (f := fun (σ : ((Nat → Int32) × Int32)) => L_X8_put_11 N (nI r) σ.1 σ.2)
    (fun t s => s.2 = nI (n - t) ∧ ∀ i, i < n + 1 → i ≠ n - t → s.1 i = if i < n - t then nI (κ i) else nI (κ (i - 1)))
    (fun g => ∀ i, i < n + 1 → i ≠ r → g i = if i < r then nI (κ i) else nI (κ (i - 1))) (n - r)
    (fun t s ht hs9 => by
      obtain ⟨g, j⟩ := s
      obtain ⟨rfl, h5⟩ := hs9
      dsimp only at h5
      show (∃ s', L_X8_put_11 N (nI r) g (nI (n - t)) = some (.inl s') ∧ _) ∨ (∃ r9, L_X8_put_11 N (nI r) g (nI (n - t)) = some (.inr r9) ∧ _)
      obtain ⟨m, hm⟩ : ∃ m, n - t = m + 1 := ⟨n - t - 1, by omega⟩
      have hm2 : n - (t + 1) = m := by omega
      rw [hm] at h5 ⊢
      unfold L_X8_put_11
      rw [if_neg (nI_ge (by omega) (by omega)), nI_pred, pu_bind (pu_rd (by omega) (by omega)), pu_bind (pu_wr (by omega) (by omega)), pk_m1]
      refine Or.inl ⟨_, rfl, by rw [hm2], fun i hi hi2 => ?_⟩
      rw [hm2] at hi2 ⊢
      show upd g (m + 1) (g m) i = _
      by_cases e : i = m + 1
      · subst e
        rw [pu_us, if_neg (by omega), h5 m (by omega) (by omega), if_pos (by omega)]
        rfl
      · rw [pu_un e, h5 i hi e]
        by_cases e2 : i < m
        · rw [if_pos (by omega), if_pos e2]
        · rw [if_neg (by omega), if_neg e2])
    (fun s hs9 => by
      obtain ⟨g, j⟩ := s
      obtain ⟨rfl, h5⟩ := hs9
      dsimp only at h5
      have e : n - (n - r) = r := by omega
      rw [e] at h5
      show ∃ r9, L_X8_put_11 N (nI r) g (nI (n - (n - r))) = some (.inr r9) ∧ _
      rw [e]
      unfold L_X8_put_11
      rw [if_pos (nI_le (Nat.le_refl r) (by omega))]
      exact ⟨g, rfl, h5⟩)
    N 0 (f, nI n) (Nat.zero_le _) (by omega) ⟨rfl, fun i hi hi2 => by
      show f i = _
      rw [if_pos (by omega)]; exact hf i (by omega)⟩
  rw [pu_bind h3, pu_bind (pu_wr (by omega) (by omega)), nI_1]
  refine ⟨_, rfl, fun i hi => ?_⟩
  unfold InsK
  by_cases e : i = r
  · subst e
    rw [pu_us, if_neg (by omega), if_pos rfl]
  · rw [pu_un e, h4 i hi e]
    by_cases e2 : i < r
    · rw [if_pos e2, if_pos e2]
    · rw [if_neg e2, if_neg e2, if_neg e]
