/-! ===== what holds between the two objects ===== -/
def RelK (sz : Int32) (f : Nat → Int32) (mn : Int32) (ks : Nat → Int32) (κ : Nat → Nat) (n : Nat) : Prop := KeyOk κ n ∧ sz = nI n ∧ mn = nI n ∧ HoldK f κ n ∧ HoldK ks κ n
def RelB (κ : Nat → Nat) (n B s g nb W : Nat) (d mu : Nat → Nat) (mask kc bc sd : Int32) (fb dsp rn : Nat → Int32) (be wc : Int32) (pw : Nat → Int64) (gk gv gs : Int32) (vals fpr : Nat → Int32)
    (qsd qgs qbi qbm qw : Int32) (sizes shift owner prints : Nat → Int32) (qwords : Nat → Int64) (qvals : Nat → Int32) : Prop :=
  (1 ≤ n ∧ 0 < B ∧ B ≤ 120 ∧ s < 40 ∧ g < 200 ∧ 1 ≤ nb ∧ nb ≤ 12 ∧ 1 ≤ W ∧ W ≤ 7) ∧
  (kc = nI n ∧ bc = nI B ∧ qbm = nI B ∧ sd = nI s ∧ qsd = nI s) ∧
  (∀ b, b < B → d b < n ∧ dsp b = nI (d b) ∧ shift b = nI (d b)) ∧
  ((∀ b, b ≤ B → fb b = nI (cL (grN κ B s) b n)) ∧ ∀ b, b < B → sizes b = nI (cN κ n B s b)) ∧
  ((∀ x, x < n → ∃ r, r < n ∧ rn x = nI r ∧ owner x = nI (κ r)) ∧ ∀ r, r < n → rn (atN n s (d (bkN B s (κ r))) (κ r)) = nI r) ∧
  (mask = nI (2 ^ nb - 1) ∧ qbi = nI nb) ∧ (∀ x, x < n → fpr x = prints x) ∧
  (be = nI W ∧ qw = nI W ∧ wc = nI ((B * W + 63) / 64) ∧ ∀ i, i < 17 → pw i = qwords i) ∧
  (gk = nI n ∧ gv = nI (3 * n) ∧ gs = nI g ∧ qgs = nI g ∧ ∀ v, v < 3 * n → mu v < n ∧ vals v = nI (mu v) ∧ qvals v = nI (mu v))
def Rel (bu : Int32) (sz : Int32) (f : Nat → Int32) (mask kc bc sd : Int32) (fb dsp rn : Nat → Int32) (be wc : Int32) (pw : Nat → Int64) (gk gv gs : Int32) (vals fpr : Nat → Int32)
    (mn qbu qsd qgs qbi qbm qw : Int32) (ks sizes shift owner prints : Nat → Int32) (qwords : Nat → Int64) (qvals : Nat → Int32) : Prop :=
  ∃ κ n, RelK sz f mn ks κ n ∧ (∃ b0, b0 ≤ 120 ∧ qbm = nI b0) ∧
    ((bu = 0 ∧ qbu = 0) ∨ (bu = 1 ∧ qbu = 1 ∧ ∃ B s g nb W d mu, RelB κ n B s g nb W d mu mask kc bc sd fb dsp rn be wc pw gk gv gs vals fpr qsd qgs qbi qbm qw sizes shift owner prints qwords qvals))
theorem lg_refl (x : Int64) : lg_cmp x x = 0 := by
  unfold lg_cmp
  rw [if_neg (show ¬ x > x from Int64.lt_irrefl), if_pos rfl]
theorem in_t {N : Nat} {p a b : Int32} (h1 : ¬ p < a) (h2 : ¬ b < p) : F_X8_in N p a b = some 1 := by
  unfold F_X8_in J_X8_in_15
  rw [if_neg h1, if_neg h2]; rfl
theorem in_f {N : Nat} {p a b : Int32} (h : p < a ∨ b < p) : F_X8_in N p a b = some 0 := by
  unfold F_X8_in J_X8_in_14 J_X8_in_15
  by_cases h1 : p < a
  · rw [if_pos h1]; rfl
  · rw [if_neg h1, if_pos (h.resolve_left h1)]; rfl
/-- a range of ints from a to b -/
theorem pr_rng (x : Int32) (a b : Nat) (ha : a < 2 ^ 31) (hb : b < 2 ^ 31) : (x < nI a ∨ nI b < x) ∨ ∃ k, a ≤ k ∧ k ≤ b ∧ x = nI k := by
  by_cases h : x < nI a ∨ nI b < x
  · exact Or.inl h
  · right
    have h1 : ¬ x < nI a := fun e => h (Or.inl e)
    have h2 : ¬ nI b < x := fun e => h (Or.inr e)
    have h3 : ¬ x < 0 := fun e => h1 (Int32.lt_of_lt_of_le e (nI_pos' ha))
    obtain ⟨j, hj, rfl⟩ := nI_of h3
    refine ⟨j, ?_, ?_, rfl⟩
    · rcases Nat.lt_or_ge j a with q | q
      · exact absurd (nI_lt q ha) h1
      · exact q
    · rcases Nat.lt_or_ge b j with q | q
      · exact absurd (nI_lt q hj) h2
      · exact q
theorem pr_in {N : Nat} (x : Int32) (a b : Nat) (ha : a < 2 ^ 31) (hb : b < 2 ^ 31) : ((x < nI a ∨ nI b < x) ∧ F_X8_in N x (nI a) (nI b) = some 0) ∨ ∃ k, a ≤ k ∧ k ≤ b ∧ x = nI k ∧ F_X8_in N x (nI a) (nI b) = some 1 := by
  rcases pr_rng x a b ha hb with h | ⟨k, h1, h2, rfl⟩
  · exact Or.inl ⟨h, in_f h⟩
  · exact Or.inr ⟨k, h1, h2, rfl, in_t (nI_nlt h1 (by omega)) (nI_nlt h2 hb)⟩
theorem pr_key {N : Nat} (p : Int32) : (F_X7_requireKey N p = some (.inl 0) ∧ F_X8_in N p 0 99999 = some 0) ∨ ∃ k, k < 100000 ∧ p = nI k ∧ F_X7_requireKey N p = some (.inr ()) ∧ F_X8_in N p 0 99999 = some 1 := by
  unfold F_X7_requireKey J_X7_requireKey_10
  rcases pr_in (N := N) p 0 99999 (by decide) (by decide) with ⟨h, h2⟩ | ⟨k, h1, h2, rfl, h3⟩
  · left
    refine ⟨?_, h2⟩
    by_cases e : p < 0
    · rw [if_pos e]
    · rw [if_neg e, if_neg (show ¬ p ≤ 99999 from fun e2 => Int32.not_lt.mpr e2 (h.resolve_left e))]
  · right
    exact ⟨k, by omega, rfl, by rw [if_neg (nI_pos (by omega)), if_pos (show nI k ≤ 99999 from nI_le (b := 99999) h2 (by decide))], h3⟩
theorem nI_pl {m : Nat} (hm : m < 2 ^ 31) : nI m - 1 < nI m := by
  rcases Nat.eq_zero_or_pos m with e | e
  · rw [e]; decide
  · obtain ⟨k, rfl⟩ : ∃ k, m = k + 1 := ⟨m - 1, by omega⟩
    rw [nI_pred]; exact nI_lt (by omega) hm
theorem pr_below {N m : Nat} (hm : m < 1000) (p : Int32) : (F_X7_requireBelow N p (nI m) = some (.inl 2) ∧ F_X8_in N p 0 (nI m - 1) = some 0) ∨ ∃ k, k < m ∧ p = nI k ∧ F_X7_requireBelow N p (nI m) = some (.inr ()) ∧ F_X8_in N p 0 (nI m - 1) = some 1 := by
  unfold F_X7_requireBelow J_X7_requireBelow_9
  rcases pk_ix p (n := m) (by omega) with h | h | ⟨k, hk, rfl⟩
  · left
    exact ⟨by rw [if_pos h], in_f (Or.inl h)⟩
  · left
    refine ⟨?_, in_f (Or.inr (Int32.lt_of_lt_of_le (nI_pl (by omega)) h))⟩
    rw [if_neg (fun e => Int32.lt_irrefl (Int32.lt_of_lt_of_le e (Int32.le_trans (nI_pos' (n := m) (by omega)) h))), if_neg (fun e => Int32.lt_irrefl (Int32.lt_of_lt_of_le e h))]
  · right
    obtain ⟨q, rfl⟩ : ∃ q, m = q + 1 := ⟨m - 1, by omega⟩
    refine ⟨k, hk, rfl, by rw [if_neg (nI_pos (by omega)), if_pos (nI_lt hk (by omega))], ?_⟩
    rw [nI_pred]
    exact in_t (nI_pos (by omega)) (nI_nlt (by omega) (by omega))
theorem bu_0 {N : Nat} : F_X7_requireBuilt N 0 = some (.inl 1) := by unfold F_X7_requireBuilt; rw [if_pos rfl]
theorem bu_1 {N : Nat} : F_X7_requireBuilt N 1 = some (.inr ()) := by unfold F_X7_requireBuilt; rw [if_neg (by decide)]
theorem op_0 {N : Nat} : F_X7_requireOpen N 0 = some (.inr ()) := by unfold F_X7_requireOpen; rw [if_pos rfl]
theorem op_1 {N : Nat} : F_X7_requireOpen N 1 = some (.inl 1) := by unfold F_X7_requireOpen; rw [if_neg (by decide)]
theorem told_0 {N : Nat} {t a b : Int32} : F_X8_told N 0 t a b = some (0, 1) := by
  unfold F_X8_told F_X8_fails
  rw [if_pos rfl]; rfl
theorem told_10 {N : Nat} {t b : Int32} : F_X8_told N 1 t 0 b = some (0, 2) := by
  unfold F_X8_told F_X8_fails J_X8_told_26
  rw [if_neg (by decide), if_pos rfl]; rfl
theorem told_11 {N : Nat} {t b : Int32} : F_X8_told N 1 t 1 b = some (b, t) := by
  unfold F_X8_told J_X8_told_26
  rw [if_neg (by decide), if_neg (by decide)]
theorem pu_w0 {arr : Nat → Int64} {x : Int64} : kk_wrL 1 arr 0 x = some (vp_updL arr 0 x) := pu_wrL (n := 1) (k := 0) (by decide) (by decide)
theorem pu_r0 {arr : Nat → Int64} : kk_rd 1 arr 0 = some (arr 0) := pu_rd (n := 1) (k := 0) (by decide) (by decide)
theorem pq_close {τ : Type} {N : Nat} {A : Option (Int32 × (Nat → Int64))} {M : Option (Int32 × Int32)} {J : Int32 → (Nat → Int64) → Option τ} {c v : Int32} {arr : Nat → Int64} (hA : A = some (c, arr)) (hM : M = some (v, c)) (h : c = 0 → arr 0 = Int32.toInt64 v) (hJ : ∀ a b, ∃ x, J a b = some x) :
    ∃ x, (A.bind fun v1 => M.bind fun v2 => (F_X8_thrown N v2.2).bind fun v3 => if v3 = v1.1 then if v1.1 = 0 then (kk_rd 1 v1.2 0).bind fun v6 => if (lg_cmp v6 (Int32.toInt64 v2.1)) = 0 then J v2.2 v1.2 else none else J v2.2 v1.2 else none) = some x := by
  rw [pu_bind hA, pu_bind hM]
  unfold F_X8_thrown
  rw [pu_bind (a := c) rfl]
  dsimp only
  rw [if_pos rfl]
  by_cases e : c = 0
  · rw [if_pos e, pu_bind pu_r0, h e, lg_refl, if_pos rfl]
    exact hJ _ _
  · rw [if_neg e]
    exact hJ _ _
theorem pw_1 {arr : Nat → Int64} : (if (1 : Nat) = 1 then some ((1 : Int32), arr) else if (1 : Nat) = 2 then some ((2 : Int32), arr) else none) = some (1, arr) := rfl
theorem m_mask {nb : Nat} (h : nb < 13) : ((1 : Int32) <<< (nI nb &&& 31)) = nI (2 ^ nb) := (by decide +kernel : ∀ nb, nb < 13 → ((1 : Int32) <<< (nI nb &&& 31)) = nI (2 ^ nb)) nb h
theorem m_maskp {nb : Nat} (h : nb < 13) : ((1 : Int32) <<< (nI nb &&& 31)) - 1 = nI (2 ^ nb - 1) := (by decide +kernel : ∀ nb, nb < 13 → ((1 : Int32) <<< (nI nb &&& 31)) - 1 = nI (2 ^ nb - 1)) nb h
theorem m_2p {nb : Nat} (h : nb < 13) : 2 ^ nb ≤ 4096 := Nat.pow_le_pow_right (show 0 < 2 by decide) (show nb ≤ 12 by omega)
theorem pu_print {N nb key s : Nat} (hb : nb < 13) (hk : key < 100000) (hs : s < 200) : F_X8_print N (nI s) (nI nb) (nI key) = some (nI (hN 3 key s % 2 ^ nb)) := by
  unfold F_X8_print
  have h1 := hN_lt 3 key s
  have h2 := m_2p hb
  have h3 := Nat.two_pow_pos nb
  rw [pu_bind (pu_mh3 hk hs), m_mask hb, pu_nz h3 (by omega), pu_rem (by omega) h3 (by omega)]
theorem pu_fpof {N nb key s : Nat} (hb : nb < 13) (hk : key < 100000) (hs : s < 200) : F_X7_fingerprintOf N (nI (2 ^ nb - 1)) (nI s) (nI key) = some (nI (hN 3 key s % 2 ^ nb)) := by
  unfold F_X7_fingerprintOf
  have h1 := hN_lt 3 key s
  have h2 := m_2p hb
  rw [pu_bind (pu_of hk hs), pk_andN (by omega) nb (pk_tn (by omega))]
