/-! ===== what the law asks of a build ===== -/
theorem pu_size2 {N κ n B s b} {fb : Nat → Int32} (h : ∀ b, b ≤ B → fb b = nI (cL (grN κ B s) b n)) (hB : B ≤ 120) (hb : b < B) : F_X2_sizeOf N 121 fb (nI b) = some (nI (cN κ n B s b)) := by
  unfold F_X2_sizeOf F_X2_endOf F_X2_beginOf
  rw [nI_1, pu_bind (by rw [pu_bind (pu_get (by omega) (by decide)), h (b + 1) (by omega), cL_b]), pu_bind (by rw [pu_bind (pu_get (by omega) (by decide)), h b (by omega)]), pk_sub (by omega)]
  congr 2
  unfold cN
  omega
theorem pu_kwn {N n x r : Nat} {κ : Nat → Nat} {f rn : Nat → Int32} (hn : n ≤ 120) (hx : x < n) (hr : r < n) (hf : HoldK f κ n) (h : rn x = nI r) : F_X7_keyWithNumber N f rn (nI x) = some (nI (κ r)) := by
  unfold F_X7_keyWithNumber
  rw [pu_bind (pu_get (by omega) (by decide)), h, pu_bind (pu_at (by omega)), hf _ hr]
def metN (num : Nat → Nat) : Nat → Nat
  | 0 => 0
  | i + 1 => metN num i ||| 2 ^ num i
theorem metN_s {num : Nat → Nat} {i : Nat} : metN num (i + 1) = metN num i ||| 2 ^ num i := rfl
theorem metN_bit {num : Nat → Nat} {i y : Nat} : (metN num i).testBit y = true ↔ ∃ q, q < i ∧ num q = y := by
  induction i with
  | zero =>
    constructor
    · intro h
      have h9 : Nat.testBit 0 y = true := h
      rw [Nat.zero_testBit] at h9
      cases h9
    · rintro ⟨q, hq, _⟩
      exact absurd hq (Nat.not_lt_zero q)
  | succ i ih =>
    rw [metN_s, Nat.testBit_or, Bool.or_eq_true, ih, Nat.testBit_two_pow]
    constructor
    · rintro (⟨q, h1, h2⟩ | h)
      · exact ⟨q, by omega, h2⟩
      · exact ⟨i, by omega, of_decide_eq_true h⟩
    · rintro ⟨q, h1, h2⟩
      by_cases e : q = i
      · subst e
        exact Or.inr (decide_eq_true h2)
      · exact Or.inl ⟨q, by omega, h2⟩
theorem cc_all {p : Nat → Bool} {n : Nat} (h : cc p n = n) : ∀ i, i < n → p i = true := by
  intro i hi
  cases e : p i with
  | true => rfl
  | false =>
    have h1 : cc p n < cc (fun _ => true) n := cc_drop (b := i) (fun _ _ _ => rfl) hi rfl (fun q => by rw [e] at q; cases q)
    have h2 := cc_le (fun _ => true) n
    omega
theorem metN_full {num : Nat → Nat} {n : Nat} (h : ∀ i, i < n → num i < n) (hi : ∀ i j, i < n → j < n → num i = num j → i = j) : metN num n = 2 ^ n - 1 := by
  have hc : ∀ i, i ≤ n → cc (Nat.testBit (metN num i)) n = i := by
    intro i
    induction i with
    | zero => intro _; exact cc_zero (fun t _ h9 => by
        have h8 : Nat.testBit 0 t = true := h9
        rw [Nat.zero_testBit] at h8
        cases h8)
    | succ i ih =>
      intro hin
      rw [cc_set (p := Nat.testBit (metN num i)) (q := Nat.testBit (metN num (i + 1))) (h i hin) (fun t ht => by
        rw [metN_s, Nat.testBit_or, Nat.testBit_two_pow, decide_eq_false (fun e => ht e.symm), Bool.or_false]) (by
        rw [metN_s, Nat.testBit_or, Nat.testBit_two_pow_self, Bool.or_true]), ih (by omega), if_neg (fun e => by
        obtain ⟨q, hq, hq2⟩ := metN_bit.mp e
        have := hi q i (by omega) hin hq2
        omega)]
  refine Nat.eq_of_testBit_eq (fun y => ?_)
  rw [Nat.testBit_two_pow_sub_one]
  by_cases e : y < n
  · rw [decide_eq_true e]
    exact cc_all (hc n (Nat.le_refl n)) y e
  · rw [decide_eq_false e]
    refine Bool.eq_false_iff.mpr (fun e2 => ?_)
    obtain ⟨q, hq, hq2⟩ := metN_bit.mp e2
    have := h q hq
    omega
def numN (κ : Nat → Nat) (n B s : Nat) (d : Nat → Nat) : Nat → Nat := fun q => atN n s (d (bkN B s (κ q))) (κ q)
section BLT
variable {N n B s g nb W : Nat} {κ d mu : Nat → Nat} {f f2 fb dsp ρ gV fp : Nat → Int32} {ws : Nat → Int64}
theorem pm_numOf (hk : KeyOk κ n) (hb : Blt κ n B s g nb W d mu fb dsp ρ ws gV fp) {i : Nat} (hi : i < n) : F_X0_numberOf N (nI n) (nI B) (nI s) dsp (nI (κ i)) = some (nI (numN κ n B s d i)) := by
  obtain ⟨⟨h1, hn, h0, hB, hs, -⟩, h2, -⟩ := hb
  have h3 := h2 _ (bkN_lt (s := s) (key := κ i) h0)
  exact pu_numberOf h1 (by omega) h0 hB (hk.2.2 i hi) (by omega) (by omega) h3.2.1
theorem pm_lt (hb : Blt κ n B s g nb W d mu fb dsp ρ ws gV fp) (i : Nat) : numN κ n B s d i < n := atN_lt hb.1.1
theorem pm_number (hk : KeyOk κ n) (hb : Blt κ n B s g nb W d mu fb dsp ρ ws gV fp) {i : Nat} (hi : i < n) : F_X7_number N 1 (nI n) (nI B) (nI s) dsp (nI (κ i)) = some (nI (numN κ n B s d i)) := by
  unfold F_X7_number
  rw [pu_bind (ky_1 (hk.2.2 i hi)), pu_bind bu_1, pu_bind (pm_numOf hk hb hi)]
theorem pm_find (hk : KeyOk κ n) (hb : Blt κ n B s g nb W d mu fb dsp ρ ws gV fp) {i : Nat} (hi : i < n) : F_X7_find N (nI (2 ^ nb - 1)) 1 (nI n) (nI B) (nI s) dsp fp (nI (κ i)) = some (nI (numN κ n B s d i)) := by
  have h9 := pm_lt hb i
  have hh := hb
  obtain ⟨⟨h1, hn, h0, hB, hs, hg, hnb1, hnb⟩, -, -, -, h5, -⟩ := hb
  have h6 : fp (numN κ n B s d i) = nI (hN 3 (κ i) s % 2 ^ nb) := h5 i hi
  unfold F_X7_find F_X7_lookUp J_X7_lookUp_30
  rw [pu_bind (ky_1 (hk.2.2 i hi)), pu_bind bu_1, pu_bind (pm_numOf hk hh hi), pu_bind (pu_get (by omega) (by decide)), pu_bind (pu_fpof (by omega) (hk.2.2 i hi) (by omega)), h6, if_pos rfl]
  rfl
theorem pm_keyOf (hk : KeyOk κ n) (hf : HoldK f κ n) (hb : Blt κ n B s g nb W d mu fb dsp ρ ws gV fp) {i : Nat} (hi : i < n) : F_X7_keyOf N 1 (nI n) f ρ (nI (numN κ n B s d i)) = some (nI (κ i)) := by
  have h9 := pm_lt hb i
  unfold F_X7_keyOf
  rw [pu_bind bu_1, pu_bind (bl_1 h9 (by have := hk.1; omega)), pu_bind (pu_kwn hk.1 h9 hi hf (hb.2.2.2.1 i hi))]
theorem pm_by (hk : KeyOk κ n) (hb : Blt κ n B s g nb W d mu fb dsp ρ ws gV fp) {i : Nat} (hi : i < n) : F_X7_byGraph N 1 (nI n) (nI (3 * n)) (nI g) gV (nI (κ i)) = some (nI i) := by
  obtain ⟨⟨h1, hn, h0, hB, hs, hg, hnb1, hnb⟩, -, -, -, -, -, h5, h6⟩ := hb
  have hki := hk.2.2 i hi
  have ha := eN_lt (κ := κ) (s := g) (e := 2 * i) h1
  have hb2 := eN_lt (κ := κ) (s := g) (e := 2 * i + 1) h1
  have va := h5 _ ha
  have vb := h5 _ hb2
  unfold F_X7_byGraph F_X1_sumFor
  rw [pu_bind (ky_1 hki), pu_bind bu_1, pu_bind (pu_vertexOf (by omega) (by omega) hki hg), ← eN_a, pu_bind (pu_get (by omega) (by decide)), va.2, pu_bind (pu_vertexOf (by omega) (by omega) hki hg), ← eN_b, pu_bind (pu_get (by omega) (by decide)), vb.2, nI_add, pu_bind (pu_rmd (by omega) h1 (by omega)), h6 i hi]
  rfl
theorem pm_keyAt (hk : KeyOk κ n) (hf : HoldK f κ n) {i : Nat} (hi : i < n) : F_X7_keyAt N (nI n) f (nI i) = some (nI (κ i)) := by
  have hn := hk.1
  unfold F_X7_keyAt
  rw [pu_bind (bl_1 hi (by omega)), pu_bind (pu_at (by omega)), hf i hi]
theorem pm_keys (hFu : 6000 ≤ N) (hk : KeyOk κ n) (hf : HoldK f κ n) (hf2 : HoldK f2 κ n) (hb : Blt κ n B s g nb W d mu fb dsp ρ ws gV fp) :
    kk_iter (fun (σ : (Int64 × Int64 × Int32)) => L_L_minimal_24 N 32 (nI (2 ^ nb - 1)) 1 (nI n) f (nI n) (nI B) (nI s) dsp ρ (nI n) (nI (3 * n)) (nI g) gV fp f2 (nI n) σ.1 σ.2.1 σ.2.2) N (0, 0, 0) = some (.inr (.inr (lN (2 ^ n - 1), lN (2 ^ n - 1)))) := by
  have hn := hb.1.2.1
  have hinj : ∀ i j, i < n → j < n → numN κ n B s d i = numN κ n B s d j → i = j := fun i j hi hj e => by
    have a := hb.2.2.2.1 i hi
    have b := hb.2.2.2.1 j hj
    have e2 : ρ (numN κ n B s d i) = nI i := a
    rw [e, show ρ (numN κ n B s d j) = nI j from b] at e2
    exact ((nI_eq (by omega) (by omega)).mp e2).symm
  obtain ⟨r, h2, rfl⟩ := pu_up (f := fun (σ : (Int64 × Int64 × Int32)) => L_L_minimal_24 N 32 (nI (2 ^ nb - 1)) 1 (nI n) f (nI n) (nI B) (nI s) dsp ρ (nI n) (nI (3 * n)) (nI g) gV fp f2 (nI n) σ.1 σ.2.1 σ.2.2)
    (fun i σ => σ = (lN (metN (numN κ n B s d) i), lN (metN (fun q => q) i), nI i)) (fun r => r = .inr (.inr (lN (2 ^ n - 1), lN (2 ^ n - 1)))) n
    (fun i σ hi hσ => by
      subst hσ
      dsimp only
      have h9 := pm_lt hb i
      unfold L_L_minimal_24
      rw [if_neg (nI_ge hi (by omega)), pu_bind (pu_rd (by omega) (by decide)), hf2 i hi, pu_bind (pm_number hk hb hi), if_neg (nI_pos (by omega)), if_neg (nI_ge h9 (by omega)), pu_bind (pu_rd (by omega) (by decide)), hf2 i hi, pu_bind (pm_find hk hb hi), if_pos rfl, pu_bind (pm_keyOf hk hf hb hi), pu_bind (pu_rd (by omega) (by decide)), hf2 i hi, if_pos rfl,
        pu_bind (pu_rd (by omega) (by decide)), hf2 i hi, pu_bind (pm_by hk hb hi), pu_bind (pu_rd (by omega) (by decide)), hf2 i hi, pu_bind (pm_by hk hb hi), pu_bind (pm_keyAt hk hf hi), pu_bind (pu_rd (by omega) (by decide)), hf2 i hi, if_pos rfl,
        nI_l (n := numN κ n B s d i) (by omega), pb_bit (x := numN κ n B s d i) (by omega), pb_or, nI_l (n := i) (by omega), pb_bit (x := i) (by omega), pb_or, nI_1]
      exact Or.inl ⟨_, rfl, rfl⟩)
    (fun σ hσ => by
      subst hσ
      dsimp only
      unfold L_L_minimal_24
      rw [if_pos (nI_le (Nat.le_refl _) (by omega)), metN_full (fun i _ => pm_lt hb i) hinj, metN_full (fun i hi => hi) (fun i j _ _ e => e)]
      exact ⟨_, rfl, rfl⟩)
    N 0 (0, 0, 0) (Nat.zero_le _) (by omega) rfl
  exact h2
/-! a displacement out of its words -/
theorem pu_shr64 {x : Int64} {k : Nat} (hk : k < 64) : (x >>> (lN k &&& 63)).toBitVec = x.toBitVec.sshiftRight k := by
  have h := (by decide +kernel : ∀ k, k < 64 → ((lN k &&& 63).toBitVec.smod 64).toNat = k) k hk
  show BitVec.sshiftRight x.toBitVec ((lN k &&& 63).toBitVec.smod 64).toNat = _
  rw [h]
theorem pb_shr {x : Int64} {k : Nat} (hk : k < 64) : (x >>> (lN k &&& 63)) &&& 1 = lN (if x.toBitVec.getLsbD k = true then 1 else 0) := bt_ext (fun t ht => by
  rw [bt_and, pu_shr64 hk, BitVec.getLsbD_sshiftRight, show (1 : Int64).toBitVec.getLsbD t = (decide (t < 64) && Nat.testBit 1 t) from bt_lN (n := 1), bt_lN]
  by_cases e : t = 0
  · subst e
    by_cases e2 : x.toBitVec.getLsbD k = true
    · simp [e2, hk]
    · rw [if_neg e2, Nat.zero_testBit, Bool.and_false, if_pos (show k + 0 < 64 by omega), Nat.add_zero, Bool.eq_false_iff.mpr e2, Bool.and_false, Bool.false_and]
  · obtain ⟨u, rfl⟩ : ∃ u, t = u + 1 := ⟨t - 1, by omega⟩
    have h1 : Nat.testBit 1 (u + 1) = false := by
      rw [Nat.testBit_add_one]
      exact Nat.zero_testBit u
    have h2 : Nat.testBit (if x.toBitVec.getLsbD k = true then 1 else 0) (u + 1) = false := by
      split
      · exact h1
      · exact Nat.zero_testBit _
    rw [h1, h2, Bool.and_false, Bool.and_false])
theorem nI_or (a b : Nat) : nI a ||| nI b = nI (a ||| b) := Int32.toBitVec_inj.mp (BitVec.eq_of_getLsbD_eq (fun t ht => by
  show (BitVec.ofNat 32 a ||| BitVec.ofNat 32 b).getLsbD t = (BitVec.ofNat 32 (a ||| b)).getLsbD t
  rw [BitVec.getLsbD_or, BitVec.getLsbD_ofNat, BitVec.getLsbD_ofNat, BitVec.getLsbD_ofNat, Nat.testBit_or]
  simp [ht]))
theorem nI_sb {c : Bool} {q : Nat} (hq : q < 13) : nI (if c = true then 1 else 0) <<< (nI q &&& 31) = nI (if c = true then 2 ^ q else 0) := by
  by_cases e : c = true
  · rw [if_pos e, if_pos e]
    exact m_mask hq
  · rw [if_neg e, if_neg e]
    exact (by decide +kernel : ∀ q, q < 13 → (nI 0 <<< (nI q &&& 31)) = nI 0) q hq
theorem pb_next {D q : Nat} : D % 2 ^ q ||| (if D.testBit q = true then 2 ^ q else 0) = D % 2 ^ (q + 1) := by
  refine Nat.eq_of_testBit_eq (fun t => ?_)
  rw [Nat.testBit_or, Nat.testBit_mod_two_pow, Nat.testBit_mod_two_pow]
  have h1 : Nat.testBit (if D.testBit q = true then 2 ^ q else 0) t = (decide (q = t) && D.testBit t) := by
    by_cases e : D.testBit q = true
    · rw [if_pos e, Nat.testBit_two_pow]
      by_cases e2 : q = t
      · subst e2
        rw [e, Bool.and_true]
      · rw [decide_eq_false e2, Bool.false_and]
    · rw [if_neg e, Nat.zero_testBit]
      by_cases e2 : q = t
      · subst e2
        rw [Bool.eq_false_iff.mpr e, Bool.and_false]
      · rw [decide_eq_false e2, Bool.false_and]
  rw [h1]
  rcases Nat.lt_trichotomy t q with e | e | e
  · rw [decide_eq_true e, decide_eq_true (show t < q + 1 by omega), decide_eq_false (show ¬ q = t by omega), Bool.false_and, Bool.or_false]
  · subst e
    rw [decide_eq_false (Nat.lt_irrefl t), decide_eq_true (Nat.lt_succ_self t), decide_eq_true rfl, Bool.false_and, Bool.false_or]
  · rw [decide_eq_false (show ¬ t < q by omega), decide_eq_false (show ¬ t < q + 1 by omega), decide_eq_false (show ¬ q = t by omega), Bool.false_and, Bool.or_false]
theorem pm_word {wc j : Nat} (hj : j < wc) (hwc : wc ≤ 17) : F_X7_word N 1 (nI wc) ws (nI j) = some (ws j) := by
  unfold F_X7_word F_X5_wordAt J_X5_wordAt_23
  rw [pu_bind bu_1, pu_bind (bl_1 hj (by omega)), if_neg (nI_pos (by omega)), if_neg (nI_ge (show j < 17 by omega) (by decide)), pu_bind (pu_rd (by omega) (by decide))]
  rfl
theorem pm_unpack (hFu : 6000 ≤ N) (hb : Blt κ n B s g nb W d mu fb dsp ρ ws gV fp) {b : Nat} (hbB : b < B) : F_L_unpacked N 1 (nI W) (nI ((B * W + 63) / 64)) ws (nI b) = some (nI (d b)) := by
  obtain ⟨⟨h1, hn, h0, hB, hs, hg, hnb1, hnb⟩, h2, -, -, -, ⟨hW, hws⟩, -⟩ := hb
  have hW1 := hW.1
  have hW7 := hW.2.1
  have hD : d b < 2 ^ W := IsW_lt hW (mdN_ge hbB)
  have hD2 := (h2 b hbB).1
  unfold F_L_unpacked J_L_unpacked_54
  have hwd : F_X7_width N 1 (nI W) = some (nI W) := by unfold F_X7_width; rw [pu_bind bu_1]
  rw [pu_bind hwd]
  obtain ⟨r, h3, rfl⟩ := pu_up (f := fun (σ : (Int32 × Int32)) => L_L_unpacked_10 N 1 (nI ((B * W + 63) / 64)) ws (nI b) (nI W) σ.1 σ.2) (fun q σ => σ = (nI (d b % 2 ^ q), nI q)) (fun r => r = nI (d b)) W
    (fun q σ hq hσ => by
      subst hσ
      dsimp only
      have hm : b * W + q < B * W := by
        have h9 : (b + 1) * W ≤ B * W := Nat.mul_le_mul_right W hbB
        rw [Nat.succ_mul] at h9
        omega
      have hBW : B * W ≤ 120 * 7 := Nat.mul_le_mul hB hW7
      have hdiv : (b * W + q) / W = b := by rw [Nat.mul_comm b W, Nat.mul_add_div (by omega), Nat.div_eq_of_lt hq, Nat.add_zero]
      have hmod : (b * W + q) % W = q := by rw [Nat.mul_comm b W, Nat.mul_add_mod, Nat.mod_eq_of_lt hq]
      unfold L_L_unpacked_10
      rw [if_neg (nI_ge hq (by omega)), pk_mul, nI_add]
      generalize b * W + q = m at hm hdiv hmod
      generalize hM : B * W = M at hm hBW hws
      have hbit : (ws (m / 64)).toBitVec.getLsbD (m % 64) = (d b).testBit q := by
        have h9 := hws (m / 64) (m % 64) (by omega) (Nat.mod_lt _ (by decide))
        rw [Nat.div_add_mod, hdiv, hmod, decide_eq_true hm, Bool.true_and] at h9
        exact h9
      rw [pu_div64 (by omega), pu_bind (pm_word (by omega) (by omega)), pu_rem64 (by omega), nI_l (n := m % 64) (by omega), pb_shr (Nat.mod_lt _ (by decide)), hbit, lN_i, nI_sb (by omega), nI_or, pb_next, nI_1]
      exact Or.inl ⟨_, rfl, rfl⟩)
    (fun σ hσ => by
      subst hσ
      dsimp only
      unfold L_L_unpacked_10
      rw [if_pos (nI_le (Nat.le_refl _) (by omega)), Nat.mod_eq_of_lt hD]
      exact ⟨_, rfl, rfl⟩)
    N 0 (0, 0) (Nat.zero_le _) (by omega) (by rw [Nat.pow_zero, Nat.mod_one]; rfl)
  rw [pu_bind h3]
theorem pm_disp (hb : Blt κ n B s g nb W d mu fb dsp ρ ws gV fp) {b : Nat} (hbB : b < B) : F_X7_displacement N 1 (nI B) dsp (nI b) = some (nI (d b)) := by
  obtain ⟨⟨h1, hn, h0, hB, -⟩, h2, -⟩ := hb
  unfold F_X7_displacement
  rw [pu_bind bu_1, pu_bind (bl_1 hbB (by omega)), pu_bind (pu_get (by omega) (by decide)), (h2 b hbB).2.1]
theorem pm_inb (hb : Blt κ n B s g nb W d mu fb dsp ρ ws gV fp) {b : Nat} (hbB : b < B) : F_X7_inBucket N 1 (nI B) fb (nI b) = some (nI (cN κ n B s b)) := by
  obtain ⟨⟨h1, hn, h0, hB, -⟩, h2, h3, -⟩ := hb
  unfold F_X7_inBucket
  rw [pu_bind bu_1, pu_bind (bl_1 hbB (by omega)), pu_bind (pu_size2 h3 hB hbB)]
theorem pm_bucks (hFu : 6000 ≤ N) (hb : Blt κ n B s g nb W d mu fb dsp ρ ws gV fp) :
    kk_iter (fun (σ : (Int32 × Int32)) => L_L_minimal_142 N 1 (nI B) fb dsp (nI W) (nI ((B * W + 63) / 64)) ws σ.1 σ.2) N (0, 0) = some (.inr (nI (mdN d B))) := by
  have hh := hb
  obtain ⟨⟨h1, hn, h0, hB, -⟩, h2, -⟩ := hh
  have hbk : F_X7_buckets N 1 (nI B) = some (nI B) := by unfold F_X7_buckets; rw [pu_bind bu_1]
  obtain ⟨r, h3, rfl⟩ := pu_up (f := fun (σ : (Int32 × Int32)) => L_L_minimal_142 N 1 (nI B) fb dsp (nI W) (nI ((B * W + 63) / 64)) ws σ.1 σ.2) (fun b σ => σ = (nI (mdN d b), nI b)) (fun r => r = .inr (nI (mdN d B))) B
    (fun b σ hbB hσ => by
      subst hσ
      dsimp only
      have hd := h2 b hbB
      have hc : cN κ n B s b ≤ n := cN_le
      have hmd : mdN d b < 128 := mdN_lt (fun b' hb' => by have := (h2 b' (by omega)).1; omega)
      have hj : J_L_minimal_186 N 1 (nI B) dsp (nI (mdN d b)) (nI b) = some (.inl (nI (mdN d (b + 1)), nI (b + 1))) := by
        unfold J_L_minimal_186 J_L_minimal_208
        rw [pu_bind (pm_disp hb hbB), nI_1, mdN]
        by_cases e : mdN d b < d b
        · rw [if_neg (nI_ge e (by omega)), pu_bind (pm_disp hb hbB), if_pos e]
        · rw [if_pos (nI_le (by omega) (by omega)), if_neg e]
      unfold L_L_minimal_142
      rw [pu_bind hbk, if_neg (nI_ge hbB (by omega)), pu_bind (pm_unpack hFu hb hbB), pu_bind (pm_disp hb hbB), if_pos rfl, pu_bind (pm_inb hb hbB)]
      by_cases e : cN κ n B s b = 0
      · rw [if_pos (show nI (cN κ n B s b) = 0 by rw [e]; rfl), pu_bind (pm_disp hb hbB), if_pos (show nI (d b) = 0 by rw [hd.2.2 e]; rfl), hj]
        exact Or.inl ⟨_, rfl, rfl⟩
      · rw [if_neg (nI_ne0 (by omega) (by omega)), hj]
        exact Or.inl ⟨_, rfl, rfl⟩)
    (fun σ hσ => by
      subst hσ
      dsimp only
      unfold L_L_minimal_142
      rw [pu_bind hbk, if_pos (nI_le (Nat.le_refl _) (by omega))]
      exact ⟨_, rfl, rfl⟩)
    N 0 (0, 0) (Nat.zero_le _) (by omega) rfl
  exact h3
end BLT
theorem pl_minimal {N n Lo nb : Nat} {κ : Nat → Nat} {f f2 m1 m2 m3 m4 : Nat → Int32} {v w : Int32} (hFu : 6000 ≤ N) (hk : KeyOk κ n) (hf : HoldK f κ n) (hf2 : HoldK f2 κ n) (h1 : 1 ≤ n) (hn : n ≤ 20) (hL1 : 1 ≤ Lo) (hL : Lo ≤ 6) (hnb1 : 1 ≤ nb) (hnb : nb ≤ 12)
    (hdi : F_L_displaced N 32 f2 32 m1 (nI n) (nI ((n + Lo - 1) / Lo)) = some (v, m2)) (hv : v ≠ 0) (hjo : F_L_joined N 32 f2 64 m3 (nI n) = some (w, m4)) (hw : w ≠ 0) (x_fingerprintMask : Int32) (x_displacer_keyCount : Int32) (x_displacer_bucketCount : Int32) (x_displacer_seed : Int32) (x_displacer_ranksByBucket_thingCount : Int32) (x_displacer_ranksByBucket_groupCount : Int32) (f_displacer_ranksByBucket_groups : Nat → Int32) (f_displacer_ranksByBucket_begins : Nat → Int32) (f_displacer_ranksByBucket_members : Nat → Int32) (f_displacer_starts : Nat → Int32) (f_displacer_steps : Nat → Int32) (f_displacer_numbers : Nat → Int32) (f_displacer_displacements : Nat → Int32) (f_displacer_ranksByNumber : Nat → Int32) (x_packer_bitsEach : Int32) (x_packer_wordCount : Int32) (f_packer_words : Nat → Int64) (x_graph_reachedCount : Int32) (x_graph_keyCount : Int32) (x_graph_vertexCount : Int32) (x_graph_seed : Int32) (x_graph_ends_thingCount : Int32) (x_graph_ends_groupCount : Int32) (f_graph_ends_groups : Nat → Int32) (f_graph_ends_begins : Nat → Int32) (f_graph_ends_members : Nat → Int32) (f_graph_walked : Nat → Int32) (f_graph_values : Nat → Int32) (f_graph_reached : Nat → Int32) (f_fingerprints : Nat → Int32) :
    ∃ x, F_L_minimal N x_fingerprintMask 0 (nI n) f x_displacer_keyCount x_displacer_bucketCount x_displacer_seed x_displacer_ranksByBucket_thingCount x_displacer_ranksByBucket_groupCount f_displacer_ranksByBucket_groups f_displacer_ranksByBucket_begins f_displacer_ranksByBucket_members f_displacer_starts f_displacer_steps f_displacer_numbers f_displacer_displacements f_displacer_ranksByNumber x_packer_bitsEach x_packer_wordCount f_packer_words x_graph_reachedCount x_graph_keyCount x_graph_vertexCount x_graph_seed x_graph_ends_thingCount x_graph_ends_groupCount f_graph_ends_groups f_graph_ends_begins f_graph_ends_members f_graph_walked f_graph_values f_graph_reached f_fingerprints 32 f2 (nI n) (nI Lo) (nI nb) = some x ∧ x.1 = 1 ∧ x.2.2.1 = 0 := by
  obtain ⟨B, s, g, W, d, mu, tC, gC, fg, fb, fm, fs, ft, fn, dsp, ρ, ws, rc, gtC, ggC, gfg, gfb, gfm, gw, gV, gR, fp, hP, hb⟩ := pl_build hFu hk hf hf2 h1 hn hL1 hL hnb1 hnb hdi hv hjo hw x_fingerprintMask x_displacer_keyCount x_displacer_bucketCount x_displacer_seed x_displacer_ranksByBucket_thingCount x_displacer_ranksByBucket_groupCount f_displacer_ranksByBucket_groups f_displacer_ranksByBucket_begins f_displacer_ranksByBucket_members f_displacer_starts f_displacer_steps f_displacer_numbers f_displacer_displacements f_displacer_ranksByNumber x_packer_bitsEach x_packer_wordCount f_packer_words x_graph_reachedCount x_graph_keyCount x_graph_vertexCount x_graph_seed x_graph_ends_thingCount x_graph_ends_groupCount f_graph_ends_groups f_graph_ends_begins f_graph_ends_members f_graph_walked f_graph_values f_graph_reached f_fingerprints
  have hsd : F_X7_seed N 1 (nI s) = some (nI s) := by unfold F_X7_seed; rw [pu_bind bu_1]
  have hwd : F_X7_width N 1 (nI W) = some (nI W) := by unfold F_X7_width; rw [pu_bind bu_1]
  have hre : F_X7_reopen N 1 = some 0 := by unfold F_X7_reopen; rw [pu_bind bu_1]
  have hW := hb.2.2.2.2.2.1.1
  have hW1 := hW.1
  have hW7 := hW.2.1
  have hmd : mdN d B < 128 := mdN_lt (fun b' hb' => by have := (hb.2.1 b' hb').1; omega)
  have hmW : mdN d B < 2 ^ W := IsW_lt hW (Nat.le_refl _)
  have h2W : 2 ^ W ≤ 2 ^ 7 := Nat.pow_le_pow_right (by decide) hW7
  have h2n : 2 ^ n ≤ 2 ^ 20 := Nat.pow_le_pow_right (by decide) hn
  have h2p : 0 < 2 ^ n := Nat.two_pow_pos n
  unfold F_L_minimal
  rw [pu_bind hP]
  dsimp only
  rw [pu_bind hsd, if_pos rfl, pu_bind (pm_keys hFu hk hf hf2 hb)]
  dsimp only [Sum.elim_inr, Sum.elim_inl]
  unfold J_L_minimal_136
  rw [pu_bind (pm_bucks hFu hb)]
  dsimp only [Sum.elim_inr, Sum.elim_inl]
  unfold J_L_minimal_216 J_L_minimal_269 J_L_minimal_286
  have e1 : ((1 : Int64) <<< (Int32.toInt64 (nI n) &&& 63)) - 1 = lN (2 ^ n - 1) := by
    rw [nI_l (by omega), pb_bit (by omega)]
    exact lN_sub (b := 1) h2p
  rw [e1, if_pos (lg_refl _), if_pos (lg_refl _), pu_bind hwd, m_mask (by omega), if_neg (nI_ge hmW (by omega)), pu_bind hwd]
  by_cases e : W ≤ 1
  · rw [if_pos (show nI W ≤ 1 from nI_le (b := 1) e (by decide)), pu_bind hre, pu_bind (show F_X7_keys N (nI n) = some (nI n) from rfl), if_pos rfl]
    exact ⟨_, rfl, rfl, rfl⟩
  · have h9 : 2 ^ (W - 1) ≤ mdN d B := by
      have h8 := hW.2.2.2 (W - 1) (by omega) (by omega)
      rcases Nat.lt_or_ge (mdN d B) (2 ^ (W - 1)) with q | q
      · exact absurd (Nat.div_eq_of_lt q) h8
      · exact q
    rw [if_neg (show ¬ nI W ≤ 1 from nI_ge (a := 1) (by omega) (by omega)), pu_bind hwd, show nI W - 1 = nI (W - 1) from pk_sub (b := 1) hW1, m_mask (by omega), if_pos (nI_le h9 (by omega)), pu_bind hre, pu_bind (show F_X7_keys N (nI n) = some (nI n) from rfl), if_pos rfl]
    exact ⟨_, rfl, rfl, rfl⟩
