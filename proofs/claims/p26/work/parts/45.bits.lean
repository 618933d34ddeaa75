/-! ===== the words: bits joined, both ways ===== -/
theorem pu_shrk {n k : Nat} (h : n < 2 ^ 31) (hk : k < 32) : nI n >>> (nI k &&& 31) = nI (n / 2 ^ k) :=
  pk_shrN h _ k ((by decide +kernel : ∀ k, k < 32 → ((nI k &&& 31).toBitVec.smod 32).toNat = k) k hk)
theorem pu_shl64 {x : Int64} {k : Nat} (hk : k < 64) : (x <<< (lN k &&& 63)).toBitVec = x.toBitVec <<< k := by
  have h := (by decide +kernel : ∀ k, k < 64 → ((lN k &&& 63).toBitVec.smod 64).toNat = k) k hk
  show x.toBitVec <<< ((lN k &&& 63).toBitVec.smod 64) = _
  rw [BitVec.shiftLeft_eq', h]
theorem pu_ushr64 {x : Int64} {k : Nat} (hk : k < 64) : (UInt64.toInt64 (Int64.toUInt64 x >>> (Int64.toUInt64 (lN k) &&& Int64.toUInt64 63))).toBitVec = x.toBitVec >>> k := by
  have h := (by decide +kernel : ∀ k, k < 64 → ((Int64.toUInt64 (lN k) &&& Int64.toUInt64 63).toBitVec % 64).toNat = k) k hk
  show x.toBitVec >>> ((Int64.toUInt64 (lN k) &&& Int64.toUInt64 63).toBitVec % 64) = _
  rw [BitVec.ushiftRight_eq', h]
def bt (ws : Nat → Int64) (i t : Nat) : Bool := (ws i).toBitVec.getLsbD t
theorem bt_lN {n t : Nat} : (lN n).toBitVec.getLsbD t = (decide (t < 64) && n.testBit t) := BitVec.getLsbD_ofNat 64 n t
theorem bt_or {x y : Int64} {t : Nat} : (x ||| y).toBitVec.getLsbD t = (x.toBitVec.getLsbD t || y.toBitVec.getLsbD t) := by
  show (x.toBitVec ||| y.toBitVec).getLsbD t = _
  exact BitVec.getLsbD_or
theorem bt_ext {x y : Int64} (h : ∀ t, t < 64 → x.toBitVec.getLsbD t = y.toBitVec.getLsbD t) : x = y := Int64.toBitVec_inj.mp (BitVec.eq_of_getLsbD_eq h)
theorem bt_shl {n k t : Nat} (hk : k < 64) (ht : t < 64) : (lN n <<< (lN k &&& 63)).toBitVec.getLsbD t = (decide (k ≤ t) && n.testBit (t - k)) := by
  rw [pu_shl64 hk, BitVec.getLsbD_shiftLeft, bt_lN]
  by_cases h : k ≤ t
  · simp [h, ht, Nat.not_lt.mpr h, show t - k < 64 by omega]
  · simp [h, Nat.lt_of_not_le h]
theorem bt_ushr {n k t : Nat} (hk : k < 64) : (UInt64.toInt64 (Int64.toUInt64 (lN n) >>> (Int64.toUInt64 (lN k) &&& Int64.toUInt64 63))).toBitVec.getLsbD t = (decide (k + t < 64) && n.testBit (k + t)) := by
  rw [pu_ushr64 hk, BitVec.getLsbD_ushiftRight, bt_lN]
theorem tb_lt {n W j : Nat} (h : n < 2 ^ W) (hj : W ≤ j) : n.testBit j = false := Nat.testBit_lt_two_pow (Nat.lt_of_lt_of_le h (Nat.pow_le_pow_right (by decide) hj))
theorem pu_join {N i : Nat} {ws : Nat → Int64} {x : Int64} (hi : i < 17) : F_X5_join N ws (nI i) x = some (vp_updL ws i (ws i ||| x)) := by
  unfold F_X5_join J_X5_join_23
  rw [if_neg (nI_pos (by omega)), if_neg (nI_ge hi (by decide)), pu_bind (pu_rd hi (by decide)), pu_bind (pu_wrL hi (by decide))]
theorem pu_div64 {b : Nat} (hb : b < 2 ^ 30) : kk_div (nI b) 64 = nI (b / 64) := pk_div (d := 64) (by omega) (by decide) (by decide)
theorem pu_rem64 {b : Nat} (hb : b < 2 ^ 30) : kk_rem (nI b) 64 = nI (b % 64) := pk_rem (d := 64) (by omega) (by decide) (by decide)
theorem pu_write {N W b v : Nat} {ws : Nat → Int64} (hb : b < 900) (hW : W ≤ 9) (hv : v < 2 ^ W) :
    ∃ ws', F_X5_write N (nI W) ws (nI b) (lN v) = some ws' ∧ ∀ i t, t < 64 → bt ws' i t = (bt ws i t || (decide (b ≤ 64 * i + t) && v.testBit (64 * i + t - b))) := by
  unfold F_X5_write J_X5_write_49
  rw [pu_div64 (by omega), pu_rem64 (by omega), nI_l (by omega), pu_bind (pu_join (by omega)), nI_add, nI_1]
  have hlow : b % 64 < 64 := Nat.mod_lt _ (by decide)
  have hbit1 : ∀ i t, t < 64 → bt (vp_updL ws (b / 64) (ws (b / 64) ||| lN v <<< (lN (b % 64) &&& 63))) i t = (bt ws i t || (decide (i = b / 64 ∧ b ≤ 64 * i + t) && v.testBit (64 * i + t - b))) := fun i t ht => by
    unfold bt
    by_cases e : i = b / 64
    · rw [e, pk_uLs, bt_or, bt_shl hlow ht]
      have e1 : decide (b % 64 ≤ t) = decide (b / 64 = b / 64 ∧ b ≤ 64 * (b / 64) + t) := by
        have : b % 64 ≤ t ↔ (b / 64 = b / 64 ∧ b ≤ 64 * (b / 64) + t) := by omega
        simp only [this]
      have e2 : t - b % 64 = 64 * (b / 64) + t - b := by omega
      rw [e1, e2]
    · rw [pk_uLn e, decide_eq_false (fun h => e h.1)]
      simp
  have hfin : ∀ (ws' : Nat → Int64) (q : Nat → Nat → Bool), (∀ i t, t < 64 → bt ws' i t = (bt ws i t || q i t)) → (∀ i t, t < 64 → q i t = (decide (b ≤ 64 * i + t) && v.testBit (64 * i + t - b))) → ∀ i t, t < 64 → bt ws' i t = (bt ws i t || (decide (b ≤ 64 * i + t) && v.testBit (64 * i + t - b))) := fun ws' q h1 h2 i t ht => by rw [h1 i t ht, h2 i t ht]
  by_cases h : b % 64 + W ≤ 64
  · rw [if_pos (show nI (b % 64 + W) ≤ 64 from nI_le (b := 64) h (by decide))]
    refine ⟨_, rfl, hfin _ _ hbit1 fun i t ht => ?_⟩
    by_cases e : i = b / 64
    · simp [e]
    · rw [decide_eq_false (fun h => e h.1)]
      by_cases e2 : b ≤ 64 * i + t
      · rw [tb_lt hv (by omega)]; simp
      · simp [e2]
  · rw [if_neg (show ¬ nI (b % 64 + W) ≤ 64 from nI_ge (a := 64) (by omega) (by omega))]
    have e9 : (64 : Int32) - nI (b % 64) = nI (64 - b % 64) := pk_sub (a := 64) (by omega)
    rw [e9, nI_l (by omega), pu_bind (pu_join (by omega))]
    refine ⟨_, rfl, fun i t ht => ?_⟩
    by_cases e : i = b / 64 + 1
    · have h1 := hbit1 i t ht
      unfold bt at h1 ⊢
      rw [e, pk_uLs, bt_or, bt_ushr (by omega)]
      rw [e] at h1
      rw [h1, decide_eq_false (fun h => by omega)]
      by_cases e3 : 64 - b % 64 + t < 64
      · rw [decide_eq_true e3, decide_eq_true (show b ≤ 64 * (b / 64 + 1) + t by omega)]
        rw [show 64 * (b / 64 + 1) + t - b = 64 - b % 64 + t by omega]
        simp
      · rw [decide_eq_false e3, tb_lt hv (show W ≤ 64 * (b / 64 + 1) + t - b by omega)]
        simp
    · have h1 := hbit1 i t ht
      unfold bt at h1 ⊢
      rw [pk_uLn e, h1]
      congr 1
      by_cases e2 : i = b / 64
      · simp [e2]
      · rw [decide_eq_false (fun h => e2 h.1)]
        by_cases e3 : b ≤ 64 * i + t
        · rw [tb_lt hv (by omega)]; simp
        · simp [e3]
theorem pu_fillL {N n : Nat} {f : Nat → Int64} {x : Int64} (hn : n < 2 ^ 31) (hN : n < N) : ∃ g, F_J7_fill_d0a16 N n f x = some g ∧ (∀ k, k < n → g k = x) := by
  unfold F_J7_fill_d0a16 J_J7_fill_d0a16_22
  obtain ⟨r, h1, h2⟩ := pu_up (f := fun (σ : (Nat → Int64) × Int32) => L_J7_fill_d0a16_6 N n x (nI n) σ.1 σ.2) (fun i s => s.2 = nI i ∧ ∀ k, k < i → s.1 k = x) (fun r => ∀ k, k < n → r k = x) n
    (fun i s hi hs => by
      obtain ⟨g, j⟩ := s
      obtain ⟨h3, h⟩ := hs
      dsimp only at h3 h ⊢
      subst h3
      unfold L_J7_fill_d0a16_6
      rw [if_neg (nI_ge hi hn), pu_bind (pu_wrL hi hn), nI_1]
      refine Or.inl ⟨_, rfl, rfl, fun k hk => ?_⟩
      dsimp only
      by_cases e : k = i
      · rw [e]; exact pk_uLs
      · rw [pk_uLn e]; exact h k (by omega))
    (fun s hs => by
      obtain ⟨g, j⟩ := s
      obtain ⟨h3, h⟩ := hs
      dsimp only at h3 h ⊢
      subst h3
      unfold L_J7_fill_d0a16_6
      rw [if_pos (nI_le (Nat.le_refl n) hn)]
      exact ⟨_, rfl, h⟩)
    N 0 (f, 0) (Nat.zero_le n) (by omega) ⟨nI_0.symm, fun k hk => absurd hk (Nat.not_lt_zero k)⟩
  rw [pu_bind h1]
  exact ⟨r, rfl, h2⟩
/-- what the words hold when the first m bits are in -/
def WdK (d : Nat → Nat) (W m c : Nat) (ws : Nat → Int64) : Prop := ∀ i t, i < c → t < 64 → bt ws i t = (decide (64 * i + t < m) && (d ((64 * i + t) / W)).testBit ((64 * i + t) % W))
theorem WdK_0 {d W c ws} (h : ∀ i, i < c → ws i = 0) : WdK d W 0 c ws := by
  intro i t hi ht
  unfold bt
  rw [h i hi]
  have e : ((0 : Int64).toBitVec).getLsbD t = false := by
    show (lN 0).toBitVec.getLsbD t = false
    rw [bt_lN]; simp
  rw [e]
  simp
theorem WdK_eq {d W m c c' ws ws' i} (h : WdK d W m c ws) (h' : WdK d W m c' ws') (hi : i < c) (hi' : i < c') : ws i = ws' i :=
  bt_ext fun t ht => (h i t hi ht).trans (h' i t hi' ht).symm
theorem WdK_num {d W j c ws ws'} (hW : 1 ≤ W) (hd : d j < 2 ^ W) (h : WdK d W (j * W) c ws) (h2 : ∀ i t, t < 64 → bt ws' i t = (bt ws i t || (decide (j * W ≤ 64 * i + t) && (d j).testBit (64 * i + t - j * W)))) : WdK d W ((j + 1) * W) c ws' := by
  intro i t hi ht
  rw [h2 i t ht, h i t hi ht]
  generalize 64 * i + t = g
  have e : (j + 1) * W = j * W + W := Nat.succ_mul j W
  rw [e]
  rcases Nat.lt_or_ge g (j * W) with q | q
  · rw [decide_eq_true q, decide_eq_true (show g < j * W + W by omega), decide_eq_false (show ¬ j * W ≤ g by omega)]
    simp
  · rw [decide_eq_false (show ¬ g < j * W by omega), decide_eq_true q]
    rcases Nat.lt_or_ge g (j * W + W) with q2 | q2
    · obtain ⟨x, rfl⟩ : ∃ x, g = j * W + x := ⟨g - j * W, by omega⟩
      have hx : x < W := by omega
      have e1 : (j * W + x) / W = j := by
        rw [Nat.mul_comm, Nat.mul_add_div (by omega), Nat.div_eq_of_lt hx]; omega
      have e2 : (j * W + x) % W = x := by
        rw [Nat.mul_comm, Nat.mul_add_mod, Nat.mod_eq_of_lt hx]
      rw [decide_eq_true q2, e1, e2, show j * W + x - j * W = x by omega]
      simp
    · rw [decide_eq_false (show ¬ g < j * W + W by omega), tb_lt hd (by omega)]
      simp
theorem WdK_bit {d W m c ws ws'} (h : WdK d W m c ws) (h2 : ∀ i t, i < c → t < 64 → bt ws' i t = (bt ws i t || (decide (64 * i + t = m) && (d (m / W)).testBit (m % W)))) : WdK d W (m + 1) c ws' := by
  intro i t hi ht
  rw [h2 i t hi ht, h i t hi ht]
  generalize 64 * i + t = g
  rcases Nat.lt_trichotomy g m with q | q | q
  · rw [decide_eq_true q, decide_eq_true (show g < m + 1 by omega), decide_eq_false (show ¬ g = m by omega)]; simp
  · rw [q]; simp
  · rw [decide_eq_false (show ¬ g < m by omega), decide_eq_false (show ¬ g < m + 1 by omega), decide_eq_false (show ¬ g = m by omega)]; simp
