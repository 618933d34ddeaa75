/-! ===== the law's own functions: hashes and bits ===== -/
theorem lg_refl (x : Int64) : lg_cmp x x = 0 := by
  unfold lg_cmp
  rw [if_neg (show ¬ x > x from Int64.lt_irrefl), if_pos rfl]
theorem pl_cmp {k : Nat} (h0 : 0 < k) (h : k < 2 ^ 63) : lg_cmp (lN k) 0 = 1 := by
  unfold lg_cmp
  exact if_pos ((pk_lLT (a := 0) (b := k) (by decide) h).mpr h0)
theorem pl_hash {N c key s : Nat} (hc : c < 6) (hk : key < 100000) (hs : s < 200) : F_L_hash N (nI c) (Int32.toInt64 (nI key)) (Int32.toInt64 (nI s)) = some (lN (hN c key s)) := by
  have e : ∀ (c : Nat) (A B C : Int64), A = lN (hA c) → B = lN (hB c) → C = lN (hC c) → kk_remL ((((Int32.toInt64 (nI key)) * A) + ((Int32.toInt64 (nI s)) * B)) + C) 1000003 = lN (hN c key s) := by
    rintro c A B C rfl rfl rfl
    rw [nI_l (by omega), nI_l (by omega), lN_mul, lN_mul, lN_add, lN_add]
    exact pk_lRem (hN_big hk hs) (by decide) (by decide)
  match c, hc with
  | 0, _ => exact congrArg some (e 0 9973 7919 11 rfl rfl rfl)
  | 1, _ => exact congrArg some (e 1 104729 15485 101 rfl rfl rfl)
  | 2, _ => exact congrArg some (e 2 31337 27644 1009 rfl rfl rfl)
  | 3, _ => exact congrArg some (e 3 611953 39916 10007 rfl rfl rfl)
  | 4, _ => exact congrArg some (e 4 86243 65537 313 rfl rfl rfl)
  | 5, _ => exact congrArg some (e 5 756839 44497 2203 rfl rfl rfl)
theorem pl_h0 {N key s : Nat} (hk : key < 100000) (hs : s < 200) : F_L_hash N 0 (Int32.toInt64 (nI key)) (Int32.toInt64 (nI s)) = some (lN (hN 0 key s)) := pl_hash (c := 0) (by decide) hk hs
theorem pl_h1 {N key s : Nat} (hk : key < 100000) (hs : s < 200) : F_L_hash N 1 (Int32.toInt64 (nI key)) (Int32.toInt64 (nI s)) = some (lN (hN 1 key s)) := pl_hash (c := 1) (by decide) hk hs
theorem pl_h2 {N key s : Nat} (hk : key < 100000) (hs : s < 200) : F_L_hash N 2 (Int32.toInt64 (nI key)) (Int32.toInt64 (nI s)) = some (lN (hN 2 key s)) := pl_hash (c := 2) (by decide) hk hs
theorem pl_h4 {N key s : Nat} (hk : key < 100000) (hs : s < 200) : F_L_hash N 4 (Int32.toInt64 (nI key)) (Int32.toInt64 (nI s)) = some (lN (hN 4 key s)) := pl_hash (c := 4) (by decide) hk hs
theorem pl_h5 {N key s : Nat} (hk : key < 100000) (hs : s < 200) : F_L_hash N 5 (Int32.toInt64 (nI key)) (Int32.toInt64 (nI s)) = some (lN (hN 5 key s)) := pl_hash (c := 5) (by decide) hk hs
theorem pl_mod {a b : Nat} (ha : a < 2 ^ 62) (h0 : 0 < b) (hb : b < 2 ^ 31) : kk_remL (lN a) (Int32.toInt64 (nI b)) = lN (a % b) := by
  rw [nI_l hb]
  exact pk_lRem (by omega) h0 (by omega)
theorem bt_and {x y : Int64} {t : Nat} : (x &&& y).toBitVec.getLsbD t = (x.toBitVec.getLsbD t && y.toBitVec.getLsbD t) := by
  show (x.toBitVec &&& y.toBitVec).getLsbD t = _
  exact BitVec.getLsbD_and
theorem bt_xor {x y : Int64} {t : Nat} : (x ^^^ y).toBitVec.getLsbD t = Bool.xor (x.toBitVec.getLsbD t) (y.toBitVec.getLsbD t) := by
  show (x.toBitVec ^^^ y.toBitVec).getLsbD t = _
  exact BitVec.getLsbD_xor
theorem bt_m1 {t : Nat} (h : t < 64) : (-1 : Int64).toBitVec.getLsbD t = true :=
  (by decide +kernel : ∀ t, t < 64 → (-1 : Int64).toBitVec.getLsbD t = true) t h
theorem pb_or (a b : Nat) : lN a ||| lN b = lN (a ||| b) := bt_ext (fun t ht => by
  rw [bt_or, bt_lN, bt_lN, bt_lN, Nat.testBit_or]
  simp [ht])
theorem pb_and (a b : Nat) : lN a &&& lN b = lN (a &&& b) := bt_ext (fun t ht => by
  rw [bt_and, bt_lN, bt_lN, bt_lN, Nat.testBit_and]
  simp [ht])
theorem pb_one (a : Nat) : lN a &&& 1 = lN (a % 2) := (pb_and a 1).trans (congrArg lN (Nat.and_one_is_mod a))
theorem pb_half {n : Nat} (h : n < 2 ^ 63) : UInt64.toInt64 (Int64.toUInt64 (lN n) >>> (Int64.toUInt64 (Int32.toInt64 1) &&& Int64.toUInt64 63)) = lN (n / 2) := bt_ext (fun t ht => by
  rw [show Int32.toInt64 1 = lN 1 from nI_l (n := 1) (by decide), bt_ushr (by decide), bt_lN, Nat.testBit_div_two, Nat.add_comm t 1]
  by_cases e : 1 + t < 64
  · rw [decide_eq_true e, decide_eq_true ht]
  · rw [tb_lt h (show 63 ≤ 1 + t by omega), Bool.and_false, Bool.and_false])
theorem pb_bit {x : Nat} (h : x < 64) : (1 : Int64) <<< (lN x &&& 63) = lN (2 ^ x) := bt_ext (fun t ht => by
  rw [show (1 : Int64) <<< (lN x &&& 63) = lN 1 <<< (lN x &&& 63) from rfl, bt_shl h ht, bt_lN, Nat.testBit_two_pow]
  rcases Nat.lt_trichotomy x t with q | q | q
  · have h1 : Nat.testBit 1 (t - x) = false := by
      obtain ⟨k, hk⟩ : ∃ k, t - x = k + 1 := ⟨t - x - 1, by omega⟩
      rw [hk, Nat.testBit_add_one]
      exact Nat.zero_testBit k
    rw [decide_eq_false (show ¬ x = t by omega), h1, Bool.and_false, Bool.and_false]
  · subst q
    rw [Nat.sub_self, decide_eq_true (Nat.le_refl x), decide_eq_true ht, decide_eq_true rfl]
    rfl
  · rw [decide_eq_false (show ¬ x = t by omega), decide_eq_false (show ¬ x ≤ t by omega), Bool.and_false, Bool.false_and])
theorem pb_free {x T : Nat} : lN (2 ^ x) &&& (lN T ^^^ (-1)) = lN (if T.testBit x = true then 0 else 2 ^ x) := bt_ext (fun t ht => by
  rw [bt_and, bt_xor, bt_m1 ht, bt_lN, bt_lN, bt_lN, Nat.testBit_two_pow, decide_eq_true ht]
  by_cases e : x = t
  · subst e
    by_cases e2 : T.testBit x = true
    · rw [if_pos e2, e2, Nat.zero_testBit, Bool.and_false]
      rw [decide_eq_true rfl]; rfl
    · rw [if_neg e2, Nat.testBit_two_pow_self, Bool.eq_false_iff.mpr e2, decide_eq_true rfl]; rfl
  · rw [decide_eq_false e, Bool.and_false, Bool.false_and]
    by_cases e2 : T.testBit x = true
    · rw [if_pos e2, Nat.zero_testBit, Bool.and_false]
    · rw [if_neg e2, Nat.testBit_two_pow, decide_eq_false e, Bool.and_false])
theorem pb_none {a T : Nat} : lN a ||| (0 &&& (lN T ^^^ (-1))) = lN a := bt_ext (fun t ht => by
  have h0 : (lN 0).toBitVec.getLsbD t = false := by rw [bt_lN, Nat.zero_testBit, Bool.and_false]
  rw [bt_or, bt_and, show (0 : Int64).toBitVec.getLsbD t = false from h0, Bool.false_and, Bool.or_false])
/-! counting the bits -/
theorem cc_stop {p : Nat → Bool} {i n : Nat} (hi : i ≤ n) (h : ∀ t, i ≤ t → p t = false) : cc p n = cc p i := by
  induction hi with
  | refl => rfl
  | @step m hm ih =>
    have h9 := h m hm
    simp [cc_s, h9, ih]
theorem cc_set {p q : Nat → Bool} {a n : Nat} (ha : a < n) (hq : ∀ t, t ≠ a → q t = p t) (hqa : q a = true) : cc q n = cc p n + (if p a = true then 0 else 1) := by
  induction n with
  | zero => exact absurd ha (Nat.not_lt_zero a)
  | succ n ih =>
    rw [cc_s, cc_s]
    by_cases e : a = n
    · subst e
      rw [cc_congr (p := q) (q := p) (t := a) (fun i hi => hq i (by omega)), if_pos hqa]
      by_cases e2 : p a = true
      · rw [if_pos e2, if_pos e2]
      · rw [if_neg e2, if_neg e2]
    · rw [ih (by omega), hq n (fun e2 => e e2.symm)]
      omega
theorem tb_dm {m i : Nat} : (if m.testBit i = true then 1 else 0) = m / 2 ^ i % 2 := by
  rw [Nat.testBit_eq_decide_div_mod_eq]
  rcases Nat.mod_two_eq_zero_or_one (m / 2 ^ i) with q | q
  · rw [q]; rfl
  · rw [q]; rfl
theorem pl_ones {N m : Nat} (hFu : 1000 ≤ N) (hm : m < 2 ^ 32) : F_L_ones N (lN m) = some (nI (cc (Nat.testBit m) 32)) := by
  unfold F_L_ones J_L_ones_24
  obtain ⟨r, h1, rfl⟩ := pu_up (f := fun (σ : (Int32 × Int64)) => L_L_ones_4 N σ.1 σ.2) (fun i s => s.1 = nI (cc (Nat.testBit m) i) ∧ s.2 = lN (m / 2 ^ i)) (fun r => r = nI (cc (Nat.testBit m) 32)) 32
    (fun i s hi hs => by
      obtain ⟨a, b⟩ := s
      obtain ⟨h3, h4⟩ := hs
      dsimp only at h3 h4 ⊢
      subst h3 h4
      unfold L_L_ones_4
      have hb : m / 2 ^ i < 2 ^ 32 := Nat.lt_of_le_of_lt (Nat.div_le_self _ _) hm
      rcases Nat.lt_or_ge m (2 ^ i) with q | q
      · rw [Nat.div_eq_of_lt q, if_pos (show lg_cmp (lN 0) 0 = 0 from lg_refl (lN 0))]
        exact Or.inr ⟨_, rfl, congrArg nI (cc_stop (Nat.le_of_lt hi) (fun t ht => tb_lt q ht)).symm⟩
      · have h5 : 0 < m / 2 ^ i := Nat.div_pos q (Nat.two_pow_pos i)
        rw [pl_cmp h5 (by omega), if_neg (by decide), pb_one, lN_i, nI_add, pb_half (by omega), Nat.div_div_eq_div_mul, ← Nat.pow_succ, ← tb_dm, ← cc_s]
        exact Or.inl ⟨_, rfl, rfl, rfl⟩)
    (fun s hs => by
      obtain ⟨a, b⟩ := s
      obtain ⟨h3, h4⟩ := hs
      dsimp only at h3 h4 ⊢
      subst h3 h4
      unfold L_L_ones_4
      rw [Nat.div_eq_of_lt hm, if_pos (show lg_cmp (lN 0) 0 = 0 from lg_refl (lN 0))]
      exact ⟨_, rfl, rfl⟩)
    N 0 (0, lN m) (Nat.zero_le _) (by omega) ⟨nI_0.symm, by rw [Nat.pow_zero, Nat.div_one]⟩
  rw [h1]; rfl
/-! loops: fuel, and turns that change one thing only -/
theorem kk_mono {σ ρ : Type} {f : σ → Option (σ ⊕ ρ)} {r : ρ} : ∀ {n : Nat} {s : σ} (k : Nat), kk_iter f n s = some r → kk_iter f (n + k) s = some r := by
  intro n
  induction n with
  | zero => intro s k h; exact kk_iter0 h
  | succ n ih =>
    intro s k h
    obtain ⟨x, h1, h2⟩ := kk_iterS h
    rw [show n + 1 + k = (n + k) + 1 by omega, kk_iter, h1]
    show Sum.elim (fun s' => kk_iter f (n + k) s') (fun r => some r) x = some r
    rcases x with x | x
    · exact ih k h2
    · exact h2
theorem kk_skip {σ ρ : Type} {f : σ → Option (σ ⊕ ρ)} : ∀ (k : Nat) (st : Nat → σ), (∀ i, i < k → f (st i) = some (.inl (st (i + 1)))) → ∀ m, kk_iter f (k + m) (st 0) = kk_iter f m (st k) := by
  intro k
  induction k with
  | zero => intro st _ m; rw [Nat.zero_add]
  | succ k ih =>
    intro st h m
    rw [show k + 1 + m = (k + m) + 1 by omega, kk_iter, h 0 (by omega)]
    exact ih (fun i => st (i + 1)) (fun i hi => h (i + 1) (by omega)) m
