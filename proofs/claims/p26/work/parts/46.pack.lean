/-! ===== the tables packed, both ways ===== -/
def mdN (d : Nat → Nat) : Nat → Nat
  | 0 => 0
  | i + 1 => if mdN d i < d i then d i else mdN d i
theorem mdN_lt {d : Nat → Nat} {B : Nat} (h : ∀ b, b < B → d b < 128) : mdN d B < 128 := by
  induction B with
  | zero => exact (by decide : (0:Nat) < 128)
  | succ B ih =>
    rw [mdN]
    split
    · exact h B (by omega)
    · exact ih (fun b hb => h b (by omega))
theorem mdN_ge {d : Nat → Nat} {B b : Nat} (h : b < B) : d b ≤ mdN d B := by
  induction B with
  | zero => exact absurd h (Nat.not_lt_zero b)
  | succ B ih =>
    rw [mdN]
    by_cases e : b = B
    · rw [e]; split <;> omega
    · have := ih (by omega)
      split <;> omega
def IsW (G W : Nat) : Prop := 1 ≤ W ∧ W ≤ 7 ∧ G / 2 ^ W = 0 ∧ ∀ W', 1 ≤ W' → W' < W → G / 2 ^ W' ≠ 0
theorem IsW_uniq {G W W'} (h : IsW G W) (h' : IsW G W') : W = W' := by
  rcases Nat.lt_trichotomy W W' with q | q | q
  · exact absurd h.2.2.1 (h'.2.2.2 W h.1 q)
  · exact q
  · exact absurd h'.2.2.1 (h.2.2.2 W' h'.1 q)
theorem IsW_lt {G W x} (h : IsW G W) (hx : x ≤ G) : x < 2 ^ W := by
  have h1 := (Nat.div_eq_zero_iff).mp h.2.2.1
  have : 0 < 2 ^ W := Nat.two_pow_pos W
  rcases h1 with h1 | h1 <;> omega
theorem div7 {G : Nat} (h : G < 128) : G / 2 ^ 7 = 0 := Nat.div_eq_of_lt h
theorem pu_greatest {N B : Nat} {d : Nat → Nat} {f : Nat → Int32} (hFu : 1000 ≤ N) (hB : B ≤ 120) (hd : ∀ b, b < B → d b < 128) (hf : ∀ b, b < B → f b = nI (d b)) : F_X5_greatest N 120 f (nI B) = some (nI (mdN d B)) := by
  unfold F_X5_greatest J_X5_greatest_25
  obtain ⟨r, h2, rfl⟩ := pu_up (f := fun (σ : (Int32 × Int32)) => L_X5_greatest_4 N 120 f (nI B) σ.1 σ.2) (fun i σ => σ.1 = nI (mdN d i) ∧ σ.2 = nI i) (fun r => r = nI (mdN d B)) B
    (fun i σ hi hσ => by
      obtain ⟨x, c⟩ := σ
      obtain ⟨h3, h4⟩ := hσ
      dsimp only at h3 h4 ⊢
      subst h3 h4
      have h5 : mdN d i < 128 := mdN_lt (fun b hb => hd b (by omega))
      have h6 := hd i hi
      unfold L_X5_greatest_4
      rw [if_neg (nI_ge hi (by omega)), pu_bind (pu_get (by omega) (by decide)), hf i hi, nI_1]
      refine Or.inl ⟨_, rfl, ?_, rfl⟩
      dsimp only
      rw [mdN]
      by_cases e : mdN d i < d i
      · rw [if_pos e, if_pos (nI_lt e (by omega))]
      · rw [if_neg e, if_neg (nI_nlt (by omega) (by omega))])
    (fun σ hσ => by
      obtain ⟨x, c⟩ := σ
      obtain ⟨h3, h4⟩ := hσ
      dsimp only at h3 h4 ⊢
      subst h3 h4
      unfold L_X5_greatest_4
      rw [if_pos (nI_le (Nat.le_refl _) (by omega))]
      exact ⟨_, rfl, rfl⟩)
    N 0 (0, 0) (Nat.zero_le _) (by omega) ⟨nI_0.symm, nI_0.symm⟩
  rw [pu_bind h2]
theorem nI_z {a : Nat} (h : a < 2 ^ 31) : nI a ≤ 0 ↔ a = 0 := by
  have := nI_leI (a := a) (b := 0) h (by decide)
  exact ⟨fun e => by have := this.mp e; omega, fun e => this.mpr (by omega)⟩
theorem pu_widthFor {N G : Nat} (hFu : 1000 ≤ N) (hG : G < 128) : ∃ W, F_X5_widthFor N (nI G) = some (nI W) ∧ IsW G W := by
  unfold F_X5_widthFor J_X5_widthFor_20
  obtain ⟨r, h2, W, rfl, h3⟩ := pu_up (f := fun (σ : Int32) => L_X5_widthFor_2 N (nI G) σ) (fun i s => s = nI (i + 1) ∧ ∀ W', 1 ≤ W' → W' < i + 1 → G / 2 ^ W' ≠ 0) (fun r => ∃ W, r = nI W ∧ IsW G W) 6
    (fun i s hi hs => by
      obtain ⟨rfl, h3⟩ := hs
      show (∃ s', L_X5_widthFor_2 N (nI G) (nI (i + 1)) = some (.inl s') ∧ _) ∨ (∃ r, L_X5_widthFor_2 N (nI G) (nI (i + 1)) = some (.inr r) ∧ _)
      unfold L_X5_widthFor_2
      have hq : G / 2 ^ (i + 1) ≤ G := Nat.div_le_self _ _
      rw [if_neg (show ¬ (9 : Int32) ≤ nI (i + 1) from nI_ge (b := 9) (by omega) (by decide)), pu_shrk (by omega) (by omega), nI_1 (i + 1)]
      by_cases e : G / 2 ^ (i + 1) = 0
      · rw [if_pos ((nI_z (by omega)).mpr e)]
        exact Or.inr ⟨_, rfl, i + 1, rfl, by omega, by omega, e, fun W' h5 h6 => h3 W' h5 h6⟩
      · rw [if_neg (fun e2 => e ((nI_z (by omega)).mp e2))]
        refine Or.inl ⟨_, rfl, rfl, fun W' h5 h6 => ?_⟩
        by_cases e2 : W' = i + 1
        · rw [e2]; exact e
        · exact h3 W' h5 (by omega))
    (fun s hs => by
      obtain ⟨rfl, h3⟩ := hs
      show (∃ r, L_X5_widthFor_2 N (nI G) (nI 7) = some (.inr r) ∧ _)
      unfold L_X5_widthFor_2
      rw [if_neg (show ¬ (9 : Int32) ≤ nI 7 from nI_ge (b := 9) (by omega) (by decide)), pu_shrk (by omega) (by omega), div7 hG, if_pos (show nI 0 ≤ 0 by decide)]
      exact ⟨_, rfl, 7, rfl, by omega, by omega, div7 hG, fun W' h5 h6 => h3 W' h5 h6⟩)
    N 0 1 (Nat.zero_le _) (by omega) ⟨rfl, fun W' h5 h6 => by omega⟩
  rw [pu_bind h2]
  exact ⟨W, rfl, h3⟩
theorem pu_pack {N B : Nat} {d : Nat → Nat} {f : Nat → Int32} (hFu : 1000 ≤ N) (h1 : 1 ≤ B) (hB : B ≤ 120) (hd : ∀ b, b < B → d b < 128) (hf : ∀ b, b < B → f b = nI (d b)) (x1 x2 : Int32) (w0 : Nat → Int64) :
    ∃ W ws, F_X5_pack N x1 x2 w0 120 f (nI B) = some (nI W, nI ((B * W + 63) / 64), ws) ∧ IsW (mdN d B) W ∧ WdK d W (B * W) 17 ws := by
  obtain ⟨v, hv, hv0⟩ := pu_fillL (N := N) (n := 17) (f := w0) (x := 0) (by decide) (by omega)
  obtain ⟨W, hW, hW2⟩ := pu_widthFor hFu (mdN_lt hd)
  have hW7 := hW2.2.1
  have hBW : B * W ≤ 120 * 7 := Nat.mul_le_mul hB hW7
  unfold F_X5_pack J_X5_pack_64
  have h64 : F_X7_dividedUp N (nI (B * W)) 64 = some (nI ((B * W + 63) / 64)) := pu_dup (b := 64) (by omega) (by decide) (by decide)
  rw [pu_bind hv, pu_bind (pu_greatest hFu hB hd hf), pu_bind hW, pk_mul, pu_bind h64]
  obtain ⟨ws, h2, h3⟩ := pu_up (f := fun (σ : ((Nat → Int64) × Int32)) => L_X5_pack_37 N 120 (nI W) f (nI B) σ.1 σ.2) (fun i σ => σ.2 = nI i ∧ WdK d W (i * W) 17 σ.1) (fun r => WdK d W (B * W) 17 r) B
    (fun i σ hi hσ => by
      obtain ⟨ws, c⟩ := σ
      obtain ⟨h3, h4⟩ := hσ
      dsimp only at h3 h4 ⊢
      subst h3
      have hdi := hd i hi
      have hlt := IsW_lt hW2 (mdN_ge (d := d) hi)
      have hiW : i * W ≤ 120 * 7 := Nat.mul_le_mul (by omega) hW7
      obtain ⟨ws', h5, h6⟩ := pu_write (N := N) (W := W) (b := i * W) (v := d i) (ws := ws) (by omega) (by omega) hlt
      unfold L_X5_pack_37
      rw [if_neg (nI_ge hi (by omega)), pu_bind (pu_get (by omega) (by decide)), hf i hi, pk_mul, nI_l (by omega), pu_bind h5, nI_1]
      exact Or.inl ⟨_, rfl, rfl, WdK_num hW2.1 hlt h4 h6⟩)
    (fun σ hσ => by
      obtain ⟨ws, c⟩ := σ
      obtain ⟨h3, h4⟩ := hσ
      dsimp only at h3 h4 ⊢
      subst h3
      unfold L_X5_pack_37
      rw [if_pos (nI_le (Nat.le_refl _) (by omega))]
      exact ⟨_, rfl, h4⟩)
    N 0 (v, 0) (Nat.zero_le _) (by omega) ⟨nI_0.symm, by rw [Nat.zero_mul]; exact WdK_0 hv0⟩
  rw [pu_bind h2]
  exact ⟨W, ws, rfl, hW2, h3⟩
theorem max1_div {G k : Nat} (hk : 1 ≤ k) : max 1 G / 2 ^ k = 0 ↔ G / 2 ^ k = 0 := by
  have h2 : 2 ≤ 2 ^ k := Nat.le_trans (by decide) (Nat.pow_le_pow_right (show 0 < 2 by decide) hk)
  rw [Nat.div_eq_zero_iff, Nat.div_eq_zero_iff]
  omega
theorem tb_bit {q t : Nat} : (q % 2).testBit t = (decide (t = 0) && decide (q % 2 = 1)) := by
  rcases Nat.mod_two_eq_zero_or_one q with h | h
  · rw [h]; simp
  · rw [h]
    cases t with
    | zero => simp
    | succ t => simp [Nat.testBit_succ]
theorem pu_mpack {N B : Nat} {d : Nat → Nat} {f : Nat → Int32} (hFu : 1000 ≤ N) (h1 : 1 ≤ B) (hB : B ≤ 120) (hd : ∀ b, b < B → d b < 128) (hf : ∀ b, b < B → f b = nI (d b)) (x1 : Int32) (w0 : Nat → Int64) :
    ∃ W ws, F_X8_pack N (nI B) x1 f w0 = some (nI W, ws) ∧ IsW (mdN d B) W ∧ WdK d W (B * W) 20 ws := by
  unfold F_X8_pack J_X8_pack_39 J_X8_pack_66 J_X8_pack_87 J_X8_pack_148
  obtain ⟨r, h2, rfl⟩ := pu_up (f := fun (σ : (Int32 × Int32)) => L_X8_pack_4 N (nI B) f σ.1 σ.2) (fun i σ => σ.1 = nI (max 1 (mdN d i)) ∧ σ.2 = nI i) (fun r => r = nI (max 1 (mdN d B))) B
    (fun i σ hi hσ => by
      obtain ⟨x, c⟩ := σ
      obtain ⟨h3, h4⟩ := hσ
      dsimp only at h3 h4 ⊢
      subst h3 h4
      have h5 : mdN d i < 128 := mdN_lt (fun b hb => hd b (by omega))
      have h6 := hd i hi
      unfold L_X8_pack_4 J_X8_pack_32
      rw [if_neg (nI_ge hi (by omega)), pu_bind (pu_rd (by omega) (by decide)), hf i hi, nI_1]
      by_cases e : d i ≤ max 1 (mdN d i)
      · rw [if_pos (nI_le e (by omega))]
        refine Or.inl ⟨_, rfl, ?_, rfl⟩
        dsimp only
        rw [mdN]
        congr 1
        split <;> omega
      · rw [if_neg (nI_ge (by omega) (by omega)), pu_bind (pu_rd (by omega) (by decide)), hf i hi]
        refine Or.inl ⟨_, rfl, ?_, rfl⟩
        dsimp only
        rw [mdN]
        congr 1
        split <;> omega)
    (fun σ hσ => by
      obtain ⟨x, c⟩ := σ
      obtain ⟨h3, h4⟩ := hσ
      dsimp only at h3 h4 ⊢
      subst h3 h4
      unfold L_X8_pack_4
      rw [if_pos (nI_le (Nat.le_refl _) (by omega))]
      exact ⟨_, rfl, rfl⟩)
    N 0 (1, 0) (Nat.zero_le _) (by omega) ⟨rfl, nI_0.symm⟩
  rw [pu_bind h2]
  have hG := mdN_lt hd
  obtain ⟨r, h3, W, rfl, hW2⟩ := pu_up (f := fun (σ : Int32) => L_X8_pack_44 N (nI (max 1 (mdN d B))) σ) (fun i s => s = nI i ∧ ∀ W', W' < i → max 1 (mdN d B) / 2 ^ W' ≠ 0) (fun r => ∃ W, r = nI W ∧ IsW (mdN d B) W) 7
    (fun i s hi hs => by
      obtain ⟨rfl, h3⟩ := hs
      show (∃ s', L_X8_pack_44 N (nI (max 1 (mdN d B))) (nI i) = some (.inl s') ∧ _) ∨ (∃ r, L_X8_pack_44 N (nI (max 1 (mdN d B))) (nI i) = some (.inr r) ∧ _)
      unfold L_X8_pack_44
      have hq : max 1 (mdN d B) / 2 ^ i ≤ max 1 (mdN d B) := Nat.div_le_self _ _
      rw [pu_shrk (by omega) (by omega), nI_1]
      by_cases e : max 1 (mdN d B) / 2 ^ i = 0
      · rw [if_pos ((nI_z (by omega)).mpr e)]
        have hi1 : 1 ≤ i := by
          rcases Nat.eq_zero_or_pos i with e2 | e2
          · rw [e2, Nat.pow_zero, Nat.div_one] at e; omega
          · exact e2
        exact Or.inr ⟨_, rfl, i, rfl, hi1, by omega, (max1_div hi1).mp e, fun W' h5 h6 e2 => h3 W' h6 ((max1_div h5).mpr e2)⟩
      · rw [if_neg (fun e2 => e ((nI_z (by omega)).mp e2))]
        refine Or.inl ⟨_, rfl, rfl, fun W' h6 => ?_⟩
        by_cases e2 : W' = i
        · rw [e2]; exact e
        · exact h3 W' (by omega))
    (fun s hs => by
      obtain ⟨rfl, h3⟩ := hs
      show (∃ r, L_X8_pack_44 N (nI (max 1 (mdN d B))) (nI 7) = some (.inr r) ∧ _)
      unfold L_X8_pack_44
      rw [pu_shrk (by omega) (by omega), (max1_div (by decide)).mpr (div7 hG), if_pos (show nI 0 ≤ 0 by decide)]
      exact ⟨_, rfl, 7, rfl, by omega, by omega, div7 hG, fun W' h5 h6 e2 => h3 W' h6 ((max1_div h5).mpr e2)⟩)
    N 0 0 (Nat.zero_le _) (by omega) ⟨nI_0.symm, fun W' h6 => absurd h6 (Nat.not_lt_zero W')⟩
  have hW7 := hW2.2.1
  have hW1 := hW2.1
  have hBW : B * W ≤ 120 * 7 := Nat.mul_le_mul hB hW7
  rw [pu_bind h3]
  obtain ⟨w1, h4, h5⟩ := pu_up (f := fun (σ : ((Nat → Int64) × Int32)) => L_X8_pack_68 N σ.1 σ.2) (fun i σ => σ.2 = nI i ∧ ∀ k, k < i → σ.1 k = 0) (fun r => ∀ k, k < 20 → r k = 0) 20
    (fun i σ hi hσ => by
      obtain ⟨g, c⟩ := σ
      obtain ⟨h5, h6⟩ := hσ
      dsimp only at h5 h6 ⊢
      subst h5
      unfold L_X8_pack_68
      rw [if_neg (show ¬ (20 : Int32) ≤ nI i from nI_ge (b := 20) hi (by decide)), pu_bind (pu_wrL hi (by decide)), nI_1]
      refine Or.inl ⟨_, rfl, rfl, fun k hk => ?_⟩
      dsimp only
      by_cases e : k = i
      · rw [e]; exact pk_uLs
      · rw [pk_uLn e]; exact h6 k (by omega))
    (fun σ hσ => by
      obtain ⟨g, c⟩ := σ
      obtain ⟨h5, h6⟩ := hσ
      dsimp only at h5 h6 ⊢
      subst h5
      unfold L_X8_pack_68
      rw [if_pos (show (20 : Int32) ≤ nI 20 from nI_le (Nat.le_refl 20) (by decide))]
      exact ⟨_, rfl, h6⟩)
    N 0 (w0, 0) (Nat.zero_le _) (by omega) ⟨nI_0.symm, fun k hk => absurd hk (Nat.not_lt_zero k)⟩
  rw [pu_bind h4]
  obtain ⟨ws, h6, h7⟩ := pu_up (f := fun (σ : ((Nat → Int64) × Int32)) => L_X8_pack_89 N (nI B) (nI W) f σ.1 σ.2) (fun i σ => σ.2 = nI i ∧ WdK d W i 20 σ.1) (fun r => WdK d W (B * W) 20 r) (B * W)
    (fun m σ hm hσ => by
      obtain ⟨ws, c⟩ := σ
      obtain ⟨h7, h8⟩ := hσ
      dsimp only at h7 h8 ⊢
      subst h7
      have hmB : m / W < B := (Nat.div_lt_iff_lt_mul (by omega)).mpr hm
      have hmW : m % W < W := Nat.mod_lt _ (by omega)
      have hdm := hd _ hmB
      have hq : d (m / W) / 2 ^ (m % W) ≤ d (m / W) := Nat.div_le_self _ _
      have hlow : m % 64 < 64 := Nat.mod_lt _ (by decide)
      have e1 : kk_div (nI m) (nI W) = nI (m / W) := pk_div (by omega) (by omega) (by omega)
      have e2 : kk_rem (nI m) (nI W) = nI (m % W) := pu_rem (by omega) (by omega) (by omega)
      have e3 : nI (d (m / W) / 2 ^ (m % W)) &&& 1 = nI (d (m / W) / 2 ^ (m % W) % 2) := pk_andN (by omega) 1 (by decide)
      unfold L_X8_pack_89
      rw [pk_mul, if_neg (nI_ge hm (by omega)), pu_nz (by omega) (by omega), e1, pu_bind (pu_rd (by omega) (by decide)), hf _ hmB, pu_nz (by omega) (by omega), pu_div64 (by omega), pu_bind (pu_rd (by omega) (by decide)), e2, pu_shrk (by omega) (by omega), e3, pu_rem64 (by omega), nI_l (by omega), nI_l (by omega), pu_bind (pu_wrL (by omega) (by decide)), nI_1]
      refine Or.inl ⟨_, rfl, rfl, WdK_bit h8 fun i t hi ht => ?_⟩
      dsimp only
      unfold bt
      by_cases e : i = m / 64
      · rw [e, pk_uLs, bt_or, bt_shl hlow ht]
        congr 1
        rw [tb_bit]
        by_cases e5 : t = m % 64
        · rw [decide_eq_true (show m % 64 ≤ t by omega), decide_eq_true (show t - m % 64 = 0 by omega), decide_eq_true (show 64 * (m / 64) + t = m by omega)]
          simp [Nat.testBit_eq_decide_div_mod_eq]
        · rw [decide_eq_false (show ¬ 64 * (m / 64) + t = m by omega)]
          by_cases e6 : m % 64 ≤ t
          · rw [decide_eq_false (show ¬ t - m % 64 = 0 by omega)]; simp
          · rw [decide_eq_false e6]; simp
      · rw [pk_uLn e, decide_eq_false (show ¬ 64 * i + t = m by omega)]
        simp)
    (fun σ hσ => by
      obtain ⟨ws, c⟩ := σ
      obtain ⟨h7, h8⟩ := hσ
      dsimp only at h7 h8 ⊢
      subst h7
      unfold L_X8_pack_89
      rw [pk_mul, if_pos (nI_le (Nat.le_refl _) (by omega))]
      exact ⟨_, rfl, h8⟩)
    N 0 (w1, 0) (Nat.zero_le _) (by omega) ⟨nI_0.symm, WdK_0 h5⟩
  rw [pu_bind h6]
  exact ⟨W, ws, rfl, hW2, h7⟩
