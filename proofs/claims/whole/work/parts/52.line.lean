/-! ===== a line of keys ===== -/
def hasB (κ : Nat → Nat) : Nat → Nat → Bool
  | 0, _ => false
  | n + 1, k => hasB κ n k || decide (κ n = k)
theorem hasB_iff {κ : Nat → Nat} {n k : Nat} : hasB κ n k = true ↔ InK κ n k := by
  induction n with
  | zero => exact ⟨fun h => Bool.noConfusion h, fun ⟨i, hi, _⟩ => absurd hi (Nat.not_lt_zero i)⟩
  | succ n ih =>
    rw [hasB, Bool.or_eq_true, ih, decide_eq_true_iff]
    constructor
    · rintro (⟨i, hi, e⟩ | e)
      · exact ⟨i, by omega, e⟩
      · exact ⟨n, by omega, e⟩
    · rintro ⟨i, hi, e⟩
      by_cases q : i = n
      · exact Or.inr (q ▸ e)
      · exact Or.inl ⟨i, by omega, e⟩
def abB (κ : Nat → Nat) (n a st : Nat) : Nat → Bool := fun i => !hasB κ n (a + i * st)
theorem abB_iff {κ : Nat → Nat} {n a st i : Nat} : abB κ n a st i = true ↔ ¬ InK κ n (a + i * st) := by
  unfold abB
  rw [← hasB_iff]
  cases hasB κ n (a + i * st) <;> simp
theorem InsK_in {κ : Nat → Nat} {n r key k : Nat} (hr : r ≤ n) : InK (InsK κ r key) (n + 1) k ↔ InK κ n k ∨ k = key := by
  constructor
  · rintro ⟨i, hi, e⟩
    unfold InsK at e
    by_cases a1 : i < r
    · rw [if_pos a1] at e; exact Or.inl ⟨i, by omega, e⟩
    · rw [if_neg a1] at e
      by_cases a2 : i = r
      · rw [if_pos a2] at e; exact Or.inr e.symm
      · rw [if_neg a2] at e; exact Or.inl ⟨i - 1, by omega, e⟩
  · rintro (⟨i, hi, e⟩ | e)
    · by_cases a1 : i < r
      · exact ⟨i, by omega, by unfold InsK; rw [if_pos a1]; exact e⟩
      · exact ⟨i + 1, by omega, by unfold InsK; rw [if_neg (by omega), if_neg (by omega)]; exact e⟩
    · exact ⟨r, by omega, by unfold InsK; rw [if_neg (by omega), if_pos rfl]; exact e.symm⟩
theorem line_lt {a st m i : Nat} (h : a + (m - 1) * st < 100000) (hi : i < m) : a + i * st < 100000 := by
  have : i * st ≤ (m - 1) * st := Nat.mul_le_mul_right st (by omega)
  omega
theorem pu_fresh {N n a st m : Nat} {κ : Nat → Nat} {f q : Nat → Int32} (hFu : 1000 ≤ N) (hk : KeyOk κ n) (hf : HoldK f κ n) (hq : HoldK q κ n) (hm : m ≤ 40) (hl : a + (m - 1) * st < 100000) :
    F_X7_newInLine N (nI n) f (nI a) (nI st) (nI m) = some (nI (cc (abB κ n a st) m)) ∧
    kk_iter (fun (σ : (Int32 × Int32)) => L_X8_addLine_60 N (nI n) q (nI a) (nI st) (nI m) σ.1 σ.2) N (0, 0) = some (nI (cc (abB κ n a st) m)) := by
  unfold F_X7_newInLine J_X7_newInLine_37
  obtain ⟨r, w, h1, h2, rfl, rfl⟩ := pu_up2 (f := fun (σ : (Int32 × Int32)) => L_X7_newInLine_6 N (nI n) f (nI a) (nI st) (nI m) σ.1 σ.2) (g := fun (σ : (Int32 × Int32)) => L_X8_addLine_60 N (nI n) q (nI a) (nI st) (nI m) σ.1 σ.2)
    (fun i σ υ => σ.1 = nI (cc (abB κ n a st) i) ∧ υ.1 = nI (cc (abB κ n a st) i) ∧ σ.2 = nI i ∧ υ.2 = nI i) (fun r w => r = nI (cc (abB κ n a st) m) ∧ w = nI (cc (abB κ n a st) m)) m
    (fun i σ υ hi hσ => by
      obtain ⟨x, y⟩ := σ
      obtain ⟨z, t⟩ := υ
      obtain ⟨h3, h4, h5, h6⟩ := hσ
      dsimp only at h3 h4 h5 h6 ⊢
      subst h3 h4 h5 h6
      have hlt := line_lt hl hi
      have q1 := pu_holds (N := N) (by omega) hk hf hlt
      have q2 := pu_is (N := N) (by omega) hk hq hlt
      left
      unfold L_X7_newInLine_6 L_X8_addLine_60 J_X7_newInLine_31 J_X8_addLine_86
      rw [if_neg (nI_ge hi (by omega)), if_neg (nI_ge hi (by omega)), pk_mul, pk_mul, nI_add, nI_add, Nat.mul_comm st i, nI_1 i, cc_s]
      by_cases e : InK κ n (a + i * st)
      · rw [pu_bind (q1.1 e), pu_bind (q2.1 e), if_neg (show ¬ (1 : Int32) = 0 by decide), if_neg (show ¬ (1 : Int32) = 0 by decide), Int32.add_zero, if_neg (fun e2 => abB_iff.mp e2 e)]
        exact ⟨_, _, rfl, rfl, rfl, rfl, rfl, rfl⟩
      · rw [pu_bind (q1.2 e), pu_bind (q2.2 e), if_pos rfl, if_pos rfl, if_pos (abB_iff.mpr e), nI_1]
        exact ⟨_, _, rfl, rfl, rfl, rfl, rfl, rfl⟩)
    (fun σ υ hσ => by
      obtain ⟨x, y⟩ := σ
      obtain ⟨z, t⟩ := υ
      obtain ⟨h3, h4, h5, h6⟩ := hσ
      dsimp only at h3 h4 h5 h6 ⊢
      subst h3 h4 h5 h6
      unfold L_X7_newInLine_6 L_X8_addLine_60
      rw [if_pos (nI_le (Nat.le_refl _) (by omega)), if_pos (nI_le (Nat.le_refl _) (by omega))]
      exact ⟨_, _, rfl, rfl, rfl, rfl⟩)
    N 0 (0, 0) (0, 0) (Nat.zero_le _) (by omega) ⟨nI_0.symm, nI_0.symm, nI_0.symm, nI_0.symm⟩
  exact ⟨by rw [pu_bind h1], h2⟩
theorem pu_line {N n a st m : Nat} {κ : Nat → Nat} {f q : Nat → Int32} (hFu : 1000 ≤ N) (hk : KeyOk κ n) (hf : HoldK f κ n) (hq : HoldK q κ n) (hst : 1 ≤ st) (hm : m ≤ 40) (hl : a + (m - 1) * st < 100000) (hroom : n + cc (abB κ n a st) m ≤ 120) :
    ∃ κ' n' g1 g2, kk_iter (fun (σ : (Int32 × (Nat → Int32) × Int32)) => L_X7_addLine_24 N (nI a) (nI st) (nI m) σ.1 σ.2.1 σ.2.2) N (nI n, f, 0) = some (nI n', g1) ∧
      kk_iter (fun (σ : (Int32 × (Nat → Int32) × Int32)) => L_X8_addLine_123 N (nI a) (nI st) (nI m) σ.1 σ.2.1 σ.2.2) N (nI n, q, 0) = some (nI n', g2) ∧ KeyOk κ' n' ∧ HoldK g1 κ' n' ∧ HoldK g2 κ' n' := by
  obtain ⟨r, w, h1, h2, κ', n', g1, g2, rfl, rfl, h3⟩ := pu_up2 (f := fun (σ : (Int32 × (Nat → Int32) × Int32)) => L_X7_addLine_24 N (nI a) (nI st) (nI m) σ.1 σ.2.1 σ.2.2) (g := fun (σ : (Int32 × (Nat → Int32) × Int32)) => L_X8_addLine_123 N (nI a) (nI st) (nI m) σ.1 σ.2.1 σ.2.2)
    (fun i σ υ => ∃ κ' n', σ.1 = nI n' ∧ υ.1 = nI n' ∧ σ.2.2 = nI i ∧ υ.2.2 = nI i ∧ KeyOk κ' n' ∧ HoldK σ.2.1 κ' n' ∧ HoldK υ.2.1 κ' n' ∧ n' = n + cc (abB κ n a st) i ∧ ∀ j, i ≤ j → (InK κ' n' (a + j * st) ↔ InK κ n (a + j * st)))
    (fun r w => ∃ κ' n' g1 g2, r = (nI n', g1) ∧ w = (nI n', g2) ∧ KeyOk κ' n' ∧ HoldK g1 κ' n' ∧ HoldK g2 κ' n') m
    (fun i σ υ hi hσ => by
      obtain ⟨x, f1, y⟩ := σ
      obtain ⟨z, f2, t⟩ := υ
      obtain ⟨κ', n', h3, h4, h5, h6, hk', hf', hq', h7, h8⟩ := hσ
      dsimp only at h3 h4 h5 h6 hf' hq' ⊢
      subst h3 h4 h5 h6
      have hlt := line_lt hl hi
      have hn' := hk'.1
      have q1 := pu_holds (N := N) (by omega) hk' hf' hlt
      have q2 := pu_is (N := N) (by omega) hk' hq' hlt
      left
      unfold L_X7_addLine_24 L_X8_addLine_123 J_X7_addLine_59 J_X8_addLine_152
      rw [if_neg (nI_ge hi (by omega)), if_neg (nI_ge hi (by omega)), pk_mul, pk_mul, nI_add, nI_add, Nat.mul_comm st i, nI_1 i]
      by_cases e : InK κ' n' (a + i * st)
      · have e2 := (h8 i (Nat.le_refl i)).mp e
        rw [pu_bind (q1.1 e), pu_bind (q2.1 e), if_neg (show ¬ (1 : Int32) = 0 by decide), if_neg (show ¬ (1 : Int32) = 0 by decide)]
        refine ⟨_, _, rfl, rfl, κ', n', rfl, rfl, rfl, rfl, hk', hf', hq', ?_, fun j hj => h8 j (by omega)⟩
        rw [cc_s, if_neg (fun e3 => abB_iff.mp e3 e2)]; omega
      · have e2 : ¬ InK κ n (a + i * st) := fun e3 => e ((h8 i (Nat.le_refl i)).mpr e3)
        have hcl : cc (abB κ n a st) i < cc (abB κ n a st) m := cc_lt hi (abB_iff.mpr e2)
        have hlt2 : n' < 120 := by omega
        obtain ⟨r, _, hr⟩ := pu_rankOf (N := N) (by omega) hk' hf' hlt
        obtain ⟨g1, i1, i2⟩ := pu_insert (N := N) (by omega) hk' hf' hlt hlt2 hr
        obtain ⟨g2, i3, i4⟩ := pu_put (N := N) (by omega) hk' hq' hlt hlt2 hr
        rw [pu_bind (q1.2 e), pu_bind (q2.2 e), if_pos rfl, if_pos rfl, pu_bind i1, pu_bind i3]
        refine ⟨_, _, rfl, rfl, InsK κ' r (a + i * st), n' + 1, rfl, rfl, rfl, rfl, InsK_ok hk' hlt hr e hlt2, i2, i4, ?_, fun j hj => ?_⟩
        · rw [cc_s, if_pos (abB_iff.mpr e2)]; omega
        · rw [InsK_in hr.1, h8 j (by omega)]
          refine ⟨fun h9 => h9.resolve_right (fun e9 => ?_), Or.inl⟩
          have : i * st < j * st := Nat.mul_lt_mul_of_pos_right (show i < j by omega) (by omega)
          omega)
    (fun σ υ hσ => by
      obtain ⟨x, f1, y⟩ := σ
      obtain ⟨z, f2, t⟩ := υ
      obtain ⟨κ', n', h3, h4, h5, h6, hk', hf', hq', h7, h8⟩ := hσ
      dsimp only at h3 h4 h5 h6 hf' hq' ⊢
      subst h3 h4 h5 h6
      unfold L_X7_addLine_24 L_X8_addLine_123
      rw [if_pos (nI_le (Nat.le_refl _) (by omega)), if_pos (nI_le (Nat.le_refl _) (by omega))]
      exact ⟨_, _, rfl, rfl, κ', n', _, _, rfl, rfl, hk', hf', hq'⟩)
    N 0 (nI n, f, 0) (nI n, q, 0) (Nat.zero_le _) (by omega) ⟨κ, n, rfl, rfl, nI_0.symm, nI_0.symm, hk, hf, hq, rfl, fun j _ => Iff.rfl⟩
  exact ⟨κ', n', g1, g2, h1, h2, h3⟩

theorem cs_addLine {N : Nat} {x_built : Int32} {x_sorted_size : Int32} {f_sorted_places : Nat → Int32} {x_fingerprintMask : Int32} {x_displacer_keyCount : Int32} {x_displacer_bucketCount : Int32} {x_displacer_seed : Int32} {f_displacer_ranksByBucket_begins : Nat → Int32} {f_displacer_displacements : Nat → Int32} {f_displacer_ranksByNumber : Nat → Int32} {x_packer_bitsEach : Int32} {x_packer_wordCount : Int32} {f_packer_words : Nat → Int64} {x_graph_keyCount : Int32} {x_graph_vertexCount : Int32} {x_graph_seed : Int32} {f_graph_values : Nat → Int32} {f_fingerprints : Nat → Int32} {q_x_many : Int32} {q_x_built : Int32} {q_x_seed : Int32} {q_x_graphSeed : Int32} {q_x_bits : Int32} {q_x_bucketMany : Int32} {q_x_width : Int32} {q_f_keys : Nat → Int32} {q_f_sizes : Nat → Int32} {q_f_shift : Nat → Int32} {q_f_owner : Nat → Int32} {q_f_prints : Nat → Int32} {q_f_words : Nat → Int64} {q_f_values : Nat → Int32} (hFu : 6000 ≤ N) (h : Rel x_built x_sorted_size f_sorted_places x_fingerprintMask x_displacer_keyCount x_displacer_bucketCount x_displacer_seed f_displacer_ranksByBucket_begins f_displacer_displacements f_displacer_ranksByNumber x_packer_bitsEach x_packer_wordCount f_packer_words x_graph_keyCount x_graph_vertexCount x_graph_seed f_graph_values f_fingerprints q_x_many q_x_built q_x_seed q_x_graphSeed q_x_bits q_x_bucketMany q_x_width q_f_keys q_f_sizes q_f_shift q_f_owner q_f_prints q_f_words q_f_values) (q_x_thrown : Int32) (r_f_arr : Nat → Int64) (p1 : Int32) (p2 : Int32) (p3 : Int32) : ∃ x, S_addLine N x_built x_sorted_size f_sorted_places q_x_many q_x_built q_x_thrown q_f_keys r_f_arr p1 p2 p3 = some x ∧ Rel x_built x.1 x.2.1 x_fingerprintMask x_displacer_keyCount x_displacer_bucketCount x_displacer_seed f_displacer_ranksByBucket_begins f_displacer_displacements f_displacer_ranksByNumber x_packer_bitsEach x_packer_wordCount f_packer_words x_graph_keyCount x_graph_vertexCount x_graph_seed f_graph_values f_fingerprints x.2.2.1 q_x_built q_x_seed q_x_graphSeed q_x_bits q_x_bucketMany q_x_width x.2.2.2.2.1 q_f_sizes q_f_shift q_f_owner q_f_prints q_f_words q_f_values := by
  have hR := h
  obtain ⟨κ, n, ⟨hk, rfl, rfl, hf, hq⟩, hb0, hb⟩ := h
  have hn := hk.1
  unfold S_addLine
  rcases pr_key (N := N) p1 with ⟨h3, h2⟩ | ⟨a, ha, rfl, h3, h2⟩
  · have hL : F_X7_requireLine N p1 p2 p3 = some (.inl 0) := by
      unfold F_X7_requireLine
      exact (pu_bind h3).trans rfl
    have hP : F_X7_addLine N x_built (nI n) f_sorted_places p1 p2 p3 = some (.inl (0, nI n, f_sorted_places)) := by
      unfold F_X7_addLine
      exact (pu_bind hL).trans rfl
    have hA : F_L_addLine N x_built (nI n) f_sorted_places 1 r_f_arr p1 p2 p3 = some (1, nI n, f_sorted_places, r_f_arr) := by
      unfold F_L_addLine
      exact (pu_bind hP).trans rfl
    have hM : F_X8_addLine N (nI n) q_x_built q_x_thrown q_f_keys p1 p2 p3 = some (0, nI n, 1, q_f_keys) := by
      unfold F_X8_addLine J_X8_addLine_48 F_X8_fails
      rw [pu_bind h2, if_pos rfl]
      rfl
    exact ⟨_, pm_close (J := J_LC_addLine_277 N) (c := 1) hA hM (fun e => absurd e (by decide)), hR⟩
  rcases pr_in (N := N) p2 1 9999 (by decide) (by decide) with ⟨h5, h4⟩ | ⟨st, hst, hst2, rfl, h4⟩
  · have hL : F_X7_requireLine N (nI a) p2 p3 = some (.inl 0) := by
      unfold F_X7_requireLine J_X7_requireLine_16
      rw [pu_bind h3, Sum.elim_inr]
      by_cases e : p2 < 1
      · rw [if_pos e]
      · rw [if_neg e, if_neg (show ¬ p2 ≤ 9999 from fun e2 => Int32.not_lt.mpr e2 (h5.resolve_left e))]
    have hP : F_X7_addLine N x_built (nI n) f_sorted_places (nI a) p2 p3 = some (.inl (0, nI n, f_sorted_places)) := by
      unfold F_X7_addLine
      exact (pu_bind hL).trans rfl
    have hA : F_L_addLine N x_built (nI n) f_sorted_places 1 r_f_arr (nI a) p2 p3 = some (1, nI n, f_sorted_places, r_f_arr) := by
      unfold F_L_addLine
      exact (pu_bind hP).trans rfl
    have hM : F_X8_addLine N (nI n) q_x_built q_x_thrown q_f_keys (nI a) p2 p3 = some (0, nI n, 1, q_f_keys) := by
      unfold F_X8_addLine J_X8_addLine_48 F_X8_fails
      rw [pu_bind h2, if_neg (by decide), pu_bind (show F_X8_in N p2 1 9999 = some 0 from h4), if_pos rfl]
      rfl
    exact ⟨_, pm_close (J := J_LC_addLine_277 N) (c := 1) hA hM (fun e => absurd e (by decide)), hR⟩
  rcases pr_in (N := N) p3 1 40 (by decide) (by decide) with ⟨h7, h6⟩ | ⟨m, hm1, hm, rfl, h6⟩
  · have hL : F_X7_requireLine N (nI a) (nI st) p3 = some (.inl 0) := by
      unfold F_X7_requireLine J_X7_requireLine_37
      rw [pu_bind h3, Sum.elim_inr, if_neg (show ¬ nI st < 1 from nI_nlt (b := 1) hst (by omega)), if_pos (show nI st ≤ 9999 from nI_le (b := 9999) hst2 (by decide))]
      by_cases e : p3 < 1
      · rw [if_pos e]
      · rw [if_neg e, if_neg (show ¬ p3 ≤ 40 from fun e2 => Int32.not_lt.mpr e2 (h7.resolve_left e))]
    have hP : F_X7_addLine N x_built (nI n) f_sorted_places (nI a) (nI st) p3 = some (.inl (0, nI n, f_sorted_places)) := by
      unfold F_X7_addLine
      exact (pu_bind hL).trans rfl
    have hA : F_L_addLine N x_built (nI n) f_sorted_places 1 r_f_arr (nI a) (nI st) p3 = some (1, nI n, f_sorted_places, r_f_arr) := by
      unfold F_L_addLine
      exact (pu_bind hP).trans rfl
    have hM : F_X8_addLine N (nI n) q_x_built q_x_thrown q_f_keys (nI a) (nI st) p3 = some (0, nI n, 1, q_f_keys) := by
      unfold F_X8_addLine J_X8_addLine_48 F_X8_fails
      rw [pu_bind h2, if_neg (by decide), pu_bind (show F_X8_in N (nI st) 1 9999 = some 1 from h4), if_neg (by decide), pu_bind (show F_X8_in N p3 1 40 = some 0 from h6), if_pos rfl]
      rfl
    exact ⟨_, pm_close (J := J_LC_addLine_277 N) (c := 1) hA hM (fun e => absurd e (by decide)), hR⟩
  have e9 : nI m - 1 = nI (m - 1) := pk_sub (b := 1) hm1
  have hms : (m - 1) * st ≤ 39 * 9999 := Nat.mul_le_mul (by omega) hst2
  have hL0 : F_X7_requireLine N (nI a) (nI st) (nI m) = (F_X7_requireKey N (nI (a + (m - 1) * st))).bind fun v8 => Sum.elim (fun x9 => some (.inl x9)) (fun _ => some (.inr ())) v8 := by
    unfold F_X7_requireLine
    rw [pu_bind h3, Sum.elim_inr, if_neg (show ¬ nI st < 1 from nI_nlt (b := 1) hst (by omega)), if_pos (show nI st ≤ 9999 from nI_le (b := 9999) hst2 (by decide)), if_neg (show ¬ nI m < 1 from nI_nlt (b := 1) hm1 (by omega)), if_pos (show nI m ≤ 40 from nI_le (b := 40) hm (by decide)), e9, pk_mul, nI_add]
  have hsum : nI a + nI st * (nI m - 1) = nI (a + (m - 1) * st) := by rw [e9, pk_mul, nI_add, Nat.mul_comm]
  by_cases hl : a + (m - 1) * st < 100000
  case neg =>
    have hL : F_X7_requireLine N (nI a) (nI st) (nI m) = some (.inl 0) := by
      rw [hL0]
      unfold F_X7_requireKey J_X7_requireKey_10
      rw [if_neg (nI_pos (by omega)), if_neg (show ¬ nI (a + (m - 1) * st) ≤ 99999 from nI_ge (a := 99999) (by omega) (by omega))]
      rfl
    have hP : F_X7_addLine N x_built (nI n) f_sorted_places (nI a) (nI st) (nI m) = some (.inl (0, nI n, f_sorted_places)) := by
      unfold F_X7_addLine
      exact (pu_bind hL).trans rfl
    have hA : F_L_addLine N x_built (nI n) f_sorted_places 1 r_f_arr (nI a) (nI st) (nI m) = some (1, nI n, f_sorted_places, r_f_arr) := by
      unfold F_L_addLine
      exact (pu_bind hP).trans rfl
    have hM : F_X8_addLine N (nI n) q_x_built q_x_thrown q_f_keys (nI a) (nI st) (nI m) = some (0, nI n, 1, q_f_keys) := by
      unfold F_X8_addLine J_X8_addLine_48 F_X8_fails
      rw [pu_bind h2, if_neg (by decide), pu_bind (show F_X8_in N (nI st) 1 9999 = some 1 from h4), if_neg (by decide), pu_bind (show F_X8_in N (nI m) 1 40 = some 1 from h6), if_neg (by decide), hsum, if_neg (show ¬ nI (a + (m - 1) * st) ≤ 99999 from nI_ge (a := 99999) (by omega) (by omega))]
      rfl
    exact ⟨_, pm_close (J := J_LC_addLine_277 N) (c := 1) hA hM (fun e => absurd e (by decide)), hR⟩
  have hL : F_X7_requireLine N (nI a) (nI st) (nI m) = some (.inr ()) := by
    rw [hL0]
    unfold F_X7_requireKey
    rw [if_neg (nI_pos (by omega)), if_pos (show nI (a + (m - 1) * st) ≤ 99999 from nI_le (b := 99999) (by omega) (by decide))]
    rfl
  have hfr := pu_fresh (N := N) (a := a) (st := st) (m := m) (by omega) hk hf hq hm hl
  have hcm : cc (abB κ n a st) m ≤ m := cc_le _ _
  rcases hb with ⟨rfl, rfl⟩ | ⟨rfl, rfl, hB⟩
  case inr =>
    have hP : F_X7_addLine N 1 (nI n) f_sorted_places (nI a) (nI st) (nI m) = some (.inl (1, nI n, f_sorted_places)) := by
      unfold F_X7_addLine
      rw [pu_bind hL, Sum.elim_inr]
      exact (pu_bind op_1).trans rfl
    have hA : F_L_addLine N 1 (nI n) f_sorted_places 1 r_f_arr (nI a) (nI st) (nI m) = some (2, nI n, f_sorted_places, r_f_arr) := by
      unfold F_L_addLine
      exact (pu_bind hP).trans rfl
    have hM : F_X8_addLine N (nI n) 1 q_x_thrown q_f_keys (nI a) (nI st) (nI m) = some (0, nI n, 2, q_f_keys) := by
      unfold F_X8_addLine J_X8_addLine_95 J_X8_addLine_114 F_X8_fails
      rw [pu_bind h2, if_neg (by decide), pu_bind (show F_X8_in N (nI st) 1 9999 = some 1 from h4), if_neg (by decide), pu_bind (show F_X8_in N (nI m) 1 40 = some 1 from h6), if_neg (by decide), hsum, if_pos (show nI (a + (m - 1) * st) ≤ 99999 from nI_le (b := 99999) (by omega) (by decide)), pu_bind hfr.2, if_neg (by decide)]
      rfl
    exact ⟨_, pm_close (J := J_LC_addLine_277 N) (c := 2) hA hM (fun e => absurd e (by decide)), hR⟩
  by_cases hroom : n + cc (abB κ n a st) m ≤ 120
  case neg =>
    have hP : F_X7_addLine N 0 (nI n) f_sorted_places (nI a) (nI st) (nI m) = some (.inl (1, nI n, f_sorted_places)) := by
      unfold F_X7_addLine
      rw [pu_bind hL, Sum.elim_inr, pu_bind op_0, Sum.elim_inr, pu_bind hfr.1, pu_bind (room_f (by omega) (by omega))]
      rfl
    have hA : F_L_addLine N 0 (nI n) f_sorted_places 1 r_f_arr (nI a) (nI st) (nI m) = some (2, nI n, f_sorted_places, r_f_arr) := by
      unfold F_L_addLine
      exact (pu_bind hP).trans rfl
    have hM : F_X8_addLine N (nI n) 0 q_x_thrown q_f_keys (nI a) (nI st) (nI m) = some (0, nI n, 2, q_f_keys) := by
      unfold F_X8_addLine J_X8_addLine_95 J_X8_addLine_114 F_X8_fails
      rw [pu_bind h2, if_neg (by decide), pu_bind (show F_X8_in N (nI st) 1 9999 = some 1 from h4), if_neg (by decide), pu_bind (show F_X8_in N (nI m) 1 40 = some 1 from h6), if_neg (by decide), hsum, if_pos (show nI (a + (m - 1) * st) ≤ 99999 from nI_le (b := 99999) (by omega) (by decide)), pu_bind hfr.2, if_pos rfl, nI_add, if_neg (show ¬ nI (n + cc (abB κ n a st) m) ≤ 120 from nI_ge (a := 120) (by omega) (by omega))]
      rfl
    exact ⟨_, pm_close (J := J_LC_addLine_277 N) (c := 2) hA hM (fun e => absurd e (by decide)), hR⟩
  obtain ⟨κ', n', g1, g2, i1, i2, i3, i4, i5⟩ := pu_line (N := N) (by omega) hk hf hq hst hm hl hroom
  have hP : F_X7_addLine N 0 (nI n) f_sorted_places (nI a) (nI st) (nI m) = some (.inr (nI n', nI n', g1)) := by
    unfold F_X7_addLine J_X7_addLine_65
    rw [pu_bind hL, Sum.elim_inr, pu_bind op_0, Sum.elim_inr, pu_bind hfr.1, pu_bind (room_t hroom), Sum.elim_inr, pu_bind i1]
  have hA : F_L_addLine N 0 (nI n) f_sorted_places 1 r_f_arr (nI a) (nI st) (nI m) = some (0, nI n', g1, vp_updL r_f_arr 0 (Int32.toInt64 (nI n'))) := by
    unfold F_L_addLine
    rw [pu_bind hP, Sum.elim_inr, pu_bind pu_w0]
  have hM : F_X8_addLine N (nI n) 0 q_x_thrown q_f_keys (nI a) (nI st) (nI m) = some (nI n', nI n', 0, g2) := by
    unfold F_X8_addLine J_X8_addLine_95 J_X8_addLine_158
    rw [pu_bind h2, if_neg (by decide), pu_bind (show F_X8_in N (nI st) 1 9999 = some 1 from h4), if_neg (by decide), pu_bind (show F_X8_in N (nI m) 1 40 = some 1 from h6), if_neg (by decide), hsum, if_pos (show nI (a + (m - 1) * st) ≤ 99999 from nI_le (b := 99999) (by omega) (by decide)), pu_bind hfr.2, if_pos rfl, nI_add, if_pos (show nI (n + cc (abB κ n a st) m) ≤ 120 from nI_le (b := 120) hroom (by decide)), pu_bind i2]
  exact ⟨_, pm_close (J := J_LC_addLine_277 N) (c := 0) hA hM (fun _ => pk_uLs), _, _, ⟨i3, rfl, rfl, i4, i5⟩, hb0, Or.inl ⟨rfl, rfl⟩⟩

