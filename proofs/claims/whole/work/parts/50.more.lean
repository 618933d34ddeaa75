/-! ===== has, word, reopen, strangers ===== -/
theorem cs_has {N : Nat} {x_built : Int32} {x_sorted_size : Int32} {f_sorted_places : Nat → Int32} {x_fingerprintMask : Int32} {x_displacer_keyCount : Int32} {x_displacer_bucketCount : Int32} {x_displacer_seed : Int32} {f_displacer_ranksByBucket_begins : Nat → Int32} {f_displacer_displacements : Nat → Int32} {f_displacer_ranksByNumber : Nat → Int32} {x_packer_bitsEach : Int32} {x_packer_wordCount : Int32} {f_packer_words : Nat → Int64} {x_graph_keyCount : Int32} {x_graph_vertexCount : Int32} {x_graph_seed : Int32} {f_graph_values : Nat → Int32} {f_fingerprints : Nat → Int32} {q_x_many : Int32} {q_x_built : Int32} {q_x_seed : Int32} {q_x_graphSeed : Int32} {q_x_bits : Int32} {q_x_bucketMany : Int32} {q_x_width : Int32} {q_f_keys : Nat → Int32} {q_f_sizes : Nat → Int32} {q_f_shift : Nat → Int32} {q_f_owner : Nat → Int32} {q_f_prints : Nat → Int32} {q_f_words : Nat → Int64} {q_f_values : Nat → Int32} (hFu : 6000 ≤ N) (h : Rel x_built x_sorted_size f_sorted_places x_fingerprintMask x_displacer_keyCount x_displacer_bucketCount x_displacer_seed f_displacer_ranksByBucket_begins f_displacer_displacements f_displacer_ranksByNumber x_packer_bitsEach x_packer_wordCount f_packer_words x_graph_keyCount x_graph_vertexCount x_graph_seed f_graph_values f_fingerprints q_x_many q_x_built q_x_seed q_x_graphSeed q_x_bits q_x_bucketMany q_x_width q_f_keys q_f_sizes q_f_shift q_f_owner q_f_prints q_f_words q_f_values) (q_x_thrown : Int32) (r_f_arr : Nat → Int64) (p1 : Int32) : ∃ x, S_has N x_sorted_size f_sorted_places q_x_many q_x_thrown q_f_keys r_f_arr p1 = some x := by
  obtain ⟨κ, n, ⟨hk, rfl, rfl, hf, hq⟩, ⟨b0, hb0, hqb⟩, hb⟩ := h
  have hn := hk.1
  unfold S_has
  rcases pr_key (N := N) p1 with ⟨h3, h2⟩ | ⟨key, hkey, rfl, h3, h2⟩
  · have hP : F_X7_has N (nI n) f_sorted_places p1 = some (.inl 0) := by
      unfold F_X7_has
      exact (pu_bind h3).trans rfl
    have hA : F_L_has N (nI n) f_sorted_places 1 r_f_arr p1 = some (1, r_f_arr) := by
      unfold F_L_has
      exact (pu_bind hP).trans rfl
    have hM : F_X8_has N (nI n) q_x_thrown q_f_keys p1 = some (0, 1) := by
      unfold F_X8_has F_X8_fails
      rw [pu_bind h2, if_pos rfl]
      rfl
    rw [pu_bind hA, pu_bind hM]
    exact ⟨_, rfl⟩
  · obtain ⟨v, hv, e1, e2⟩ : ∃ v : Int32, (v = 0 ∨ v = 1) ∧ F_X4_holds N (nI n) f_sorted_places (nI key) = some v ∧ F_X8_is N (nI n) q_f_keys (nI key) = some v := by
      have q1 := pu_holds (N := N) (by omega) hk hf hkey
      have q2 := pu_is (N := N) (by omega) hk hq hkey
      by_cases e : InK κ n key
      · exact ⟨1, Or.inr rfl, q1.1 e, q2.1 e⟩
      · exact ⟨0, Or.inl rfl, q1.2 e, q2.2 e⟩
    have hbl : kk_bl v = some () := by rcases hv with rfl | rfl <;> rfl
    have hP : F_X7_has N (nI n) f_sorted_places (nI key) = some (.inr v) := by
      unfold F_X7_has
      rw [pu_bind h3, Sum.elim_inr, pu_bind e1, pu_bind hbl]
    have hM : F_X8_has N (nI n) q_x_thrown q_f_keys (nI key) = some (v, 0) := by
      unfold F_X8_has
      rw [pu_bind h2, if_neg (by decide), pu_bind e2, pu_bind hbl]
    have hA : F_L_has N (nI n) f_sorted_places 1 r_f_arr (nI key) = some (0, vp_updL r_f_arr 0 (Int32.toInt64 v)) := by
      unfold F_L_has J_L_has_15
      rw [pu_bind hP]
      rw [Sum.elim_inr]
      rcases hv with rfl | rfl
      · rw [if_pos rfl, pu_bind pu_w0]; rfl
      · rw [if_neg (by decide), pu_bind pu_w0]; rfl
    unfold F_X8_thrown
    rw [pu_bind hA, pu_bind hM, pu_bind (a := (0 : Int32)) rfl]
    dsimp only
    rw [if_pos rfl, if_pos rfl, pu_bind pu_r0, pk_uLs]
    rcases hv with rfl | rfl
    · rw [if_pos rfl]
      exact ⟨_, rfl⟩
    · rw [if_neg (by decide)]
      exact ⟨_, rfl⟩

theorem pq_closeL {τ : Type} {N : Nat} {A : Option (Int32 × (Nat → Int64))} {M : Option (Int64 × Int32)} {J : Int32 → (Nat → Int64) → Option τ} {c : Int32} {v : Int64} {arr : Nat → Int64} (hA : A = some (c, arr)) (hM : M = some (v, c)) (h : c = 0 → arr 0 = v) (hJ : ∀ a b, ∃ x, J a b = some x) :
    ∃ x, (A.bind fun v1 => M.bind fun v2 => (F_X8_thrown N v2.2).bind fun v3 => if v3 = v1.1 then if v1.1 = 0 then (kk_rd 1 v1.2 0).bind fun v6 => if (lg_cmp v6 v2.1) = 0 then J v2.2 v1.2 else none else J v2.2 v1.2 else none) = some x := by
  rw [pu_bind hA, pu_bind hM]
  unfold F_X8_thrown
  rw [pu_bind (a := c) rfl]
  dsimp only
  rw [if_pos rfl]
  by_cases e : c = 0
  · rw [if_pos e, pu_bind pu_r0, h e, lg_refl, if_pos rfl]
    exact hJ _ _
  · rw [if_neg e]
    exact hJ _ _

theorem cs_word {N : Nat} {x_built : Int32} {x_sorted_size : Int32} {f_sorted_places : Nat → Int32} {x_fingerprintMask : Int32} {x_displacer_keyCount : Int32} {x_displacer_bucketCount : Int32} {x_displacer_seed : Int32} {f_displacer_ranksByBucket_begins : Nat → Int32} {f_displacer_displacements : Nat → Int32} {f_displacer_ranksByNumber : Nat → Int32} {x_packer_bitsEach : Int32} {x_packer_wordCount : Int32} {f_packer_words : Nat → Int64} {x_graph_keyCount : Int32} {x_graph_vertexCount : Int32} {x_graph_seed : Int32} {f_graph_values : Nat → Int32} {f_fingerprints : Nat → Int32} {q_x_many : Int32} {q_x_built : Int32} {q_x_seed : Int32} {q_x_graphSeed : Int32} {q_x_bits : Int32} {q_x_bucketMany : Int32} {q_x_width : Int32} {q_f_keys : Nat → Int32} {q_f_sizes : Nat → Int32} {q_f_shift : Nat → Int32} {q_f_owner : Nat → Int32} {q_f_prints : Nat → Int32} {q_f_words : Nat → Int64} {q_f_values : Nat → Int32} (hFu : 6000 ≤ N) (h : Rel x_built x_sorted_size f_sorted_places x_fingerprintMask x_displacer_keyCount x_displacer_bucketCount x_displacer_seed f_displacer_ranksByBucket_begins f_displacer_displacements f_displacer_ranksByNumber x_packer_bitsEach x_packer_wordCount f_packer_words x_graph_keyCount x_graph_vertexCount x_graph_seed f_graph_values f_fingerprints q_x_many q_x_built q_x_seed q_x_graphSeed q_x_bits q_x_bucketMany q_x_width q_f_keys q_f_sizes q_f_shift q_f_owner q_f_prints q_f_words q_f_values) (q_x_thrown : Int32) (r_f_arr : Nat → Int64) (p1 : Int32) : ∃ x, S_word N x_built x_packer_wordCount f_packer_words q_x_built q_x_bucketMany q_x_width q_x_thrown q_f_words r_f_arr p1 = some x := by
  obtain ⟨κ, n, ⟨hk, rfl, rfl, hf, hq⟩, ⟨b0, hb0, hqb⟩, hb⟩ := h
  have hn := hk.1
  unfold S_word
  rcases hb with ⟨rfl, rfl⟩ | ⟨rfl, rfl, B, s, g, nb, W, d, mu, ⟨h1, h0, hB, hs, hg, hnb1, hnb, hW1, hW7⟩, ⟨rfl, rfl, hqB, rfl, rfl⟩, hd, ⟨hfb, hsz⟩, ⟨hrn, hrk⟩, ⟨rfl, rfl⟩, hfp, ⟨rfl, rfl, rfl, hpw⟩, rfl, rfl, rfl, rfl, hv⟩
  · have hP : F_X7_word N 0 x_packer_wordCount f_packer_words p1 = some (.inl 1) := by
      unfold F_X7_word
      exact (pu_bind bu_0).trans rfl
    have hA : F_L_word N 0 x_packer_wordCount f_packer_words 1 r_f_arr p1 = some (1, r_f_arr) := by
      unfold F_L_word
      exact (pu_bind hP).trans rfl
    have hM : F_X8_word N 0 q_x_bucketMany q_x_width q_x_thrown q_f_words p1 = some (0, 1) := by
      unfold F_X8_word F_X8_fails
      rw [if_pos rfl]
      rfl
    exact pq_closeL (J := J_LC_word_1161 N) (c := 1) hA hM (fun e => absurd e (by decide)) (fun _ _ => ⟨_, rfl⟩)
  · have hBW : B * W ≤ 120 * 7 := Nat.mul_le_mul hB hW7
    have hBW1 : 1 ≤ B * W := Nat.mul_pos h0 hW1
    have hbd : kk_div (nI B * nI W - 1) 64 = nI ((B * W + 63) / 64) - 1 := by
      have e1 : nI (B * W) - 1 = nI (B * W - 1) := pk_sub (b := 1) hBW1
      have e2 : nI ((B * W + 63) / 64) - 1 = nI ((B * W + 63) / 64 - 1) := pk_sub (b := 1) (by omega)
      rw [pk_mul, e1, e2, pu_div64 (by omega)]
      congr 1
      omega
    rcases pr_below (N := N) (m := (B * W + 63) / 64) (by omega) p1 with ⟨h3, h2⟩ | ⟨k, hk2, rfl, h3, h2⟩
    · have hP : F_X7_word N 1 (nI ((B * W + 63) / 64)) f_packer_words p1 = some (.inl 2) := by
        unfold F_X7_word
        rw [pu_bind bu_1, Sum.elim_inr]
        exact (pu_bind h3).trans rfl
      have hA : F_L_word N 1 (nI ((B * W + 63) / 64)) f_packer_words 1 r_f_arr p1 = some (2, r_f_arr) := by
        unfold F_L_word
        exact (pu_bind hP).trans rfl
      have hM : F_X8_word N 1 q_x_bucketMany (nI W) q_x_thrown q_f_words p1 = some (0, 2) := by
        unfold F_X8_word F_X8_fails J_X8_word_56
        rw [if_neg (by decide), hqB, hbd, pu_bind h2, if_pos rfl]
        rfl
      exact pq_closeL (J := J_LC_word_1161 N) (c := 2) hA hM (fun e => absurd e (by decide)) (fun _ _ => ⟨_, rfl⟩)
    · have hpv : F_X5_wordAt N f_packer_words (nI k) = some (q_f_words k) := by
        unfold F_X5_wordAt J_X5_wordAt_23
        rw [if_neg (nI_pos (by omega)), if_neg (nI_ge (by omega) (by decide)), pu_bind (pu_rd (by omega) (by decide)), hpw k (by omega)]
      have hP : F_X7_word N 1 (nI ((B * W + 63) / 64)) f_packer_words (nI k) = some (.inr (q_f_words k)) := by
        unfold F_X7_word
        rw [pu_bind bu_1, Sum.elim_inr, pu_bind h3, Sum.elim_inr]
        exact (pu_bind hpv).trans rfl
      have hA : F_L_word N 1 (nI ((B * W + 63) / 64)) f_packer_words 1 r_f_arr (nI k) = some (0, vp_updL r_f_arr 0 (q_f_words k)) := by
        unfold F_L_word
        rw [pu_bind hP]
        rw [Sum.elim_inr, pu_bind pu_w0]
      have hM : F_X8_word N 1 q_x_bucketMany (nI W) q_x_thrown q_f_words (nI k) = some (q_f_words k, 0) := by
        unfold F_X8_word J_X8_word_56
        rw [if_neg (by decide), hqB, hbd, pu_bind h2, if_neg (by decide), pu_bind (pu_rd (by omega) (by decide))]
      exact pq_closeL (J := J_LC_word_1161 N) (c := 0) hA hM (fun _ => pk_uLs) (fun _ _ => ⟨_, rfl⟩)

theorem cs_strangers {N : Nat} {x_built : Int32} {x_sorted_size : Int32} {f_sorted_places : Nat → Int32} {x_fingerprintMask : Int32} {x_displacer_keyCount : Int32} {x_displacer_bucketCount : Int32} {x_displacer_seed : Int32} {f_displacer_ranksByBucket_begins : Nat → Int32} {f_displacer_displacements : Nat → Int32} {f_displacer_ranksByNumber : Nat → Int32} {x_packer_bitsEach : Int32} {x_packer_wordCount : Int32} {f_packer_words : Nat → Int64} {x_graph_keyCount : Int32} {x_graph_vertexCount : Int32} {x_graph_seed : Int32} {f_graph_values : Nat → Int32} {f_fingerprints : Nat → Int32} {q_x_many : Int32} {q_x_built : Int32} {q_x_seed : Int32} {q_x_graphSeed : Int32} {q_x_bits : Int32} {q_x_bucketMany : Int32} {q_x_width : Int32} {q_f_keys : Nat → Int32} {q_f_sizes : Nat → Int32} {q_f_shift : Nat → Int32} {q_f_owner : Nat → Int32} {q_f_prints : Nat → Int32} {q_f_words : Nat → Int64} {q_f_values : Nat → Int32} (hFu : 6000 ≤ N) (h : Rel x_built x_sorted_size f_sorted_places x_fingerprintMask x_displacer_keyCount x_displacer_bucketCount x_displacer_seed f_displacer_ranksByBucket_begins f_displacer_displacements f_displacer_ranksByNumber x_packer_bitsEach x_packer_wordCount f_packer_words x_graph_keyCount x_graph_vertexCount x_graph_seed f_graph_values f_fingerprints q_x_many q_x_built q_x_seed q_x_graphSeed q_x_bits q_x_bucketMany q_x_width q_f_keys q_f_sizes q_f_shift q_f_owner q_f_prints q_f_words q_f_values) (q_x_thrown : Int32) (r_f_arr : Nat → Int64) (p1 : Int32) (p2 : Int32) : ∃ x, S_strangers N x_fingerprintMask x_built f_sorted_places x_displacer_keyCount x_displacer_bucketCount x_displacer_seed f_displacer_displacements f_displacer_ranksByNumber f_fingerprints q_x_many q_x_built q_x_seed q_x_bits q_x_bucketMany q_x_thrown q_f_keys q_f_shift q_f_prints r_f_arr p1 p2 = some x := by
  obtain ⟨κ, n, ⟨hk, rfl, rfl, hf, hq⟩, ⟨b0, hb0, hqb⟩, hb⟩ := h
  have hn := hk.1
  unfold S_strangers
  rcases pr_key (N := N) p1 with ⟨h3, h2⟩ | ⟨a, ha, rfl, h3, h2⟩
  · have hP : F_X7_strangers N x_fingerprintMask x_built f_sorted_places x_displacer_keyCount x_displacer_bucketCount x_displacer_seed f_displacer_displacements f_displacer_ranksByNumber f_fingerprints p1 p2 = some (.inl 0) := by
      unfold F_X7_strangers
      exact (pu_bind h3).trans rfl
    have hA : F_L_strangers N x_fingerprintMask x_built f_sorted_places x_displacer_keyCount x_displacer_bucketCount x_displacer_seed f_displacer_displacements f_displacer_ranksByNumber f_fingerprints 1 r_f_arr p1 p2 = some (1, r_f_arr) := by
      unfold F_L_strangers
      exact (pu_bind hP).trans rfl
    have hM : F_X8_strangers N (nI n) q_x_built q_x_seed q_x_bits q_x_bucketMany q_x_thrown q_f_keys q_f_shift q_f_prints p1 p2 = some (0, 1) := by
      unfold F_X8_strangers J_X8_strangers_34 F_X8_fails
      rw [pu_bind h2, if_pos rfl]
      rfl
    exact pq_close (J := J_LC_strangers_750 N) (c := 1) hA hM (fun e => absurd e (by decide)) (fun _ _ => ⟨_, rfl⟩)
  rcases pr_key (N := N) p2 with ⟨h5, h4⟩ | ⟨b, hb2, rfl, h5, h4⟩
  · have h6 : F_X8_in N p2 (nI a) 99999 = some 0 := by
      refine in_f ?_
      rcases pr_rng p2 0 99999 (by decide) (by decide) with (h | h) | ⟨k, _, h, rfl⟩
      · exact Or.inl (Int32.lt_of_lt_of_le h (nI_le (Nat.zero_le a) (by omega)))
      · exact Or.inr h
      · exfalso
        rw [in_t (nI_pos (by omega)) (show ¬ (99999 : Int32) < nI k from nI_nlt (a := 99999) h (by decide))] at h4
        exact absurd (Option.some.inj h4) (by decide)
    have hP : F_X7_strangers N x_fingerprintMask x_built f_sorted_places x_displacer_keyCount x_displacer_bucketCount x_displacer_seed f_displacer_displacements f_displacer_ranksByNumber f_fingerprints (nI a) p2 = some (.inl 0) := by
      unfold F_X7_strangers
      rw [pu_bind h3, Sum.elim_inr]
      exact (pu_bind h5).trans rfl
    have hA : F_L_strangers N x_fingerprintMask x_built f_sorted_places x_displacer_keyCount x_displacer_bucketCount x_displacer_seed f_displacer_displacements f_displacer_ranksByNumber f_fingerprints 1 r_f_arr (nI a) p2 = some (1, r_f_arr) := by
      unfold F_L_strangers
      exact (pu_bind hP).trans rfl
    have hM : F_X8_strangers N (nI n) q_x_built q_x_seed q_x_bits q_x_bucketMany q_x_thrown q_f_keys q_f_shift q_f_prints (nI a) p2 = some (0, 1) := by
      unfold F_X8_strangers J_X8_strangers_34 F_X8_fails
      rw [pu_bind h2, if_neg (by decide), pu_bind h6, if_pos rfl]
      rfl
    exact pq_close (J := J_LC_strangers_750 N) (c := 1) hA hM (fun e => absurd e (by decide)) (fun _ _ => ⟨_, rfl⟩)
  rcases Nat.lt_or_ge b a with hab | hab
  · have h6 : F_X8_in N (nI b) (nI a) 99999 = some 0 := in_f (Or.inl (nI_lt hab (by omega)))
    have hP : F_X7_strangers N x_fingerprintMask x_built f_sorted_places x_displacer_keyCount x_displacer_bucketCount x_displacer_seed f_displacer_displacements f_displacer_ranksByNumber f_fingerprints (nI a) (nI b) = some (.inl 0) := by
      unfold F_X7_strangers J_X7_strangers_22
      rw [pu_bind h3, Sum.elim_inr, pu_bind h5, Sum.elim_inr, if_pos (nI_lt hab (by omega))]
    have hA : F_L_strangers N x_fingerprintMask x_built f_sorted_places x_displacer_keyCount x_displacer_bucketCount x_displacer_seed f_displacer_displacements f_displacer_ranksByNumber f_fingerprints 1 r_f_arr (nI a) (nI b) = some (1, r_f_arr) := by
      unfold F_L_strangers
      exact (pu_bind hP).trans rfl
    have hM : F_X8_strangers N (nI n) q_x_built q_x_seed q_x_bits q_x_bucketMany q_x_thrown q_f_keys q_f_shift q_f_prints (nI a) (nI b) = some (0, 1) := by
      unfold F_X8_strangers J_X8_strangers_34 F_X8_fails
      rw [pu_bind h2, if_neg (by decide), pu_bind h6, if_pos rfl]
      rfl
    exact pq_close (J := J_LC_strangers_750 N) (c := 1) hA hM (fun e => absurd e (by decide)) (fun _ _ => ⟨_, rfl⟩)
  have h6 : F_X8_in N (nI b) (nI a) 99999 = some 1 := in_t (nI_nlt hab (by omega)) (show ¬ nI 99999 < nI b from nI_nlt (by omega) (by decide))
  by_cases h7 : b - a ≤ 4999
  case neg =>
    have hP : F_X7_strangers N x_fingerprintMask x_built f_sorted_places x_displacer_keyCount x_displacer_bucketCount x_displacer_seed f_displacer_displacements f_displacer_ranksByNumber f_fingerprints (nI a) (nI b) = some (.inl 0) := by
      unfold F_X7_strangers J_X7_strangers_22
      rw [pu_bind h3, Sum.elim_inr, pu_bind h5, Sum.elim_inr, if_neg (nI_nlt hab (by omega)), pk_sub hab, if_neg (show ¬ nI (b - a) ≤ 4999 from nI_ge (a := 4999) (by omega) (by omega))]
    have hA : F_L_strangers N x_fingerprintMask x_built f_sorted_places x_displacer_keyCount x_displacer_bucketCount x_displacer_seed f_displacer_displacements f_displacer_ranksByNumber f_fingerprints 1 r_f_arr (nI a) (nI b) = some (1, r_f_arr) := by
      unfold F_L_strangers
      exact (pu_bind hP).trans rfl
    have hM : F_X8_strangers N (nI n) q_x_built q_x_seed q_x_bits q_x_bucketMany q_x_thrown q_f_keys q_f_shift q_f_prints (nI a) (nI b) = some (0, 1) := by
      unfold F_X8_strangers J_X8_strangers_34 F_X8_fails
      rw [pu_bind h2, if_neg (by decide), pu_bind h6, if_neg (by decide), pk_sub hab, if_neg (show ¬ nI (b - a) ≤ 4999 from nI_ge (a := 4999) (by omega) (by omega))]
      rfl
    exact pq_close (J := J_LC_strangers_750 N) (c := 1) hA hM (fun e => absurd e (by decide)) (fun _ _ => ⟨_, rfl⟩)
  rcases hb with ⟨rfl, rfl⟩ | ⟨rfl, rfl, B, s, g, nb, W, d, mu, ⟨h1, h0, hB, hs, hg, hnb1, hnb, hW1, hW7⟩, ⟨rfl, rfl, hqB, rfl, rfl⟩, hd, ⟨hfb, hsz⟩, ⟨hrn, hrk⟩, ⟨rfl, rfl⟩, hfp, ⟨rfl, rfl, rfl, hpw⟩, rfl, rfl, rfl, rfl, hv⟩
  · have hP : F_X7_strangers N x_fingerprintMask 0 f_sorted_places x_displacer_keyCount x_displacer_bucketCount x_displacer_seed f_displacer_displacements f_displacer_ranksByNumber f_fingerprints (nI a) (nI b) = some (.inl 1) := by
      unfold F_X7_strangers
      rw [pu_bind h3, Sum.elim_inr, pu_bind h5, Sum.elim_inr, if_neg (nI_nlt hab (by omega)), pk_sub hab, if_pos (show nI (b - a) ≤ 4999 from nI_le (b := 4999) h7 (by decide))]
      exact (pu_bind bu_0).trans rfl
    have hA : F_L_strangers N x_fingerprintMask 0 f_sorted_places x_displacer_keyCount x_displacer_bucketCount x_displacer_seed f_displacer_displacements f_displacer_ranksByNumber f_fingerprints 1 r_f_arr (nI a) (nI b) = some (2, r_f_arr) := by
      unfold F_L_strangers
      exact (pu_bind hP).trans rfl
    have hM : F_X8_strangers N (nI n) 0 q_x_seed q_x_bits q_x_bucketMany q_x_thrown q_f_keys q_f_shift q_f_prints (nI a) (nI b) = some (0, 2) := by
      unfold F_X8_strangers F_X8_fails
      rw [pu_bind h2, if_neg (by decide), pu_bind h6, if_neg (by decide), pk_sub hab, if_pos (show nI (b - a) ≤ 4999 from nI_le (b := 4999) h7 (by decide)), if_pos rfl]
      rfl
    exact pq_close (J := J_LC_strangers_750 N) (c := 2) hA hM (fun e => absurd e (by decide)) (fun _ _ => ⟨_, rfl⟩)
  · obtain ⟨r, w, e1, e2, e3⟩ := pu_up2 (f := fun (σ : (Int32 × Int32)) => L_X7_strangers_41 N (nI (2 ^ nb - 1)) f_sorted_places (nI n) (nI B) (nI s) f_displacer_displacements f_displacer_ranksByNumber f_fingerprints (nI b) σ.1 σ.2) (g := fun (σ : (Int32 × Int32)) => L_X8_strangers_58 N (nI n) (nI s) (nI nb) q_x_bucketMany q_f_keys q_f_shift q_f_prints (nI b) σ.1 σ.2)
      (fun i σ υ => σ = υ ∧ σ.2 = nI (a + i)) (fun r w => r = w) (b + 1 - a)
      (fun i σ υ hi hσ => by
        obtain ⟨rfl, h8⟩ := hσ
        obtain ⟨x, y⟩ := σ
        dsimp only at h8 ⊢
        subst h8
        left
        obtain ⟨v, hpv, hmv, hv9⟩ := pu_look (N := N) h1 hn h0 hB hs hnb (show a + i < 100000 by omega) hd hfp
        have q2 := pu_is (N := N) (by omega) hk hq (show a + i < 100000 by omega)
        unfold L_X7_strangers_41 L_X8_strangers_58 J_X7_strangers_75 J_X8_strangers_88 J_X8_strangers_89
        rw [if_neg (nI_nlt (by omega) (by omega)), if_neg (nI_nlt (by omega) (by omega)), pu_bind hpv, hqB, pu_bind hmv, nI_1]
        by_cases e : v = -1
        · rw [if_pos e, if_pos e, Int32.add_zero]
          exact ⟨_, _, rfl, rfl, rfl, rfl⟩
        · rw [if_neg e, if_neg e]
          have hat : atN n s (d (bkN B s (a + i))) (a + i) < n := atN_lt h1
          obtain ⟨r1, hr1, hr2, _⟩ := hrn _ hat
          have hkr := hk.2.2 r1 hr1
          have hkw := pu_kwn (N := N) hn hat hr1 hf hr2
          rw [hv9.resolve_left e]
          by_cases e2 : InK κ n (a + i)
          · have e3 : κ r1 = a + i := by
              obtain ⟨r0, hr0, e4⟩ := e2
              have h9 := hrk r0 hr0
              rw [e4, hr2] at h9
              rw [(nI_eq (by omega) (by omega)).mp h9, e4]
            rw [pu_bind hkw, pu_bind (q2.1 e2), if_pos (congrArg nI e3), if_neg (by decide), Int32.add_zero]
            exact ⟨_, _, rfl, rfl, rfl, rfl⟩
          · rw [pu_bind hkw, pu_bind (q2.2 e2), if_neg (fun e3 => e2 ⟨r1, hr1, (nI_eq (by omega) (by omega)).mp e3⟩), if_pos rfl]
            exact ⟨_, _, rfl, rfl, rfl, rfl⟩)
      (fun σ υ hσ => by
        obtain ⟨rfl, h8⟩ := hσ
        obtain ⟨x, y⟩ := σ
        dsimp only at h8 ⊢
        subst h8
        unfold L_X7_strangers_41 L_X8_strangers_58
        rw [if_pos (nI_lt (by omega) (by omega)), if_pos (nI_lt (by omega) (by omega))]
        exact ⟨_, _, rfl, rfl, rfl⟩)
      N 0 (0, nI a) (0, nI a) (Nat.zero_le _) (by omega) ⟨rfl, rfl⟩
    subst e3
    have hP : F_X7_strangers N (nI (2 ^ nb - 1)) 1 f_sorted_places (nI n) (nI B) (nI s) f_displacer_displacements f_displacer_ranksByNumber f_fingerprints (nI a) (nI b) = some (.inr r) := by
      unfold F_X7_strangers J_X7_strangers_81
      rw [pu_bind h3, Sum.elim_inr, pu_bind h5, Sum.elim_inr, if_neg (nI_nlt hab (by omega)), pk_sub hab, if_pos (show nI (b - a) ≤ 4999 from nI_le (b := 4999) h7 (by decide)), pu_bind bu_1, Sum.elim_inr]
      exact (pu_bind e1).trans rfl
    have hA : F_L_strangers N (nI (2 ^ nb - 1)) 1 f_sorted_places (nI n) (nI B) (nI s) f_displacer_displacements f_displacer_ranksByNumber f_fingerprints 1 r_f_arr (nI a) (nI b) = some (0, vp_updL r_f_arr 0 (Int32.toInt64 r)) := by
      unfold F_L_strangers
      rw [pu_bind hP]
      rw [Sum.elim_inr, pu_bind pu_w0]
    have hM : F_X8_strangers N (nI n) 1 (nI s) (nI nb) q_x_bucketMany q_x_thrown q_f_keys q_f_shift q_f_prints (nI a) (nI b) = some (r, 0) := by
      unfold F_X8_strangers J_X8_strangers_97
      rw [pu_bind h2, if_neg (by decide), pu_bind h6, if_neg (by decide), pk_sub hab, if_pos (show nI (b - a) ≤ 4999 from nI_le (b := 4999) h7 (by decide)), if_neg (by decide)]
      exact (pu_bind e2).trans rfl
    exact pq_close (J := J_LC_strangers_750 N) (c := 0) hA hM (fun _ => pk_uLs) (fun _ _ => ⟨_, rfl⟩)

