/-! ===== the calls that only tell ===== -/
theorem pu_size2 {N κ n B s b} {fb : Nat → Int32} (h : ∀ b, b ≤ B → fb b = nI (cL (grN κ B s) b n)) (hB : B ≤ 120) (hb : b < B) : F_X2_sizeOf N 121 fb (nI b) = some (nI (cN κ n B s b)) := by
  unfold F_X2_sizeOf F_X2_endOf F_X2_beginOf
  rw [nI_1, pu_bind (by rw [pu_bind (pu_get (by omega) (by decide)), h (b + 1) (by omega), cL_b]), pu_bind (by rw [pu_bind (pu_get (by omega) (by decide)), h b (by omega)]), pk_sub (by omega)]
  congr 2
  unfold cN
  omega
theorem cs_keyOf {N : Nat} {x_built : Int32} {x_sorted_size : Int32} {f_sorted_places : Nat → Int32} {x_fingerprintMask : Int32} {x_displacer_keyCount : Int32} {x_displacer_bucketCount : Int32} {x_displacer_seed : Int32} {f_displacer_ranksByBucket_begins : Nat → Int32} {f_displacer_displacements : Nat → Int32} {f_displacer_ranksByNumber : Nat → Int32} {x_packer_bitsEach : Int32} {x_packer_wordCount : Int32} {f_packer_words : Nat → Int64} {x_graph_keyCount : Int32} {x_graph_vertexCount : Int32} {x_graph_seed : Int32} {f_graph_values : Nat → Int32} {f_fingerprints : Nat → Int32} {q_x_many : Int32} {q_x_built : Int32} {q_x_seed : Int32} {q_x_graphSeed : Int32} {q_x_bits : Int32} {q_x_bucketMany : Int32} {q_x_width : Int32} {q_f_keys : Nat → Int32} {q_f_sizes : Nat → Int32} {q_f_shift : Nat → Int32} {q_f_owner : Nat → Int32} {q_f_prints : Nat → Int32} {q_f_words : Nat → Int64} {q_f_values : Nat → Int32} (hFu : 6000 ≤ N) (h : Rel x_built x_sorted_size f_sorted_places x_fingerprintMask x_displacer_keyCount x_displacer_bucketCount x_displacer_seed f_displacer_ranksByBucket_begins f_displacer_displacements f_displacer_ranksByNumber x_packer_bitsEach x_packer_wordCount f_packer_words x_graph_keyCount x_graph_vertexCount x_graph_seed f_graph_values f_fingerprints q_x_many q_x_built q_x_seed q_x_graphSeed q_x_bits q_x_bucketMany q_x_width q_f_keys q_f_sizes q_f_shift q_f_owner q_f_prints q_f_words q_f_values) (q_x_thrown : Int32) (r_f_arr : Nat → Int64) (p1 : Int32) : ∃ x, S_keyOf N x_built x_sorted_size f_sorted_places f_displacer_ranksByNumber q_x_many q_x_built q_x_thrown q_f_owner r_f_arr p1 = some x := by
  obtain ⟨κ, n, ⟨hk, rfl, rfl, hf, hq⟩, ⟨b0, hb0, hqb⟩, hb⟩ := h
  have hn := hk.1
  unfold S_keyOf
  rcases hb with ⟨rfl, rfl⟩ | ⟨rfl, rfl, B, s, g, nb, W, d, mu, ⟨h1, h0, hB, hs, hg, hnb1, hnb, hW1, hW7⟩, ⟨rfl, rfl, hqB, rfl, rfl⟩, hd, ⟨hfb, hsz⟩, ⟨hrn, hrk⟩, ⟨rfl, rfl⟩, hfp, ⟨rfl, rfl, rfl, hpw⟩, rfl, rfl, rfl, rfl, hv⟩
  · have hP : F_X7_keyOf N 0 (nI n) f_sorted_places f_displacer_ranksByNumber p1 = some (.inl 1) := by
      unfold F_X7_keyOf
      exact (pu_bind bu_0).trans rfl
    have hA : F_L_keyOf N 0 (nI n) f_sorted_places f_displacer_ranksByNumber 1 r_f_arr p1 = some (1, r_f_arr) := by
      unfold F_L_keyOf
      exact (pu_bind hP).trans rfl
    have hM : F_X8_keyOf N (nI n) 0 q_x_thrown q_f_owner p1 = some (0, 1) := by
      unfold F_X8_keyOf J_X8_keyOf_33
      rcases pr_below (N := N) (m := n) (by omega) p1 with ⟨_, h2⟩ | ⟨k, hk2, rfl, _, h2⟩
      · rw [pu_bind h2, if_pos rfl, pu_bind told_0]
      · rw [pu_bind h2, if_neg (by decide), pu_bind (pu_rd (by omega) (by decide)), pu_bind told_0]
    exact pq_close (J := J_LC_keyOf_806 N) (c := 1) hA hM (fun e => absurd e (by decide)) (fun _ _ => ⟨_, rfl⟩)
  · rcases pr_below (N := N) (m := n) (by omega) p1 with ⟨h3, h2⟩ | ⟨k, hk2, rfl, h3, h2⟩
    · have hP : F_X7_keyOf N 1 (nI n) f_sorted_places f_displacer_ranksByNumber p1 = some (.inl 2) := by
        unfold F_X7_keyOf
        rw [pu_bind bu_1]
        dsimp only [Sum.elim_inr]
        exact (pu_bind h3).trans rfl
      have hA : F_L_keyOf N 1 (nI n) f_sorted_places f_displacer_ranksByNumber 1 r_f_arr p1 = some (2, r_f_arr) := by
        unfold F_L_keyOf
        exact (pu_bind hP).trans rfl
      have hM : F_X8_keyOf N (nI n) 1 q_x_thrown q_f_owner p1 = some (0, 2) := by
        unfold F_X8_keyOf J_X8_keyOf_33
        rw [pu_bind h2, if_pos rfl, pu_bind told_10]
      exact pq_close (J := J_LC_keyOf_806 N) (c := 2) hA hM (fun e => absurd e (by decide)) (fun _ _ => ⟨_, rfl⟩)
    · obtain ⟨r, hr, hr1, hr2⟩ := hrn k hk2
      have hpv : F_X7_keyWithNumber N f_sorted_places f_displacer_ranksByNumber (nI k) = some (nI (κ r)) := by
        unfold F_X7_keyWithNumber
        rw [pu_bind (pu_get (by omega) (by decide)), hr1, pu_bind (pu_at (by omega)), hf r hr]
      have hP : F_X7_keyOf N 1 (nI n) f_sorted_places f_displacer_ranksByNumber (nI k) = some (.inr (nI (κ r))) := by
        unfold F_X7_keyOf
        rw [pu_bind bu_1]
        dsimp only [Sum.elim_inr]
        rw [pu_bind h3]
        dsimp only [Sum.elim_inr]
        exact (pu_bind hpv).trans rfl
      have hA : F_L_keyOf N 1 (nI n) f_sorted_places f_displacer_ranksByNumber 1 r_f_arr (nI k) = some (0, vp_updL r_f_arr 0 (Int32.toInt64 (nI (κ r)))) := by
        unfold F_L_keyOf
        rw [pu_bind hP]
        rw [Sum.elim_inr, pu_bind pu_w0]
      have hM : F_X8_keyOf N (nI n) 1 q_x_thrown q_f_owner (nI k) = some ((nI (κ r)), 0) := by
        unfold F_X8_keyOf J_X8_keyOf_33
        rw [pu_bind h2, if_neg (by decide), pu_bind (pu_rd (by omega) (by decide)), hr2, pu_bind told_11]
      exact pq_close (J := J_LC_keyOf_806 N) (c := 0) hA hM (fun _ => pk_uLs) (fun _ _ => ⟨_, rfl⟩)

theorem cs_fingerprint {N : Nat} {x_built : Int32} {x_sorted_size : Int32} {f_sorted_places : Nat → Int32} {x_fingerprintMask : Int32} {x_displacer_keyCount : Int32} {x_displacer_bucketCount : Int32} {x_displacer_seed : Int32} {f_displacer_ranksByBucket_begins : Nat → Int32} {f_displacer_displacements : Nat → Int32} {f_displacer_ranksByNumber : Nat → Int32} {x_packer_bitsEach : Int32} {x_packer_wordCount : Int32} {f_packer_words : Nat → Int64} {x_graph_keyCount : Int32} {x_graph_vertexCount : Int32} {x_graph_seed : Int32} {f_graph_values : Nat → Int32} {f_fingerprints : Nat → Int32} {q_x_many : Int32} {q_x_built : Int32} {q_x_seed : Int32} {q_x_graphSeed : Int32} {q_x_bits : Int32} {q_x_bucketMany : Int32} {q_x_width : Int32} {q_f_keys : Nat → Int32} {q_f_sizes : Nat → Int32} {q_f_shift : Nat → Int32} {q_f_owner : Nat → Int32} {q_f_prints : Nat → Int32} {q_f_words : Nat → Int64} {q_f_values : Nat → Int32} (hFu : 6000 ≤ N) (h : Rel x_built x_sorted_size f_sorted_places x_fingerprintMask x_displacer_keyCount x_displacer_bucketCount x_displacer_seed f_displacer_ranksByBucket_begins f_displacer_displacements f_displacer_ranksByNumber x_packer_bitsEach x_packer_wordCount f_packer_words x_graph_keyCount x_graph_vertexCount x_graph_seed f_graph_values f_fingerprints q_x_many q_x_built q_x_seed q_x_graphSeed q_x_bits q_x_bucketMany q_x_width q_f_keys q_f_sizes q_f_shift q_f_owner q_f_prints q_f_words q_f_values) (q_x_thrown : Int32) (r_f_arr : Nat → Int64) (p1 : Int32) : ∃ x, S_fingerprint N x_built x_sorted_size f_fingerprints q_x_many q_x_built q_x_thrown q_f_prints r_f_arr p1 = some x := by
  obtain ⟨κ, n, ⟨hk, rfl, rfl, hf, hq⟩, ⟨b0, hb0, hqb⟩, hb⟩ := h
  have hn := hk.1
  unfold S_fingerprint
  rcases hb with ⟨rfl, rfl⟩ | ⟨rfl, rfl, B, s, g, nb, W, d, mu, ⟨h1, h0, hB, hs, hg, hnb1, hnb, hW1, hW7⟩, ⟨rfl, rfl, hqB, rfl, rfl⟩, hd, ⟨hfb, hsz⟩, ⟨hrn, hrk⟩, ⟨rfl, rfl⟩, hfp, ⟨rfl, rfl, rfl, hpw⟩, rfl, rfl, rfl, rfl, hv⟩
  · have hP : F_X7_fingerprint N 0 (nI n) f_fingerprints p1 = some (.inl 1) := by
      unfold F_X7_fingerprint
      exact (pu_bind bu_0).trans rfl
    have hA : F_L_fingerprint N 0 (nI n) f_fingerprints 1 r_f_arr p1 = some (1, r_f_arr) := by
      unfold F_L_fingerprint
      exact (pu_bind hP).trans rfl
    have hM : F_X8_fingerprint N (nI n) 0 q_x_thrown q_f_prints p1 = some (0, 1) := by
      unfold F_X8_fingerprint J_X8_fingerprint_33
      rcases pr_below (N := N) (m := n) (by omega) p1 with ⟨_, h2⟩ | ⟨k, hk2, rfl, _, h2⟩
      · rw [pu_bind h2, if_pos rfl, pu_bind told_0]
      · rw [pu_bind h2, if_neg (by decide), pu_bind (pu_rd (by omega) (by decide)), pu_bind told_0]
    exact pq_close (J := J_LC_fingerprint_862 N) (c := 1) hA hM (fun e => absurd e (by decide)) (fun _ _ => ⟨_, rfl⟩)
  · rcases pr_below (N := N) (m := n) (by omega) p1 with ⟨h3, h2⟩ | ⟨k, hk2, rfl, h3, h2⟩
    · have hP : F_X7_fingerprint N 1 (nI n) f_fingerprints p1 = some (.inl 2) := by
        unfold F_X7_fingerprint
        rw [pu_bind bu_1]
        dsimp only [Sum.elim_inr]
        exact (pu_bind h3).trans rfl
      have hA : F_L_fingerprint N 1 (nI n) f_fingerprints 1 r_f_arr p1 = some (2, r_f_arr) := by
        unfold F_L_fingerprint
        exact (pu_bind hP).trans rfl
      have hM : F_X8_fingerprint N (nI n) 1 q_x_thrown q_f_prints p1 = some (0, 2) := by
        unfold F_X8_fingerprint J_X8_fingerprint_33
        rw [pu_bind h2, if_pos rfl, pu_bind told_10]
      exact pq_close (J := J_LC_fingerprint_862 N) (c := 2) hA hM (fun e => absurd e (by decide)) (fun _ _ => ⟨_, rfl⟩)
    · have hpv : F_X6_get N 120 f_fingerprints (nI k) = some (q_f_prints k) := by rw [pu_get (by omega) (by decide), hfp k hk2]
      have hP : F_X7_fingerprint N 1 (nI n) f_fingerprints (nI k) = some (.inr (q_f_prints k)) := by
        unfold F_X7_fingerprint
        rw [pu_bind bu_1]
        dsimp only [Sum.elim_inr]
        rw [pu_bind h3]
        dsimp only [Sum.elim_inr]
        exact (pu_bind hpv).trans rfl
      have hA : F_L_fingerprint N 1 (nI n) f_fingerprints 1 r_f_arr (nI k) = some (0, vp_updL r_f_arr 0 (Int32.toInt64 (q_f_prints k))) := by
        unfold F_L_fingerprint
        rw [pu_bind hP]
        rw [Sum.elim_inr, pu_bind pu_w0]
      have hM : F_X8_fingerprint N (nI n) 1 q_x_thrown q_f_prints (nI k) = some ((q_f_prints k), 0) := by
        unfold F_X8_fingerprint J_X8_fingerprint_33
        rw [pu_bind h2, if_neg (by decide), pu_bind (pu_rd (by omega) (by decide)), show q_f_prints k = q_f_prints k from rfl, pu_bind told_11]
      exact pq_close (J := J_LC_fingerprint_862 N) (c := 0) hA hM (fun _ => pk_uLs) (fun _ _ => ⟨_, rfl⟩)

theorem cs_inBucket {N : Nat} {x_built : Int32} {x_sorted_size : Int32} {f_sorted_places : Nat → Int32} {x_fingerprintMask : Int32} {x_displacer_keyCount : Int32} {x_displacer_bucketCount : Int32} {x_displacer_seed : Int32} {f_displacer_ranksByBucket_begins : Nat → Int32} {f_displacer_displacements : Nat → Int32} {f_displacer_ranksByNumber : Nat → Int32} {x_packer_bitsEach : Int32} {x_packer_wordCount : Int32} {f_packer_words : Nat → Int64} {x_graph_keyCount : Int32} {x_graph_vertexCount : Int32} {x_graph_seed : Int32} {f_graph_values : Nat → Int32} {f_fingerprints : Nat → Int32} {q_x_many : Int32} {q_x_built : Int32} {q_x_seed : Int32} {q_x_graphSeed : Int32} {q_x_bits : Int32} {q_x_bucketMany : Int32} {q_x_width : Int32} {q_f_keys : Nat → Int32} {q_f_sizes : Nat → Int32} {q_f_shift : Nat → Int32} {q_f_owner : Nat → Int32} {q_f_prints : Nat → Int32} {q_f_words : Nat → Int64} {q_f_values : Nat → Int32} (hFu : 6000 ≤ N) (h : Rel x_built x_sorted_size f_sorted_places x_fingerprintMask x_displacer_keyCount x_displacer_bucketCount x_displacer_seed f_displacer_ranksByBucket_begins f_displacer_displacements f_displacer_ranksByNumber x_packer_bitsEach x_packer_wordCount f_packer_words x_graph_keyCount x_graph_vertexCount x_graph_seed f_graph_values f_fingerprints q_x_many q_x_built q_x_seed q_x_graphSeed q_x_bits q_x_bucketMany q_x_width q_f_keys q_f_sizes q_f_shift q_f_owner q_f_prints q_f_words q_f_values) (q_x_thrown : Int32) (r_f_arr : Nat → Int64) (p1 : Int32) : ∃ x, S_inBucket N x_built x_displacer_bucketCount f_displacer_ranksByBucket_begins q_x_built q_x_bucketMany q_x_thrown q_f_sizes r_f_arr p1 = some x := by
  obtain ⟨κ, n, ⟨hk, rfl, rfl, hf, hq⟩, ⟨b0, hb0, hqb⟩, hb⟩ := h
  have hn := hk.1
  unfold S_inBucket
  rcases hb with ⟨rfl, rfl⟩ | ⟨rfl, rfl, B, s, g, nb, W, d, mu, ⟨h1, h0, hB, hs, hg, hnb1, hnb, hW1, hW7⟩, ⟨rfl, rfl, hqB, rfl, rfl⟩, hd, ⟨hfb, hsz⟩, ⟨hrn, hrk⟩, ⟨rfl, rfl⟩, hfp, ⟨rfl, rfl, rfl, hpw⟩, rfl, rfl, rfl, rfl, hv⟩
  · have hP : F_X7_inBucket N 0 x_displacer_bucketCount f_displacer_ranksByBucket_begins p1 = some (.inl 1) := by
      unfold F_X7_inBucket
      exact (pu_bind bu_0).trans rfl
    have hA : F_L_inBucket N 0 x_displacer_bucketCount f_displacer_ranksByBucket_begins 1 r_f_arr p1 = some (1, r_f_arr) := by
      unfold F_L_inBucket
      exact (pu_bind hP).trans rfl
    have hM : F_X8_inBucket N 0 q_x_bucketMany q_x_thrown q_f_sizes p1 = some (0, 1) := by
      unfold F_X8_inBucket J_X8_inBucket_33
      rw [hqb]
      rcases pr_below (N := N) (m := b0) (by omega) p1 with ⟨_, h2⟩ | ⟨k, hk2, rfl, _, h2⟩
      · rw [pu_bind h2, if_pos rfl, pu_bind told_0]
      · rw [pu_bind h2, if_neg (by decide), pu_bind (pu_rd (by omega) (by decide)), pu_bind told_0]
    exact pq_close (J := J_LC_inBucket_1006 N) (c := 1) hA hM (fun e => absurd e (by decide)) (fun _ _ => ⟨_, rfl⟩)
  · rcases pr_below (N := N) (m := B) (by omega) p1 with ⟨h3, h2⟩ | ⟨k, hk2, rfl, h3, h2⟩
    · have hP : F_X7_inBucket N 1 (nI B) f_displacer_ranksByBucket_begins p1 = some (.inl 2) := by
        unfold F_X7_inBucket
        rw [pu_bind bu_1]
        dsimp only [Sum.elim_inr]
        exact (pu_bind h3).trans rfl
      have hA : F_L_inBucket N 1 (nI B) f_displacer_ranksByBucket_begins 1 r_f_arr p1 = some (2, r_f_arr) := by
        unfold F_L_inBucket
        exact (pu_bind hP).trans rfl
      have hM : F_X8_inBucket N 1 q_x_bucketMany q_x_thrown q_f_sizes p1 = some (0, 2) := by
        unfold F_X8_inBucket J_X8_inBucket_33
        rw [hqB]
        rw [pu_bind h2, if_pos rfl, pu_bind told_10]
      exact pq_close (J := J_LC_inBucket_1006 N) (c := 2) hA hM (fun e => absurd e (by decide)) (fun _ _ => ⟨_, rfl⟩)
    · have hpv : F_X2_sizeOf N 121 f_displacer_ranksByBucket_begins (nI k) = some (nI (cN κ n B s k)) := pu_size2 hfb hB hk2
      have hP : F_X7_inBucket N 1 (nI B) f_displacer_ranksByBucket_begins (nI k) = some (.inr (nI (cN κ n B s k))) := by
        unfold F_X7_inBucket
        rw [pu_bind bu_1]
        dsimp only [Sum.elim_inr]
        rw [pu_bind h3]
        dsimp only [Sum.elim_inr]
        exact (pu_bind hpv).trans rfl
      have hA : F_L_inBucket N 1 (nI B) f_displacer_ranksByBucket_begins 1 r_f_arr (nI k) = some (0, vp_updL r_f_arr 0 (Int32.toInt64 (nI (cN κ n B s k)))) := by
        unfold F_L_inBucket
        rw [pu_bind hP]
        rw [Sum.elim_inr, pu_bind pu_w0]
      have hM : F_X8_inBucket N 1 q_x_bucketMany q_x_thrown q_f_sizes (nI k) = some ((nI (cN κ n B s k)), 0) := by
        unfold F_X8_inBucket J_X8_inBucket_33
        rw [hqB]
        rw [pu_bind h2, if_neg (by decide), pu_bind (pu_rd (by omega) (by decide)), hsz k hk2, pu_bind told_11]
      exact pq_close (J := J_LC_inBucket_1006 N) (c := 0) hA hM (fun _ => pk_uLs) (fun _ _ => ⟨_, rfl⟩)

theorem cs_displacement {N : Nat} {x_built : Int32} {x_sorted_size : Int32} {f_sorted_places : Nat → Int32} {x_fingerprintMask : Int32} {x_displacer_keyCount : Int32} {x_displacer_bucketCount : Int32} {x_displacer_seed : Int32} {f_displacer_ranksByBucket_begins : Nat → Int32} {f_displacer_displacements : Nat → Int32} {f_displacer_ranksByNumber : Nat → Int32} {x_packer_bitsEach : Int32} {x_packer_wordCount : Int32} {f_packer_words : Nat → Int64} {x_graph_keyCount : Int32} {x_graph_vertexCount : Int32} {x_graph_seed : Int32} {f_graph_values : Nat → Int32} {f_fingerprints : Nat → Int32} {q_x_many : Int32} {q_x_built : Int32} {q_x_seed : Int32} {q_x_graphSeed : Int32} {q_x_bits : Int32} {q_x_bucketMany : Int32} {q_x_width : Int32} {q_f_keys : Nat → Int32} {q_f_sizes : Nat → Int32} {q_f_shift : Nat → Int32} {q_f_owner : Nat → Int32} {q_f_prints : Nat → Int32} {q_f_words : Nat → Int64} {q_f_values : Nat → Int32} (hFu : 6000 ≤ N) (h : Rel x_built x_sorted_size f_sorted_places x_fingerprintMask x_displacer_keyCount x_displacer_bucketCount x_displacer_seed f_displacer_ranksByBucket_begins f_displacer_displacements f_displacer_ranksByNumber x_packer_bitsEach x_packer_wordCount f_packer_words x_graph_keyCount x_graph_vertexCount x_graph_seed f_graph_values f_fingerprints q_x_many q_x_built q_x_seed q_x_graphSeed q_x_bits q_x_bucketMany q_x_width q_f_keys q_f_sizes q_f_shift q_f_owner q_f_prints q_f_words q_f_values) (q_x_thrown : Int32) (r_f_arr : Nat → Int64) (p1 : Int32) : ∃ x, S_displacement N x_built x_displacer_bucketCount f_displacer_displacements q_x_built q_x_bucketMany q_x_thrown q_f_shift r_f_arr p1 = some x := by
  obtain ⟨κ, n, ⟨hk, rfl, rfl, hf, hq⟩, ⟨b0, hb0, hqb⟩, hb⟩ := h
  have hn := hk.1
  unfold S_displacement
  rcases hb with ⟨rfl, rfl⟩ | ⟨rfl, rfl, B, s, g, nb, W, d, mu, ⟨h1, h0, hB, hs, hg, hnb1, hnb, hW1, hW7⟩, ⟨rfl, rfl, hqB, rfl, rfl⟩, hd, ⟨hfb, hsz⟩, ⟨hrn, hrk⟩, ⟨rfl, rfl⟩, hfp, ⟨rfl, rfl, rfl, hpw⟩, rfl, rfl, rfl, rfl, hv⟩
  · have hP : F_X7_displacement N 0 x_displacer_bucketCount f_displacer_displacements p1 = some (.inl 1) := by
      unfold F_X7_displacement
      exact (pu_bind bu_0).trans rfl
    have hA : F_L_displacement N 0 x_displacer_bucketCount f_displacer_displacements 1 r_f_arr p1 = some (1, r_f_arr) := by
      unfold F_L_displacement
      exact (pu_bind hP).trans rfl
    have hM : F_X8_displacement N 0 q_x_bucketMany q_x_thrown q_f_shift p1 = some (0, 1) := by
      unfold F_X8_displacement J_X8_displacement_33
      rw [hqb]
      rcases pr_below (N := N) (m := b0) (by omega) p1 with ⟨_, h2⟩ | ⟨k, hk2, rfl, _, h2⟩
      · rw [pu_bind h2, if_pos rfl, pu_bind told_0]
      · rw [pu_bind h2, if_neg (by decide), pu_bind (pu_rd (by omega) (by decide)), pu_bind told_0]
    exact pq_close (J := J_LC_displacement_1062 N) (c := 1) hA hM (fun e => absurd e (by decide)) (fun _ _ => ⟨_, rfl⟩)
  · rcases pr_below (N := N) (m := B) (by omega) p1 with ⟨h3, h2⟩ | ⟨k, hk2, rfl, h3, h2⟩
    · have hP : F_X7_displacement N 1 (nI B) f_displacer_displacements p1 = some (.inl 2) := by
        unfold F_X7_displacement
        rw [pu_bind bu_1]
        dsimp only [Sum.elim_inr]
        exact (pu_bind h3).trans rfl
      have hA : F_L_displacement N 1 (nI B) f_displacer_displacements 1 r_f_arr p1 = some (2, r_f_arr) := by
        unfold F_L_displacement
        exact (pu_bind hP).trans rfl
      have hM : F_X8_displacement N 1 q_x_bucketMany q_x_thrown q_f_shift p1 = some (0, 2) := by
        unfold F_X8_displacement J_X8_displacement_33
        rw [hqB]
        rw [pu_bind h2, if_pos rfl, pu_bind told_10]
      exact pq_close (J := J_LC_displacement_1062 N) (c := 2) hA hM (fun e => absurd e (by decide)) (fun _ _ => ⟨_, rfl⟩)
    · have hpv : F_X6_get N 120 f_displacer_displacements (nI k) = some (nI (d k)) := by rw [pu_get (by omega) (by decide), (hd k hk2).2.1]
      have hP : F_X7_displacement N 1 (nI B) f_displacer_displacements (nI k) = some (.inr (nI (d k))) := by
        unfold F_X7_displacement
        rw [pu_bind bu_1]
        dsimp only [Sum.elim_inr]
        rw [pu_bind h3]
        dsimp only [Sum.elim_inr]
        exact (pu_bind hpv).trans rfl
      have hA : F_L_displacement N 1 (nI B) f_displacer_displacements 1 r_f_arr (nI k) = some (0, vp_updL r_f_arr 0 (Int32.toInt64 (nI (d k)))) := by
        unfold F_L_displacement
        rw [pu_bind hP]
        rw [Sum.elim_inr, pu_bind pu_w0]
      have hM : F_X8_displacement N 1 q_x_bucketMany q_x_thrown q_f_shift (nI k) = some ((nI (d k)), 0) := by
        unfold F_X8_displacement J_X8_displacement_33
        rw [hqB]
        rw [pu_bind h2, if_neg (by decide), pu_bind (pu_rd (by omega) (by decide)), (hd k hk2).2.2, pu_bind told_11]
      exact pq_close (J := J_LC_displacement_1062 N) (c := 0) hA hM (fun _ => pk_uLs) (fun _ _ => ⟨_, rfl⟩)

theorem cs_valueOf {N : Nat} {x_built : Int32} {x_sorted_size : Int32} {f_sorted_places : Nat → Int32} {x_fingerprintMask : Int32} {x_displacer_keyCount : Int32} {x_displacer_bucketCount : Int32} {x_displacer_seed : Int32} {f_displacer_ranksByBucket_begins : Nat → Int32} {f_displacer_displacements : Nat → Int32} {f_displacer_ranksByNumber : Nat → Int32} {x_packer_bitsEach : Int32} {x_packer_wordCount : Int32} {f_packer_words : Nat → Int64} {x_graph_keyCount : Int32} {x_graph_vertexCount : Int32} {x_graph_seed : Int32} {f_graph_values : Nat → Int32} {f_fingerprints : Nat → Int32} {q_x_many : Int32} {q_x_built : Int32} {q_x_seed : Int32} {q_x_graphSeed : Int32} {q_x_bits : Int32} {q_x_bucketMany : Int32} {q_x_width : Int32} {q_f_keys : Nat → Int32} {q_f_sizes : Nat → Int32} {q_f_shift : Nat → Int32} {q_f_owner : Nat → Int32} {q_f_prints : Nat → Int32} {q_f_words : Nat → Int64} {q_f_values : Nat → Int32} (hFu : 6000 ≤ N) (h : Rel x_built x_sorted_size f_sorted_places x_fingerprintMask x_displacer_keyCount x_displacer_bucketCount x_displacer_seed f_displacer_ranksByBucket_begins f_displacer_displacements f_displacer_ranksByNumber x_packer_bitsEach x_packer_wordCount f_packer_words x_graph_keyCount x_graph_vertexCount x_graph_seed f_graph_values f_fingerprints q_x_many q_x_built q_x_seed q_x_graphSeed q_x_bits q_x_bucketMany q_x_width q_f_keys q_f_sizes q_f_shift q_f_owner q_f_prints q_f_words q_f_values) (q_x_thrown : Int32) (r_f_arr : Nat → Int64) (p1 : Int32) : ∃ x, S_valueOf N x_built x_graph_vertexCount f_graph_values q_x_many q_x_built q_x_thrown q_f_values r_f_arr p1 = some x := by
  obtain ⟨κ, n, ⟨hk, rfl, rfl, hf, hq⟩, ⟨b0, hb0, hqb⟩, hb⟩ := h
  have hn := hk.1
  unfold S_valueOf
  rcases hb with ⟨rfl, rfl⟩ | ⟨rfl, rfl, B, s, g, nb, W, d, mu, ⟨h1, h0, hB, hs, hg, hnb1, hnb, hW1, hW7⟩, ⟨rfl, rfl, hqB, rfl, rfl⟩, hd, ⟨hfb, hsz⟩, ⟨hrn, hrk⟩, ⟨rfl, rfl⟩, hfp, ⟨rfl, rfl, rfl, hpw⟩, rfl, rfl, rfl, rfl, hv⟩
  · have hP : F_X7_valueOf N 0 x_graph_vertexCount f_graph_values p1 = some (.inl 1) := by
      unfold F_X7_valueOf
      exact (pu_bind bu_0).trans rfl
    have hA : F_L_valueOf N 0 x_graph_vertexCount f_graph_values 1 r_f_arr p1 = some (1, r_f_arr) := by
      unfold F_L_valueOf
      exact (pu_bind hP).trans rfl
    have hM : F_X8_valueOf N (nI n) 0 q_x_thrown q_f_values p1 = some (0, 1) := by
      unfold F_X8_valueOf J_X8_valueOf_35
      rw [pu_3]
      rcases pr_below (N := N) (m := 3 * n) (by omega) p1 with ⟨_, h2⟩ | ⟨k, hk2, rfl, _, h2⟩
      · rw [pu_bind h2, if_pos rfl, pu_bind told_0]
      · rw [pu_bind h2, if_neg (by decide), pu_bind (pu_rd (by omega) (by decide)), pu_bind told_0]
    exact pq_close (J := J_LC_valueOf_1317 N) (c := 1) hA hM (fun e => absurd e (by decide)) (fun _ _ => ⟨_, rfl⟩)
  · rcases pr_below (N := N) (m := 3 * n) (by omega) p1 with ⟨h3, h2⟩ | ⟨k, hk2, rfl, h3, h2⟩
    · have hP : F_X7_valueOf N 1 (nI (3 * n)) f_graph_values p1 = some (.inl 2) := by
        unfold F_X7_valueOf
        rw [pu_bind bu_1]
        dsimp only [Sum.elim_inr]
        exact (pu_bind h3).trans rfl
      have hA : F_L_valueOf N 1 (nI (3 * n)) f_graph_values 1 r_f_arr p1 = some (2, r_f_arr) := by
        unfold F_L_valueOf
        exact (pu_bind hP).trans rfl
      have hM : F_X8_valueOf N (nI n) 1 q_x_thrown q_f_values p1 = some (0, 2) := by
        unfold F_X8_valueOf J_X8_valueOf_35
        rw [pu_3]
        rw [pu_bind h2, if_pos rfl, pu_bind told_10]
      exact pq_close (J := J_LC_valueOf_1317 N) (c := 2) hA hM (fun e => absurd e (by decide)) (fun _ _ => ⟨_, rfl⟩)
    · have hpv : F_X6_get N 360 f_graph_values (nI k) = some (nI (mu k)) := by rw [pu_get (by omega) (by decide), (hv k hk2).2.1]
      have hP : F_X7_valueOf N 1 (nI (3 * n)) f_graph_values (nI k) = some (.inr (nI (mu k))) := by
        unfold F_X7_valueOf
        rw [pu_bind bu_1]
        dsimp only [Sum.elim_inr]
        rw [pu_bind h3]
        dsimp only [Sum.elim_inr]
        exact (pu_bind hpv).trans rfl
      have hA : F_L_valueOf N 1 (nI (3 * n)) f_graph_values 1 r_f_arr (nI k) = some (0, vp_updL r_f_arr 0 (Int32.toInt64 (nI (mu k)))) := by
        unfold F_L_valueOf
        rw [pu_bind hP]
        rw [Sum.elim_inr, pu_bind pu_w0]
      have hM : F_X8_valueOf N (nI n) 1 q_x_thrown q_f_values (nI k) = some ((nI (mu k)), 0) := by
        unfold F_X8_valueOf J_X8_valueOf_35
        rw [pu_3]
        rw [pu_bind h2, if_neg (by decide), pu_bind (pu_rd (by omega) (by decide)), (hv k hk2).2.2, pu_bind told_11]
      exact pq_close (J := J_LC_valueOf_1317 N) (c := 0) hA hM (fun _ => pk_uLs) (fun _ _ => ⟨_, rfl⟩)

theorem cs_seed {N : Nat} {x_built : Int32} {x_sorted_size : Int32} {f_sorted_places : Nat → Int32} {x_fingerprintMask : Int32} {x_displacer_keyCount : Int32} {x_displacer_bucketCount : Int32} {x_displacer_seed : Int32} {f_displacer_ranksByBucket_begins : Nat → Int32} {f_displacer_displacements : Nat → Int32} {f_displacer_ranksByNumber : Nat → Int32} {x_packer_bitsEach : Int32} {x_packer_wordCount : Int32} {f_packer_words : Nat → Int64} {x_graph_keyCount : Int32} {x_graph_vertexCount : Int32} {x_graph_seed : Int32} {f_graph_values : Nat → Int32} {f_fingerprints : Nat → Int32} {q_x_many : Int32} {q_x_built : Int32} {q_x_seed : Int32} {q_x_graphSeed : Int32} {q_x_bits : Int32} {q_x_bucketMany : Int32} {q_x_width : Int32} {q_f_keys : Nat → Int32} {q_f_sizes : Nat → Int32} {q_f_shift : Nat → Int32} {q_f_owner : Nat → Int32} {q_f_prints : Nat → Int32} {q_f_words : Nat → Int64} {q_f_values : Nat → Int32} (hFu : 6000 ≤ N) (h : Rel x_built x_sorted_size f_sorted_places x_fingerprintMask x_displacer_keyCount x_displacer_bucketCount x_displacer_seed f_displacer_ranksByBucket_begins f_displacer_displacements f_displacer_ranksByNumber x_packer_bitsEach x_packer_wordCount f_packer_words x_graph_keyCount x_graph_vertexCount x_graph_seed f_graph_values f_fingerprints q_x_many q_x_built q_x_seed q_x_graphSeed q_x_bits q_x_bucketMany q_x_width q_f_keys q_f_sizes q_f_shift q_f_owner q_f_prints q_f_words q_f_values) (q_x_thrown : Int32) (r_f_arr : Nat → Int64) : ∃ x, S_seed N x_built x_displacer_seed q_x_built q_x_seed q_x_thrown r_f_arr = some x := by
  obtain ⟨κ, n, ⟨hk, rfl, rfl, hf, hq⟩, ⟨b0, hb0, hqb⟩, hb⟩ := h
  have hn := hk.1
  unfold S_seed
  rcases hb with ⟨rfl, rfl⟩ | ⟨rfl, rfl, B, s, g, nb, W, d, mu, ⟨h1, h0, hB, hs, hg, hnb1, hnb, hW1, hW7⟩, ⟨rfl, rfl, hqB, rfl, rfl⟩, hd, ⟨hfb, hsz⟩, ⟨hrn, hrk⟩, ⟨rfl, rfl⟩, hfp, ⟨rfl, rfl, rfl, hpw⟩, rfl, rfl, rfl, rfl, hv⟩
  · have hP : F_X7_seed N 0 x_displacer_seed = some (.inl 1) := by
      unfold F_X7_seed
      exact (pu_bind bu_0).trans rfl
    have hA : F_L_seed N 0 x_displacer_seed 1 r_f_arr = some (1, r_f_arr) := by
      unfold F_L_seed
      exact (pu_bind hP).trans rfl
    have hM : F_X8_seed N 0 q_x_seed q_x_thrown = some (0, 1) := by
      unfold F_X8_seed
      rw [pu_bind told_0]
    exact pq_close (J := J_LC_seed_906 N) (c := 1) hA hM (fun e => absurd e (by decide)) (fun _ _ => ⟨_, rfl⟩)
  · have hP : F_X7_seed N 1 (nI s) = some (.inr (nI s)) := by
      unfold F_X7_seed
      exact (pu_bind bu_1).trans rfl
    have hA : F_L_seed N 1 (nI s) 1 r_f_arr = some (0, vp_updL r_f_arr 0 (Int32.toInt64 (nI s))) := by
      unfold F_L_seed
      rw [pu_bind hP]
      rw [Sum.elim_inr, pu_bind pu_w0]
    have hM : F_X8_seed N 1 (nI s) q_x_thrown = some ((nI s), 0) := by
      unfold F_X8_seed
      rw [pu_bind told_11]
    exact pq_close (J := J_LC_seed_906 N) (c := 0) hA hM (fun _ => pk_uLs) (fun _ _ => ⟨_, rfl⟩)

theorem cs_buckets {N : Nat} {x_built : Int32} {x_sorted_size : Int32} {f_sorted_places : Nat → Int32} {x_fingerprintMask : Int32} {x_displacer_keyCount : Int32} {x_displacer_bucketCount : Int32} {x_displacer_seed : Int32} {f_displacer_ranksByBucket_begins : Nat → Int32} {f_displacer_displacements : Nat → Int32} {f_displacer_ranksByNumber : Nat → Int32} {x_packer_bitsEach : Int32} {x_packer_wordCount : Int32} {f_packer_words : Nat → Int64} {x_graph_keyCount : Int32} {x_graph_vertexCount : Int32} {x_graph_seed : Int32} {f_graph_values : Nat → Int32} {f_fingerprints : Nat → Int32} {q_x_many : Int32} {q_x_built : Int32} {q_x_seed : Int32} {q_x_graphSeed : Int32} {q_x_bits : Int32} {q_x_bucketMany : Int32} {q_x_width : Int32} {q_f_keys : Nat → Int32} {q_f_sizes : Nat → Int32} {q_f_shift : Nat → Int32} {q_f_owner : Nat → Int32} {q_f_prints : Nat → Int32} {q_f_words : Nat → Int64} {q_f_values : Nat → Int32} (hFu : 6000 ≤ N) (h : Rel x_built x_sorted_size f_sorted_places x_fingerprintMask x_displacer_keyCount x_displacer_bucketCount x_displacer_seed f_displacer_ranksByBucket_begins f_displacer_displacements f_displacer_ranksByNumber x_packer_bitsEach x_packer_wordCount f_packer_words x_graph_keyCount x_graph_vertexCount x_graph_seed f_graph_values f_fingerprints q_x_many q_x_built q_x_seed q_x_graphSeed q_x_bits q_x_bucketMany q_x_width q_f_keys q_f_sizes q_f_shift q_f_owner q_f_prints q_f_words q_f_values) (q_x_thrown : Int32) (r_f_arr : Nat → Int64) : ∃ x, S_buckets N x_built x_displacer_bucketCount q_x_built q_x_bucketMany q_x_thrown r_f_arr = some x := by
  obtain ⟨κ, n, ⟨hk, rfl, rfl, hf, hq⟩, ⟨b0, hb0, hqb⟩, hb⟩ := h
  have hn := hk.1
  unfold S_buckets
  rcases hb with ⟨rfl, rfl⟩ | ⟨rfl, rfl, B, s, g, nb, W, d, mu, ⟨h1, h0, hB, hs, hg, hnb1, hnb, hW1, hW7⟩, ⟨rfl, rfl, hqB, rfl, rfl⟩, hd, ⟨hfb, hsz⟩, ⟨hrn, hrk⟩, ⟨rfl, rfl⟩, hfp, ⟨rfl, rfl, rfl, hpw⟩, rfl, rfl, rfl, rfl, hv⟩
  · have hP : F_X7_buckets N 0 x_displacer_bucketCount = some (.inl 1) := by
      unfold F_X7_buckets
      exact (pu_bind bu_0).trans rfl
    have hA : F_L_buckets N 0 x_displacer_bucketCount 1 r_f_arr = some (1, r_f_arr) := by
      unfold F_L_buckets
      exact (pu_bind hP).trans rfl
    have hM : F_X8_buckets N 0 q_x_bucketMany q_x_thrown = some (0, 1) := by
      unfold F_X8_buckets
      rw [pu_bind told_0]
    exact pq_close (J := J_LC_buckets_950 N) (c := 1) hA hM (fun e => absurd e (by decide)) (fun _ _ => ⟨_, rfl⟩)
  · have hP : F_X7_buckets N 1 (nI B) = some (.inr (nI B)) := by
      unfold F_X7_buckets
      exact (pu_bind bu_1).trans rfl
    have hA : F_L_buckets N 1 (nI B) 1 r_f_arr = some (0, vp_updL r_f_arr 0 (Int32.toInt64 (nI B))) := by
      unfold F_L_buckets
      rw [pu_bind hP]
      rw [Sum.elim_inr, pu_bind pu_w0]
    have hM : F_X8_buckets N 1 q_x_bucketMany q_x_thrown = some ((nI B), 0) := by
      unfold F_X8_buckets
      rw [hqB, pu_bind told_11]
    exact pq_close (J := J_LC_buckets_950 N) (c := 0) hA hM (fun _ => pk_uLs) (fun _ _ => ⟨_, rfl⟩)

theorem cs_width {N : Nat} {x_built : Int32} {x_sorted_size : Int32} {f_sorted_places : Nat → Int32} {x_fingerprintMask : Int32} {x_displacer_keyCount : Int32} {x_displacer_bucketCount : Int32} {x_displacer_seed : Int32} {f_displacer_ranksByBucket_begins : Nat → Int32} {f_displacer_displacements : Nat → Int32} {f_displacer_ranksByNumber : Nat → Int32} {x_packer_bitsEach : Int32} {x_packer_wordCount : Int32} {f_packer_words : Nat → Int64} {x_graph_keyCount : Int32} {x_graph_vertexCount : Int32} {x_graph_seed : Int32} {f_graph_values : Nat → Int32} {f_fingerprints : Nat → Int32} {q_x_many : Int32} {q_x_built : Int32} {q_x_seed : Int32} {q_x_graphSeed : Int32} {q_x_bits : Int32} {q_x_bucketMany : Int32} {q_x_width : Int32} {q_f_keys : Nat → Int32} {q_f_sizes : Nat → Int32} {q_f_shift : Nat → Int32} {q_f_owner : Nat → Int32} {q_f_prints : Nat → Int32} {q_f_words : Nat → Int64} {q_f_values : Nat → Int32} (hFu : 6000 ≤ N) (h : Rel x_built x_sorted_size f_sorted_places x_fingerprintMask x_displacer_keyCount x_displacer_bucketCount x_displacer_seed f_displacer_ranksByBucket_begins f_displacer_displacements f_displacer_ranksByNumber x_packer_bitsEach x_packer_wordCount f_packer_words x_graph_keyCount x_graph_vertexCount x_graph_seed f_graph_values f_fingerprints q_x_many q_x_built q_x_seed q_x_graphSeed q_x_bits q_x_bucketMany q_x_width q_f_keys q_f_sizes q_f_shift q_f_owner q_f_prints q_f_words q_f_values) (q_x_thrown : Int32) (r_f_arr : Nat → Int64) : ∃ x, S_width N x_built x_packer_bitsEach q_x_built q_x_width q_x_thrown r_f_arr = some x := by
  obtain ⟨κ, n, ⟨hk, rfl, rfl, hf, hq⟩, ⟨b0, hb0, hqb⟩, hb⟩ := h
  have hn := hk.1
  unfold S_width
  rcases hb with ⟨rfl, rfl⟩ | ⟨rfl, rfl, B, s, g, nb, W, d, mu, ⟨h1, h0, hB, hs, hg, hnb1, hnb, hW1, hW7⟩, ⟨rfl, rfl, hqB, rfl, rfl⟩, hd, ⟨hfb, hsz⟩, ⟨hrn, hrk⟩, ⟨rfl, rfl⟩, hfp, ⟨rfl, rfl, rfl, hpw⟩, rfl, rfl, rfl, rfl, hv⟩
  · have hP : F_X7_width N 0 x_packer_bitsEach = some (.inl 1) := by
      unfold F_X7_width
      exact (pu_bind bu_0).trans rfl
    have hA : F_L_width N 0 x_packer_bitsEach 1 r_f_arr = some (1, r_f_arr) := by
      unfold F_L_width
      exact (pu_bind hP).trans rfl
    have hM : F_X8_width N 0 q_x_width q_x_thrown = some (0, 1) := by
      unfold F_X8_width
      rw [pu_bind told_0]
    exact pq_close (J := J_LC_width_1106 N) (c := 1) hA hM (fun e => absurd e (by decide)) (fun _ _ => ⟨_, rfl⟩)
  · have hP : F_X7_width N 1 (nI W) = some (.inr (nI W)) := by
      unfold F_X7_width
      exact (pu_bind bu_1).trans rfl
    have hA : F_L_width N 1 (nI W) 1 r_f_arr = some (0, vp_updL r_f_arr 0 (Int32.toInt64 (nI W))) := by
      unfold F_L_width
      rw [pu_bind hP]
      rw [Sum.elim_inr, pu_bind pu_w0]
    have hM : F_X8_width N 1 (nI W) q_x_thrown = some ((nI W), 0) := by
      unfold F_X8_width
      rw [pu_bind told_11]
    exact pq_close (J := J_LC_width_1106 N) (c := 0) hA hM (fun _ => pk_uLs) (fun _ _ => ⟨_, rfl⟩)

theorem cs_graphSeed {N : Nat} {x_built : Int32} {x_sorted_size : Int32} {f_sorted_places : Nat → Int32} {x_fingerprintMask : Int32} {x_displacer_keyCount : Int32} {x_displacer_bucketCount : Int32} {x_displacer_seed : Int32} {f_displacer_ranksByBucket_begins : Nat → Int32} {f_displacer_displacements : Nat → Int32} {f_displacer_ranksByNumber : Nat → Int32} {x_packer_bitsEach : Int32} {x_packer_wordCount : Int32} {f_packer_words : Nat → Int64} {x_graph_keyCount : Int32} {x_graph_vertexCount : Int32} {x_graph_seed : Int32} {f_graph_values : Nat → Int32} {f_fingerprints : Nat → Int32} {q_x_many : Int32} {q_x_built : Int32} {q_x_seed : Int32} {q_x_graphSeed : Int32} {q_x_bits : Int32} {q_x_bucketMany : Int32} {q_x_width : Int32} {q_f_keys : Nat → Int32} {q_f_sizes : Nat → Int32} {q_f_shift : Nat → Int32} {q_f_owner : Nat → Int32} {q_f_prints : Nat → Int32} {q_f_words : Nat → Int64} {q_f_values : Nat → Int32} (hFu : 6000 ≤ N) (h : Rel x_built x_sorted_size f_sorted_places x_fingerprintMask x_displacer_keyCount x_displacer_bucketCount x_displacer_seed f_displacer_ranksByBucket_begins f_displacer_displacements f_displacer_ranksByNumber x_packer_bitsEach x_packer_wordCount f_packer_words x_graph_keyCount x_graph_vertexCount x_graph_seed f_graph_values f_fingerprints q_x_many q_x_built q_x_seed q_x_graphSeed q_x_bits q_x_bucketMany q_x_width q_f_keys q_f_sizes q_f_shift q_f_owner q_f_prints q_f_words q_f_values) (q_x_thrown : Int32) (r_f_arr : Nat → Int64) : ∃ x, S_graphSeed N x_built x_graph_seed q_x_built q_x_graphSeed q_x_thrown r_f_arr = some x := by
  obtain ⟨κ, n, ⟨hk, rfl, rfl, hf, hq⟩, ⟨b0, hb0, hqb⟩, hb⟩ := h
  have hn := hk.1
  unfold S_graphSeed
  rcases hb with ⟨rfl, rfl⟩ | ⟨rfl, rfl, B, s, g, nb, W, d, mu, ⟨h1, h0, hB, hs, hg, hnb1, hnb, hW1, hW7⟩, ⟨rfl, rfl, hqB, rfl, rfl⟩, hd, ⟨hfb, hsz⟩, ⟨hrn, hrk⟩, ⟨rfl, rfl⟩, hfp, ⟨rfl, rfl, rfl, hpw⟩, rfl, rfl, rfl, rfl, hv⟩
  · have hP : F_X7_graphSeed N 0 x_graph_seed = some (.inl 1) := by
      unfold F_X7_graphSeed
      exact (pu_bind bu_0).trans rfl
    have hA : F_L_graphSeed N 0 x_graph_seed 1 r_f_arr = some (1, r_f_arr) := by
      unfold F_L_graphSeed
      exact (pu_bind hP).trans rfl
    have hM : F_X8_graphSeed N 0 q_x_graphSeed q_x_thrown = some (0, 1) := by
      unfold F_X8_graphSeed
      rw [pu_bind told_0]
    exact pq_close (J := J_LC_graphSeed_1261 N) (c := 1) hA hM (fun e => absurd e (by decide)) (fun _ _ => ⟨_, rfl⟩)
  · have hP : F_X7_graphSeed N 1 (nI g) = some (.inr (nI g)) := by
      unfold F_X7_graphSeed
      exact (pu_bind bu_1).trans rfl
    have hA : F_L_graphSeed N 1 (nI g) 1 r_f_arr = some (0, vp_updL r_f_arr 0 (Int32.toInt64 (nI g))) := by
      unfold F_L_graphSeed
      rw [pu_bind hP]
      rw [Sum.elim_inr, pu_bind pu_w0]
    have hM : F_X8_graphSeed N 1 (nI g) q_x_thrown = some ((nI g), 0) := by
      unfold F_X8_graphSeed
      rw [pu_bind told_11]
    exact pq_close (J := J_LC_graphSeed_1261 N) (c := 0) hA hM (fun _ => pk_uLs) (fun _ _ => ⟨_, rfl⟩)

