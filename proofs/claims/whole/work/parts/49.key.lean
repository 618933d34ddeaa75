/-! ===== the calls with a key ===== -/
theorem pu_look {N n B s nb key : Nat} {d : Nat → Nat} {dsp shift fpr prints : Nat → Int32} (h1 : 1 ≤ n) (hn : n ≤ 120) (h0 : 0 < B) (hB : B ≤ 120) (hs : s < 40) (hnb : nb ≤ 12) (hk : key < 100000)
    (hd : ∀ b, b < B → d b < n ∧ dsp b = nI (d b) ∧ shift b = nI (d b)) (hfp : ∀ x, x < n → fpr x = prints x) :
    ∃ v, F_X7_lookUp N (nI (2 ^ nb - 1)) (nI n) (nI B) (nI s) dsp fpr (nI key) = some v ∧ F_X8_found N (nI n) (nI s) (nI nb) (nI B) shift prints (nI key) = some v ∧ (v = -1 ∨ v = nI (atN n s (d (bkN B s key)) key)) := by
  have hb : bkN B s key < B := bkN_lt h0
  have hdb := hd _ hb
  have hat : atN n s (d (bkN B s key)) key < n := atN_lt h1
  unfold F_X7_lookUp F_X8_found J_X7_lookUp_30 J_X8_found_25
  rw [pu_bind (pu_numberOf h1 hn h0 hB hk (by omega) (by omega) hdb.2.1), pu_bind (pu_mnumberOf h1 hn h0 hB hk (by omega) (by omega) hdb.2.2), pu_bind (pu_get (by omega) (by decide)), pu_bind (pu_rd (by omega) (by decide)), pu_bind (pu_fpof (by omega) hk (by omega)), pu_bind (pu_print (by omega) hk (by omega)), hfp _ hat]
  by_cases e : prints (atN n s (d (bkN B s key)) key) = nI (hN 3 key s % 2 ^ nb)
  · rw [if_pos e]
    exact ⟨_, rfl, rfl, Or.inr rfl⟩
  · rw [if_neg e]
    exact ⟨_, rfl, rfl, Or.inl rfl⟩
/-- the key that has a number -/
theorem pu_kwn {N n x r : Nat} {κ : Nat → Nat} {f rn : Nat → Int32} (hn : n ≤ 120) (hx : x < n) (hr : r < n) (hf : HoldK f κ n) (h : rn x = nI r) : F_X7_keyWithNumber N f rn (nI x) = some (nI (κ r)) := by
  unfold F_X7_keyWithNumber
  rw [pu_bind (pu_get (by omega) (by decide)), h, pu_bind (pu_at (by omega)), hf _ hr]
theorem cs_number {N : Nat} {x_built : Int32} {x_sorted_size : Int32} {f_sorted_places : Nat → Int32} {x_fingerprintMask : Int32} {x_displacer_keyCount : Int32} {x_displacer_bucketCount : Int32} {x_displacer_seed : Int32} {f_displacer_ranksByBucket_begins : Nat → Int32} {f_displacer_displacements : Nat → Int32} {f_displacer_ranksByNumber : Nat → Int32} {x_packer_bitsEach : Int32} {x_packer_wordCount : Int32} {f_packer_words : Nat → Int64} {x_graph_keyCount : Int32} {x_graph_vertexCount : Int32} {x_graph_seed : Int32} {f_graph_values : Nat → Int32} {f_fingerprints : Nat → Int32} {q_x_many : Int32} {q_x_built : Int32} {q_x_seed : Int32} {q_x_graphSeed : Int32} {q_x_bits : Int32} {q_x_bucketMany : Int32} {q_x_width : Int32} {q_f_keys : Nat → Int32} {q_f_sizes : Nat → Int32} {q_f_shift : Nat → Int32} {q_f_owner : Nat → Int32} {q_f_prints : Nat → Int32} {q_f_words : Nat → Int64} {q_f_values : Nat → Int32} (hFu : 6000 ≤ N) (h : Rel x_built x_sorted_size f_sorted_places x_fingerprintMask x_displacer_keyCount x_displacer_bucketCount x_displacer_seed f_displacer_ranksByBucket_begins f_displacer_displacements f_displacer_ranksByNumber x_packer_bitsEach x_packer_wordCount f_packer_words x_graph_keyCount x_graph_vertexCount x_graph_seed f_graph_values f_fingerprints q_x_many q_x_built q_x_seed q_x_graphSeed q_x_bits q_x_bucketMany q_x_width q_f_keys q_f_sizes q_f_shift q_f_owner q_f_prints q_f_words q_f_values) (q_x_thrown : Int32) (r_f_arr : Nat → Int64) (p1 : Int32) : ∃ x, S_number N x_built x_displacer_keyCount x_displacer_bucketCount x_displacer_seed f_displacer_displacements q_x_many q_x_built q_x_seed q_x_bucketMany q_x_thrown q_f_shift r_f_arr p1 = some x := by
  obtain ⟨κ, n, ⟨hk, rfl, rfl, hf, hq⟩, ⟨b0, hb0, hqb⟩, hb⟩ := h
  have hn := hk.1
  unfold S_number
  rcases pr_key (N := N) p1 with ⟨h3, h2⟩ | ⟨key, hkey, rfl, h3, h2⟩
  · have hP : F_X7_number N x_built x_displacer_keyCount x_displacer_bucketCount x_displacer_seed f_displacer_displacements p1 = some (.inl 0) := by
      unfold F_X7_number
      exact (pu_bind h3).trans rfl
    have hA : F_L_number N x_built x_displacer_keyCount x_displacer_bucketCount x_displacer_seed f_displacer_displacements 1 r_f_arr p1 = some (1, r_f_arr) := by
      unfold F_L_number
      exact (pu_bind hP).trans rfl
    have hM : F_X8_number N (nI n) q_x_built q_x_seed q_x_bucketMany q_x_thrown q_f_shift p1 = some (0, 1) := by
      unfold F_X8_number F_X8_fails
      rw [pu_bind h2, if_pos rfl]
      rfl
    exact pq_close (J := J_LC_number_626 N) (c := 1) hA hM (fun e => absurd e (by decide)) (fun _ _ => ⟨_, rfl⟩)
  rcases hb with ⟨rfl, rfl⟩ | ⟨rfl, rfl, B, s, g, nb, W, d, mu, ⟨h1, h0, hB, hs, hg, hnb1, hnb, hW1, hW7⟩, ⟨rfl, rfl, hqB, rfl, rfl⟩, hd, ⟨hfb, hsz⟩, ⟨hrn, hrk⟩, ⟨rfl, rfl⟩, hfp, ⟨rfl, rfl, rfl, hpw⟩, rfl, rfl, rfl, rfl, hv⟩
  · have hP : F_X7_number N 0 x_displacer_keyCount x_displacer_bucketCount x_displacer_seed f_displacer_displacements (nI key) = some (.inl 1) := by
      unfold F_X7_number
      rw [pu_bind h3, Sum.elim_inr]
      exact (pu_bind bu_0).trans rfl
    have hA : F_L_number N 0 x_displacer_keyCount x_displacer_bucketCount x_displacer_seed f_displacer_displacements 1 r_f_arr (nI key) = some (2, r_f_arr) := by
      unfold F_L_number
      exact (pu_bind hP).trans rfl
    have hM : F_X8_number N (nI n) 0 q_x_seed q_x_bucketMany q_x_thrown q_f_shift (nI key) = some (0, 2) := by
      unfold F_X8_number F_X8_fails J_X8_number_41
      rw [pu_bind h2, if_neg (by decide), if_pos rfl]
      rfl
    exact pq_close (J := J_LC_number_626 N) (c := 2) hA hM (fun e => absurd e (by decide)) (fun _ _ => ⟨_, rfl⟩)
  · have hb : bkN B s key < B := bkN_lt h0
    have hdb := hd _ hb
    have hpv : F_X0_numberOf N (nI n) (nI B) (nI s) f_displacer_displacements (nI key) = some (nI (atN n s (d (bkN B s key)) key)) := pu_numberOf h1 hn h0 hB hkey (by omega) (by omega) hdb.2.1
    have hP : F_X7_number N 1 (nI n) (nI B) (nI s) f_displacer_displacements (nI key) = some (.inr (nI (atN n s (d (bkN B s key)) key))) := by
      unfold F_X7_number
      rw [pu_bind h3, Sum.elim_inr, pu_bind bu_1, Sum.elim_inr]
      exact (pu_bind hpv).trans rfl
    have hA : F_L_number N 1 (nI n) (nI B) (nI s) f_displacer_displacements 1 r_f_arr (nI key) = some (0, vp_updL r_f_arr 0 (Int32.toInt64 (nI (atN n s (d (bkN B s key)) key)))) := by
      unfold F_L_number
      rw [pu_bind hP]
      rw [Sum.elim_inr, pu_bind pu_w0]
    have hM : F_X8_number N (nI n) 1 (nI s) q_x_bucketMany q_x_thrown q_f_shift (nI key) = some ((nI (atN n s (d (bkN B s key)) key)), 0) := by
      unfold F_X8_number J_X8_number_41
      rw [pu_bind h2, if_neg (by decide), if_neg (by decide)]
      rw [hqB, pu_bind (pu_mnumberOf h1 hn h0 hB hkey (by omega) (by omega) hdb.2.2)]
    exact pq_close (J := J_LC_number_626 N) (c := 0) hA hM (fun _ => pk_uLs) (fun _ _ => ⟨_, rfl⟩)

theorem cs_find {N : Nat} {x_built : Int32} {x_sorted_size : Int32} {f_sorted_places : Nat → Int32} {x_fingerprintMask : Int32} {x_displacer_keyCount : Int32} {x_displacer_bucketCount : Int32} {x_displacer_seed : Int32} {f_displacer_ranksByBucket_begins : Nat → Int32} {f_displacer_displacements : Nat → Int32} {f_displacer_ranksByNumber : Nat → Int32} {x_packer_bitsEach : Int32} {x_packer_wordCount : Int32} {f_packer_words : Nat → Int64} {x_graph_keyCount : Int32} {x_graph_vertexCount : Int32} {x_graph_seed : Int32} {f_graph_values : Nat → Int32} {f_fingerprints : Nat → Int32} {q_x_many : Int32} {q_x_built : Int32} {q_x_seed : Int32} {q_x_graphSeed : Int32} {q_x_bits : Int32} {q_x_bucketMany : Int32} {q_x_width : Int32} {q_f_keys : Nat → Int32} {q_f_sizes : Nat → Int32} {q_f_shift : Nat → Int32} {q_f_owner : Nat → Int32} {q_f_prints : Nat → Int32} {q_f_words : Nat → Int64} {q_f_values : Nat → Int32} (hFu : 6000 ≤ N) (h : Rel x_built x_sorted_size f_sorted_places x_fingerprintMask x_displacer_keyCount x_displacer_bucketCount x_displacer_seed f_displacer_ranksByBucket_begins f_displacer_displacements f_displacer_ranksByNumber x_packer_bitsEach x_packer_wordCount f_packer_words x_graph_keyCount x_graph_vertexCount x_graph_seed f_graph_values f_fingerprints q_x_many q_x_built q_x_seed q_x_graphSeed q_x_bits q_x_bucketMany q_x_width q_f_keys q_f_sizes q_f_shift q_f_owner q_f_prints q_f_words q_f_values) (q_x_thrown : Int32) (r_f_arr : Nat → Int64) (p1 : Int32) : ∃ x, S_find N x_fingerprintMask x_built x_displacer_keyCount x_displacer_bucketCount x_displacer_seed f_displacer_displacements f_fingerprints q_x_many q_x_built q_x_seed q_x_bits q_x_bucketMany q_x_thrown q_f_shift q_f_prints r_f_arr p1 = some x := by
  obtain ⟨κ, n, ⟨hk, rfl, rfl, hf, hq⟩, ⟨b0, hb0, hqb⟩, hb⟩ := h
  have hn := hk.1
  unfold S_find
  rcases pr_key (N := N) p1 with ⟨h3, h2⟩ | ⟨key, hkey, rfl, h3, h2⟩
  · have hP : F_X7_find N x_fingerprintMask x_built x_displacer_keyCount x_displacer_bucketCount x_displacer_seed f_displacer_displacements f_fingerprints p1 = some (.inl 0) := by
      unfold F_X7_find
      exact (pu_bind h3).trans rfl
    have hA : F_L_find N x_fingerprintMask x_built x_displacer_keyCount x_displacer_bucketCount x_displacer_seed f_displacer_displacements f_fingerprints 1 r_f_arr p1 = some (1, r_f_arr) := by
      unfold F_L_find
      exact (pu_bind hP).trans rfl
    have hM : F_X8_find N (nI n) q_x_built q_x_seed q_x_bits q_x_bucketMany q_x_thrown q_f_shift q_f_prints p1 = some (0, 1) := by
      unfold F_X8_find F_X8_fails
      rw [pu_bind h2, if_pos rfl]
      rfl
    exact pq_close (J := J_LC_find_682 N) (c := 1) hA hM (fun e => absurd e (by decide)) (fun _ _ => ⟨_, rfl⟩)
  rcases hb with ⟨rfl, rfl⟩ | ⟨rfl, rfl, B, s, g, nb, W, d, mu, ⟨h1, h0, hB, hs, hg, hnb1, hnb, hW1, hW7⟩, ⟨rfl, rfl, hqB, rfl, rfl⟩, hd, ⟨hfb, hsz⟩, ⟨hrn, hrk⟩, ⟨rfl, rfl⟩, hfp, ⟨rfl, rfl, rfl, hpw⟩, rfl, rfl, rfl, rfl, hv⟩
  · have hP : F_X7_find N x_fingerprintMask 0 x_displacer_keyCount x_displacer_bucketCount x_displacer_seed f_displacer_displacements f_fingerprints (nI key) = some (.inl 1) := by
      unfold F_X7_find
      rw [pu_bind h3, Sum.elim_inr]
      exact (pu_bind bu_0).trans rfl
    have hA : F_L_find N x_fingerprintMask 0 x_displacer_keyCount x_displacer_bucketCount x_displacer_seed f_displacer_displacements f_fingerprints 1 r_f_arr (nI key) = some (2, r_f_arr) := by
      unfold F_L_find
      exact (pu_bind hP).trans rfl
    have hM : F_X8_find N (nI n) 0 q_x_seed q_x_bits q_x_bucketMany q_x_thrown q_f_shift q_f_prints (nI key) = some (0, 2) := by
      unfold F_X8_find F_X8_fails J_X8_find_41
      rw [pu_bind h2, if_neg (by decide), if_pos rfl]
      rfl
    exact pq_close (J := J_LC_find_682 N) (c := 2) hA hM (fun e => absurd e (by decide)) (fun _ _ => ⟨_, rfl⟩)
  · obtain ⟨v, hpv, hmv, _⟩ := pu_look (N := N) h1 hn h0 hB hs hnb hkey hd hfp
    have hP : F_X7_find N (nI (2 ^ nb - 1)) 1 (nI n) (nI B) (nI s) f_displacer_displacements f_fingerprints (nI key) = some (.inr v) := by
      unfold F_X7_find
      rw [pu_bind h3, Sum.elim_inr, pu_bind bu_1, Sum.elim_inr]
      exact (pu_bind hpv).trans rfl
    have hA : F_L_find N (nI (2 ^ nb - 1)) 1 (nI n) (nI B) (nI s) f_displacer_displacements f_fingerprints 1 r_f_arr (nI key) = some (0, vp_updL r_f_arr 0 (Int32.toInt64 v)) := by
      unfold F_L_find
      rw [pu_bind hP]
      rw [Sum.elim_inr, pu_bind pu_w0]
    have hM : F_X8_find N (nI n) 1 (nI s) (nI nb) q_x_bucketMany q_x_thrown q_f_shift q_f_prints (nI key) = some (v, 0) := by
      unfold F_X8_find J_X8_find_41
      rw [pu_bind h2, if_neg (by decide), if_neg (by decide)]
      rw [hqB, pu_bind hmv]
    exact pq_close (J := J_LC_find_682 N) (c := 0) hA hM (fun _ => pk_uLs) (fun _ _ => ⟨_, rfl⟩)

theorem cs_byGraph {N : Nat} {x_built : Int32} {x_sorted_size : Int32} {f_sorted_places : Nat → Int32} {x_fingerprintMask : Int32} {x_displacer_keyCount : Int32} {x_displacer_bucketCount : Int32} {x_displacer_seed : Int32} {f_displacer_ranksByBucket_begins : Nat → Int32} {f_displacer_displacements : Nat → Int32} {f_displacer_ranksByNumber : Nat → Int32} {x_packer_bitsEach : Int32} {x_packer_wordCount : Int32} {f_packer_words : Nat → Int64} {x_graph_keyCount : Int32} {x_graph_vertexCount : Int32} {x_graph_seed : Int32} {f_graph_values : Nat → Int32} {f_fingerprints : Nat → Int32} {q_x_many : Int32} {q_x_built : Int32} {q_x_seed : Int32} {q_x_graphSeed : Int32} {q_x_bits : Int32} {q_x_bucketMany : Int32} {q_x_width : Int32} {q_f_keys : Nat → Int32} {q_f_sizes : Nat → Int32} {q_f_shift : Nat → Int32} {q_f_owner : Nat → Int32} {q_f_prints : Nat → Int32} {q_f_words : Nat → Int64} {q_f_values : Nat → Int32} (hFu : 6000 ≤ N) (h : Rel x_built x_sorted_size f_sorted_places x_fingerprintMask x_displacer_keyCount x_displacer_bucketCount x_displacer_seed f_displacer_ranksByBucket_begins f_displacer_displacements f_displacer_ranksByNumber x_packer_bitsEach x_packer_wordCount f_packer_words x_graph_keyCount x_graph_vertexCount x_graph_seed f_graph_values f_fingerprints q_x_many q_x_built q_x_seed q_x_graphSeed q_x_bits q_x_bucketMany q_x_width q_f_keys q_f_sizes q_f_shift q_f_owner q_f_prints q_f_words q_f_values) (q_x_thrown : Int32) (r_f_arr : Nat → Int64) (p1 : Int32) : ∃ x, S_byGraph N x_built x_graph_keyCount x_graph_vertexCount x_graph_seed f_graph_values q_x_many q_x_built q_x_graphSeed q_x_thrown q_f_values r_f_arr p1 = some x := by
  obtain ⟨κ, n, ⟨hk, rfl, rfl, hf, hq⟩, ⟨b0, hb0, hqb⟩, hb⟩ := h
  have hn := hk.1
  unfold S_byGraph
  rcases pr_key (N := N) p1 with ⟨h3, h2⟩ | ⟨key, hkey, rfl, h3, h2⟩
  · have hP : F_X7_byGraph N x_built x_graph_keyCount x_graph_vertexCount x_graph_seed f_graph_values p1 = some (.inl 0) := by
      unfold F_X7_byGraph
      exact (pu_bind h3).trans rfl
    have hA : F_L_byGraph N x_built x_graph_keyCount x_graph_vertexCount x_graph_seed f_graph_values 1 r_f_arr p1 = some (1, r_f_arr) := by
      unfold F_L_byGraph
      exact (pu_bind hP).trans rfl
    have hM : F_X8_byGraph N (nI n) q_x_built q_x_graphSeed q_x_thrown q_f_values p1 = some (0, 1) := by
      unfold F_X8_byGraph F_X8_fails
      rw [pu_bind h2, if_pos rfl]
      rfl
    exact pq_close (J := J_LC_byGraph_1217 N) (c := 1) hA hM (fun e => absurd e (by decide)) (fun _ _ => ⟨_, rfl⟩)
  rcases hb with ⟨rfl, rfl⟩ | ⟨rfl, rfl, B, s, g, nb, W, d, mu, ⟨h1, h0, hB, hs, hg, hnb1, hnb, hW1, hW7⟩, ⟨rfl, rfl, hqB, rfl, rfl⟩, hd, ⟨hfb, hsz⟩, ⟨hrn, hrk⟩, ⟨rfl, rfl⟩, hfp, ⟨rfl, rfl, rfl, hpw⟩, rfl, rfl, rfl, rfl, hv⟩
  · have hP : F_X7_byGraph N 0 x_graph_keyCount x_graph_vertexCount x_graph_seed f_graph_values (nI key) = some (.inl 1) := by
      unfold F_X7_byGraph
      rw [pu_bind h3, Sum.elim_inr]
      exact (pu_bind bu_0).trans rfl
    have hA : F_L_byGraph N 0 x_graph_keyCount x_graph_vertexCount x_graph_seed f_graph_values 1 r_f_arr (nI key) = some (2, r_f_arr) := by
      unfold F_L_byGraph
      exact (pu_bind hP).trans rfl
    have hM : F_X8_byGraph N (nI n) 0 q_x_graphSeed q_x_thrown q_f_values (nI key) = some (0, 2) := by
      unfold F_X8_byGraph F_X8_fails 
      rw [pu_bind h2, if_neg (by decide), if_pos rfl]
      rfl
    exact pq_close (J := J_LC_byGraph_1217 N) (c := 2) hA hM (fun e => absurd e (by decide)) (fun _ _ => ⟨_, rfl⟩)
  · have b4 := hN_lt 4 key g
    have b5 := hN_lt 5 key g
    have hv4 := hv (hN 4 key g % (3 * n)) (Nat.mod_lt _ (by omega))
    have hv5 := hv (hN 5 key g % (3 * n)) (Nat.mod_lt _ (by omega))
    have hm4 : hN 4 key g % (3 * n) < 3 * n := Nat.mod_lt _ (by omega)
    have hm5 : hN 5 key g % (3 * n) < 3 * n := Nat.mod_lt _ (by omega)
    have hpv : F_X1_sumFor N (nI n) (nI (3 * n)) (nI g) f_graph_values (nI key) = some (nI ((mu (hN 4 key g % (3 * n)) + mu (hN 5 key g % (3 * n))) % n)) := by
      unfold F_X1_sumFor
      rw [pu_bind (pu_vertexOf (by omega) (by omega) hkey hg), pu_bind (pu_get (by omega) (by decide)), hv4.2.1, pu_bind (pu_vertexOf (by omega) (by omega) hkey hg), pu_bind (pu_get (by omega) (by decide)), hv5.2.1, nI_add, pu_bind (pu_rmd (by omega) (by omega) (by omega))]
    have hP : F_X7_byGraph N 1 (nI n) (nI (3 * n)) (nI g) f_graph_values (nI key) = some (.inr (nI ((mu (hN 4 key g % (3 * n)) + mu (hN 5 key g % (3 * n))) % n))) := by
      unfold F_X7_byGraph
      rw [pu_bind h3, Sum.elim_inr, pu_bind bu_1, Sum.elim_inr]
      exact (pu_bind hpv).trans rfl
    have hA : F_L_byGraph N 1 (nI n) (nI (3 * n)) (nI g) f_graph_values 1 r_f_arr (nI key) = some (0, vp_updL r_f_arr 0 (Int32.toInt64 (nI ((mu (hN 4 key g % (3 * n)) + mu (hN 5 key g % (3 * n))) % n)))) := by
      unfold F_L_byGraph
      rw [pu_bind hP]
      rw [Sum.elim_inr, pu_bind pu_w0]
    have hM : F_X8_byGraph N (nI n) 1 (nI g) q_x_thrown q_f_values (nI key) = some ((nI ((mu (hN 4 key g % (3 * n)) + mu (hN 5 key g % (3 * n))) % n)), 0) := by
      unfold F_X8_byGraph 
      rw [pu_bind h2, if_neg (by decide), if_neg (by decide)]
      rw [pu_bind (pu_mh4 hkey hg), pu_3, pu_nz (by omega) (by omega), pu_rem (by omega) (by omega) (by omega), pu_bind (pu_rd (by omega) (by decide)), hv4.2.2, pu_bind (pu_mh5 hkey hg), pu_nz (by omega) (by omega), pu_rem (by omega) (by omega) (by omega), pu_bind (pu_rd (by omega) (by decide)), hv5.2.2, pu_nz (by omega) (by omega), nI_add, pu_rem (by omega) (by omega) (by omega)]
    exact pq_close (J := J_LC_byGraph_1217 N) (c := 0) hA hM (fun _ => pk_uLs) (fun _ _ => ⟨_, rfl⟩)

theorem cs_keyAt {N : Nat} {x_built : Int32} {x_sorted_size : Int32} {f_sorted_places : Nat → Int32} {x_fingerprintMask : Int32} {x_displacer_keyCount : Int32} {x_displacer_bucketCount : Int32} {x_displacer_seed : Int32} {f_displacer_ranksByBucket_begins : Nat → Int32} {f_displacer_displacements : Nat → Int32} {f_displacer_ranksByNumber : Nat → Int32} {x_packer_bitsEach : Int32} {x_packer_wordCount : Int32} {f_packer_words : Nat → Int64} {x_graph_keyCount : Int32} {x_graph_vertexCount : Int32} {x_graph_seed : Int32} {f_graph_values : Nat → Int32} {f_fingerprints : Nat → Int32} {q_x_many : Int32} {q_x_built : Int32} {q_x_seed : Int32} {q_x_graphSeed : Int32} {q_x_bits : Int32} {q_x_bucketMany : Int32} {q_x_width : Int32} {q_f_keys : Nat → Int32} {q_f_sizes : Nat → Int32} {q_f_shift : Nat → Int32} {q_f_owner : Nat → Int32} {q_f_prints : Nat → Int32} {q_f_words : Nat → Int64} {q_f_values : Nat → Int32} (hFu : 6000 ≤ N) (h : Rel x_built x_sorted_size f_sorted_places x_fingerprintMask x_displacer_keyCount x_displacer_bucketCount x_displacer_seed f_displacer_ranksByBucket_begins f_displacer_displacements f_displacer_ranksByNumber x_packer_bitsEach x_packer_wordCount f_packer_words x_graph_keyCount x_graph_vertexCount x_graph_seed f_graph_values f_fingerprints q_x_many q_x_built q_x_seed q_x_graphSeed q_x_bits q_x_bucketMany q_x_width q_f_keys q_f_sizes q_f_shift q_f_owner q_f_prints q_f_words q_f_values) (q_x_thrown : Int32) (r_f_arr : Nat → Int64) (p1 : Int32) : ∃ x, S_keyAt N x_sorted_size f_sorted_places q_x_many q_x_thrown q_f_keys r_f_arr p1 = some x := by
  obtain ⟨κ, n, ⟨hk, rfl, rfl, hf, hq⟩, ⟨b0, hb0, hqb⟩, hb⟩ := h
  have hn := hk.1
  unfold S_keyAt
  rcases pr_below (N := N) (m := n) (by omega) p1 with ⟨h3, h2⟩ | ⟨k, hk2, rfl, h3, h2⟩
  · have hP : F_X7_keyAt N (nI n) f_sorted_places p1 = some (.inl 2) := by
      unfold F_X7_keyAt
      exact (pu_bind h3).trans rfl
    have hA : F_L_keyAt N (nI n) f_sorted_places 1 r_f_arr p1 = some (1, r_f_arr) := by
      unfold F_L_keyAt
      exact (pu_bind hP).trans rfl
    have hM : F_X8_keyAt N (nI n) q_x_thrown q_f_keys p1 = some (0, 1) := by
      unfold F_X8_keyAt F_X8_fails J_X8_keyAt_33
      rw [pu_bind h2, if_pos rfl]
      rfl
    exact pq_close (J := J_LC_keyAt_465 N) (c := 1) hA hM (fun e => absurd e (by decide)) (fun _ _ => ⟨_, rfl⟩)
  · have hP : F_X7_keyAt N (nI n) f_sorted_places (nI k) = some (.inr (nI (κ k))) := by
      unfold F_X7_keyAt
      rw [pu_bind h3, Sum.elim_inr, pu_bind (pu_at (by omega)), hf k hk2]
    have hA : F_L_keyAt N (nI n) f_sorted_places 1 r_f_arr (nI k) = some (0, vp_updL r_f_arr 0 (Int32.toInt64 (nI (κ k)))) := by
      unfold F_L_keyAt
      rw [pu_bind hP]
      rw [Sum.elim_inr, pu_bind pu_w0]
    have hM : F_X8_keyAt N (nI n) q_x_thrown q_f_keys (nI k) = some (nI (κ k), 0) := by
      unfold F_X8_keyAt J_X8_keyAt_33
      rw [pu_bind h2, if_neg (by decide), pu_bind (pu_rd (by omega) (by decide)), hq k hk2]
    exact pq_close (J := J_LC_keyAt_465 N) (c := 0) hA hM (fun _ => pk_uLs) (fun _ _ => ⟨_, rfl⟩)

theorem cs_keys {N : Nat} {x_built : Int32} {x_sorted_size : Int32} {f_sorted_places : Nat → Int32} {x_fingerprintMask : Int32} {x_displacer_keyCount : Int32} {x_displacer_bucketCount : Int32} {x_displacer_seed : Int32} {f_displacer_ranksByBucket_begins : Nat → Int32} {f_displacer_displacements : Nat → Int32} {f_displacer_ranksByNumber : Nat → Int32} {x_packer_bitsEach : Int32} {x_packer_wordCount : Int32} {f_packer_words : Nat → Int64} {x_graph_keyCount : Int32} {x_graph_vertexCount : Int32} {x_graph_seed : Int32} {f_graph_values : Nat → Int32} {f_fingerprints : Nat → Int32} {q_x_many : Int32} {q_x_built : Int32} {q_x_seed : Int32} {q_x_graphSeed : Int32} {q_x_bits : Int32} {q_x_bucketMany : Int32} {q_x_width : Int32} {q_f_keys : Nat → Int32} {q_f_sizes : Nat → Int32} {q_f_shift : Nat → Int32} {q_f_owner : Nat → Int32} {q_f_prints : Nat → Int32} {q_f_words : Nat → Int64} {q_f_values : Nat → Int32} (hFu : 6000 ≤ N) (h : Rel x_built x_sorted_size f_sorted_places x_fingerprintMask x_displacer_keyCount x_displacer_bucketCount x_displacer_seed f_displacer_ranksByBucket_begins f_displacer_displacements f_displacer_ranksByNumber x_packer_bitsEach x_packer_wordCount f_packer_words x_graph_keyCount x_graph_vertexCount x_graph_seed f_graph_values f_fingerprints q_x_many q_x_built q_x_seed q_x_graphSeed q_x_bits q_x_bucketMany q_x_width q_f_keys q_f_sizes q_f_shift q_f_owner q_f_prints q_f_words q_f_values) (q_x_thrown : Int32) : ∃ x, S_keys N x_sorted_size q_x_many q_x_thrown = some x := by
  obtain ⟨κ, n, ⟨hk, rfl, rfl, hf, hq⟩, ⟨b0, hb0, hqb⟩, hb⟩ := h
  have hn := hk.1
  unfold S_keys F_X7_keys F_X8_keys
  rw [pu_bind (a := nI n) rfl, pu_bind (a := (nI n, (0 : Int32))) rfl, if_pos rfl]
  exact ⟨_, rfl⟩

theorem cs_isBuilt {N : Nat} {x_built : Int32} {x_sorted_size : Int32} {f_sorted_places : Nat → Int32} {x_fingerprintMask : Int32} {x_displacer_keyCount : Int32} {x_displacer_bucketCount : Int32} {x_displacer_seed : Int32} {f_displacer_ranksByBucket_begins : Nat → Int32} {f_displacer_displacements : Nat → Int32} {f_displacer_ranksByNumber : Nat → Int32} {x_packer_bitsEach : Int32} {x_packer_wordCount : Int32} {f_packer_words : Nat → Int64} {x_graph_keyCount : Int32} {x_graph_vertexCount : Int32} {x_graph_seed : Int32} {f_graph_values : Nat → Int32} {f_fingerprints : Nat → Int32} {q_x_many : Int32} {q_x_built : Int32} {q_x_seed : Int32} {q_x_graphSeed : Int32} {q_x_bits : Int32} {q_x_bucketMany : Int32} {q_x_width : Int32} {q_f_keys : Nat → Int32} {q_f_sizes : Nat → Int32} {q_f_shift : Nat → Int32} {q_f_owner : Nat → Int32} {q_f_prints : Nat → Int32} {q_f_words : Nat → Int64} {q_f_values : Nat → Int32} (hFu : 6000 ≤ N) (h : Rel x_built x_sorted_size f_sorted_places x_fingerprintMask x_displacer_keyCount x_displacer_bucketCount x_displacer_seed f_displacer_ranksByBucket_begins f_displacer_displacements f_displacer_ranksByNumber x_packer_bitsEach x_packer_wordCount f_packer_words x_graph_keyCount x_graph_vertexCount x_graph_seed f_graph_values f_fingerprints q_x_many q_x_built q_x_seed q_x_graphSeed q_x_bits q_x_bucketMany q_x_width q_f_keys q_f_sizes q_f_shift q_f_owner q_f_prints q_f_words q_f_values) (q_x_thrown : Int32) : ∃ x, S_isBuilt N x_built q_x_built q_x_thrown = some x := by
  obtain ⟨κ, n, ⟨hk, rfl, rfl, hf, hq⟩, ⟨b0, hb0, hqb⟩, hb⟩ := h
  have hn := hk.1
  unfold S_isBuilt F_X7_isBuilt F_X8_isBuilt
  rcases hb with ⟨rfl, rfl⟩ | ⟨rfl, rfl, _⟩
  · exact ⟨_, rfl⟩
  · exact ⟨_, rfl⟩

