/-! ===== the law goes round ===== -/
theorem ll_gt {L k : Nat} (hL : L ≤ 2048) (hk : k ≤ 513) (h : ¬ 4 * k + 4 ≤ L) : Int32.ofNat L - 4 < nI (4 * k) := by
  show nI L - nI 4 < nI (4 * k)
  rcases Nat.lt_or_ge L 4 with q | q
  · exact Int32.lt_of_lt_of_le (pk_sneg (by omega) q) (nI_pos' (by omega))
  · rw [pk_sub q]; exact nI_lt (by omega) (by omega)

theorem law_loop {p : Program} {l : Launch} {e : Env} {s : State} {m : MethodId} {below : List Frame} {meth : Method} {c : Code} {Q : State → Prop} {G : va_G} {cI cJ : ClassId} {ad : Nat → Nat} {A : Nat → Prop} {sb L : Nat} {xs : Nat → Int32} (hfl : l.stackTraces = false) (F : kk_at p m c cL_law 8 s #[Value.ref sb] wsL_law RL G cI cJ ad A) (hX : va_X sb L xs s s.heap) (hbl : sb < s.heap.size) (hbA : ¬ A sb)  {a0 a1 a2 a3 a4 a5 a6 a7 a8 a9 a10 a11 a12 a13 a14 a15 a16 a17 a18 a19 a20 a21 a22 a23 a24 a25 a26 a27 a28 a29 a30 a31 a32 a33 a34 a35 a36 a37 a38 a39 b0 b1 b2 b3 b4 b5 b6 b7 b8 b9 b10 b11 b12 g0 : Nat} (hL : L ≤ 2048) (N : Nat) (hFu : 6000 ≤ N)
    (hend : ∀ (H : Heap) (locs : List Loc) (ls : Array Slot) (cells slots : Nat) (ws : va_W), kk_wd G A s.heap ws H locs → cells ≤ 601024 → slots ≤ 7293034 → W p l e (room_1) s m #[Value.ref sb] below meth c H locs cells slots Q (F0 m 1326 ls [])) :
    ∀ (j k : Nat), k + j = 513 → ∀ {x_fingerprintMask : Int32} {x_built : Int32} {x_sorted_size : Int32} {f_sorted_places : Nat → Int32} {x_displacer_keyCount : Int32} {x_displacer_bucketCount : Int32} {x_displacer_seed : Int32} {x_displacer_ranksByBucket_thingCount : Int32} {x_displacer_ranksByBucket_groupCount : Int32} {f_displacer_ranksByBucket_groups : Nat → Int32} {f_displacer_ranksByBucket_begins : Nat → Int32} {f_displacer_ranksByBucket_members : Nat → Int32} {f_displacer_starts : Nat → Int32} {f_displacer_steps : Nat → Int32} {f_displacer_numbers : Nat → Int32} {f_displacer_displacements : Nat → Int32} {f_displacer_ranksByNumber : Nat → Int32} {x_packer_bitsEach : Int32} {x_packer_wordCount : Int32} {f_packer_words : Nat → Int64} {x_graph_reachedCount : Int32} {x_graph_keyCount : Int32} {x_graph_vertexCount : Int32} {x_graph_seed : Int32} {x_graph_ends_thingCount : Int32} {x_graph_ends_groupCount : Int32} {f_graph_ends_groups : Nat → Int32} {f_graph_ends_begins : Nat → Int32} {f_graph_ends_members : Nat → Int32} {f_graph_walked : Nat → Int32} {f_graph_values : Nat → Int32} {f_graph_reached : Nat → Int32} {f_fingerprints : Nat → Int32} {q_x_many : Int32} {q_x_built : Int32} {q_x_seed : Int32} {q_x_graphSeed : Int32} {q_x_bits : Int32} {q_x_bucketMany : Int32} {q_x_width : Int32} {q_x_thrown : Int32} {q_f_keys : Nat → Int32} {q_f_sizes : Nat → Int32} {q_f_shift : Nat → Int32} {q_f_owner : Nat → Int32} {q_f_prints : Nat → Int32} {q_f_some : Nat → Int32} {q_f_triedShift : Nat → Int32} {q_f_triedOwner : Nat → Int32} {q_f_words : Nat → Int64} {q_f_values : Nat → Int32} {q_f_roots : Nat → Int32} {q_f_ends : Nat → Int32} {r_f_arr : Nat → Int64}, Rel x_built x_sorted_size f_sorted_places x_fingerprintMask x_displacer_keyCount x_displacer_bucketCount x_displacer_seed f_displacer_ranksByBucket_begins f_displacer_displacements f_displacer_ranksByNumber x_packer_bitsEach x_packer_wordCount f_packer_words x_graph_keyCount x_graph_vertexCount x_graph_seed f_graph_values f_fingerprints q_x_many q_x_built q_x_seed q_x_graphSeed q_x_bits q_x_bucketMany q_x_width q_f_keys q_f_sizes q_f_shift q_f_owner q_f_prints q_f_words q_f_values → ∀ (H : Heap) (locs : List Loc) (ls : Array Slot), kk_wd G A s.heap [(a0, .inr (7, [.ref a1, .ref a4, .ref a22, .ref a24, .ref a38, .int x_fingerprintMask, .int x_built])), (a1, .inr (4, [.ref a2, .int x_sorted_size])), (a2, .inr (6, [.ref a3])), (a3, .inl (cI, 120, .inl f_sorted_places)), (a4, .inr (0, [.ref a5, .ref a12, .ref a14, .ref a16, .ref a18, .ref a20, .int x_displacer_keyCount, .int x_displacer_bucketCount, .int x_displacer_seed])), (a5, .inr (2, [.ref a6, .ref a8, .ref a10, .int x_displacer_ranksByBucket_thingCount, .int x_displacer_ranksByBucket_groupCount])), (a6, .inr (6, [.ref a7])), (a7, .inl (cI, 120, .inl f_displacer_ranksByBucket_groups)), (a8, .inr (6, [.ref a9])), (a9, .inl (cI, 121, .inl f_displacer_ranksByBucket_begins)), (a10, .inr (6, [.ref a11])), (a11, .inl (cI, 120, .inl f_displacer_ranksByBucket_members)), (a12, .inr (6, [.ref a13])), (a13, .inl (cI, 120, .inl f_displacer_starts)), (a14, .inr (6, [.ref a15])), (a15, .inl (cI, 120, .inl f_displacer_steps)), (a16, .inr (6, [.ref a17])), (a17, .inl (cI, 120, .inl f_displacer_numbers)), (a18, .inr (6, [.ref a19])), (a19, .inl (cI, 120, .inl f_displacer_displacements)), (a20, .inr (6, [.ref a21])), (a21, .inl (cI, 120, .inl f_displacer_ranksByNumber)), (a22, .inr (5, [.ref a23, .int x_packer_bitsEach, .int x_packer_wordCount])), (a23, .inl (cJ, 17, .inr (.inl f_packer_words))), (a24, .inr (1, [.ref a25, .ref a32, .ref a34, .ref a36, .int x_graph_reachedCount, .int x_graph_keyCount, .int x_graph_vertexCount, .int x_graph_seed])), (a25, .inr (2, [.ref a26, .ref a28, .ref a30, .int x_graph_ends_thingCount, .int x_graph_ends_groupCount])), (a26, .inr (6, [.ref a27])), (a27, .inl (cI, 240, .inl f_graph_ends_groups)), (a28, .inr (6, [.ref a29])), (a29, .inl (cI, 361, .inl f_graph_ends_begins)), (a30, .inr (6, [.ref a31])), (a31, .inl (cI, 240, .inl f_graph_ends_members)), (a32, .inr (6, [.ref a33])), (a33, .inl (cI, 120, .inl f_graph_walked)), (a34, .inr (6, [.ref a35])), (a35, .inl (cI, 360, .inl f_graph_values)), (a36, .inr (6, [.ref a37])), (a37, .inl (cI, 360, .inl f_graph_reached)), (a38, .inr (6, [.ref a39])), (a39, .inl (cI, 120, .inl f_fingerprints)), (b0, .inr (8, [.ref b1, .int q_x_many, .int q_x_built, .int q_x_seed, .int q_x_graphSeed, .int q_x_bits, .int q_x_bucketMany, .int q_x_width, .ref b2, .ref b3, .ref b4, .ref b5, .ref b6, .ref b7, .ref b8, .ref b9, .ref b10, .ref b11, .ref b12, .int q_x_thrown])), (b1, .inl (cI, 120, .inl q_f_keys)), (b2, .inl (cI, 120, .inl q_f_sizes)), (b3, .inl (cI, 120, .inl q_f_shift)), (b4, .inl (cI, 120, .inl q_f_owner)), (b5, .inl (cI, 120, .inl q_f_prints)), (b6, .inl (cI, 120, .inl q_f_some)), (b7, .inl (cI, 120, .inl q_f_triedShift)), (b8, .inl (cI, 120, .inl q_f_triedOwner)), (b9, .inl (cJ, 20, .inr (.inl q_f_words))), (b10, .inl (cI, 360, .inl q_f_values)), (b11, .inl (cI, 360, .inl q_f_roots)), (b12, .inl (cI, 240, .inl q_f_ends)), (g0, .inl (cJ, 1, .inr (.inl r_f_arr)))] H locs → lv_has ls 8 [(0, .ref sb), (1, .ref a0), (2, .ref b0), (3, .ref g0), (4, .int (nI (4 * k)))] → W p l e (room_1) s m #[Value.ref sb] below meth c H locs (54 + 4 * k) (4915 + 24 * k) Q (F0 m 23 ls []) := by
  intro j
  induction j with
  | zero =>
    intro k hk x_fingerprintMask x_built x_sorted_size f_sorted_places x_displacer_keyCount x_displacer_bucketCount x_displacer_seed x_displacer_ranksByBucket_thingCount x_displacer_ranksByBucket_groupCount f_displacer_ranksByBucket_groups f_displacer_ranksByBucket_begins f_displacer_ranksByBucket_members f_displacer_starts f_displacer_steps f_displacer_numbers f_displacer_displacements f_displacer_ranksByNumber x_packer_bitsEach x_packer_wordCount f_packer_words x_graph_reachedCount x_graph_keyCount x_graph_vertexCount x_graph_seed x_graph_ends_thingCount x_graph_ends_groupCount f_graph_ends_groups f_graph_ends_begins f_graph_ends_members f_graph_walked f_graph_values f_graph_reached f_fingerprints q_x_many q_x_built q_x_seed q_x_graphSeed q_x_bits q_x_bucketMany q_x_width q_x_thrown q_f_keys q_f_sizes q_f_shift q_f_owner q_f_prints q_f_some q_f_triedShift q_f_triedOwner q_f_words q_f_values q_f_roots q_f_ends r_f_arr hR H locs ls hw hl
    have hx := F.1.1
    have hb := F.1.2.1
    refine lv_iload hx hb dL_law_23 (lv_at hl 4 rfl) ?_
    refine lv_aload_n hx hb dL_law_25 rfl (lv_at hl 0 rfl) ?_
    refine va_slen hx hb hX hbl hbA hw.2.2.1 dL_law_26 ?_
    refine lv_iconst (v := 4) hx hb dL_law_27 (by decide) ?_
    refine lv_isub hx hb dL_law_28 ?_
    refine lv_icmp_gt (tgt := 1326) hx hb dL_law_29 (by decide) (fun _ => hend _ _ _ _ _ _ hw (by omega) (by omega)) (fun hgt => ?_)
    exact absurd (ll_gt hL (by omega) (by omega)) hgt
  | succ j ih =>
    intro k hk x_fingerprintMask x_built x_sorted_size f_sorted_places x_displacer_keyCount x_displacer_bucketCount x_displacer_seed x_displacer_ranksByBucket_thingCount x_displacer_ranksByBucket_groupCount f_displacer_ranksByBucket_groups f_displacer_ranksByBucket_begins f_displacer_ranksByBucket_members f_displacer_starts f_displacer_steps f_displacer_numbers f_displacer_displacements f_displacer_ranksByNumber x_packer_bitsEach x_packer_wordCount f_packer_words x_graph_reachedCount x_graph_keyCount x_graph_vertexCount x_graph_seed x_graph_ends_thingCount x_graph_ends_groupCount f_graph_ends_groups f_graph_ends_begins f_graph_ends_members f_graph_walked f_graph_values f_graph_reached f_fingerprints q_x_many q_x_built q_x_seed q_x_graphSeed q_x_bits q_x_bucketMany q_x_width q_x_thrown q_f_keys q_f_sizes q_f_shift q_f_owner q_f_prints q_f_some q_f_triedShift q_f_triedOwner q_f_words q_f_values q_f_roots q_f_ends r_f_arr hR H locs ls hw hl
    have hx := F.1.1
    have hb := F.1.2.1
    refine lv_iload hx hb dL_law_23 (lv_at hl 4 rfl) ?_
    refine lv_aload_n hx hb dL_law_25 rfl (lv_at hl 0 rfl) ?_
    refine va_slen hx hb hX hbl hbA hw.2.2.1 dL_law_26 ?_
    refine lv_iconst (v := 4) hx hb dL_law_27 (by decide) ?_
    refine lv_isub hx hb dL_law_28 ?_
    refine lv_icmp_gt (tgt := 1326) hx hb dL_law_29 (by decide) (fun _ => hend _ _ _ _ _ _ hw (by omega) (by omega)) (fun hgt => ?_)
    have hkL : 4 * k + 4 ≤ L := Decidable.byContradiction fun q => hgt (ll_gt hL (by omega) q)
    have hv0 : vp_in (nI (4 * k)) L := vp_in_nI (by omega) (by omega)
    have hv1 : vp_in (nI (4 * k) + 1) L := by rw [nI_1]; exact vp_in_nI (by omega) (by omega)
    have hv2 : vp_in (nI (4 * k) + 2) L := by
      rw [show nI (4 * k) + 2 = nI (4 * k + 2) from nI_add (4 * k) 2]; exact vp_in_nI (by omega) (by omega)
    have hv3 : vp_in (nI (4 * k) + 3) L := by
      rw [show nI (4 * k) + 3 = nI (4 * k + 3) from nI_add (4 * k) 3]; exact vp_in_nI (by omega) (by omega)
    refine lv_aload_n hx hb dL_law_32 rfl (lv_at hl 0 rfl) ?_
    refine lv_iload hx hb dL_law_33 (lv_at hl 4 rfl) ?_
    refine kk_sld F hX hbl hbA hw ⟨hv0, rfl⟩ dL_law_35 ?_
    refine lv_bipush (v := 31) hx hb dL_law_36 (by decide) ?_
    refine lv_iand hx hb dL_law_38 ?_
    obtain ⟨op, hop, eop⟩ := pk_andE (xs (nI (4 * k)).toNatClampNeg) (m := 31) 5 (by decide)
    rw [eop]
    have htail : ∀ {x_fingerprintMask : Int32} {x_built : Int32} {x_sorted_size : Int32} {f_sorted_places : Nat → Int32} {x_displacer_keyCount : Int32} {x_displacer_bucketCount : Int32} {x_displacer_seed : Int32} {x_displacer_ranksByBucket_thingCount : Int32} {x_displacer_ranksByBucket_groupCount : Int32} {f_displacer_ranksByBucket_groups : Nat → Int32} {f_displacer_ranksByBucket_begins : Nat → Int32} {f_displacer_ranksByBucket_members : Nat → Int32} {f_displacer_starts : Nat → Int32} {f_displacer_steps : Nat → Int32} {f_displacer_numbers : Nat → Int32} {f_displacer_displacements : Nat → Int32} {f_displacer_ranksByNumber : Nat → Int32} {x_packer_bitsEach : Int32} {x_packer_wordCount : Int32} {f_packer_words : Nat → Int64} {x_graph_reachedCount : Int32} {x_graph_keyCount : Int32} {x_graph_vertexCount : Int32} {x_graph_seed : Int32} {x_graph_ends_thingCount : Int32} {x_graph_ends_groupCount : Int32} {f_graph_ends_groups : Nat → Int32} {f_graph_ends_begins : Nat → Int32} {f_graph_ends_members : Nat → Int32} {f_graph_walked : Nat → Int32} {f_graph_values : Nat → Int32} {f_graph_reached : Nat → Int32} {f_fingerprints : Nat → Int32} {q_x_many : Int32} {q_x_built : Int32} {q_x_seed : Int32} {q_x_graphSeed : Int32} {q_x_bits : Int32} {q_x_bucketMany : Int32} {q_x_width : Int32} {q_x_thrown : Int32} {q_f_keys : Nat → Int32} {q_f_sizes : Nat → Int32} {q_f_shift : Nat → Int32} {q_f_owner : Nat → Int32} {q_f_prints : Nat → Int32} {q_f_some : Nat → Int32} {q_f_triedShift : Nat → Int32} {q_f_triedOwner : Nat → Int32} {q_f_words : Nat → Int64} {q_f_values : Nat → Int32} {q_f_roots : Nat → Int32} {q_f_ends : Nat → Int32} {r_f_arr : Nat → Int64} (cells slots : Nat), Rel x_built x_sorted_size f_sorted_places x_fingerprintMask x_displacer_keyCount x_displacer_bucketCount x_displacer_seed f_displacer_ranksByBucket_begins f_displacer_displacements f_displacer_ranksByNumber x_packer_bitsEach x_packer_wordCount f_packer_words x_graph_keyCount x_graph_vertexCount x_graph_seed f_graph_values f_fingerprints q_x_many q_x_built q_x_seed q_x_graphSeed q_x_bits q_x_bucketMany q_x_width q_f_keys q_f_sizes q_f_shift q_f_owner q_f_prints q_f_words q_f_values → ∀ (H : Heap) (locs : List Loc) (ls : Array Slot), cells ≤ 54 + 4 * (k + 1) → slots ≤ 4915 + 24 * (k + 1) → kk_wd G A s.heap [(a0, .inr (7, [.ref a1, .ref a4, .ref a22, .ref a24, .ref a38, .int x_fingerprintMask, .int x_built])), (a1, .inr (4, [.ref a2, .int x_sorted_size])), (a2, .inr (6, [.ref a3])), (a3, .inl (cI, 120, .inl f_sorted_places)), (a4, .inr (0, [.ref a5, .ref a12, .ref a14, .ref a16, .ref a18, .ref a20, .int x_displacer_keyCount, .int x_displacer_bucketCount, .int x_displacer_seed])), (a5, .inr (2, [.ref a6, .ref a8, .ref a10, .int x_displacer_ranksByBucket_thingCount, .int x_displacer_ranksByBucket_groupCount])), (a6, .inr (6, [.ref a7])), (a7, .inl (cI, 120, .inl f_displacer_ranksByBucket_groups)), (a8, .inr (6, [.ref a9])), (a9, .inl (cI, 121, .inl f_displacer_ranksByBucket_begins)), (a10, .inr (6, [.ref a11])), (a11, .inl (cI, 120, .inl f_displacer_ranksByBucket_members)), (a12, .inr (6, [.ref a13])), (a13, .inl (cI, 120, .inl f_displacer_starts)), (a14, .inr (6, [.ref a15])), (a15, .inl (cI, 120, .inl f_displacer_steps)), (a16, .inr (6, [.ref a17])), (a17, .inl (cI, 120, .inl f_displacer_numbers)), (a18, .inr (6, [.ref a19])), (a19, .inl (cI, 120, .inl f_displacer_displacements)), (a20, .inr (6, [.ref a21])), (a21, .inl (cI, 120, .inl f_displacer_ranksByNumber)), (a22, .inr (5, [.ref a23, .int x_packer_bitsEach, .int x_packer_wordCount])), (a23, .inl (cJ, 17, .inr (.inl f_packer_words))), (a24, .inr (1, [.ref a25, .ref a32, .ref a34, .ref a36, .int x_graph_reachedCount, .int x_graph_keyCount, .int x_graph_vertexCount, .int x_graph_seed])), (a25, .inr (2, [.ref a26, .ref a28, .ref a30, .int x_graph_ends_thingCount, .int x_graph_ends_groupCount])), (a26, .inr (6, [.ref a27])), (a27, .inl (cI, 240, .inl f_graph_ends_groups)), (a28, .inr (6, [.ref a29])), (a29, .inl (cI, 361, .inl f_graph_ends_begins)), (a30, .inr (6, [.ref a31])), (a31, .inl (cI, 240, .inl f_graph_ends_members)), (a32, .inr (6, [.ref a33])), (a33, .inl (cI, 120, .inl f_graph_walked)), (a34, .inr (6, [.ref a35])), (a35, .inl (cI, 360, .inl f_graph_values)), (a36, .inr (6, [.ref a37])), (a37, .inl (cI, 360, .inl f_graph_reached)), (a38, .inr (6, [.ref a39])), (a39, .inl (cI, 120, .inl f_fingerprints)), (b0, .inr (8, [.ref b1, .int q_x_many, .int q_x_built, .int q_x_seed, .int q_x_graphSeed, .int q_x_bits, .int q_x_bucketMany, .int q_x_width, .ref b2, .ref b3, .ref b4, .ref b5, .ref b6, .ref b7, .ref b8, .ref b9, .ref b10, .ref b11, .ref b12, .int q_x_thrown])), (b1, .inl (cI, 120, .inl q_f_keys)), (b2, .inl (cI, 120, .inl q_f_sizes)), (b3, .inl (cI, 120, .inl q_f_shift)), (b4, .inl (cI, 120, .inl q_f_owner)), (b5, .inl (cI, 120, .inl q_f_prints)), (b6, .inl (cI, 120, .inl q_f_some)), (b7, .inl (cI, 120, .inl q_f_triedShift)), (b8, .inl (cI, 120, .inl q_f_triedOwner)), (b9, .inl (cJ, 20, .inr (.inl q_f_words))), (b10, .inl (cI, 360, .inl q_f_values)), (b11, .inl (cI, 360, .inl q_f_roots)), (b12, .inl (cI, 240, .inl q_f_ends)), (g0, .inl (cJ, 1, .inr (.inl r_f_arr)))] H locs → lv_has ls 8 [(0, .ref sb), (1, .ref a0), (2, .ref b0), (3, .ref g0), (4, .int (nI (4 * k)))] → W p l e (room_1) s m #[Value.ref sb] below meth c H locs cells slots Q (F0 m 1320 ls []) := by
      intro x_fingerprintMask x_built x_sorted_size f_sorted_places x_displacer_keyCount x_displacer_bucketCount x_displacer_seed x_displacer_ranksByBucket_thingCount x_displacer_ranksByBucket_groupCount f_displacer_ranksByBucket_groups f_displacer_ranksByBucket_begins f_displacer_ranksByBucket_members f_displacer_starts f_displacer_steps f_displacer_numbers f_displacer_displacements f_displacer_ranksByNumber x_packer_bitsEach x_packer_wordCount f_packer_words x_graph_reachedCount x_graph_keyCount x_graph_vertexCount x_graph_seed x_graph_ends_thingCount x_graph_ends_groupCount f_graph_ends_groups f_graph_ends_begins f_graph_ends_members f_graph_walked f_graph_values f_graph_reached f_fingerprints q_x_many q_x_built q_x_seed q_x_graphSeed q_x_bits q_x_bucketMany q_x_width q_x_thrown q_f_keys q_f_sizes q_f_shift q_f_owner q_f_prints q_f_some q_f_triedShift q_f_triedOwner q_f_words q_f_values q_f_roots q_f_ends r_f_arr cells slots hR H locs ls h1 h2 hw hl
      refine W.widen h1 h2 ?_
      refine lv_iinc (k := 4) (v := nI (4 * (k + 1))) (lv' := [(4, .int (nI (4 * (k + 1)))), (0, .ref sb), (1, .ref a0), (2, .ref b0), (3, .ref g0)]) hx hb dL_law_1320 hl rfl (nI_add (4 * k) 4) (by decide) rfl (fun ls' hl' => ?_)
      refine lv_goto (tgt := 23) hx hb dL_law_1323 (by decide) ?_
      exact ih (k + 1) (by omega) hR _ _ _ hw (lv_sub hl' [1, 2, 3, 4, 0] rfl)
    rcases Nat.lt_or_ge op 23 with h23 | h23
    case inr =>
      refine lv_tableOut (tgt := 1320) hx hb dL_law_39 (Or.inr (by rw [nI_toInt (by omega)]; omega)) (by decide) ?_
      exact htail _ _ hR _ _ _ (by omega) (by omega) hw hl
    match op, h23 with
    | 0, _ =>
      refine lv_tableIn (tgt := 144) (off := 105) hx hb dL_law_39 (by decide) (by decide) (by rfl) (by decide) ?_
      obtain ⟨x, hS, hR2⟩ := cs_add hFu hR q_x_thrown r_f_arr (xs (nI (4 * k) + 1).toNatClampNeg)
      exact lc_add hfl F hX hbl hbA (nI (4 * k)) _ ⟨hv1, rfl⟩ N x hS _ _ ⟨by omega, by omega⟩ (fun H locs ls hw hl => htail _ _ hR2 _ _ _ (by omega) (by omega) hw hl) _ _ _ hw hl
    | 1, _ =>
      refine lv_tableIn (tgt := 200) (off := 161) hx hb dL_law_39 (by decide) (by decide) (by rfl) (by decide) ?_
      obtain ⟨x, hS, hR2⟩ := cs_addLine hFu hR q_x_thrown r_f_arr (xs (nI (4 * k) + 1).toNatClampNeg) (xs (nI (4 * k) + 2).toNatClampNeg) (xs (nI (4 * k) + 3).toNatClampNeg)
      exact lc_addLine hfl F hX hbl hbA (nI (4 * k)) _ _ _ ⟨hv1, rfl⟩ ⟨hv2, rfl⟩ ⟨hv3, rfl⟩ N x hS _ _ ⟨by omega, by omega⟩ (fun H locs ls hw hl => htail _ _ hR2 _ _ _ (by omega) (by omega) hw hl) _ _ _ hw hl
    | 2, _ =>
      refine lv_tableIn (tgt := 280) (off := 241) hx hb dL_law_39 (by decide) (by decide) (by rfl) (by decide) ?_
      obtain ⟨x, hS, hR2⟩ := cs_remove hFu hR q_x_thrown r_f_arr (xs (nI (4 * k) + 1).toNatClampNeg)
      exact lc_remove hfl F hX hbl hbA (nI (4 * k)) _ ⟨hv1, rfl⟩ N x hS _ _ ⟨by omega, by omega⟩ (fun H locs ls hw hl => htail _ _ hR2 _ _ _ (by omega) (by omega) hw hl) _ _ _ hw hl
    | 3, _ =>
      refine lv_tableIn (tgt := 336) (off := 297) hx hb dL_law_39 (by decide) (by decide) (by rfl) (by decide) ?_
      obtain ⟨x, hS⟩ := cs_keys hFu hR q_x_thrown
      exact lc_keys hfl F hX hbl hbA (nI (4 * k)) N x hS _ _ ⟨by omega, by omega⟩ (fun H locs ls hw hl => htail _ _ hR _ _ _ (by omega) (by omega) hw hl) _ _ _ hw hl
    | 4, _ =>
      refine lv_tableIn (tgt := 349) (off := 310) hx hb dL_law_39 (by decide) (by decide) (by rfl) (by decide) ?_
      obtain ⟨x, hS⟩ := cs_has hFu hR q_x_thrown r_f_arr (xs (nI (4 * k) + 1).toNatClampNeg)
      exact lc_has hfl F hX hbl hbA (nI (4 * k)) _ ⟨hv1, rfl⟩ N x hS _ _ ⟨by omega, by omega⟩ (fun H locs ls hw hl => htail _ _ hR _ _ _ (by omega) (by omega) hw hl) _ _ _ hw hl
    | 5, _ =>
      refine lv_tableIn (tgt := 412) (off := 373) hx hb dL_law_39 (by decide) (by decide) (by rfl) (by decide) ?_
      obtain ⟨x, hS⟩ := cs_keyAt hFu hR q_x_thrown r_f_arr (xs (nI (4 * k) + 1).toNatClampNeg)
      exact lc_keyAt hfl F hX hbl hbA (nI (4 * k)) _ ⟨hv1, rfl⟩ N x hS _ _ ⟨by omega, by omega⟩ (fun H locs ls hw hl => htail _ _ hR _ _ _ (by omega) (by omega) hw hl) _ _ _ hw hl
    | 6, _ =>
      refine lv_tableIn (tgt := 468) (off := 429) hx hb dL_law_39 (by decide) (by decide) (by rfl) (by decide) ?_
      obtain ⟨x, hS, hR2⟩ := cs_build hFu hR x_displacer_ranksByBucket_thingCount x_displacer_ranksByBucket_groupCount f_displacer_ranksByBucket_groups f_displacer_ranksByBucket_members f_displacer_starts f_displacer_steps f_displacer_numbers x_graph_reachedCount x_graph_ends_thingCount x_graph_ends_groupCount f_graph_ends_groups f_graph_ends_begins f_graph_ends_members f_graph_walked f_graph_reached q_x_thrown q_f_some q_f_triedShift q_f_triedOwner q_f_roots q_f_ends r_f_arr (xs (nI (4 * k) + 1).toNatClampNeg) (xs (nI (4 * k) + 2).toNatClampNeg)
      exact lc_build hfl F hX hbl hbA (nI (4 * k)) _ _ ⟨hv1, rfl⟩ ⟨hv2, rfl⟩ N x hS _ _ ⟨by omega, by omega⟩ (fun H locs ls hw hl => htail _ _ hR2 _ _ _ (by omega) (by omega) hw hl) _ _ _ hw hl
    | 7, _ =>
      refine lv_tableIn (tgt := 536) (off := 497) hx hb dL_law_39 (by decide) (by decide) (by rfl) (by decide) ?_
      obtain ⟨x, hS, hR2⟩ := cs_reopen hFu hR q_x_thrown
      exact lc_reopen hfl F hX hbl hbA (nI (4 * k)) N x hS _ _ ⟨by omega, by omega⟩ (fun H locs ls hw hl => htail _ _ hR2 _ _ _ (by omega) (by omega) hw hl) _ _ _ hw hl
    | 8, _ =>
      refine lv_tableIn (tgt := 560) (off := 521) hx hb dL_law_39 (by decide) (by decide) (by rfl) (by decide) ?_
      obtain ⟨x, hS⟩ := cs_isBuilt hFu hR q_x_thrown
      exact lc_isBuilt hfl F hX hbl hbA (nI (4 * k)) N x hS _ _ ⟨by omega, by omega⟩ (fun H locs ls hw hl => htail _ _ hR _ _ _ (by omega) (by omega) hw hl) _ _ _ hw hl
    | 9, _ =>
      refine lv_tableIn (tgt := 573) (off := 534) hx hb dL_law_39 (by decide) (by decide) (by rfl) (by decide) ?_
      obtain ⟨x, hS⟩ := cs_number hFu hR q_x_thrown r_f_arr (xs (nI (4 * k) + 1).toNatClampNeg)
      exact lc_number hfl F hX hbl hbA (nI (4 * k)) _ ⟨hv1, rfl⟩ N x hS _ _ ⟨by omega, by omega⟩ (fun H locs ls hw hl => htail _ _ hR _ _ _ (by omega) (by omega) hw hl) _ _ _ hw hl
    | 10, _ =>
      refine lv_tableIn (tgt := 629) (off := 590) hx hb dL_law_39 (by decide) (by decide) (by rfl) (by decide) ?_
      obtain ⟨x, hS⟩ := cs_find hFu hR q_x_thrown r_f_arr (xs (nI (4 * k) + 1).toNatClampNeg)
      exact lc_find hfl F hX hbl hbA (nI (4 * k)) _ ⟨hv1, rfl⟩ N x hS _ _ ⟨by omega, by omega⟩ (fun H locs ls hw hl => htail _ _ hR _ _ _ (by omega) (by omega) hw hl) _ _ _ hw hl
    | 11, _ =>
      refine lv_tableIn (tgt := 685) (off := 646) hx hb dL_law_39 (by decide) (by decide) (by rfl) (by decide) ?_
      obtain ⟨x, hS⟩ := cs_strangers hFu hR q_x_thrown r_f_arr (xs (nI (4 * k) + 1).toNatClampNeg) (xs (nI (4 * k) + 2).toNatClampNeg)
      exact lc_strangers hfl F hX hbl hbA (nI (4 * k)) _ _ ⟨hv1, rfl⟩ ⟨hv2, rfl⟩ N x hS _ _ ⟨by omega, by omega⟩ (fun H locs ls hw hl => htail _ _ hR _ _ _ (by omega) (by omega) hw hl) _ _ _ hw hl
    | 12, _ =>
      refine lv_tableIn (tgt := 753) (off := 714) hx hb dL_law_39 (by decide) (by decide) (by rfl) (by decide) ?_
      obtain ⟨x, hS⟩ := cs_keyOf hFu hR q_x_thrown r_f_arr (xs (nI (4 * k) + 1).toNatClampNeg)
      exact lc_keyOf hfl F hX hbl hbA (nI (4 * k)) _ ⟨hv1, rfl⟩ N x hS _ _ ⟨by omega, by omega⟩ (fun H locs ls hw hl => htail _ _ hR _ _ _ (by omega) (by omega) hw hl) _ _ _ hw hl
    | 13, _ =>
      refine lv_tableIn (tgt := 809) (off := 770) hx hb dL_law_39 (by decide) (by decide) (by rfl) (by decide) ?_
      obtain ⟨x, hS⟩ := cs_fingerprint hFu hR q_x_thrown r_f_arr (xs (nI (4 * k) + 1).toNatClampNeg)
      exact lc_fingerprint hfl F hX hbl hbA (nI (4 * k)) _ ⟨hv1, rfl⟩ N x hS _ _ ⟨by omega, by omega⟩ (fun H locs ls hw hl => htail _ _ hR _ _ _ (by omega) (by omega) hw hl) _ _ _ hw hl
    | 14, _ =>
      refine lv_tableIn (tgt := 865) (off := 826) hx hb dL_law_39 (by decide) (by decide) (by rfl) (by decide) ?_
      obtain ⟨x, hS⟩ := cs_seed hFu hR q_x_thrown r_f_arr
      exact lc_seed hfl F hX hbl hbA (nI (4 * k)) N x hS _ _ ⟨by omega, by omega⟩ (fun H locs ls hw hl => htail _ _ hR _ _ _ (by omega) (by omega) hw hl) _ _ _ hw hl
    | 15, _ =>
      refine lv_tableIn (tgt := 909) (off := 870) hx hb dL_law_39 (by decide) (by decide) (by rfl) (by decide) ?_
      obtain ⟨x, hS⟩ := cs_buckets hFu hR q_x_thrown r_f_arr
      exact lc_buckets hfl F hX hbl hbA (nI (4 * k)) N x hS _ _ ⟨by omega, by omega⟩ (fun H locs ls hw hl => htail _ _ hR _ _ _ (by omega) (by omega) hw hl) _ _ _ hw hl
    | 16, _ =>
      refine lv_tableIn (tgt := 953) (off := 914) hx hb dL_law_39 (by decide) (by decide) (by rfl) (by decide) ?_
      obtain ⟨x, hS⟩ := cs_inBucket hFu hR q_x_thrown r_f_arr (xs (nI (4 * k) + 1).toNatClampNeg)
      exact lc_inBucket hfl F hX hbl hbA (nI (4 * k)) _ ⟨hv1, rfl⟩ N x hS _ _ ⟨by omega, by omega⟩ (fun H locs ls hw hl => htail _ _ hR _ _ _ (by omega) (by omega) hw hl) _ _ _ hw hl
    | 17, _ =>
      refine lv_tableIn (tgt := 1009) (off := 970) hx hb dL_law_39 (by decide) (by decide) (by rfl) (by decide) ?_
      obtain ⟨x, hS⟩ := cs_displacement hFu hR q_x_thrown r_f_arr (xs (nI (4 * k) + 1).toNatClampNeg)
      exact lc_displacement hfl F hX hbl hbA (nI (4 * k)) _ ⟨hv1, rfl⟩ N x hS _ _ ⟨by omega, by omega⟩ (fun H locs ls hw hl => htail _ _ hR _ _ _ (by omega) (by omega) hw hl) _ _ _ hw hl
    | 18, _ =>
      refine lv_tableIn (tgt := 1065) (off := 1026) hx hb dL_law_39 (by decide) (by decide) (by rfl) (by decide) ?_
      obtain ⟨x, hS⟩ := cs_width hFu hR q_x_thrown r_f_arr
      exact lc_width hfl F hX hbl hbA (nI (4 * k)) N x hS _ _ ⟨by omega, by omega⟩ (fun H locs ls hw hl => htail _ _ hR _ _ _ (by omega) (by omega) hw hl) _ _ _ hw hl
    | 19, _ =>
      refine lv_tableIn (tgt := 1109) (off := 1070) hx hb dL_law_39 (by decide) (by decide) (by rfl) (by decide) ?_
      obtain ⟨x, hS⟩ := cs_word hFu hR q_x_thrown r_f_arr (xs (nI (4 * k) + 1).toNatClampNeg)
      exact lc_word hfl F hX hbl hbA (nI (4 * k)) _ ⟨hv1, rfl⟩ N x hS _ _ ⟨by omega, by omega⟩ (fun H locs ls hw hl => htail _ _ hR _ _ _ (by omega) (by omega) hw hl) _ _ _ hw hl
    | 20, _ =>
      refine lv_tableIn (tgt := 1164) (off := 1125) hx hb dL_law_39 (by decide) (by decide) (by rfl) (by decide) ?_
      obtain ⟨x, hS⟩ := cs_byGraph hFu hR q_x_thrown r_f_arr (xs (nI (4 * k) + 1).toNatClampNeg)
      exact lc_byGraph hfl F hX hbl hbA (nI (4 * k)) _ ⟨hv1, rfl⟩ N x hS _ _ ⟨by omega, by omega⟩ (fun H locs ls hw hl => htail _ _ hR _ _ _ (by omega) (by omega) hw hl) _ _ _ hw hl
    | 21, _ =>
      refine lv_tableIn (tgt := 1220) (off := 1181) hx hb dL_law_39 (by decide) (by decide) (by rfl) (by decide) ?_
      obtain ⟨x, hS⟩ := cs_graphSeed hFu hR q_x_thrown r_f_arr
      exact lc_graphSeed hfl F hX hbl hbA (nI (4 * k)) N x hS _ _ ⟨by omega, by omega⟩ (fun H locs ls hw hl => htail _ _ hR _ _ _ (by omega) (by omega) hw hl) _ _ _ hw hl
    | 22, _ =>
      refine lv_tableIn (tgt := 1264) (off := 1225) hx hb dL_law_39 (by decide) (by decide) (by rfl) (by decide) ?_
      obtain ⟨x, hS⟩ := cs_valueOf hFu hR q_x_thrown r_f_arr (xs (nI (4 * k) + 1).toNatClampNeg)
      exact lc_valueOf hfl F hX hbl hbA (nI (4 * k)) _ ⟨hv1, rfl⟩ N x hS _ _ ⟨by omega, by omega⟩ (fun H locs ls hw hl => htail _ _ hR _ _ _ (by omega) (by omega) hw hl) _ _ _ hw hl
    | n9 + 23, h9 => exact absurd h9 (by omega)
