/-! ===== build ===== -/
theorem pb_close {α β τ : Type} {N : Nat} {A : Option (Int32 × α)} {M : Option (Int32 × β)} {tM : β → Int32} {aA : α → (Nat → Int64)} {J : α → β → Option τ} {c v : Int32} {a : α} {b : β} (hA : A = some (c, a)) (hM : M = some (v, b)) (hc : tM b = c) (h : c = 0 → aA a 0 = Int32.toInt64 v) :
    (A.bind fun v1 => M.bind fun v2 => (F_X8_thrown N (tM v2.2)).bind fun v3 => if v3 = v1.1 then if v1.1 = 0 then (kk_rd 1 (aA v1.2) 0).bind fun v6 => if (lg_cmp v6 (Int32.toInt64 v2.1)) = 0 then J v1.2 v2.2 else none else J v1.2 v2.2 else none) = J a b := by
  rw [pu_bind hA, pu_bind hM]
  unfold F_X8_thrown
  rw [pu_bind (a := tM b) rfl]
  dsimp only
  rw [hc, if_pos rfl]
  by_cases e : c = 0
  · rw [if_pos e, pu_bind pu_r0, h e, lg_refl, if_pos rfl]
  · rw [if_neg e]
theorem pu_onto {n : Nat} {ρ : Nat → Int32} (hn : n ≤ 120) (h : ∀ r, r < n → ∃ x, x < n ∧ ρ x = nI r) : ∀ x, x < n → ρ x ≠ -1 := by
  intro x0 hx0 e0
  have hg : ∀ m, m ≤ n → m ≤ cc (fun x => decide (ρ x ≠ -1 ∧ (ρ x).toNatClampNeg < m)) n := by
    intro m
    induction m with
    | zero => intro _; exact Nat.zero_le _
    | succ m ih =>
      intro hm
      have h1 := ih (by omega)
      obtain ⟨x, hx, hx2⟩ := h m (by omega)
      have h2 : cc (fun x => decide (ρ x ≠ -1 ∧ (ρ x).toNatClampNeg < m)) n < cc (fun x => decide (ρ x ≠ -1 ∧ (ρ x).toNatClampNeg < m + 1)) n := by
        refine cc_drop (b := x) (fun i _ hi => ?_) hx ?_ ?_
        · have := of_decide_eq_true hi
          exact decide_eq_true ⟨this.1, by omega⟩
        · exact decide_eq_true ⟨by rw [hx2]; exact nI_m1 (by omega), by rw [hx2, nI_clamp (by omega)]; omega⟩
        · intro q
          have := (of_decide_eq_true q).2
          rw [hx2, nI_clamp (by omega)] at this
          omega
      omega
  have h3 := hg n (Nat.le_refl n)
  have h4 : cc (fun x => decide (ρ x ≠ -1 ∧ (ρ x).toNatClampNeg < n)) n < cc (fun _ => true) n := cc_drop (b := x0) (fun _ _ _ => rfl) hx0 rfl (fun q => (of_decide_eq_true q).1 e0)
  have h5 : cc (fun _ => true) n ≤ n := cc_le _ n
  omega
theorem pu_keepF {N n s nb : Nat} {κ R : Nat → Nat} {f ρ : Nat → Int32} (hFu : 1000 ≤ N) (hk : KeyOk κ n) (hf : HoldK f κ n) (hs : s < 40) (hnb : nb ≤ 12) (hR : ∀ x, x < n → R x < n ∧ ρ x = nI (R x)) (x1 : Int32) (p0 : Nat → Int32) :
    ∃ p', F_X7_keepFingerprints N x1 (nI n) f (nI s) ρ p0 (nI nb) = some (nI (2 ^ nb - 1), p') ∧ ∀ x, x < n → p' x = nI (hN 3 (κ (R x)) s % 2 ^ nb) := by
  have hn := hk.1
  unfold F_X7_keepFingerprints J_X7_keepFingerprints_45
  rw [m_maskp (by omega)]
  obtain ⟨p', h2, h3⟩ := pu_up (f := fun (σ : ((Nat → Int32) × Int32)) => L_X7_keepFingerprints_11 N (nI (2 ^ nb - 1)) (nI n) f (nI s) ρ σ.1 σ.2)
    (fun i σ => σ.2 = nI i ∧ ∀ x, x < i → σ.1 x = nI (hN 3 (κ (R x)) s % 2 ^ nb)) (fun r => ∀ x, x < n → r x = nI (hN 3 (κ (R x)) s % 2 ^ nb)) n
    (fun i σ hi hσ => by
      obtain ⟨g, c⟩ := σ
      obtain ⟨h3, h4⟩ := hσ
      dsimp only at h3 h4 ⊢
      subst h3
      obtain ⟨hr1, hr2⟩ := hR i hi
      unfold L_X7_keepFingerprints_11 F_X7_keyWithNumber
      rw [if_neg (nI_ge hi (by omega)), pu_bind (by rw [pu_bind (pu_get (by omega) (by decide)), hr2, pu_bind (pu_at (by omega)), hf _ hr1]), pu_bind (pu_fpof (by omega) (hk.2.2 _ hr1) (by omega)), pu_bind (pu_set (by omega) (by decide)), nI_1]
      refine Or.inl ⟨_, rfl, rfl, fun x hx => ?_⟩
      dsimp only
      by_cases e : x = i
      · rw [e, pu_us]
      · rw [pu_un e]; exact h4 x (by omega))
    (fun σ hσ => by
      obtain ⟨g, c⟩ := σ
      obtain ⟨h3, h4⟩ := hσ
      dsimp only at h3 h4 ⊢
      subst h3
      unfold L_X7_keepFingerprints_11
      rw [if_pos (nI_le (Nat.le_refl _) (by omega))]
      exact ⟨_, rfl, h4⟩)
    N 0 (p0, 0) (Nat.zero_le _) (by omega) ⟨nI_0.symm, fun x hx => absurd hx (Nat.not_lt_zero x)⟩
  rw [pu_bind h2]
  exact ⟨p', rfl, h3⟩
theorem pu_prints {N n s nb : Nat} {κ R : Nat → Nat} {τ : Nat → Int32} (hFu : 1000 ≤ N) (hk : KeyOk κ n) (hs : s < 40) (hnb : nb ≤ 12) (hR : ∀ x, x < n → R x < n ∧ τ x = nI (κ (R x))) (o0 p0 : Nat → Int32) :
    ∃ o' p', kk_iter (fun (σ : ((Nat → Int32) × (Nat → Int32) × Int32)) => L_X8_build_223 N (nI n) (nI s) (nI nb) τ σ.1 σ.2.1 σ.2.2) N (o0, p0, 0) = some (o', p') ∧ ∀ x, x < n → o' x = nI (κ (R x)) ∧ p' x = nI (hN 3 (κ (R x)) s % 2 ^ nb) := by
  have hn := hk.1
  obtain ⟨⟨o', p'⟩, h2, h3⟩ := pu_up (f := fun (σ : ((Nat → Int32) × (Nat → Int32) × Int32)) => L_X8_build_223 N (nI n) (nI s) (nI nb) τ σ.1 σ.2.1 σ.2.2)
    (fun i σ => σ.2.2 = nI i ∧ ∀ x, x < i → σ.1 x = nI (κ (R x)) ∧ σ.2.1 x = nI (hN 3 (κ (R x)) s % 2 ^ nb)) (fun r => ∀ x, x < n → r.1 x = nI (κ (R x)) ∧ r.2 x = nI (hN 3 (κ (R x)) s % 2 ^ nb)) n
    (fun i σ hi hσ => by
      obtain ⟨g, g2, c⟩ := σ
      obtain ⟨h3, h4⟩ := hσ
      dsimp only at h3 h4 ⊢
      subst h3
      obtain ⟨hr1, hr2⟩ := hR i hi
      unfold L_X8_build_223
      rw [if_neg (nI_ge hi (by omega)), pu_bind (pu_rd (by omega) (by decide)), pu_bind (pu_wr (by omega) (by decide)), pu_bind (pu_rd (by omega) (by decide)), pu_us, hr2, pu_bind (pu_print (by omega) (hk.2.2 _ hr1) (by omega)), pu_bind (pu_wr (by omega) (by decide)), nI_1]
      refine Or.inl ⟨_, rfl, rfl, fun x hx => ?_⟩
      dsimp only
      by_cases e : x = i
      · rw [e, pu_us, pu_us]; exact ⟨rfl, rfl⟩
      · rw [pu_un e, pu_un e]; exact h4 x (by omega))
    (fun σ hσ => by
      obtain ⟨g, g2, c⟩ := σ
      obtain ⟨h3, h4⟩ := hσ
      dsimp only at h3 h4 ⊢
      subst h3
      unfold L_X8_build_223
      rw [if_pos (nI_le (Nat.le_refl _) (by omega))]
      exact ⟨_, rfl, h4⟩)
    N 0 (o0, p0, 0) (Nat.zero_le _) (by omega) ⟨nI_0.symm, fun x hx => absurd hx (Nat.not_lt_zero x)⟩
  exact ⟨o', p', h2, h3⟩
theorem pu_sizes {N n B s : Nat} {κ : Nat → Nat} {f tS : Nat → Int32} (hFu : 1000 ≤ N) (hk : KeyOk κ n) (hf : HoldK f κ n) (h0 : 0 < B) (hB : B ≤ 120) (hs : s < 200) (a0 b0 c0 : Nat → Int32) :
    ∃ sz sh so, kk_iter (fun (σ : ((Nat → Int32) × (Nat → Int32) × (Nat → Int32) × Int32)) => L_X8_build_172 N (nI n) (nI B) f tS (nI s) σ.1 σ.2.1 σ.2.2.1 σ.2.2.2) N (a0, b0, c0, 0) = some (sz, sh, so) ∧ ∀ b, b < B → sz b = nI (cN κ n B s b) ∧ sh b = tS b := by
  have hn := hk.1
  obtain ⟨⟨sz, sh, so⟩, h2, h3⟩ := pu_up (f := fun (σ : ((Nat → Int32) × (Nat → Int32) × (Nat → Int32) × Int32)) => L_X8_build_172 N (nI n) (nI B) f tS (nI s) σ.1 σ.2.1 σ.2.2.1 σ.2.2.2)
    (fun i σ => σ.2.2.2 = nI i ∧ ∀ b, b < i → σ.1 b = nI (cN κ n B s b) ∧ σ.2.1 b = tS b) (fun r => ∀ b, b < B → r.1 b = nI (cN κ n B s b) ∧ r.2.1 b = tS b) B
    (fun i σ hi hσ => by
      obtain ⟨g, g2, g3, c⟩ := σ
      obtain ⟨h3, h4⟩ := hσ
      dsimp only at h3 h4 ⊢
      subst h3
      obtain ⟨g4, hg, _⟩ := pu_gather hFu hk hf h0 hB hs hi g3
      unfold L_X8_build_172
      rw [if_neg (nI_ge hi (by omega)), pu_bind hg, pu_bind (pu_wr (by omega) (by decide)), pu_bind (pu_rd (by omega) (by decide)), pu_bind (pu_wr (by omega) (by decide)), nI_1]
      refine Or.inl ⟨_, rfl, rfl, fun x hx => ?_⟩
      dsimp only
      by_cases e : x = i
      · rw [e, pu_us, pu_us]; exact ⟨rfl, rfl⟩
      · rw [pu_un e, pu_un e]; exact h4 x (by omega))
    (fun σ hσ => by
      obtain ⟨g, g2, g3, c⟩ := σ
      obtain ⟨h3, h4⟩ := hσ
      dsimp only at h3 h4 ⊢
      subst h3
      unfold L_X8_build_172
      rw [if_pos (nI_le (Nat.le_refl _) (by omega))]
      exact ⟨_, rfl, h4⟩)
    N 0 (a0, b0, c0, 0) (Nat.zero_le _) (by omega) ⟨nI_0.symm, fun x hx => absurd hx (Nat.not_lt_zero x)⟩
  exact ⟨sz, sh, so, h2, h3⟩

theorem cs_build {N : Nat} {x_built : Int32} {x_sorted_size : Int32} {f_sorted_places : Nat → Int32} {x_fingerprintMask : Int32} {x_displacer_keyCount : Int32} {x_displacer_bucketCount : Int32} {x_displacer_seed : Int32} {f_displacer_ranksByBucket_begins : Nat → Int32} {f_displacer_displacements : Nat → Int32} {f_displacer_ranksByNumber : Nat → Int32} {x_packer_bitsEach : Int32} {x_packer_wordCount : Int32} {f_packer_words : Nat → Int64} {x_graph_keyCount : Int32} {x_graph_vertexCount : Int32} {x_graph_seed : Int32} {f_graph_values : Nat → Int32} {f_fingerprints : Nat → Int32} {q_x_many : Int32} {q_x_built : Int32} {q_x_seed : Int32} {q_x_graphSeed : Int32} {q_x_bits : Int32} {q_x_bucketMany : Int32} {q_x_width : Int32} {q_f_keys : Nat → Int32} {q_f_sizes : Nat → Int32} {q_f_shift : Nat → Int32} {q_f_owner : Nat → Int32} {q_f_prints : Nat → Int32} {q_f_words : Nat → Int64} {q_f_values : Nat → Int32} (hFu : 6000 ≤ N) (h : Rel x_built x_sorted_size f_sorted_places x_fingerprintMask x_displacer_keyCount x_displacer_bucketCount x_displacer_seed f_displacer_ranksByBucket_begins f_displacer_displacements f_displacer_ranksByNumber x_packer_bitsEach x_packer_wordCount f_packer_words x_graph_keyCount x_graph_vertexCount x_graph_seed f_graph_values f_fingerprints q_x_many q_x_built q_x_seed q_x_graphSeed q_x_bits q_x_bucketMany q_x_width q_f_keys q_f_sizes q_f_shift q_f_owner q_f_prints q_f_words q_f_values) (x_displacer_ranksByBucket_thingCount : Int32) (x_displacer_ranksByBucket_groupCount : Int32) (f_displacer_ranksByBucket_groups : Nat → Int32) (f_displacer_ranksByBucket_members : Nat → Int32) (f_displacer_starts : Nat → Int32) (f_displacer_steps : Nat → Int32) (f_displacer_numbers : Nat → Int32) (x_graph_reachedCount : Int32) (x_graph_ends_thingCount : Int32) (x_graph_ends_groupCount : Int32) (f_graph_ends_groups : Nat → Int32) (f_graph_ends_begins : Nat → Int32) (f_graph_ends_members : Nat → Int32) (f_graph_walked : Nat → Int32) (f_graph_reached : Nat → Int32) (q_x_thrown : Int32) (q_f_some : Nat → Int32) (q_f_triedShift : Nat → Int32) (q_f_triedOwner : Nat → Int32) (q_f_roots : Nat → Int32) (q_f_ends : Nat → Int32) (r_f_arr : Nat → Int64) (p1 : Int32) (p2 : Int32) : ∃ x, S_build N x_fingerprintMask x_built x_sorted_size f_sorted_places x_displacer_keyCount x_displacer_bucketCount x_displacer_seed x_displacer_ranksByBucket_thingCount x_displacer_ranksByBucket_groupCount f_displacer_ranksByBucket_groups f_displacer_ranksByBucket_begins f_displacer_ranksByBucket_members f_displacer_starts f_displacer_steps f_displacer_numbers f_displacer_displacements f_displacer_ranksByNumber x_packer_bitsEach x_packer_wordCount f_packer_words x_graph_reachedCount x_graph_keyCount x_graph_vertexCount x_graph_seed x_graph_ends_thingCount x_graph_ends_groupCount f_graph_ends_groups f_graph_ends_begins f_graph_ends_members f_graph_walked f_graph_values f_graph_reached f_fingerprints q_x_many q_x_built q_x_seed q_x_graphSeed q_x_bits q_x_bucketMany q_x_width q_x_thrown q_f_keys q_f_sizes q_f_shift q_f_owner q_f_prints q_f_some q_f_triedShift q_f_triedOwner q_f_words q_f_values q_f_roots q_f_ends r_f_arr p1 p2 = some x ∧ Rel x.2.1 x_sorted_size f_sorted_places x.1 x.2.2.1 x.2.2.2.1 x.2.2.2.2.1 x.2.2.2.2.2.2.2.2.1 x.2.2.2.2.2.2.2.2.2.2.2.2.2.1 x.2.2.2.2.2.2.2.2.2.2.2.2.2.2.1 x.2.2.2.2.2.2.2.2.2.2.2.2.2.2.2.1 x.2.2.2.2.2.2.2.2.2.2.2.2.2.2.2.2.1 x.2.2.2.2.2.2.2.2.2.2.2.2.2.2.2.2.2.1 x.2.2.2.2.2.2.2.2.2.2.2.2.2.2.2.2.2.2.2.1 x.2.2.2.2.2.2.2.2.2.2.2.2.2.2.2.2.2.2.2.2.1 x.2.2.2.2.2.2.2.2.2.2.2.2.2.2.2.2.2.2.2.2.2.1 x.2.2.2.2.2.2.2.2.2.2.2.2.2.2.2.2.2.2.2.2.2.2.2.2.2.2.2.2.1 x.2.2.2.2.2.2.2.2.2.2.2.2.2.2.2.2.2.2.2.2.2.2.2.2.2.2.2.2.2.2.1 q_x_many x.2.2.2.2.2.2.2.2.2.2.2.2.2.2.2.2.2.2.2.2.2.2.2.2.2.2.2.2.2.2.2.1 x.2.2.2.2.2.2.2.2.2.2.2.2.2.2.2.2.2.2.2.2.2.2.2.2.2.2.2.2.2.2.2.2.1 x.2.2.2.2.2.2.2.2.2.2.2.2.2.2.2.2.2.2.2.2.2.2.2.2.2.2.2.2.2.2.2.2.2.1 x.2.2.2.2.2.2.2.2.2.2.2.2.2.2.2.2.2.2.2.2.2.2.2.2.2.2.2.2.2.2.2.2.2.2.1 x.2.2.2.2.2.2.2.2.2.2.2.2.2.2.2.2.2.2.2.2.2.2.2.2.2.2.2.2.2.2.2.2.2.2.2.1 x.2.2.2.2.2.2.2.2.2.2.2.2.2.2.2.2.2.2.2.2.2.2.2.2.2.2.2.2.2.2.2.2.2.2.2.2.1 q_f_keys x.2.2.2.2.2.2.2.2.2.2.2.2.2.2.2.2.2.2.2.2.2.2.2.2.2.2.2.2.2.2.2.2.2.2.2.2.2.2.1 x.2.2.2.2.2.2.2.2.2.2.2.2.2.2.2.2.2.2.2.2.2.2.2.2.2.2.2.2.2.2.2.2.2.2.2.2.2.2.2.1 x.2.2.2.2.2.2.2.2.2.2.2.2.2.2.2.2.2.2.2.2.2.2.2.2.2.2.2.2.2.2.2.2.2.2.2.2.2.2.2.2.1 x.2.2.2.2.2.2.2.2.2.2.2.2.2.2.2.2.2.2.2.2.2.2.2.2.2.2.2.2.2.2.2.2.2.2.2.2.2.2.2.2.2.1 x.2.2.2.2.2.2.2.2.2.2.2.2.2.2.2.2.2.2.2.2.2.2.2.2.2.2.2.2.2.2.2.2.2.2.2.2.2.2.2.2.2.2.2.2.2.1 x.2.2.2.2.2.2.2.2.2.2.2.2.2.2.2.2.2.2.2.2.2.2.2.2.2.2.2.2.2.2.2.2.2.2.2.2.2.2.2.2.2.2.2.2.2.2.1 := by
  have hR := h
  obtain ⟨κ, n, ⟨hk, rfl, rfl, hf, hq⟩, hb0, hb⟩ := h
  have hn := hk.1
  unfold S_build
  rcases pr_in (N := N) p1 1 6 (by decide) (by decide) with ⟨h5, h4⟩ | ⟨Lo, hLo, hLo2, rfl, h4⟩
  · have hP : F_X7_build N x_fingerprintMask x_built (nI n) f_sorted_places x_displacer_keyCount x_displacer_bucketCount x_displacer_seed x_displacer_ranksByBucket_thingCount x_displacer_ranksByBucket_groupCount f_displacer_ranksByBucket_groups f_displacer_ranksByBucket_begins f_displacer_ranksByBucket_members f_displacer_starts f_displacer_steps f_displacer_numbers f_displacer_displacements f_displacer_ranksByNumber x_packer_bitsEach x_packer_wordCount f_packer_words x_graph_reachedCount x_graph_keyCount x_graph_vertexCount x_graph_seed x_graph_ends_thingCount x_graph_ends_groupCount f_graph_ends_groups f_graph_ends_begins f_graph_ends_members f_graph_walked f_graph_values f_graph_reached f_fingerprints p1 p2 = some (.inl (0, x_fingerprintMask, x_built, x_displacer_keyCount, x_displacer_bucketCount, x_displacer_seed, x_displacer_ranksByBucket_thingCount, x_displacer_ranksByBucket_groupCount, f_displacer_ranksByBucket_groups, f_displacer_ranksByBucket_begins, f_displacer_ranksByBucket_members, f_displacer_starts, f_displacer_steps, f_displacer_numbers, f_displacer_displacements, f_displacer_ranksByNumber, x_packer_bitsEach, x_packer_wordCount, f_packer_words, x_graph_reachedCount, x_graph_keyCount, x_graph_vertexCount, x_graph_seed, x_graph_ends_thingCount, x_graph_ends_groupCount, f_graph_ends_groups, f_graph_ends_begins, f_graph_ends_members, f_graph_walked, f_graph_values, f_graph_reached, f_fingerprints)) := by
      unfold F_X7_build J_X7_build_11 J_X7_build_32
      by_cases e : p1 < 1
      · rw [if_pos e]
      · rw [if_neg e, if_neg (show ¬ p1 ≤ 6 from fun e2 => Int32.not_lt.mpr e2 (h5.resolve_left e))]
    have hA : F_L_build N x_fingerprintMask x_built (nI n) f_sorted_places x_displacer_keyCount x_displacer_bucketCount x_displacer_seed x_displacer_ranksByBucket_thingCount x_displacer_ranksByBucket_groupCount f_displacer_ranksByBucket_groups f_displacer_ranksByBucket_begins f_displacer_ranksByBucket_members f_displacer_starts f_displacer_steps f_displacer_numbers f_displacer_displacements f_displacer_ranksByNumber x_packer_bitsEach x_packer_wordCount f_packer_words x_graph_reachedCount x_graph_keyCount x_graph_vertexCount x_graph_seed x_graph_ends_thingCount x_graph_ends_groupCount f_graph_ends_groups f_graph_ends_begins f_graph_ends_members f_graph_walked f_graph_values f_graph_reached f_fingerprints 1 r_f_arr p1 p2 = some (1, x_fingerprintMask, x_built, x_displacer_keyCount, x_displacer_bucketCount, x_displacer_seed, x_displacer_ranksByBucket_thingCount, x_displacer_ranksByBucket_groupCount, f_displacer_ranksByBucket_groups, f_displacer_ranksByBucket_begins, f_displacer_ranksByBucket_members, f_displacer_starts, f_displacer_steps, f_displacer_numbers, f_displacer_displacements, f_displacer_ranksByNumber, x_packer_bitsEach, x_packer_wordCount, f_packer_words, x_graph_reachedCount, x_graph_keyCount, x_graph_vertexCount, x_graph_seed, x_graph_ends_thingCount, x_graph_ends_groupCount, f_graph_ends_groups, f_graph_ends_begins, f_graph_ends_members, f_graph_walked, f_graph_values, f_graph_reached, f_fingerprints, r_f_arr) := by
      unfold F_L_build
      exact (pu_bind hP).trans rfl
    have hM : F_X8_build N (nI n) q_x_built q_x_seed q_x_graphSeed q_x_bits q_x_bucketMany q_x_width q_x_thrown q_f_keys q_f_sizes q_f_shift q_f_owner q_f_prints q_f_some q_f_triedShift q_f_triedOwner q_f_words q_f_values q_f_roots q_f_ends p1 p2 = some (0, q_x_built, q_x_seed, q_x_graphSeed, q_x_bits, q_x_bucketMany, q_x_width, 1, q_f_sizes, q_f_shift, q_f_owner, q_f_prints, q_f_some, q_f_triedShift, q_f_triedOwner, q_f_words, q_f_values, q_f_roots, q_f_ends) := by
      unfold F_X8_build J_X8_build_25 F_X8_fails
      rw [pu_bind (show F_X8_in N p1 1 6 = some 0 from h4), if_pos rfl]
      rfl
    exact ⟨_, pb_close (tM := (fun b => b.2.2.2.2.2.2.1)) (aA := (fun a => a.2.2.2.2.2.2.2.2.2.2.2.2.2.2.2.2.2.2.2.2.2.2.2.2.2.2.2.2.2.2.2)) (J := (fun a b => J_LC_build_533 N a.1 a.2.1 a.2.2.1 a.2.2.2.1 a.2.2.2.2.1 a.2.2.2.2.2.1 a.2.2.2.2.2.2.1 a.2.2.2.2.2.2.2.1 a.2.2.2.2.2.2.2.2.1 a.2.2.2.2.2.2.2.2.2.1 a.2.2.2.2.2.2.2.2.2.2.1 a.2.2.2.2.2.2.2.2.2.2.2.1 a.2.2.2.2.2.2.2.2.2.2.2.2.1 a.2.2.2.2.2.2.2.2.2.2.2.2.2.1 a.2.2.2.2.2.2.2.2.2.2.2.2.2.2.1 a.2.2.2.2.2.2.2.2.2.2.2.2.2.2.2.1 a.2.2.2.2.2.2.2.2.2.2.2.2.2.2.2.2.1 a.2.2.2.2.2.2.2.2.2.2.2.2.2.2.2.2.2.1 a.2.2.2.2.2.2.2.2.2.2.2.2.2.2.2.2.2.2.1 a.2.2.2.2.2.2.2.2.2.2.2.2.2.2.2.2.2.2.2.1 a.2.2.2.2.2.2.2.2.2.2.2.2.2.2.2.2.2.2.2.2.1 a.2.2.2.2.2.2.2.2.2.2.2.2.2.2.2.2.2.2.2.2.2.1 a.2.2.2.2.2.2.2.2.2.2.2.2.2.2.2.2.2.2.2.2.2.2.1 a.2.2.2.2.2.2.2.2.2.2.2.2.2.2.2.2.2.2.2.2.2.2.2.1 a.2.2.2.2.2.2.2.2.2.2.2.2.2.2.2.2.2.2.2.2.2.2.2.2.1 a.2.2.2.2.2.2.2.2.2.2.2.2.2.2.2.2.2.2.2.2.2.2.2.2.2.1 a.2.2.2.2.2.2.2.2.2.2.2.2.2.2.2.2.2.2.2.2.2.2.2.2.2.2.1 a.2.2.2.2.2.2.2.2.2.2.2.2.2.2.2.2.2.2.2.2.2.2.2.2.2.2.2.1 a.2.2.2.2.2.2.2.2.2.2.2.2.2.2.2.2.2.2.2.2.2.2.2.2.2.2.2.2.1 a.2.2.2.2.2.2.2.2.2.2.2.2.2.2.2.2.2.2.2.2.2.2.2.2.2.2.2.2.2.1 a.2.2.2.2.2.2.2.2.2.2.2.2.2.2.2.2.2.2.2.2.2.2.2.2.2.2.2.2.2.2.1 b.1 b.2.1 b.2.2.1 b.2.2.2.1 b.2.2.2.2.1 b.2.2.2.2.2.1 b.2.2.2.2.2.2.1 b.2.2.2.2.2.2.2.1 b.2.2.2.2.2.2.2.2.1 b.2.2.2.2.2.2.2.2.2.1 b.2.2.2.2.2.2.2.2.2.2.1 b.2.2.2.2.2.2.2.2.2.2.2.1 b.2.2.2.2.2.2.2.2.2.2.2.2.1 b.2.2.2.2.2.2.2.2.2.2.2.2.2.1 b.2.2.2.2.2.2.2.2.2.2.2.2.2.2.1 b.2.2.2.2.2.2.2.2.2.2.2.2.2.2.2.1 b.2.2.2.2.2.2.2.2.2.2.2.2.2.2.2.2.1 b.2.2.2.2.2.2.2.2.2.2.2.2.2.2.2.2.2 a.2.2.2.2.2.2.2.2.2.2.2.2.2.2.2.2.2.2.2.2.2.2.2.2.2.2.2.2.2.2.2)) (c := 1) hA hM rfl (fun e => absurd e (by decide)), hR⟩
  have hl1 : ¬ nI Lo < 1 := nI_nlt (b := 1) hLo (by omega)
  have hl2 : nI Lo ≤ 6 := nI_le (b := 6) hLo2 (by decide)
  rcases pr_in (N := N) p2 1 12 (by decide) (by decide) with ⟨h7, h6⟩ | ⟨nb, hnb1, hnb, rfl, h6⟩
  · have hP : F_X7_build N x_fingerprintMask x_built (nI n) f_sorted_places x_displacer_keyCount x_displacer_bucketCount x_displacer_seed x_displacer_ranksByBucket_thingCount x_displacer_ranksByBucket_groupCount f_displacer_ranksByBucket_groups f_displacer_ranksByBucket_begins f_displacer_ranksByBucket_members f_displacer_starts f_displacer_steps f_displacer_numbers f_displacer_displacements f_displacer_ranksByNumber x_packer_bitsEach x_packer_wordCount f_packer_words x_graph_reachedCount x_graph_keyCount x_graph_vertexCount x_graph_seed x_graph_ends_thingCount x_graph_ends_groupCount f_graph_ends_groups f_graph_ends_begins f_graph_ends_members f_graph_walked f_graph_values f_graph_reached f_fingerprints (nI Lo) p2 = some (.inl (0, x_fingerprintMask, x_built, x_displacer_keyCount, x_displacer_bucketCount, x_displacer_seed, x_displacer_ranksByBucket_thingCount, x_displacer_ranksByBucket_groupCount, f_displacer_ranksByBucket_groups, f_displacer_ranksByBucket_begins, f_displacer_ranksByBucket_members, f_displacer_starts, f_displacer_steps, f_displacer_numbers, f_displacer_displacements, f_displacer_ranksByNumber, x_packer_bitsEach, x_packer_wordCount, f_packer_words, x_graph_reachedCount, x_graph_keyCount, x_graph_vertexCount, x_graph_seed, x_graph_ends_thingCount, x_graph_ends_groupCount, f_graph_ends_groups, f_graph_ends_begins, f_graph_ends_members, f_graph_walked, f_graph_values, f_graph_reached, f_fingerprints)) := by
      unfold F_X7_build J_X7_build_11 J_X7_build_32
      rw [if_neg hl1, if_pos hl2]
      by_cases e : p2 < 1
      · rw [if_pos e]
      · rw [if_neg e, if_neg (show ¬ p2 ≤ 12 from fun e2 => Int32.not_lt.mpr e2 (h7.resolve_left e))]
    have hA : F_L_build N x_fingerprintMask x_built (nI n) f_sorted_places x_displacer_keyCount x_displacer_bucketCount x_displacer_seed x_displacer_ranksByBucket_thingCount x_displacer_ranksByBucket_groupCount f_displacer_ranksByBucket_groups f_displacer_ranksByBucket_begins f_displacer_ranksByBucket_members f_displacer_starts f_displacer_steps f_displacer_numbers f_displacer_displacements f_displacer_ranksByNumber x_packer_bitsEach x_packer_wordCount f_packer_words x_graph_reachedCount x_graph_keyCount x_graph_vertexCount x_graph_seed x_graph_ends_thingCount x_graph_ends_groupCount f_graph_ends_groups f_graph_ends_begins f_graph_ends_members f_graph_walked f_graph_values f_graph_reached f_fingerprints 1 r_f_arr (nI Lo) p2 = some (1, x_fingerprintMask, x_built, x_displacer_keyCount, x_displacer_bucketCount, x_displacer_seed, x_displacer_ranksByBucket_thingCount, x_displacer_ranksByBucket_groupCount, f_displacer_ranksByBucket_groups, f_displacer_ranksByBucket_begins, f_displacer_ranksByBucket_members, f_displacer_starts, f_displacer_steps, f_displacer_numbers, f_displacer_displacements, f_displacer_ranksByNumber, x_packer_bitsEach, x_packer_wordCount, f_packer_words, x_graph_reachedCount, x_graph_keyCount, x_graph_vertexCount, x_graph_seed, x_graph_ends_thingCount, x_graph_ends_groupCount, f_graph_ends_groups, f_graph_ends_begins, f_graph_ends_members, f_graph_walked, f_graph_values, f_graph_reached, f_fingerprints, r_f_arr) := by
      unfold F_L_build
      exact (pu_bind hP).trans rfl
    have hM : F_X8_build N (nI n) q_x_built q_x_seed q_x_graphSeed q_x_bits q_x_bucketMany q_x_width q_x_thrown q_f_keys q_f_sizes q_f_shift q_f_owner q_f_prints q_f_some q_f_triedShift q_f_triedOwner q_f_words q_f_values q_f_roots q_f_ends (nI Lo) p2 = some (0, q_x_built, q_x_seed, q_x_graphSeed, q_x_bits, q_x_bucketMany, q_x_width, 1, q_f_sizes, q_f_shift, q_f_owner, q_f_prints, q_f_some, q_f_triedShift, q_f_triedOwner, q_f_words, q_f_values, q_f_roots, q_f_ends) := by
      unfold F_X8_build J_X8_build_25 F_X8_fails
      rw [pu_bind (show F_X8_in N (nI Lo) 1 6 = some 1 from h4), if_neg (by decide), pu_bind (show F_X8_in N p2 1 12 = some 0 from h6), if_pos rfl]
      rfl
    exact ⟨_, pb_close (tM := (fun b => b.2.2.2.2.2.2.1)) (aA := (fun a => a.2.2.2.2.2.2.2.2.2.2.2.2.2.2.2.2.2.2.2.2.2.2.2.2.2.2.2.2.2.2.2)) (J := (fun a b => J_LC_build_533 N a.1 a.2.1 a.2.2.1 a.2.2.2.1 a.2.2.2.2.1 a.2.2.2.2.2.1 a.2.2.2.2.2.2.1 a.2.2.2.2.2.2.2.1 a.2.2.2.2.2.2.2.2.1 a.2.2.2.2.2.2.2.2.2.1 a.2.2.2.2.2.2.2.2.2.2.1 a.2.2.2.2.2.2.2.2.2.2.2.1 a.2.2.2.2.2.2.2.2.2.2.2.2.1 a.2.2.2.2.2.2.2.2.2.2.2.2.2.1 a.2.2.2.2.2.2.2.2.2.2.2.2.2.2.1 a.2.2.2.2.2.2.2.2.2.2.2.2.2.2.2.1 a.2.2.2.2.2.2.2.2.2.2.2.2.2.2.2.2.1 a.2.2.2.2.2.2.2.2.2.2.2.2.2.2.2.2.2.1 a.2.2.2.2.2.2.2.2.2.2.2.2.2.2.2.2.2.2.1 a.2.2.2.2.2.2.2.2.2.2.2.2.2.2.2.2.2.2.2.1 a.2.2.2.2.2.2.2.2.2.2.2.2.2.2.2.2.2.2.2.2.1 a.2.2.2.2.2.2.2.2.2.2.2.2.2.2.2.2.2.2.2.2.2.1 a.2.2.2.2.2.2.2.2.2.2.2.2.2.2.2.2.2.2.2.2.2.2.1 a.2.2.2.2.2.2.2.2.2.2.2.2.2.2.2.2.2.2.2.2.2.2.2.1 a.2.2.2.2.2.2.2.2.2.2.2.2.2.2.2.2.2.2.2.2.2.2.2.2.1 a.2.2.2.2.2.2.2.2.2.2.2.2.2.2.2.2.2.2.2.2.2.2.2.2.2.1 a.2.2.2.2.2.2.2.2.2.2.2.2.2.2.2.2.2.2.2.2.2.2.2.2.2.2.1 a.2.2.2.2.2.2.2.2.2.2.2.2.2.2.2.2.2.2.2.2.2.2.2.2.2.2.2.1 a.2.2.2.2.2.2.2.2.2.2.2.2.2.2.2.2.2.2.2.2.2.2.2.2.2.2.2.2.1 a.2.2.2.2.2.2.2.2.2.2.2.2.2.2.2.2.2.2.2.2.2.2.2.2.2.2.2.2.2.1 a.2.2.2.2.2.2.2.2.2.2.2.2.2.2.2.2.2.2.2.2.2.2.2.2.2.2.2.2.2.2.1 b.1 b.2.1 b.2.2.1 b.2.2.2.1 b.2.2.2.2.1 b.2.2.2.2.2.1 b.2.2.2.2.2.2.1 b.2.2.2.2.2.2.2.1 b.2.2.2.2.2.2.2.2.1 b.2.2.2.2.2.2.2.2.2.1 b.2.2.2.2.2.2.2.2.2.2.1 b.2.2.2.2.2.2.2.2.2.2.2.1 b.2.2.2.2.2.2.2.2.2.2.2.2.1 b.2.2.2.2.2.2.2.2.2.2.2.2.2.1 b.2.2.2.2.2.2.2.2.2.2.2.2.2.2.1 b.2.2.2.2.2.2.2.2.2.2.2.2.2.2.2.1 b.2.2.2.2.2.2.2.2.2.2.2.2.2.2.2.2.1 b.2.2.2.2.2.2.2.2.2.2.2.2.2.2.2.2.2 a.2.2.2.2.2.2.2.2.2.2.2.2.2.2.2.2.2.2.2.2.2.2.2.2.2.2.2.2.2.2.2)) (c := 1) hA hM rfl (fun e => absurd e (by decide)), hR⟩
  have hl3 : ¬ nI nb < 1 := nI_nlt (b := 1) hnb1 (by omega)
  have hl4 : nI nb ≤ 12 := nI_le (b := 12) hnb (by decide)
  have hm1 : F_X8_in N (nI Lo) 1 6 = some 1 := h4
  have hm2 : F_X8_in N (nI nb) 1 12 = some 1 := h6
  rcases hb with ⟨rfl, rfl⟩ | ⟨rfl, rfl, hB⟩
  case inr =>
    have hP : F_X7_build N x_fingerprintMask 1 (nI n) f_sorted_places x_displacer_keyCount x_displacer_bucketCount x_displacer_seed x_displacer_ranksByBucket_thingCount x_displacer_ranksByBucket_groupCount f_displacer_ranksByBucket_groups f_displacer_ranksByBucket_begins f_displacer_ranksByBucket_members f_displacer_starts f_displacer_steps f_displacer_numbers f_displacer_displacements f_displacer_ranksByNumber x_packer_bitsEach x_packer_wordCount f_packer_words x_graph_reachedCount x_graph_keyCount x_graph_vertexCount x_graph_seed x_graph_ends_thingCount x_graph_ends_groupCount f_graph_ends_groups f_graph_ends_begins f_graph_ends_members f_graph_walked f_graph_values f_graph_reached f_fingerprints (nI Lo) (nI nb) = some (.inl (1, x_fingerprintMask, 1, x_displacer_keyCount, x_displacer_bucketCount, x_displacer_seed, x_displacer_ranksByBucket_thingCount, x_displacer_ranksByBucket_groupCount, f_displacer_ranksByBucket_groups, f_displacer_ranksByBucket_begins, f_displacer_ranksByBucket_members, f_displacer_starts, f_displacer_steps, f_displacer_numbers, f_displacer_displacements, f_displacer_ranksByNumber, x_packer_bitsEach, x_packer_wordCount, f_packer_words, x_graph_reachedCount, x_graph_keyCount, x_graph_vertexCount, x_graph_seed, x_graph_ends_thingCount, x_graph_ends_groupCount, f_graph_ends_groups, f_graph_ends_begins, f_graph_ends_members, f_graph_walked, f_graph_values, f_graph_reached, f_fingerprints)) := by
      unfold F_X7_build J_X7_build_95
      rw [if_neg hl1, if_pos hl2, if_neg hl3, if_pos hl4]
      exact (pu_bind op_1).trans rfl
    have hA : F_L_build N x_fingerprintMask 1 (nI n) f_sorted_places x_displacer_keyCount x_displacer_bucketCount x_displacer_seed x_displacer_ranksByBucket_thingCount x_displacer_ranksByBucket_groupCount f_displacer_ranksByBucket_groups f_displacer_ranksByBucket_begins f_displacer_ranksByBucket_members f_displacer_starts f_displacer_steps f_displacer_numbers f_displacer_displacements f_displacer_ranksByNumber x_packer_bitsEach x_packer_wordCount f_packer_words x_graph_reachedCount x_graph_keyCount x_graph_vertexCount x_graph_seed x_graph_ends_thingCount x_graph_ends_groupCount f_graph_ends_groups f_graph_ends_begins f_graph_ends_members f_graph_walked f_graph_values f_graph_reached f_fingerprints 1 r_f_arr (nI Lo) (nI nb) = some (2, x_fingerprintMask, 1, x_displacer_keyCount, x_displacer_bucketCount, x_displacer_seed, x_displacer_ranksByBucket_thingCount, x_displacer_ranksByBucket_groupCount, f_displacer_ranksByBucket_groups, f_displacer_ranksByBucket_begins, f_displacer_ranksByBucket_members, f_displacer_starts, f_displacer_steps, f_displacer_numbers, f_displacer_displacements, f_displacer_ranksByNumber, x_packer_bitsEach, x_packer_wordCount, f_packer_words, x_graph_reachedCount, x_graph_keyCount, x_graph_vertexCount, x_graph_seed, x_graph_ends_thingCount, x_graph_ends_groupCount, f_graph_ends_groups, f_graph_ends_begins, f_graph_ends_members, f_graph_walked, f_graph_values, f_graph_reached, f_fingerprints, r_f_arr) := by
      unfold F_L_build
      exact (pu_bind hP).trans rfl
    have hM : F_X8_build N (nI n) 1 q_x_seed q_x_graphSeed q_x_bits q_x_bucketMany q_x_width q_x_thrown q_f_keys q_f_sizes q_f_shift q_f_owner q_f_prints q_f_some q_f_triedShift q_f_triedOwner q_f_words q_f_values q_f_roots q_f_ends (nI Lo) (nI nb) = some (0, 1, q_x_seed, q_x_graphSeed, q_x_bits, q_x_bucketMany, q_x_width, 2, q_f_sizes, q_f_shift, q_f_owner, q_f_prints, q_f_some, q_f_triedShift, q_f_triedOwner, q_f_words, q_f_values, q_f_roots, q_f_ends) := by
      unfold F_X8_build J_X8_build_45 F_X8_fails
      rw [pu_bind hm1, if_neg (by decide), pu_bind hm2, if_neg (by decide), if_neg (by decide)]
      rfl
    exact ⟨_, pb_close (tM := (fun b => b.2.2.2.2.2.2.1)) (aA := (fun a => a.2.2.2.2.2.2.2.2.2.2.2.2.2.2.2.2.2.2.2.2.2.2.2.2.2.2.2.2.2.2.2)) (J := (fun a b => J_LC_build_533 N a.1 a.2.1 a.2.2.1 a.2.2.2.1 a.2.2.2.2.1 a.2.2.2.2.2.1 a.2.2.2.2.2.2.1 a.2.2.2.2.2.2.2.1 a.2.2.2.2.2.2.2.2.1 a.2.2.2.2.2.2.2.2.2.1 a.2.2.2.2.2.2.2.2.2.2.1 a.2.2.2.2.2.2.2.2.2.2.2.1 a.2.2.2.2.2.2.2.2.2.2.2.2.1 a.2.2.2.2.2.2.2.2.2.2.2.2.2.1 a.2.2.2.2.2.2.2.2.2.2.2.2.2.2.1 a.2.2.2.2.2.2.2.2.2.2.2.2.2.2.2.1 a.2.2.2.2.2.2.2.2.2.2.2.2.2.2.2.2.1 a.2.2.2.2.2.2.2.2.2.2.2.2.2.2.2.2.2.1 a.2.2.2.2.2.2.2.2.2.2.2.2.2.2.2.2.2.2.1 a.2.2.2.2.2.2.2.2.2.2.2.2.2.2.2.2.2.2.2.1 a.2.2.2.2.2.2.2.2.2.2.2.2.2.2.2.2.2.2.2.2.1 a.2.2.2.2.2.2.2.2.2.2.2.2.2.2.2.2.2.2.2.2.2.1 a.2.2.2.2.2.2.2.2.2.2.2.2.2.2.2.2.2.2.2.2.2.2.1 a.2.2.2.2.2.2.2.2.2.2.2.2.2.2.2.2.2.2.2.2.2.2.2.1 a.2.2.2.2.2.2.2.2.2.2.2.2.2.2.2.2.2.2.2.2.2.2.2.2.1 a.2.2.2.2.2.2.2.2.2.2.2.2.2.2.2.2.2.2.2.2.2.2.2.2.2.1 a.2.2.2.2.2.2.2.2.2.2.2.2.2.2.2.2.2.2.2.2.2.2.2.2.2.2.1 a.2.2.2.2.2.2.2.2.2.2.2.2.2.2.2.2.2.2.2.2.2.2.2.2.2.2.2.1 a.2.2.2.2.2.2.2.2.2.2.2.2.2.2.2.2.2.2.2.2.2.2.2.2.2.2.2.2.1 a.2.2.2.2.2.2.2.2.2.2.2.2.2.2.2.2.2.2.2.2.2.2.2.2.2.2.2.2.2.1 a.2.2.2.2.2.2.2.2.2.2.2.2.2.2.2.2.2.2.2.2.2.2.2.2.2.2.2.2.2.2.1 b.1 b.2.1 b.2.2.1 b.2.2.2.1 b.2.2.2.2.1 b.2.2.2.2.2.1 b.2.2.2.2.2.2.1 b.2.2.2.2.2.2.2.1 b.2.2.2.2.2.2.2.2.1 b.2.2.2.2.2.2.2.2.2.1 b.2.2.2.2.2.2.2.2.2.2.1 b.2.2.2.2.2.2.2.2.2.2.2.1 b.2.2.2.2.2.2.2.2.2.2.2.2.1 b.2.2.2.2.2.2.2.2.2.2.2.2.2.1 b.2.2.2.2.2.2.2.2.2.2.2.2.2.2.1 b.2.2.2.2.2.2.2.2.2.2.2.2.2.2.2.1 b.2.2.2.2.2.2.2.2.2.2.2.2.2.2.2.2.1 b.2.2.2.2.2.2.2.2.2.2.2.2.2.2.2.2.2 a.2.2.2.2.2.2.2.2.2.2.2.2.2.2.2.2.2.2.2.2.2.2.2.2.2.2.2.2.2.2.2)) (c := 2) hA hM rfl (fun e => absurd e (by decide)), hR⟩
  rcases Nat.eq_zero_or_pos n with hn0 | h1
  · have hP : F_X7_build N x_fingerprintMask 0 (nI n) f_sorted_places x_displacer_keyCount x_displacer_bucketCount x_displacer_seed x_displacer_ranksByBucket_thingCount x_displacer_ranksByBucket_groupCount f_displacer_ranksByBucket_groups f_displacer_ranksByBucket_begins f_displacer_ranksByBucket_members f_displacer_starts f_displacer_steps f_displacer_numbers f_displacer_displacements f_displacer_ranksByNumber x_packer_bitsEach x_packer_wordCount f_packer_words x_graph_reachedCount x_graph_keyCount x_graph_vertexCount x_graph_seed x_graph_ends_thingCount x_graph_ends_groupCount f_graph_ends_groups f_graph_ends_begins f_graph_ends_members f_graph_walked f_graph_values f_graph_reached f_fingerprints (nI Lo) (nI nb) = some (.inl (1, x_fingerprintMask, 0, x_displacer_keyCount, x_displacer_bucketCount, x_displacer_seed, x_displacer_ranksByBucket_thingCount, x_displacer_ranksByBucket_groupCount, f_displacer_ranksByBucket_groups, f_displacer_ranksByBucket_begins, f_displacer_ranksByBucket_members, f_displacer_starts, f_displacer_steps, f_displacer_numbers, f_displacer_displacements, f_displacer_ranksByNumber, x_packer_bitsEach, x_packer_wordCount, f_packer_words, x_graph_reachedCount, x_graph_keyCount, x_graph_vertexCount, x_graph_seed, x_graph_ends_thingCount, x_graph_ends_groupCount, f_graph_ends_groups, f_graph_ends_begins, f_graph_ends_members, f_graph_walked, f_graph_values, f_graph_reached, f_fingerprints)) := by
      unfold F_X7_build J_X7_build_95
      rw [if_neg hl1, if_pos hl2, if_neg hl3, if_pos hl4, pu_bind op_0, Sum.elim_inr, if_pos (show nI n = 0 by rw [hn0]; rfl)]
    have hA : F_L_build N x_fingerprintMask 0 (nI n) f_sorted_places x_displacer_keyCount x_displacer_bucketCount x_displacer_seed x_displacer_ranksByBucket_thingCount x_displacer_ranksByBucket_groupCount f_displacer_ranksByBucket_groups f_displacer_ranksByBucket_begins f_displacer_ranksByBucket_members f_displacer_starts f_displacer_steps f_displacer_numbers f_displacer_displacements f_displacer_ranksByNumber x_packer_bitsEach x_packer_wordCount f_packer_words x_graph_reachedCount x_graph_keyCount x_graph_vertexCount x_graph_seed x_graph_ends_thingCount x_graph_ends_groupCount f_graph_ends_groups f_graph_ends_begins f_graph_ends_members f_graph_walked f_graph_values f_graph_reached f_fingerprints 1 r_f_arr (nI Lo) (nI nb) = some (2, x_fingerprintMask, 0, x_displacer_keyCount, x_displacer_bucketCount, x_displacer_seed, x_displacer_ranksByBucket_thingCount, x_displacer_ranksByBucket_groupCount, f_displacer_ranksByBucket_groups, f_displacer_ranksByBucket_begins, f_displacer_ranksByBucket_members, f_displacer_starts, f_displacer_steps, f_displacer_numbers, f_displacer_displacements, f_displacer_ranksByNumber, x_packer_bitsEach, x_packer_wordCount, f_packer_words, x_graph_reachedCount, x_graph_keyCount, x_graph_vertexCount, x_graph_seed, x_graph_ends_thingCount, x_graph_ends_groupCount, f_graph_ends_groups, f_graph_ends_begins, f_graph_ends_members, f_graph_walked, f_graph_values, f_graph_reached, f_fingerprints, r_f_arr) := by
      unfold F_L_build
      exact (pu_bind hP).trans rfl
    have hM : F_X8_build N (nI n) 0 q_x_seed q_x_graphSeed q_x_bits q_x_bucketMany q_x_width q_x_thrown q_f_keys q_f_sizes q_f_shift q_f_owner q_f_prints q_f_some q_f_triedShift q_f_triedOwner q_f_words q_f_values q_f_roots q_f_ends (nI Lo) (nI nb) = some (0, 0, q_x_seed, q_x_graphSeed, q_x_bits, q_x_bucketMany, q_x_width, 2, q_f_sizes, q_f_shift, q_f_owner, q_f_prints, q_f_some, q_f_triedShift, q_f_triedOwner, q_f_words, q_f_values, q_f_roots, q_f_ends) := by
      unfold F_X8_build J_X8_build_45 F_X8_fails
      rw [pu_bind hm1, if_neg (by decide), pu_bind hm2, if_neg (by decide), if_pos rfl, if_pos (show nI n = 0 by rw [hn0]; rfl)]
      rfl
    exact ⟨_, pb_close (tM := (fun b => b.2.2.2.2.2.2.1)) (aA := (fun a => a.2.2.2.2.2.2.2.2.2.2.2.2.2.2.2.2.2.2.2.2.2.2.2.2.2.2.2.2.2.2.2)) (J := (fun a b => J_LC_build_533 N a.1 a.2.1 a.2.2.1 a.2.2.2.1 a.2.2.2.2.1 a.2.2.2.2.2.1 a.2.2.2.2.2.2.1 a.2.2.2.2.2.2.2.1 a.2.2.2.2.2.2.2.2.1 a.2.2.2.2.2.2.2.2.2.1 a.2.2.2.2.2.2.2.2.2.2.1 a.2.2.2.2.2.2.2.2.2.2.2.1 a.2.2.2.2.2.2.2.2.2.2.2.2.1 a.2.2.2.2.2.2.2.2.2.2.2.2.2.1 a.2.2.2.2.2.2.2.2.2.2.2.2.2.2.1 a.2.2.2.2.2.2.2.2.2.2.2.2.2.2.2.1 a.2.2.2.2.2.2.2.2.2.2.2.2.2.2.2.2.1 a.2.2.2.2.2.2.2.2.2.2.2.2.2.2.2.2.2.1 a.2.2.2.2.2.2.2.2.2.2.2.2.2.2.2.2.2.2.1 a.2.2.2.2.2.2.2.2.2.2.2.2.2.2.2.2.2.2.2.1 a.2.2.2.2.2.2.2.2.2.2.2.2.2.2.2.2.2.2.2.2.1 a.2.2.2.2.2.2.2.2.2.2.2.2.2.2.2.2.2.2.2.2.2.1 a.2.2.2.2.2.2.2.2.2.2.2.2.2.2.2.2.2.2.2.2.2.2.1 a.2.2.2.2.2.2.2.2.2.2.2.2.2.2.2.2.2.2.2.2.2.2.2.1 a.2.2.2.2.2.2.2.2.2.2.2.2.2.2.2.2.2.2.2.2.2.2.2.2.1 a.2.2.2.2.2.2.2.2.2.2.2.2.2.2.2.2.2.2.2.2.2.2.2.2.2.1 a.2.2.2.2.2.2.2.2.2.2.2.2.2.2.2.2.2.2.2.2.2.2.2.2.2.2.1 a.2.2.2.2.2.2.2.2.2.2.2.2.2.2.2.2.2.2.2.2.2.2.2.2.2.2.2.1 a.2.2.2.2.2.2.2.2.2.2.2.2.2.2.2.2.2.2.2.2.2.2.2.2.2.2.2.2.1 a.2.2.2.2.2.2.2.2.2.2.2.2.2.2.2.2.2.2.2.2.2.2.2.2.2.2.2.2.2.1 a.2.2.2.2.2.2.2.2.2.2.2.2.2.2.2.2.2.2.2.2.2.2.2.2.2.2.2.2.2.2.1 b.1 b.2.1 b.2.2.1 b.2.2.2.1 b.2.2.2.2.1 b.2.2.2.2.2.1 b.2.2.2.2.2.2.1 b.2.2.2.2.2.2.2.1 b.2.2.2.2.2.2.2.2.1 b.2.2.2.2.2.2.2.2.2.1 b.2.2.2.2.2.2.2.2.2.2.1 b.2.2.2.2.2.2.2.2.2.2.2.1 b.2.2.2.2.2.2.2.2.2.2.2.2.1 b.2.2.2.2.2.2.2.2.2.2.2.2.2.1 b.2.2.2.2.2.2.2.2.2.2.2.2.2.2.1 b.2.2.2.2.2.2.2.2.2.2.2.2.2.2.2.1 b.2.2.2.2.2.2.2.2.2.2.2.2.2.2.2.2.1 b.2.2.2.2.2.2.2.2.2.2.2.2.2.2.2.2.2 a.2.2.2.2.2.2.2.2.2.2.2.2.2.2.2.2.2.2.2.2.2.2.2.2.2.2.2.2.2.2.2)) (c := 2) hA hM rfl (fun e => absurd e (by decide)), hR⟩
  have hne : ¬ nI n = 0 := nI_ne0 h1 (by omega)
  have hBd : 0 < (n + Lo - 1) / Lo := Nat.div_pos (by omega) (by omega)
  have hBl : (n + Lo - 1) / Lo ≤ 120 := by
    have : (n + Lo - 1) / Lo ≤ n := by
      rw [Nat.div_le_iff_le_mul_add_pred (by omega)]
      have : n * 1 ≤ n * Lo := Nat.mul_le_mul_left n hLo
      have e : Lo * n = n * Lo := Nat.mul_comm Lo n
      omega
    omega
  have hBe : (n + Lo - 1) / Lo = (n + Lo - 1) / Lo := rfl
  generalize hBg : (n + Lo - 1) / Lo = B at hBd hBl hBe
  have hdiv : kk_div ((nI n + nI Lo) - 1) (nI Lo) = nI B := by
    rw [pu_addpred (by omega), ← hBg]
    exact pk_div (by omega) (by omega) (by omega)
  obtain ⟨fl, sd, tC, gC, fg, fb, fm, fs, ft, fn, dsp, ρ, g', tS', τ', z, e1, e2, e3⟩ := pu_settle2 (N := N) (B := B) (L := Lo) (by omega) hk hf hq h1 hLo hBg.symm hBd hBl hLo2 x_displacer_keyCount x_displacer_bucketCount x_displacer_seed x_displacer_ranksByBucket_thingCount x_displacer_ranksByBucket_groupCount f_displacer_ranksByBucket_groups f_displacer_ranksByBucket_begins f_displacer_ranksByBucket_members f_displacer_starts f_displacer_steps f_displacer_numbers f_displacer_displacements f_displacer_ranksByNumber q_f_some q_f_triedShift q_f_triedOwner
  rcases e3 with ⟨rfl, rfl⟩ | ⟨rfl, s, hs, rfl, rfl, hHd, hRO, hDO, hPl⟩
  · have hz91 : kk_iter (fun (σ : ((Nat → Int32) × (Nat → Int32) × Int32)) => L_X8_build_91 N (nI n) q_f_keys (nI 40) σ.1 σ.2.1 σ.2.2) N (q_f_roots, q_f_ends, 0) = some (q_f_roots, q_f_ends, 0) := by
      obtain ⟨M, rfl⟩ : ∃ M, N = M + 1 := ⟨N - 1, by omega⟩
      rw [kk_iter]
      unfold L_X8_build_91
      rw [if_pos (show (40 : Int32) ≤ nI 40 by decide)]
      rfl
    have hP : F_X7_build N x_fingerprintMask 0 (nI n) f_sorted_places x_displacer_keyCount x_displacer_bucketCount x_displacer_seed x_displacer_ranksByBucket_thingCount x_displacer_ranksByBucket_groupCount f_displacer_ranksByBucket_groups f_displacer_ranksByBucket_begins f_displacer_ranksByBucket_members f_displacer_starts f_displacer_steps f_displacer_numbers f_displacer_displacements f_displacer_ranksByNumber x_packer_bitsEach x_packer_wordCount f_packer_words x_graph_reachedCount x_graph_keyCount x_graph_vertexCount x_graph_seed x_graph_ends_thingCount x_graph_ends_groupCount f_graph_ends_groups f_graph_ends_begins f_graph_ends_members f_graph_walked f_graph_values f_graph_reached f_fingerprints (nI Lo) (nI nb) = some (.inl (1, x_fingerprintMask, 0, nI n, nI B, sd, tC, gC, fg, fb, fm, fs, ft, fn, dsp, ρ, x_packer_bitsEach, x_packer_wordCount, f_packer_words, x_graph_reachedCount, x_graph_keyCount, x_graph_vertexCount, x_graph_seed, x_graph_ends_thingCount, x_graph_ends_groupCount, f_graph_ends_groups, f_graph_ends_begins, f_graph_ends_members, f_graph_walked, f_graph_values, f_graph_reached, f_fingerprints)) := by
      unfold F_X7_build J_X7_build_95
      rw [if_neg hl1, if_pos hl2, if_neg hl3, if_pos hl4, pu_bind op_0, Sum.elim_inr, if_neg hne, pu_bind e1, if_pos rfl]
    have hA : F_L_build N x_fingerprintMask 0 (nI n) f_sorted_places x_displacer_keyCount x_displacer_bucketCount x_displacer_seed x_displacer_ranksByBucket_thingCount x_displacer_ranksByBucket_groupCount f_displacer_ranksByBucket_groups f_displacer_ranksByBucket_begins f_displacer_ranksByBucket_members f_displacer_starts f_displacer_steps f_displacer_numbers f_displacer_displacements f_displacer_ranksByNumber x_packer_bitsEach x_packer_wordCount f_packer_words x_graph_reachedCount x_graph_keyCount x_graph_vertexCount x_graph_seed x_graph_ends_thingCount x_graph_ends_groupCount f_graph_ends_groups f_graph_ends_begins f_graph_ends_members f_graph_walked f_graph_values f_graph_reached f_fingerprints 1 r_f_arr (nI Lo) (nI nb) = some (2, x_fingerprintMask, 0, nI n, nI B, sd, tC, gC, fg, fb, fm, fs, ft, fn, dsp, ρ, x_packer_bitsEach, x_packer_wordCount, f_packer_words, x_graph_reachedCount, x_graph_keyCount, x_graph_vertexCount, x_graph_seed, x_graph_ends_thingCount, x_graph_ends_groupCount, f_graph_ends_groups, f_graph_ends_begins, f_graph_ends_members, f_graph_walked, f_graph_values, f_graph_reached, f_fingerprints, r_f_arr) := by
      unfold F_L_build
      exact (pu_bind hP).trans rfl
    have hM : F_X8_build N (nI n) 0 q_x_seed q_x_graphSeed q_x_bits q_x_bucketMany q_x_width q_x_thrown q_f_keys q_f_sizes q_f_shift q_f_owner q_f_prints q_f_some q_f_triedShift q_f_triedOwner q_f_words q_f_values q_f_roots q_f_ends (nI Lo) (nI nb) = some (0, 0, q_x_seed, q_x_graphSeed, q_x_bits, q_x_bucketMany, q_x_width, 2, q_f_sizes, q_f_shift, q_f_owner, q_f_prints, g', tS', τ', q_f_words, q_f_values, q_f_roots, q_f_ends) := by
      unfold F_X8_build J_X8_build_88 J_X8_build_121 J_X8_build_136 F_X8_fails
      rw [pu_bind hm1, if_neg (by decide), pu_bind hm2, if_neg (by decide), if_pos rfl, if_neg hne, pu_nz (by omega) (by omega), hdiv, pu_bind e2, pu_bind hz91, if_pos (show nI 40 = 40 from rfl)]
      rfl
    exact ⟨_, pb_close (tM := (fun b => b.2.2.2.2.2.2.1)) (aA := (fun a => a.2.2.2.2.2.2.2.2.2.2.2.2.2.2.2.2.2.2.2.2.2.2.2.2.2.2.2.2.2.2.2)) (J := (fun a b => J_LC_build_533 N a.1 a.2.1 a.2.2.1 a.2.2.2.1 a.2.2.2.2.1 a.2.2.2.2.2.1 a.2.2.2.2.2.2.1 a.2.2.2.2.2.2.2.1 a.2.2.2.2.2.2.2.2.1 a.2.2.2.2.2.2.2.2.2.1 a.2.2.2.2.2.2.2.2.2.2.1 a.2.2.2.2.2.2.2.2.2.2.2.1 a.2.2.2.2.2.2.2.2.2.2.2.2.1 a.2.2.2.2.2.2.2.2.2.2.2.2.2.1 a.2.2.2.2.2.2.2.2.2.2.2.2.2.2.1 a.2.2.2.2.2.2.2.2.2.2.2.2.2.2.2.1 a.2.2.2.2.2.2.2.2.2.2.2.2.2.2.2.2.1 a.2.2.2.2.2.2.2.2.2.2.2.2.2.2.2.2.2.1 a.2.2.2.2.2.2.2.2.2.2.2.2.2.2.2.2.2.2.1 a.2.2.2.2.2.2.2.2.2.2.2.2.2.2.2.2.2.2.2.1 a.2.2.2.2.2.2.2.2.2.2.2.2.2.2.2.2.2.2.2.2.1 a.2.2.2.2.2.2.2.2.2.2.2.2.2.2.2.2.2.2.2.2.2.1 a.2.2.2.2.2.2.2.2.2.2.2.2.2.2.2.2.2.2.2.2.2.2.1 a.2.2.2.2.2.2.2.2.2.2.2.2.2.2.2.2.2.2.2.2.2.2.2.1 a.2.2.2.2.2.2.2.2.2.2.2.2.2.2.2.2.2.2.2.2.2.2.2.2.1 a.2.2.2.2.2.2.2.2.2.2.2.2.2.2.2.2.2.2.2.2.2.2.2.2.2.1 a.2.2.2.2.2.2.2.2.2.2.2.2.2.2.2.2.2.2.2.2.2.2.2.2.2.2.1 a.2.2.2.2.2.2.2.2.2.2.2.2.2.2.2.2.2.2.2.2.2.2.2.2.2.2.2.1 a.2.2.2.2.2.2.2.2.2.2.2.2.2.2.2.2.2.2.2.2.2.2.2.2.2.2.2.2.1 a.2.2.2.2.2.2.2.2.2.2.2.2.2.2.2.2.2.2.2.2.2.2.2.2.2.2.2.2.2.1 a.2.2.2.2.2.2.2.2.2.2.2.2.2.2.2.2.2.2.2.2.2.2.2.2.2.2.2.2.2.2.1 b.1 b.2.1 b.2.2.1 b.2.2.2.1 b.2.2.2.2.1 b.2.2.2.2.2.1 b.2.2.2.2.2.2.1 b.2.2.2.2.2.2.2.1 b.2.2.2.2.2.2.2.2.1 b.2.2.2.2.2.2.2.2.2.1 b.2.2.2.2.2.2.2.2.2.2.1 b.2.2.2.2.2.2.2.2.2.2.2.1 b.2.2.2.2.2.2.2.2.2.2.2.2.1 b.2.2.2.2.2.2.2.2.2.2.2.2.2.1 b.2.2.2.2.2.2.2.2.2.2.2.2.2.2.1 b.2.2.2.2.2.2.2.2.2.2.2.2.2.2.2.1 b.2.2.2.2.2.2.2.2.2.2.2.2.2.2.2.2.1 b.2.2.2.2.2.2.2.2.2.2.2.2.2.2.2.2.2 a.2.2.2.2.2.2.2.2.2.2.2.2.2.2.2.2.2.2.2.2.2.2.2.2.2.2.2.2.2.2.2)) (c := 2) hA hM rfl (fun e => absurd e (by decide)), κ, n, ⟨hk, rfl, rfl, hf, hq⟩, hb0, Or.inl ⟨rfl, rfl⟩⟩
  have hz : ¬ (40 : Int32) ≤ nI s := nI_ge (b := 40) hs (by decide)
  have hz2 : ¬ nI s = 40 := fun e => by
    have := (nI_eq (b := 40) (by omega) (by decide)).mp e
    omega
  obtain ⟨gfl, rc, gsd, gtC, ggC, gfg, gfb, gfm, gw, gV, gR, r', e', q, c1, c2, c3⟩ := pu_gsettle2 (N := N) (by omega) hk hf hq h1 hz x_graph_reachedCount x_graph_keyCount x_graph_vertexCount x_graph_seed x_graph_ends_thingCount x_graph_ends_groupCount f_graph_ends_groups f_graph_ends_begins f_graph_ends_members f_graph_walked f_graph_values f_graph_reached q_f_roots q_f_ends q_f_values
  rcases c3 with ⟨rfl, rfl⟩ | ⟨rfl, g, hg, rfl, rfl, V', mu, hlay, hmu, hvals⟩
  · have hP : F_X7_build N x_fingerprintMask 0 (nI n) f_sorted_places x_displacer_keyCount x_displacer_bucketCount x_displacer_seed x_displacer_ranksByBucket_thingCount x_displacer_ranksByBucket_groupCount f_displacer_ranksByBucket_groups f_displacer_ranksByBucket_begins f_displacer_ranksByBucket_members f_displacer_starts f_displacer_steps f_displacer_numbers f_displacer_displacements f_displacer_ranksByNumber x_packer_bitsEach x_packer_wordCount f_packer_words x_graph_reachedCount x_graph_keyCount x_graph_vertexCount x_graph_seed x_graph_ends_thingCount x_graph_ends_groupCount f_graph_ends_groups f_graph_ends_begins f_graph_ends_members f_graph_walked f_graph_values f_graph_reached f_fingerprints (nI Lo) (nI nb) = some (.inl (1, x_fingerprintMask, 0, nI n, nI B, nI s, tC, gC, fg, fb, fm, fs, ft, fn, dsp, ρ, x_packer_bitsEach, x_packer_wordCount, f_packer_words, rc, nI n, nI (3 * n), gsd, gtC, ggC, gfg, gfb, gfm, gw, gV, gR, f_fingerprints)) := by
      unfold F_X7_build J_X7_build_95
      rw [if_neg hl1, if_pos hl2, if_neg hl3, if_pos hl4, pu_bind op_0, Sum.elim_inr, if_neg hne, pu_bind e1, if_neg (show ¬ (1 : Int32) = 0 by decide), pu_bind c1, if_pos rfl]
    have hA : F_L_build N x_fingerprintMask 0 (nI n) f_sorted_places x_displacer_keyCount x_displacer_bucketCount x_displacer_seed x_displacer_ranksByBucket_thingCount x_displacer_ranksByBucket_groupCount f_displacer_ranksByBucket_groups f_displacer_ranksByBucket_begins f_displacer_ranksByBucket_members f_displacer_starts f_displacer_steps f_displacer_numbers f_displacer_displacements f_displacer_ranksByNumber x_packer_bitsEach x_packer_wordCount f_packer_words x_graph_reachedCount x_graph_keyCount x_graph_vertexCount x_graph_seed x_graph_ends_thingCount x_graph_ends_groupCount f_graph_ends_groups f_graph_ends_begins f_graph_ends_members f_graph_walked f_graph_values f_graph_reached f_fingerprints 1 r_f_arr (nI Lo) (nI nb) = some (2, x_fingerprintMask, 0, nI n, nI B, nI s, tC, gC, fg, fb, fm, fs, ft, fn, dsp, ρ, x_packer_bitsEach, x_packer_wordCount, f_packer_words, rc, nI n, nI (3 * n), gsd, gtC, ggC, gfg, gfb, gfm, gw, gV, gR, f_fingerprints, r_f_arr) := by
      unfold F_L_build
      exact (pu_bind hP).trans rfl
    have hM : F_X8_build N (nI n) 0 q_x_seed q_x_graphSeed q_x_bits q_x_bucketMany q_x_width q_x_thrown q_f_keys q_f_sizes q_f_shift q_f_owner q_f_prints q_f_some q_f_triedShift q_f_triedOwner q_f_words q_f_values q_f_roots q_f_ends (nI Lo) (nI nb) = some (0, 0, q_x_seed, q_x_graphSeed, q_x_bits, q_x_bucketMany, q_x_width, 2, q_f_sizes, q_f_shift, q_f_owner, q_f_prints, g', tS', τ', q_f_words, q_f_values, r', e') := by
      unfold F_X8_build J_X8_build_88 J_X8_build_121 J_X8_build_136 F_X8_fails
      rw [pu_bind hm1, if_neg (by decide), pu_bind hm2, if_neg (by decide), if_pos rfl, if_neg hne, pu_nz (by omega) (by omega), hdiv, pu_bind e2, pu_bind c2, if_neg hz2, if_pos (show nI 200 = 200 from rfl)]
      rfl
    exact ⟨_, pb_close (tM := (fun b => b.2.2.2.2.2.2.1)) (aA := (fun a => a.2.2.2.2.2.2.2.2.2.2.2.2.2.2.2.2.2.2.2.2.2.2.2.2.2.2.2.2.2.2.2)) (J := (fun a b => J_LC_build_533 N a.1 a.2.1 a.2.2.1 a.2.2.2.1 a.2.2.2.2.1 a.2.2.2.2.2.1 a.2.2.2.2.2.2.1 a.2.2.2.2.2.2.2.1 a.2.2.2.2.2.2.2.2.1 a.2.2.2.2.2.2.2.2.2.1 a.2.2.2.2.2.2.2.2.2.2.1 a.2.2.2.2.2.2.2.2.2.2.2.1 a.2.2.2.2.2.2.2.2.2.2.2.2.1 a.2.2.2.2.2.2.2.2.2.2.2.2.2.1 a.2.2.2.2.2.2.2.2.2.2.2.2.2.2.1 a.2.2.2.2.2.2.2.2.2.2.2.2.2.2.2.1 a.2.2.2.2.2.2.2.2.2.2.2.2.2.2.2.2.1 a.2.2.2.2.2.2.2.2.2.2.2.2.2.2.2.2.2.1 a.2.2.2.2.2.2.2.2.2.2.2.2.2.2.2.2.2.2.1 a.2.2.2.2.2.2.2.2.2.2.2.2.2.2.2.2.2.2.2.1 a.2.2.2.2.2.2.2.2.2.2.2.2.2.2.2.2.2.2.2.2.1 a.2.2.2.2.2.2.2.2.2.2.2.2.2.2.2.2.2.2.2.2.2.1 a.2.2.2.2.2.2.2.2.2.2.2.2.2.2.2.2.2.2.2.2.2.2.1 a.2.2.2.2.2.2.2.2.2.2.2.2.2.2.2.2.2.2.2.2.2.2.2.1 a.2.2.2.2.2.2.2.2.2.2.2.2.2.2.2.2.2.2.2.2.2.2.2.2.1 a.2.2.2.2.2.2.2.2.2.2.2.2.2.2.2.2.2.2.2.2.2.2.2.2.2.1 a.2.2.2.2.2.2.2.2.2.2.2.2.2.2.2.2.2.2.2.2.2.2.2.2.2.2.1 a.2.2.2.2.2.2.2.2.2.2.2.2.2.2.2.2.2.2.2.2.2.2.2.2.2.2.2.1 a.2.2.2.2.2.2.2.2.2.2.2.2.2.2.2.2.2.2.2.2.2.2.2.2.2.2.2.2.1 a.2.2.2.2.2.2.2.2.2.2.2.2.2.2.2.2.2.2.2.2.2.2.2.2.2.2.2.2.2.1 a.2.2.2.2.2.2.2.2.2.2.2.2.2.2.2.2.2.2.2.2.2.2.2.2.2.2.2.2.2.2.1 b.1 b.2.1 b.2.2.1 b.2.2.2.1 b.2.2.2.2.1 b.2.2.2.2.2.1 b.2.2.2.2.2.2.1 b.2.2.2.2.2.2.2.1 b.2.2.2.2.2.2.2.2.1 b.2.2.2.2.2.2.2.2.2.1 b.2.2.2.2.2.2.2.2.2.2.1 b.2.2.2.2.2.2.2.2.2.2.2.1 b.2.2.2.2.2.2.2.2.2.2.2.2.1 b.2.2.2.2.2.2.2.2.2.2.2.2.2.1 b.2.2.2.2.2.2.2.2.2.2.2.2.2.2.1 b.2.2.2.2.2.2.2.2.2.2.2.2.2.2.2.1 b.2.2.2.2.2.2.2.2.2.2.2.2.2.2.2.2.1 b.2.2.2.2.2.2.2.2.2.2.2.2.2.2.2.2.2 a.2.2.2.2.2.2.2.2.2.2.2.2.2.2.2.2.2.2.2.2.2.2.2.2.2.2.2.2.2.2.2)) (c := 2) hA hM rfl (fun e => absurd e (by decide)), κ, n, ⟨hk, rfl, rfl, hf, hq⟩, hb0, Or.inl ⟨rfl, rfl⟩⟩
  have hz3 : ¬ nI g = 200 := fun e => by
    have := (nI_eq (b := 200) (by omega) (by decide)).mp e
    omega
  have hon := pu_onto hn (fun r hr => by obtain ⟨d1, _, _, hd3⟩ := hPl r hr; exact ⟨_, atN_lt h1, hd3⟩)
  have hRx : ∀ x, x < n → (ρ x).toNatClampNeg < n ∧ ρ x = nI (ρ x).toNatClampNeg ∧ τ' x = nI (κ (ρ x).toNatClampNeg) := fun x hx => by
    rcases hRO x hx with ⟨q1, _⟩ | ⟨r, q1, q2, q3⟩
    · exact absurd q1 (hon x hx)
    · rw [q2, nI_clamp (by omega)]
      exact ⟨q1, rfl, q3⟩
  have hdx : ∀ b, b < B → (dsp b).toNatClampNeg < n ∧ dsp b = nI (dsp b).toNatClampNeg ∧ tS' b = nI (dsp b).toNatClampNeg := fun b hb => by
    obtain ⟨d, q1, q2, q3⟩ := hDO b hb
    rw [q2, nI_clamp (by omega)]
    exact ⟨q1, rfl, q3⟩
  obtain ⟨fp, k1, k2⟩ := pu_keepF (N := N) (R := fun x => (ρ x).toNatClampNeg) (by omega) hk hf hs hnb (fun x hx => ⟨(hRx x hx).1, (hRx x hx).2.1⟩) x_fingerprintMask f_fingerprints
  obtain ⟨ow, pr, k3, k4⟩ := pu_prints (N := N) (R := fun x => (ρ x).toNatClampNeg) (by omega) hk hs hnb (fun x hx => ⟨(hRx x hx).1, (hRx x hx).2.2⟩) q_f_owner q_f_prints
  obtain ⟨sz, sh, so, k5, k6⟩ := pu_sizes (N := N) (tS := tS') (by omega) hk hq hBd hBl (show s < 200 by omega) q_f_sizes q_f_shift g'
  obtain ⟨W, ws, k7, k8, k9⟩ := pu_pack (N := N) (d := fun b => (dsp b).toNatClampNeg) (f := dsp) (by omega) hBd hBl (fun b hb => by have := (hdx b hb).1; omega) (fun b hb => (hdx b hb).2.1) x_packer_bitsEach x_packer_wordCount f_packer_words
  obtain ⟨W2, ws2, k10, k11, k12⟩ := pu_mpack (N := N) (d := fun b => (dsp b).toNatClampNeg) (f := sh) (by omega) hBd hBl (fun b hb => by have := (hdx b hb).1; omega) (fun b hb => (k6 b hb).2.trans (hdx b hb).2.2) q_x_width q_f_words
  have hWW := IsW_uniq k11 k8
  subst hWW
  have hP : F_X7_build N x_fingerprintMask 0 (nI n) f_sorted_places x_displacer_keyCount x_displacer_bucketCount x_displacer_seed x_displacer_ranksByBucket_thingCount x_displacer_ranksByBucket_groupCount f_displacer_ranksByBucket_groups f_displacer_ranksByBucket_begins f_displacer_ranksByBucket_members f_displacer_starts f_displacer_steps f_displacer_numbers f_displacer_displacements f_displacer_ranksByNumber x_packer_bitsEach x_packer_wordCount f_packer_words x_graph_reachedCount x_graph_keyCount x_graph_vertexCount x_graph_seed x_graph_ends_thingCount x_graph_ends_groupCount f_graph_ends_groups f_graph_ends_begins f_graph_ends_members f_graph_walked f_graph_values f_graph_reached f_fingerprints (nI Lo) (nI nb) = some (.inr (nI s, nI (2 ^ nb - 1), 1, nI n, nI B, nI s, tC, gC, fg, fb, fm, fs, ft, fn, dsp, ρ, nI W2, nI ((B * W2 + 63) / 64), ws, rc, nI n, nI (3 * n), nI g, gtC, ggC, gfg, gfb, gfm, gw, gV, gR, fp)) := by
    unfold F_X7_build
    rw [if_neg hl1, if_pos hl2, if_neg hl3, if_pos hl4, pu_bind op_0, Sum.elim_inr, if_neg hne, pu_bind e1, if_neg (show ¬ (1 : Int32) = 0 by decide), pu_bind c1, if_neg (show ¬ (1 : Int32) = 0 by decide), pu_bind k1, pu_bind k7]
  have hA : F_L_build N x_fingerprintMask 0 (nI n) f_sorted_places x_displacer_keyCount x_displacer_bucketCount x_displacer_seed x_displacer_ranksByBucket_thingCount x_displacer_ranksByBucket_groupCount f_displacer_ranksByBucket_groups f_displacer_ranksByBucket_begins f_displacer_ranksByBucket_members f_displacer_starts f_displacer_steps f_displacer_numbers f_displacer_displacements f_displacer_ranksByNumber x_packer_bitsEach x_packer_wordCount f_packer_words x_graph_reachedCount x_graph_keyCount x_graph_vertexCount x_graph_seed x_graph_ends_thingCount x_graph_ends_groupCount f_graph_ends_groups f_graph_ends_begins f_graph_ends_members f_graph_walked f_graph_values f_graph_reached f_fingerprints 1 r_f_arr (nI Lo) (nI nb) = some (0, nI (2 ^ nb - 1), 1, nI n, nI B, nI s, tC, gC, fg, fb, fm, fs, ft, fn, dsp, ρ, nI W2, nI ((B * W2 + 63) / 64), ws, rc, nI n, nI (3 * n), nI g, gtC, ggC, gfg, gfb, gfm, gw, gV, gR, fp, vp_updL r_f_arr 0 (Int32.toInt64 (nI s))) := by
    unfold F_L_build
    rw [pu_bind hP, Sum.elim_inr, pu_bind pu_w0]
  have hM : F_X8_build N (nI n) 0 q_x_seed q_x_graphSeed q_x_bits q_x_bucketMany q_x_width q_x_thrown q_f_keys q_f_sizes q_f_shift q_f_owner q_f_prints q_f_some q_f_triedShift q_f_triedOwner q_f_words q_f_values q_f_roots q_f_ends (nI Lo) (nI nb) = some (nI s, 1, nI s, nI g, nI nb, nI B, nI W2, 0, sz, sh, ow, pr, so, tS', τ', ws2, V', r', e') := by
    unfold F_X8_build J_X8_build_88 J_X8_build_121 J_X8_build_220 J_X8_build_270
    rw [pu_bind hm1, if_neg (by decide), pu_bind hm2, if_neg (by decide), if_pos rfl, if_neg hne, pu_nz (by omega) (by omega), hdiv, pu_bind e2, pu_bind c2, if_neg hz2, if_neg hz3, pu_bind k5, pu_bind k3, pu_bind hlay, pu_bind k10]
  refine ⟨_, pb_close (tM := (fun b => b.2.2.2.2.2.2.1)) (aA := (fun a => a.2.2.2.2.2.2.2.2.2.2.2.2.2.2.2.2.2.2.2.2.2.2.2.2.2.2.2.2.2.2.2)) (J := (fun a b => J_LC_build_533 N a.1 a.2.1 a.2.2.1 a.2.2.2.1 a.2.2.2.2.1 a.2.2.2.2.2.1 a.2.2.2.2.2.2.1 a.2.2.2.2.2.2.2.1 a.2.2.2.2.2.2.2.2.1 a.2.2.2.2.2.2.2.2.2.1 a.2.2.2.2.2.2.2.2.2.2.1 a.2.2.2.2.2.2.2.2.2.2.2.1 a.2.2.2.2.2.2.2.2.2.2.2.2.1 a.2.2.2.2.2.2.2.2.2.2.2.2.2.1 a.2.2.2.2.2.2.2.2.2.2.2.2.2.2.1 a.2.2.2.2.2.2.2.2.2.2.2.2.2.2.2.1 a.2.2.2.2.2.2.2.2.2.2.2.2.2.2.2.2.1 a.2.2.2.2.2.2.2.2.2.2.2.2.2.2.2.2.2.1 a.2.2.2.2.2.2.2.2.2.2.2.2.2.2.2.2.2.2.1 a.2.2.2.2.2.2.2.2.2.2.2.2.2.2.2.2.2.2.2.1 a.2.2.2.2.2.2.2.2.2.2.2.2.2.2.2.2.2.2.2.2.1 a.2.2.2.2.2.2.2.2.2.2.2.2.2.2.2.2.2.2.2.2.2.1 a.2.2.2.2.2.2.2.2.2.2.2.2.2.2.2.2.2.2.2.2.2.2.1 a.2.2.2.2.2.2.2.2.2.2.2.2.2.2.2.2.2.2.2.2.2.2.2.1 a.2.2.2.2.2.2.2.2.2.2.2.2.2.2.2.2.2.2.2.2.2.2.2.2.1 a.2.2.2.2.2.2.2.2.2.2.2.2.2.2.2.2.2.2.2.2.2.2.2.2.2.1 a.2.2.2.2.2.2.2.2.2.2.2.2.2.2.2.2.2.2.2.2.2.2.2.2.2.2.1 a.2.2.2.2.2.2.2.2.2.2.2.2.2.2.2.2.2.2.2.2.2.2.2.2.2.2.2.1 a.2.2.2.2.2.2.2.2.2.2.2.2.2.2.2.2.2.2.2.2.2.2.2.2.2.2.2.2.1 a.2.2.2.2.2.2.2.2.2.2.2.2.2.2.2.2.2.2.2.2.2.2.2.2.2.2.2.2.2.1 a.2.2.2.2.2.2.2.2.2.2.2.2.2.2.2.2.2.2.2.2.2.2.2.2.2.2.2.2.2.2.1 b.1 b.2.1 b.2.2.1 b.2.2.2.1 b.2.2.2.2.1 b.2.2.2.2.2.1 b.2.2.2.2.2.2.1 b.2.2.2.2.2.2.2.1 b.2.2.2.2.2.2.2.2.1 b.2.2.2.2.2.2.2.2.2.1 b.2.2.2.2.2.2.2.2.2.2.1 b.2.2.2.2.2.2.2.2.2.2.2.1 b.2.2.2.2.2.2.2.2.2.2.2.2.1 b.2.2.2.2.2.2.2.2.2.2.2.2.2.1 b.2.2.2.2.2.2.2.2.2.2.2.2.2.2.1 b.2.2.2.2.2.2.2.2.2.2.2.2.2.2.2.1 b.2.2.2.2.2.2.2.2.2.2.2.2.2.2.2.2.1 b.2.2.2.2.2.2.2.2.2.2.2.2.2.2.2.2.2 a.2.2.2.2.2.2.2.2.2.2.2.2.2.2.2.2.2.2.2.2.2.2.2.2.2.2.2.2.2.2.2)) (c := 0) hA hM rfl (fun _ => (pk_uLs : vp_updL r_f_arr 0 (Int32.toInt64 (nI s)) 0 = Int32.toInt64 (nI s))), κ, n, ⟨hk, rfl, rfl, hf, hq⟩, ⟨B, hBl, rfl⟩, Or.inr ⟨rfl, rfl, B, s, g, nb, W2, fun b => (dsp b).toNatClampNeg, mu, ?_⟩⟩
  exact ⟨⟨h1, hBd, hBl, hs, hg, hnb1, hnb, k8.1, k8.2.1⟩, ⟨rfl, rfl, rfl, rfl, rfl⟩, fun b hb => ⟨(hdx b hb).1, (hdx b hb).2.1, (k6 b hb).2.trans (hdx b hb).2.2⟩, ⟨hHd.1, fun b hb => (k6 b hb).1⟩,
    ⟨fun x hx => ⟨_, (hRx x hx).1, (hRx x hx).2.1, (k4 x hx).1⟩, fun r hr => by
      obtain ⟨d1, hd1, hd2, hd3⟩ := hPl r hr
      have hd4 : (dsp (bkN B s (κ r))).toNatClampNeg = d1 := by
        rw [show dsp (bkN B s (κ r)) = nI d1 from hd2, nI_clamp (by omega)]
      dsimp only
      rw [hd4]
      exact hd3⟩, ⟨rfl, rfl⟩, fun x hx => (k2 x hx).trans (k4 x hx).2.symm, ⟨rfl, rfl, rfl, fun i hi => WdK_eq k9 k12 hi (by omega)⟩, rfl, rfl, rfl, rfl, fun v hv => ⟨hmu v hv, (hvals v hv).1, (hvals v hv).2⟩⟩

