/-! ===== the calls that change the keys ===== -/
theorem pm_close {τ : Type} {N : Nat} {A : Option (Int32 × Int32 × (Nat → Int32) × (Nat → Int64))} {M : Option (Int32 × Int32 × Int32 × (Nat → Int32))} {J : Int32 → (Nat → Int32) → Int32 → Int32 → (Nat → Int32) → (Nat → Int64) → Option τ} {c v sz mn : Int32} {f ks : Nat → Int32} {arr : Nat → Int64}
    (hA : A = some (c, sz, f, arr)) (hM : M = some (v, mn, c, ks)) (h : c = 0 → arr 0 = Int32.toInt64 v) :
    (A.bind fun v1 => M.bind fun v2 => (F_X8_thrown N v2.2.2.1).bind fun v3 => if v3 = v1.1 then if v1.1 = 0 then (kk_rd 1 v1.2.2.2 0).bind fun v6 => if (lg_cmp v6 (Int32.toInt64 v2.1)) = 0 then J v1.2.1 v1.2.2.1 v2.2.1 v2.2.2.1 v2.2.2.2 v1.2.2.2 else none else J v1.2.1 v1.2.2.1 v2.2.1 v2.2.2.1 v2.2.2.2 v1.2.2.2 else none) = J sz f mn c ks arr := by
  rw [pu_bind hA, pu_bind hM]
  unfold F_X8_thrown
  rw [pu_bind (a := c) rfl]
  dsimp only
  rw [if_pos rfl]
  by_cases e : c = 0
  · rw [if_pos e, pu_bind pu_r0, h e, lg_refl, if_pos rfl]
  · rw [if_neg e]
theorem room_t {N n m : Nat} (h : n + m ≤ 120) : F_X7_requireRoomFor N (nI n) (nI m) = some (.inr ()) := by
  unfold F_X7_requireRoomFor
  rw [nI_add, if_pos (show nI (n + m) ≤ 120 from nI_le (b := 120) h (by decide))]
theorem room_f {N n m : Nat} (h : 120 < n + m) (h2 : n + m < 10000) : F_X7_requireRoomFor N (nI n) (nI m) = some (.inl 1) := by
  unfold F_X7_requireRoomFor
  rw [nI_add, if_neg (show ¬ nI (n + m) ≤ 120 from nI_ge (a := 120) h (by omega))]

theorem cs_add {N : Nat} {x_built : Int32} {x_sorted_size : Int32} {f_sorted_places : Nat → Int32} {x_fingerprintMask : Int32} {x_displacer_keyCount : Int32} {x_displacer_bucketCount : Int32} {x_displacer_seed : Int32} {f_displacer_ranksByBucket_begins : Nat → Int32} {f_displacer_displacements : Nat → Int32} {f_displacer_ranksByNumber : Nat → Int32} {x_packer_bitsEach : Int32} {x_packer_wordCount : Int32} {f_packer_words : Nat → Int64} {x_graph_keyCount : Int32} {x_graph_vertexCount : Int32} {x_graph_seed : Int32} {f_graph_values : Nat → Int32} {f_fingerprints : Nat → Int32} {q_x_many : Int32} {q_x_built : Int32} {q_x_seed : Int32} {q_x_graphSeed : Int32} {q_x_bits : Int32} {q_x_bucketMany : Int32} {q_x_width : Int32} {q_f_keys : Nat → Int32} {q_f_sizes : Nat → Int32} {q_f_shift : Nat → Int32} {q_f_owner : Nat → Int32} {q_f_prints : Nat → Int32} {q_f_words : Nat → Int64} {q_f_values : Nat → Int32} (hFu : 6000 ≤ N) (h : Rel x_built x_sorted_size f_sorted_places x_fingerprintMask x_displacer_keyCount x_displacer_bucketCount x_displacer_seed f_displacer_ranksByBucket_begins f_displacer_displacements f_displacer_ranksByNumber x_packer_bitsEach x_packer_wordCount f_packer_words x_graph_keyCount x_graph_vertexCount x_graph_seed f_graph_values f_fingerprints q_x_many q_x_built q_x_seed q_x_graphSeed q_x_bits q_x_bucketMany q_x_width q_f_keys q_f_sizes q_f_shift q_f_owner q_f_prints q_f_words q_f_values) (q_x_thrown : Int32) (r_f_arr : Nat → Int64) (p1 : Int32) : ∃ x, S_add N x_built x_sorted_size f_sorted_places q_x_many q_x_built q_x_thrown q_f_keys r_f_arr p1 = some x ∧ Rel x_built x.1 x.2.1 x_fingerprintMask x_displacer_keyCount x_displacer_bucketCount x_displacer_seed f_displacer_ranksByBucket_begins f_displacer_displacements f_displacer_ranksByNumber x_packer_bitsEach x_packer_wordCount f_packer_words x_graph_keyCount x_graph_vertexCount x_graph_seed f_graph_values f_fingerprints x.2.2.1 q_x_built q_x_seed q_x_graphSeed q_x_bits q_x_bucketMany q_x_width x.2.2.2.2.1 q_f_sizes q_f_shift q_f_owner q_f_prints q_f_words q_f_values := by
  have hR := h
  obtain ⟨κ, n, ⟨hk, rfl, rfl, hf, hq⟩, hb0, hb⟩ := h
  have hn := hk.1
  unfold S_add
  rcases pr_key (N := N) p1 with ⟨h3, h2⟩ | ⟨key, hkey, rfl, h3, h2⟩
  · have hP : F_X7_add N x_built (nI n) f_sorted_places p1 = some (.inl (0, nI n, f_sorted_places)) := by
      unfold F_X7_add
      exact (pu_bind h3).trans rfl
    have hA : F_L_add N x_built (nI n) f_sorted_places 1 r_f_arr p1 = some (1, nI n, f_sorted_places, r_f_arr) := by
      unfold F_L_add
      exact (pu_bind hP).trans rfl
    have hM : F_X8_add N (nI n) q_x_built q_x_thrown q_f_keys p1 = some (0, nI n, 1, q_f_keys) := by
      unfold F_X8_add F_X8_fails
      rw [pu_bind h2, if_pos rfl]
      rfl
    exact ⟨_, pm_close (J := J_LC_add_197 N) (c := 1) hA hM (fun e => absurd e (by decide)), hR⟩
  rcases hb with ⟨rfl, rfl⟩ | ⟨rfl, rfl, hB⟩
  case inr =>
    have hP : F_X7_add N 1 (nI n) f_sorted_places (nI key) = some (.inl (1, nI n, f_sorted_places)) := by
      unfold F_X7_add
      rw [pu_bind h3, Sum.elim_inr]
      exact (pu_bind op_1).trans rfl
    have hA : F_L_add N 1 (nI n) f_sorted_places 1 r_f_arr (nI key) = some (2, nI n, f_sorted_places, r_f_arr) := by
      unfold F_L_add
      exact (pu_bind hP).trans rfl
    have hM : F_X8_add N (nI n) 1 q_x_thrown q_f_keys (nI key) = some (0, nI n, 2, q_f_keys) := by
      unfold F_X8_add J_X8_add_45 F_X8_fails
      rw [pu_bind h2, if_neg (by decide), if_neg (by decide)]
      rfl
    exact ⟨_, pm_close (J := J_LC_add_197 N) (c := 2) hA hM (fun e => absurd e (by decide)), hR⟩
  have q1 := pu_holds (N := N) (by omega) hk hf hkey
  have q2 := pu_is (N := N) (by omega) hk hq hkey
  by_cases e : InK κ n key
  · have hP : F_X7_add N 0 (nI n) f_sorted_places (nI key) = some (.inl (1, nI n, f_sorted_places)) := by
      unfold F_X7_add
      rw [pu_bind h3, Sum.elim_inr, pu_bind op_0, Sum.elim_inr, pu_bind (q1.1 e), if_neg (by decide)]
    have hA : F_L_add N 0 (nI n) f_sorted_places 1 r_f_arr (nI key) = some (2, nI n, f_sorted_places, r_f_arr) := by
      unfold F_L_add
      exact (pu_bind hP).trans rfl
    have hM : F_X8_add N (nI n) 0 q_x_thrown q_f_keys (nI key) = some (0, nI n, 2, q_f_keys) := by
      unfold F_X8_add J_X8_add_45 F_X8_fails
      rw [pu_bind h2, if_neg (by decide), if_pos rfl]
      by_cases e9 : nI n = 120
      · rw [if_pos e9]; rfl
      · rw [if_neg e9, pu_bind (q2.1 e), if_neg (show ¬ (1 : Int32) = 0 by decide)]; rfl
    exact ⟨_, pm_close (J := J_LC_add_197 N) (c := 2) hA hM (fun e => absurd e (by decide)), hR⟩
  rcases Nat.lt_or_ge n 120 with hlt | hge
  · obtain ⟨r, _, hr⟩ := pu_rankOf (N := N) (by omega) hk hf hkey
    obtain ⟨g1, i1, i2⟩ := pu_insert (N := N) (by omega) hk hf hkey hlt hr
    obtain ⟨g2, i3, i4⟩ := pu_put (N := N) (by omega) hk hq hkey hlt hr
    have hP : F_X7_add N 0 (nI n) f_sorted_places (nI key) = some (.inr (nI (n + 1), nI (n + 1), g1)) := by
      unfold F_X7_add
      rw [pu_bind h3, Sum.elim_inr, pu_bind op_0, Sum.elim_inr, pu_bind (q1.2 e), if_pos rfl, pu_bind (show F_X7_requireRoomFor N (nI n) 1 = some (.inr ()) from room_t (m := 1) (by omega)), Sum.elim_inr, pu_bind i1]
    have hA : F_L_add N 0 (nI n) f_sorted_places 1 r_f_arr (nI key) = some (0, nI (n + 1), g1, vp_updL r_f_arr 0 (Int32.toInt64 (nI (n + 1)))) := by
      unfold F_L_add
      rw [pu_bind hP, Sum.elim_inr, pu_bind pu_w0]
    have hM : F_X8_add N (nI n) 0 q_x_thrown q_f_keys (nI key) = some (nI (n + 1), nI (n + 1), 0, g2) := by
      unfold F_X8_add
      rw [pu_bind h2, if_neg (by decide), if_pos rfl, if_neg (show ¬ nI n = 120 from fun e9 => by
        have := (nI_eq (b := 120) (by omega) (by decide)).mp e9
        omega), pu_bind (q2.2 e), if_pos rfl, pu_bind i3]
    exact ⟨_, pm_close (J := J_LC_add_197 N) (c := 0) hA hM (fun _ => pk_uLs), _, _, ⟨InsK_ok hk hkey hr e hlt, rfl, rfl, i2, i4⟩, hb0, Or.inl ⟨rfl, rfl⟩⟩
  · have hn120 : n = 120 := by omega
    have hP : F_X7_add N 0 (nI n) f_sorted_places (nI key) = some (.inl (1, nI n, f_sorted_places)) := by
      unfold F_X7_add
      rw [pu_bind h3, Sum.elim_inr, pu_bind op_0, Sum.elim_inr, pu_bind (q1.2 e), if_pos rfl, pu_bind (show F_X7_requireRoomFor N (nI n) 1 = some (.inl 1) from room_f (m := 1) (by omega) (by omega))]
      rfl
    have hA : F_L_add N 0 (nI n) f_sorted_places 1 r_f_arr (nI key) = some (2, nI n, f_sorted_places, r_f_arr) := by
      unfold F_L_add
      exact (pu_bind hP).trans rfl
    have hM : F_X8_add N (nI n) 0 q_x_thrown q_f_keys (nI key) = some (0, nI n, 2, q_f_keys) := by
      unfold F_X8_add J_X8_add_45 F_X8_fails
      rw [pu_bind h2, if_neg (by decide), if_pos rfl, if_pos (show nI n = 120 by rw [hn120]; rfl)]
      rfl
    exact ⟨_, pm_close (J := J_LC_add_197 N) (c := 2) hA hM (fun e => absurd e (by decide)), hR⟩

theorem pu_delete {N n key r : Nat} {κ : Nat → Nat} {f : Nat → Int32} (hFu : 1000 ≤ N) (hk : KeyOk κ n) (hf : HoldK f κ n) (hkey : key < 100000) (hr : IsRk κ n key r) (hrn : r < n) :
    ∃ g, F_X4_delete N (nI n) f (nI key) = some (nI (n - 1), g) ∧ HoldK g (DelK κ r) (n - 1) := by
  have hn := hk.1
  obtain ⟨r', h1, h2⟩ := pu_rankOf (N := N) (by omega) hk hf hkey
  cases IsRk_uniq hr h2
  unfold F_X4_delete J_X4_delete_40
  rw [pu_bind h1, nI_1]
  obtain ⟨g, h3, h4⟩ := pu_up (f := fun (σ : ((Nat → Int32) × Int32)) => L_X4_delete_8 N (nI n) σ.1 σ.2)
    (fun t σ => σ.2 = nI (r + 1 + t) ∧ ∀ i, i < n → σ.1 i = nI (if i < r + t then DelK κ r i else κ i)) (fun g => ∀ i, i < n - 1 → g i = nI (DelK κ r i)) (n - (r + 1))
    (fun t σ ht hσ => by
      obtain ⟨g, j⟩ := σ
      obtain ⟨h3, h4⟩ := hσ
      dsimp only at h3 h4 ⊢
      subst h3
      have e9 : nI (r + 1 + t) - 1 = nI (r + t) := by rw [show r + 1 + t = r + t + 1 by omega, nI_pred]
      unfold L_X4_delete_8
      rw [if_neg (nI_ge (by omega) (by omega)), pu_bind (pu_get (by omega) (by omega)), e9, pu_bind (pu_set (by omega) (by omega)), nI_1]
      refine Or.inl ⟨_, rfl, rfl, fun i hi => ?_⟩
      dsimp only
      by_cases e : i = r + t
      · rw [e, pu_us, h4 _ (by omega), if_neg (by omega), if_pos (by omega)]
        unfold DelK
        rw [if_neg (by omega)]
        congr 2
        omega
      · rw [pu_un e, h4 i hi]
        by_cases e2 : i < r + t
        · rw [if_pos e2, if_pos (by omega)]
        · rw [if_neg e2, if_neg (by omega)])
    (fun σ hσ => by
      obtain ⟨g, j⟩ := σ
      obtain ⟨h3, h4⟩ := hσ
      dsimp only at h3 h4 ⊢
      subst h3
      unfold L_X4_delete_8
      rw [if_pos (nI_le (by omega) (by omega))]
      refine ⟨_, rfl, fun i hi => ?_⟩
      rw [h4 i (by omega), if_pos (by omega)])
    N 0 (f, nI (r + 1)) (Nat.zero_le _) (by omega) ⟨rfl, fun i hi => by
      dsimp only
      rw [hf i hi]
      by_cases e : i < r + 0
      · rw [if_pos e]
        unfold DelK
        rw [if_pos (by omega)]
      · rw [if_neg e]⟩
  rw [pu_bind h3]
  have e9 : nI n - 1 = nI (n - 1) := pk_sub (b := 1) (by omega)
  rw [e9]
  exact ⟨g, rfl, h4⟩
theorem pu_mdelete {N n r : Nat} {κ : Nat → Nat} {f : Nat → Int32} (hFu : 1000 ≤ N) (hk : KeyOk κ n) (hf : HoldK f κ n) (hrn : r < n) :
    ∃ g, kk_iter (fun (σ : ((Nat → Int32) × Int32)) => L_X8_remove_58 N (nI (n - 1)) σ.1 σ.2) N (f, nI r) = some g ∧ HoldK g (DelK κ r) (n - 1) := by
  have hn := hk.1
  exact pu_up (f := fun (σ : ((Nat → Int32) × Int32)) => L_X8_remove_58 N (nI (n - 1)) σ.1 σ.2)
    (fun t σ => σ.2 = nI (r + t) ∧ ∀ i, i < n → σ.1 i = nI (if i < r + t then DelK κ r i else κ i)) (fun g => ∀ i, i < n - 1 → g i = nI (DelK κ r i)) (n - 1 - r)
    (fun t σ ht hσ => by
      obtain ⟨g, j⟩ := σ
      obtain ⟨h3, h4⟩ := hσ
      dsimp only at h3 h4 ⊢
      subst h3
      unfold L_X8_remove_58
      rw [if_neg (nI_ge (by omega) (by omega)), nI_1, pu_bind (pu_rd (by omega) (by omega)), pu_bind (pu_wr (by omega) (by omega))]
      refine Or.inl ⟨_, rfl, rfl, fun i hi => ?_⟩
      dsimp only
      by_cases e : i = r + t
      · rw [e, pu_us, h4 _ (by omega), if_neg (by omega), if_pos (by omega)]
        unfold DelK
        rw [if_neg (by omega)]
      · rw [pu_un e, h4 i hi]
        by_cases e2 : i < r + t
        · rw [if_pos e2, if_pos (by omega)]
        · rw [if_neg e2, if_neg (by omega)])
    (fun σ hσ => by
      obtain ⟨g, j⟩ := σ
      obtain ⟨h3, h4⟩ := hσ
      dsimp only at h3 h4 ⊢
      subst h3
      unfold L_X8_remove_58
      rw [if_pos (nI_le (by omega) (by omega))]
      refine ⟨_, rfl, fun i hi => ?_⟩
      rw [h4 i (by omega), if_pos (by omega)])
    N 0 (f, nI r) (Nat.zero_le _) (by omega) ⟨rfl, fun i hi => by
      dsimp only
      rw [hf i hi]
      by_cases e : i < r + 0
      · rw [if_pos e]
        unfold DelK
        rw [if_pos (by omega)]
      · rw [if_neg e]⟩

theorem cs_remove {N : Nat} {x_built : Int32} {x_sorted_size : Int32} {f_sorted_places : Nat → Int32} {x_fingerprintMask : Int32} {x_displacer_keyCount : Int32} {x_displacer_bucketCount : Int32} {x_displacer_seed : Int32} {f_displacer_ranksByBucket_begins : Nat → Int32} {f_displacer_displacements : Nat → Int32} {f_displacer_ranksByNumber : Nat → Int32} {x_packer_bitsEach : Int32} {x_packer_wordCount : Int32} {f_packer_words : Nat → Int64} {x_graph_keyCount : Int32} {x_graph_vertexCount : Int32} {x_graph_seed : Int32} {f_graph_values : Nat → Int32} {f_fingerprints : Nat → Int32} {q_x_many : Int32} {q_x_built : Int32} {q_x_seed : Int32} {q_x_graphSeed : Int32} {q_x_bits : Int32} {q_x_bucketMany : Int32} {q_x_width : Int32} {q_f_keys : Nat → Int32} {q_f_sizes : Nat → Int32} {q_f_shift : Nat → Int32} {q_f_owner : Nat → Int32} {q_f_prints : Nat → Int32} {q_f_words : Nat → Int64} {q_f_values : Nat → Int32} (hFu : 6000 ≤ N) (h : Rel x_built x_sorted_size f_sorted_places x_fingerprintMask x_displacer_keyCount x_displacer_bucketCount x_displacer_seed f_displacer_ranksByBucket_begins f_displacer_displacements f_displacer_ranksByNumber x_packer_bitsEach x_packer_wordCount f_packer_words x_graph_keyCount x_graph_vertexCount x_graph_seed f_graph_values f_fingerprints q_x_many q_x_built q_x_seed q_x_graphSeed q_x_bits q_x_bucketMany q_x_width q_f_keys q_f_sizes q_f_shift q_f_owner q_f_prints q_f_words q_f_values) (q_x_thrown : Int32) (r_f_arr : Nat → Int64) (p1 : Int32) : ∃ x, S_remove N x_built x_sorted_size f_sorted_places q_x_many q_x_built q_x_thrown q_f_keys r_f_arr p1 = some x ∧ Rel x_built x.1 x.2.1 x_fingerprintMask x_displacer_keyCount x_displacer_bucketCount x_displacer_seed f_displacer_ranksByBucket_begins f_displacer_displacements f_displacer_ranksByNumber x_packer_bitsEach x_packer_wordCount f_packer_words x_graph_keyCount x_graph_vertexCount x_graph_seed f_graph_values f_fingerprints x.2.2.1 q_x_built q_x_seed q_x_graphSeed q_x_bits q_x_bucketMany q_x_width x.2.2.2.2.1 q_f_sizes q_f_shift q_f_owner q_f_prints q_f_words q_f_values := by
  have hR := h
  obtain ⟨κ, n, ⟨hk, rfl, rfl, hf, hq⟩, hb0, hb⟩ := h
  have hn := hk.1
  unfold S_remove
  rcases pr_key (N := N) p1 with ⟨h3, h2⟩ | ⟨key, hkey, rfl, h3, h2⟩
  · have hP : F_X7_remove N x_built (nI n) f_sorted_places p1 = some (.inl (0, nI n, f_sorted_places)) := by
      unfold F_X7_remove
      exact (pu_bind h3).trans rfl
    have hA : F_L_remove N x_built (nI n) f_sorted_places 1 r_f_arr p1 = some (1, nI n, f_sorted_places, r_f_arr) := by
      unfold F_L_remove
      exact (pu_bind hP).trans rfl
    have hM : F_X8_remove N (nI n) q_x_built q_x_thrown q_f_keys p1 = some (0, nI n, 1, q_f_keys) := by
      unfold F_X8_remove F_X8_fails
      rw [pu_bind h2, if_pos rfl]
      rfl
    exact ⟨_, pm_close (J := J_LC_remove_333 N) (c := 1) hA hM (fun e => absurd e (by decide)), hR⟩
  rcases hb with ⟨rfl, rfl⟩ | ⟨rfl, rfl, hB⟩
  case inr =>
    have hP : F_X7_remove N 1 (nI n) f_sorted_places (nI key) = some (.inl (1, nI n, f_sorted_places)) := by
      unfold F_X7_remove
      rw [pu_bind h3, Sum.elim_inr]
      exact (pu_bind op_1).trans rfl
    have hA : F_L_remove N 1 (nI n) f_sorted_places 1 r_f_arr (nI key) = some (2, nI n, f_sorted_places, r_f_arr) := by
      unfold F_L_remove
      exact (pu_bind hP).trans rfl
    have hM : F_X8_remove N (nI n) 1 q_x_thrown q_f_keys (nI key) = some (0, nI n, 2, q_f_keys) := by
      unfold F_X8_remove J_X8_remove_36 F_X8_fails
      rw [pu_bind h2, if_neg (by decide), if_neg (by decide)]
      rfl
    exact ⟨_, pm_close (J := J_LC_remove_333 N) (c := 2) hA hM (fun e => absurd e (by decide)), hR⟩
  have q1 := pu_holds (N := N) (by omega) hk hf hkey
  have q2 := pu_is (N := N) (by omega) hk hq hkey
  by_cases e : InK κ n key
  · obtain ⟨r, _, hr⟩ := pu_rankOf (N := N) (by omega) hk hf hkey
    have hrk := (InK_rk hk.2.1 hr).mp e
    obtain ⟨g1, i1, i2⟩ := pu_delete (N := N) (by omega) hk hf hkey hr hrk.1
    obtain ⟨g2, i3, i4⟩ := pu_mdelete (N := N) (by omega) hk hq hrk.1
    have hk9 : KeyOk κ (n - 1) := ⟨by omega, fun i j hij hj => hk.2.1 i j hij (by omega), fun i hi => hk.2.2 i (by omega)⟩
    obtain ⟨r2, i5, i6⟩ := pu_below (N := N) (n := n - 1) (by omega) hk9 (fun i hi => hq i (by omega)) hkey
    have hr2 : r2 = r := IsRk_uniq i6 ⟨by omega, hr.2.1, fun i h7 h8 => hr.2.2 i h7 (by omega)⟩
    have e9 : nI n - 1 = nI (n - 1) := pk_sub (b := 1) (by omega)
    have hP : F_X7_remove N 0 (nI n) f_sorted_places (nI key) = some (.inr (nI (n - 1), nI (n - 1), g1)) := by
      unfold F_X7_remove
      rw [pu_bind h3, Sum.elim_inr, pu_bind op_0, Sum.elim_inr, pu_bind (q1.1 e), if_neg (by decide), pu_bind i1]
    have hA : F_L_remove N 0 (nI n) f_sorted_places 1 r_f_arr (nI key) = some (0, nI (n - 1), g1, vp_updL r_f_arr 0 (Int32.toInt64 (nI (n - 1)))) := by
      unfold F_L_remove
      rw [pu_bind hP, Sum.elim_inr, pu_bind pu_w0]
    have hM : F_X8_remove N (nI n) 0 q_x_thrown q_f_keys (nI key) = some (nI (n - 1), nI (n - 1), 0, g2) := by
      unfold F_X8_remove J_X8_remove_86
      rw [pu_bind h2, if_neg (by decide), if_pos rfl, pu_bind (q2.1 e), if_neg (by decide), e9, pu_bind i5, hr2, pu_bind i3]
    exact ⟨_, pm_close (J := J_LC_remove_333 N) (c := 0) hA hM (fun _ => pk_uLs), _, _, ⟨DelK_ok hk hrk.1, rfl, rfl, i2, i4⟩, hb0, Or.inl ⟨rfl, rfl⟩⟩
  · have hP : F_X7_remove N 0 (nI n) f_sorted_places (nI key) = some (.inl (1, nI n, f_sorted_places)) := by
      unfold F_X7_remove
      rw [pu_bind h3, Sum.elim_inr, pu_bind op_0, Sum.elim_inr, pu_bind (q1.2 e), if_pos rfl]
    have hA : F_L_remove N 0 (nI n) f_sorted_places 1 r_f_arr (nI key) = some (2, nI n, f_sorted_places, r_f_arr) := by
      unfold F_L_remove
      exact (pu_bind hP).trans rfl
    have hM : F_X8_remove N (nI n) 0 q_x_thrown q_f_keys (nI key) = some (0, nI n, 2, q_f_keys) := by
      unfold F_X8_remove J_X8_remove_36 F_X8_fails
      rw [pu_bind h2, if_neg (by decide), if_pos rfl, pu_bind (q2.2 e), if_pos rfl]
      rfl
    exact ⟨_, pm_close (J := J_LC_remove_333 N) (c := 2) hA hM (fun e => absurd e (by decide)), hR⟩

theorem cs_reopen {N : Nat} {x_built : Int32} {x_sorted_size : Int32} {f_sorted_places : Nat → Int32} {x_fingerprintMask : Int32} {x_displacer_keyCount : Int32} {x_displacer_bucketCount : Int32} {x_displacer_seed : Int32} {f_displacer_ranksByBucket_begins : Nat → Int32} {f_displacer_displacements : Nat → Int32} {f_displacer_ranksByNumber : Nat → Int32} {x_packer_bitsEach : Int32} {x_packer_wordCount : Int32} {f_packer_words : Nat → Int64} {x_graph_keyCount : Int32} {x_graph_vertexCount : Int32} {x_graph_seed : Int32} {f_graph_values : Nat → Int32} {f_fingerprints : Nat → Int32} {q_x_many : Int32} {q_x_built : Int32} {q_x_seed : Int32} {q_x_graphSeed : Int32} {q_x_bits : Int32} {q_x_bucketMany : Int32} {q_x_width : Int32} {q_f_keys : Nat → Int32} {q_f_sizes : Nat → Int32} {q_f_shift : Nat → Int32} {q_f_owner : Nat → Int32} {q_f_prints : Nat → Int32} {q_f_words : Nat → Int64} {q_f_values : Nat → Int32} (hFu : 6000 ≤ N) (h : Rel x_built x_sorted_size f_sorted_places x_fingerprintMask x_displacer_keyCount x_displacer_bucketCount x_displacer_seed f_displacer_ranksByBucket_begins f_displacer_displacements f_displacer_ranksByNumber x_packer_bitsEach x_packer_wordCount f_packer_words x_graph_keyCount x_graph_vertexCount x_graph_seed f_graph_values f_fingerprints q_x_many q_x_built q_x_seed q_x_graphSeed q_x_bits q_x_bucketMany q_x_width q_f_keys q_f_sizes q_f_shift q_f_owner q_f_prints q_f_words q_f_values) (q_x_thrown : Int32) : ∃ x, S_reopen N x_built q_x_built q_x_thrown = some x ∧ Rel x.1 x_sorted_size f_sorted_places x_fingerprintMask x_displacer_keyCount x_displacer_bucketCount x_displacer_seed f_displacer_ranksByBucket_begins f_displacer_displacements f_displacer_ranksByNumber x_packer_bitsEach x_packer_wordCount f_packer_words x_graph_keyCount x_graph_vertexCount x_graph_seed f_graph_values f_fingerprints q_x_many x.2.1 q_x_seed q_x_graphSeed q_x_bits q_x_bucketMany q_x_width q_f_keys q_f_sizes q_f_shift q_f_owner q_f_prints q_f_words q_f_values := by
  have hR := h
  obtain ⟨κ, n, hK, hb0, hb⟩ := h
  unfold S_reopen F_L_reopen F_X7_reopen F_X8_reopen
  rcases hb with ⟨rfl, rfl⟩ | ⟨rfl, rfl, hB⟩
  · exact ⟨_, rfl, hR⟩
  · exact ⟨_, rfl, κ, n, hK, hb0, Or.inl ⟨rfl, rfl⟩⟩

