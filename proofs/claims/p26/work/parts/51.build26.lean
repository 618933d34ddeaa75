/-! ===== build, and what stands behind it ===== -/
theorem m_mask {nb : Nat} (h : nb < 13) : ((1 : Int32) <<< (nI nb &&& 31)) = nI (2 ^ nb) := (by decide +kernel : ∀ nb, nb < 13 → ((1 : Int32) <<< (nI nb &&& 31)) = nI (2 ^ nb)) nb h
theorem m_maskp {nb : Nat} (h : nb < 13) : ((1 : Int32) <<< (nI nb &&& 31)) - 1 = nI (2 ^ nb - 1) := (by decide +kernel : ∀ nb, nb < 13 → ((1 : Int32) <<< (nI nb &&& 31)) - 1 = nI (2 ^ nb - 1)) nb h
theorem m_2p {nb : Nat} (h : nb < 13) : 2 ^ nb ≤ 4096 := Nat.pow_le_pow_right (show 0 < 2 by decide) (show nb ≤ 12 by omega)
theorem nI_pl {m : Nat} (hm : m < 2 ^ 31) : nI m - 1 < nI m := by
  rcases Nat.eq_zero_or_pos m with e | e
  · rw [e]; decide
  · obtain ⟨k, rfl⟩ : ∃ k, m = k + 1 := ⟨m - 1, by omega⟩
    rw [nI_pred]; exact nI_lt (by omega) hm
theorem pu_fpof {N nb key s : Nat} (hb : nb < 13) (hk : key < 100000) (hs : s < 200) : F_X7_fingerprintOf N (nI (2 ^ nb - 1)) (nI s) (nI key) = some (nI (hN 3 key s % 2 ^ nb)) := by
  unfold F_X7_fingerprintOf
  have h1 := hN_lt 3 key s
  have h2 := m_2p hb
  rw [pu_bind (pu_of hk hs), pk_andN (by omega) nb (pk_tn (by omega))]
theorem pu_onto {n : Nat} {ρ : Nat → Int32} (hn : n ≤ 120) (h : ∀ r, r < n → ∃ x, x < n ∧ ρ x = nI r) : ∀ x, x < n → ρ x ≠ -1 := by
  intro x0 hx0 e0
  have hg : ∀ m, m ≤ n → m ≤ cc (fun x => decide (ρ x ≠ -1 ∧ (ρ x).toNatClampNeg < m)) n := by
    intro m
    induction m with
    | zero => intro _; exact Nat.zero_le _
    | succ m ih =>
      intro hm
      have h1 := ih (by omega)
      obtain ⟨x, hx, hx2⟩ := h m (by omega)
      have h2 : cc (fun x => decide (ρ x ≠ -1 ∧ (ρ x).toNatClampNeg < m)) n < cc (fun x => decide (ρ x ≠ -1 ∧ (ρ x).toNatClampNeg < m + 1)) n := by
        refine cc_drop (b := x) (fun i _ hi => ?_) hx ?_ ?_
        · have := of_decide_eq_true hi
          exact decide_eq_true ⟨this.1, by omega⟩
        · exact decide_eq_true ⟨by rw [hx2]; exact nI_m1 (by omega), by rw [hx2, nI_clamp (by omega)]; omega⟩
        · intro q
          have := (of_decide_eq_true q).2
          rw [hx2, nI_clamp (by omega)] at this
          omega
      omega
  have h3 := hg n (Nat.le_refl n)
  have h4 : cc (fun x => decide (ρ x ≠ -1 ∧ (ρ x).toNatClampNeg < n)) n < cc (fun _ => true) n := cc_drop (b := x0) (fun _ _ _ => rfl) hx0 rfl (fun q => (of_decide_eq_true q).1 e0)
  have h5 : cc (fun _ => true) n ≤ n := cc_le _ n
  omega
theorem pu_keepF {N n s nb : Nat} {κ R : Nat → Nat} {f ρ : Nat → Int32} (hFu : 1000 ≤ N) (hk : KeyOk κ n) (hf : HoldK f κ n) (hs : s < 40) (hnb : nb ≤ 12) (hR : ∀ x, x < n → R x < n ∧ ρ x = nI (R x)) (x1 : Int32) (p0 : Nat → Int32) :
    ∃ p', F_X7_keepFingerprints N x1 (nI n) f (nI s) ρ p0 (nI nb) = some (nI (2 ^ nb - 1), p') ∧ ∀ x, x < n → p' x = nI (hN 3 (κ (R x)) s % 2 ^ nb) := by
  have hn := hk.1
  unfold F_X7_keepFingerprints J_X7_keepFingerprints_45
  rw [m_maskp (by omega)]
  obtain ⟨p', h2, h3⟩ := pu_up (f := fun (σ : ((Nat → Int32) × Int32)) => L_X7_keepFingerprints_11 N (nI (2 ^ nb - 1)) (nI n) f (nI s) ρ σ.1 σ.2)
    (fun i σ => σ.2 = nI i ∧ ∀ x, x < i → σ.1 x = nI (hN 3 (κ (R x)) s % 2 ^ nb)) (fun r => ∀ x, x < n → r x = nI (hN 3 (κ (R x)) s % 2 ^ nb)) n
    (fun i σ hi hσ => by
      obtain ⟨g, c⟩ := σ
      obtain ⟨h3, h4⟩ := hσ
      dsimp only at h3 h4 ⊢
      subst h3
      obtain ⟨hr1, hr2⟩ := hR i hi
      unfold L_X7_keepFingerprints_11 F_X7_keyWithNumber
      rw [if_neg (nI_ge hi (by omega)), pu_bind (by rw [pu_bind (pu_get (by omega) (by decide)), hr2, pu_bind (pu_at (by omega)), hf _ hr1]), pu_bind (pu_fpof (by omega) (hk.2.2 _ hr1) (by omega)), pu_bind (pu_set (by omega) (by decide)), nI_1]
      refine Or.inl ⟨_, rfl, rfl, fun x hx => ?_⟩
      dsimp only
      by_cases e : x = i
      · rw [e, pu_us]
      · rw [pu_un e]; exact h4 x (by omega))
    (fun σ hσ => by
      obtain ⟨g, c⟩ := σ
      obtain ⟨h3, h4⟩ := hσ
      dsimp only at h3 h4 ⊢
      subst h3
      unfold L_X7_keepFingerprints_11
      rw [if_pos (nI_le (Nat.le_refl _) (by omega))]
      exact ⟨_, rfl, h4⟩)
    N 0 (p0, 0) (Nat.zero_le _) (by omega) ⟨nI_0.symm, fun x hx => absurd hx (Nat.not_lt_zero x)⟩
  rw [pu_bind h2]
  exact ⟨p', rfl, h3⟩
def Blt (κ : Nat → Nat) (n B s g nb W : Nat) (d mu : Nat → Nat) (fb dsp ρ : Nat → Int32) (ws : Nat → Int64) (gV fp : Nat → Int32) : Prop :=
  (1 ≤ n ∧ n ≤ 20 ∧ 0 < B ∧ B ≤ 120 ∧ s < 40 ∧ g < 200 ∧ 1 ≤ nb ∧ nb ≤ 12) ∧
  (∀ b, b < B → d b < n ∧ dsp b = nI (d b) ∧ (cN κ n B s b = 0 → d b = 0)) ∧
  (∀ b, b ≤ B → fb b = nI (cL (grN κ B s) b n)) ∧
  (∀ r, r < n → ρ (atN n s (d (bkN B s (κ r))) (κ r)) = nI r) ∧
  (∀ r, r < n → fp (atN n s (d (bkN B s (κ r))) (κ r)) = nI (hN 3 (κ r) s % 2 ^ nb)) ∧
  (IsW (mdN d B) W ∧ WdK d W (B * W) 17 ws) ∧
  (∀ v, v < 3 * n → mu v < n ∧ gV v = nI (mu v)) ∧ ∀ k, k < n → (mu (eN κ n g (2 * k)) + mu (eN κ n g (2 * k + 1))) % n = k
theorem op_0 {N : Nat} : F_X7_requireOpen N 0 = some () := by unfold F_X7_requireOpen; rw [if_pos rfl]
theorem bu_1 {N : Nat} : F_X7_requireBuilt N 1 = some () := by unfold F_X7_requireBuilt; rw [if_neg (by decide)]
theorem ky_1 {N k : Nat} (h : k < 100000) : F_X7_requireKey N (nI k) = some () := by
  unfold F_X7_requireKey
  rw [if_neg (nI_pos (by omega)), if_pos (show nI k ≤ 99999 from nI_le (b := 99999) (by omega) (by decide))]
theorem bl_1 {N k m : Nat} (h : k < m) (hm : m < 100000) : F_X7_requireBelow N (nI k) (nI m) = some () := by
  unfold F_X7_requireBelow
  rw [if_neg (nI_pos (by omega)), if_pos (nI_lt h (by omega))]
theorem pl_build {N n Lo nb : Nat} {κ : Nat → Nat} {f f2 m1 m2 m3 m4 : Nat → Int32} {v w : Int32} (hFu : 6000 ≤ N) (hk : KeyOk κ n) (hf : HoldK f κ n) (hf2 : HoldK f2 κ n) (h1 : 1 ≤ n) (hn : n ≤ 20) (hL1 : 1 ≤ Lo) (hL : Lo ≤ 6) (hnb1 : 1 ≤ nb) (hnb : nb ≤ 12)
    (hdi : F_L_displaced N 32 f2 32 m1 (nI n) (nI ((n + Lo - 1) / Lo)) = some (v, m2)) (hv : v ≠ 0) (hjo : F_L_joined N 32 f2 64 m3 (nI n) = some (w, m4)) (hw : w ≠ 0) (x_fingerprintMask : Int32) (x_displacer_keyCount : Int32) (x_displacer_bucketCount : Int32) (x_displacer_seed : Int32) (x_displacer_ranksByBucket_thingCount : Int32) (x_displacer_ranksByBucket_groupCount : Int32) (f_displacer_ranksByBucket_groups : Nat → Int32) (f_displacer_ranksByBucket_begins : Nat → Int32) (f_displacer_ranksByBucket_members : Nat → Int32) (f_displacer_starts : Nat → Int32) (f_displacer_steps : Nat → Int32) (f_displacer_numbers : Nat → Int32) (f_displacer_displacements : Nat → Int32) (f_displacer_ranksByNumber : Nat → Int32) (x_packer_bitsEach : Int32) (x_packer_wordCount : Int32) (f_packer_words : Nat → Int64) (x_graph_reachedCount : Int32) (x_graph_keyCount : Int32) (x_graph_vertexCount : Int32) (x_graph_seed : Int32) (x_graph_ends_thingCount : Int32) (x_graph_ends_groupCount : Int32) (f_graph_ends_groups : Nat → Int32) (f_graph_ends_begins : Nat → Int32) (f_graph_ends_members : Nat → Int32) (f_graph_walked : Nat → Int32) (f_graph_values : Nat → Int32) (f_graph_reached : Nat → Int32) (f_fingerprints : Nat → Int32) :
    ∃ B s g W d mu tC gC fg fb fm fs ft fn dsp ρ ws rc gtC ggC gfg gfb gfm gw gV gR fp, F_X7_build N x_fingerprintMask 0 (nI n) f x_displacer_keyCount x_displacer_bucketCount x_displacer_seed x_displacer_ranksByBucket_thingCount x_displacer_ranksByBucket_groupCount f_displacer_ranksByBucket_groups f_displacer_ranksByBucket_begins f_displacer_ranksByBucket_members f_displacer_starts f_displacer_steps f_displacer_numbers f_displacer_displacements f_displacer_ranksByNumber x_packer_bitsEach x_packer_wordCount f_packer_words x_graph_reachedCount x_graph_keyCount x_graph_vertexCount x_graph_seed x_graph_ends_thingCount x_graph_ends_groupCount f_graph_ends_groups f_graph_ends_begins f_graph_ends_members f_graph_walked f_graph_values f_graph_reached f_fingerprints (nI Lo) (nI nb) = some (nI s, nI (2 ^ nb - 1), 1, nI n, nI B, nI s, tC, gC, fg, fb, fm, fs, ft, fn, dsp, ρ, nI W, nI ((B * W + 63) / 64), ws, rc, nI n, nI (3 * n), nI g, gtC, ggC, gfg, gfb, gfm, gw, gV, gR, fp) ∧ Blt κ n B s g nb W d mu fb dsp ρ ws gV fp := by
  have hBd : 0 < (n + Lo - 1) / Lo := Nat.div_pos (by omega) (by omega)
  have hBl : (n + Lo - 1) / Lo ≤ 120 := by
    have h9 : (n + Lo - 1) / Lo ≤ n := by
      rw [Nat.div_le_iff_le_mul_add_pred (by omega)]
      have h8 : n * 1 ≤ n * Lo := Nat.mul_le_mul_left n hL1
      have e : Lo * n = n * Lo := Nat.mul_comm Lo n
      omega
    omega
  generalize hBg : (n + Lo - 1) / Lo = B at hBd hBl hdi
  obtain ⟨fl, sd, tC, gC, fg, fb, fm, fs, ft, fn, dsp, ρ, mm, e1, e2, e3⟩ := pl_settle2 (N := N) (B := B) (L := Lo) (by omega) hk hf hf2 h1 hn hL1 hBg.symm hBd hBl hL x_displacer_keyCount x_displacer_bucketCount x_displacer_seed x_displacer_ranksByBucket_thingCount x_displacer_ranksByBucket_groupCount f_displacer_ranksByBucket_groups f_displacer_ranksByBucket_begins f_displacer_ranksByBucket_members f_displacer_starts f_displacer_steps f_displacer_numbers f_displacer_displacements f_displacer_ranksByNumber m1
  rw [e2] at hdi
  cases hdi
  obtain ⟨rfl, s, hs, rfl, hHd, hRR, hDE, hPl⟩ := e3.resolve_left hv
  obtain ⟨gfl, rc, gsd, gtC, ggC, gfg, gfb, gfm, gw, gV, gR, m9, c1, c2, c3⟩ := pl_gsettle2 (N := N) (by omega) hk hf hf2 h1 hn x_graph_reachedCount x_graph_keyCount x_graph_vertexCount x_graph_seed x_graph_ends_thingCount x_graph_ends_groupCount f_graph_ends_groups f_graph_ends_begins f_graph_ends_members f_graph_walked f_graph_values f_graph_reached m3
  rw [c2] at hjo
  cases hjo
  obtain ⟨rfl, g, hg, rfl, mu, hmu, hsum⟩ := c3.resolve_left hw
  have hon := pu_onto (ρ := ρ) (n := n) (by omega) (fun r hr => by obtain ⟨d1, _, _, hd3⟩ := hPl r hr; exact ⟨_, atN_lt h1, hd3⟩)
  have hRx : ∀ x, x < n → (ρ x).toNatClampNeg < n ∧ ρ x = nI (ρ x).toNatClampNeg := fun x hx => by
    rcases hRR x hx with q1 | ⟨r, q1, q2⟩
    · exact absurd q1 (hon x hx)
    · rw [q2, nI_clamp (by omega)]
      exact ⟨q1, rfl⟩
  have hdx : ∀ b, b < B → (dsp b).toNatClampNeg < n ∧ dsp b = nI (dsp b).toNatClampNeg ∧ (cN κ n B s b = 0 → (dsp b).toNatClampNeg = 0) := fun b hb => by
    obtain ⟨d, q1, q2, q3⟩ := hDE b hb
    rw [q2, nI_clamp (by omega)]
    exact ⟨q1, rfl, q3⟩
  obtain ⟨fp, k1, k2⟩ := pu_keepF (N := N) (R := fun x => (ρ x).toNatClampNeg) (by omega) hk hf hs hnb (fun x hx => hRx x hx) x_fingerprintMask f_fingerprints
  obtain ⟨W, ws, k7, k8, k9⟩ := pu_pack (N := N) (d := fun b => (dsp b).toNatClampNeg) (f := dsp) (by omega) hBd hBl (fun b hb => by have := (hdx b hb).1; omega) (fun b hb => (hdx b hb).2.1) x_packer_bitsEach x_packer_wordCount f_packer_words
  have hpl : ∀ r, r < n → ρ (atN n s (dsp (bkN B s (κ r))).toNatClampNeg (κ r)) = nI r := fun r hr => by
    obtain ⟨d1, hd1, hd2, hd3⟩ := hPl r hr
    rw [show dsp (bkN B s (κ r)) = nI d1 from hd2, nI_clamp (by omega)]
    exact hd3
  have hl1 : ¬ nI Lo < 1 := nI_nlt (b := 1) hL1 (by omega)
  have hl2 : nI Lo ≤ 6 := nI_le (b := 6) hL (by decide)
  have hl3 : ¬ nI nb < 1 := nI_nlt (b := 1) hnb1 (by omega)
  have hl4 : nI nb ≤ 12 := nI_le (b := 12) hnb (by decide)
  have hne : ¬ nI n = 0 := nI_ne0 h1 (by omega)
  have hP : F_X7_build N x_fingerprintMask 0 (nI n) f x_displacer_keyCount x_displacer_bucketCount x_displacer_seed x_displacer_ranksByBucket_thingCount x_displacer_ranksByBucket_groupCount f_displacer_ranksByBucket_groups f_displacer_ranksByBucket_begins f_displacer_ranksByBucket_members f_displacer_starts f_displacer_steps f_displacer_numbers f_displacer_displacements f_displacer_ranksByNumber x_packer_bitsEach x_packer_wordCount f_packer_words x_graph_reachedCount x_graph_keyCount x_graph_vertexCount x_graph_seed x_graph_ends_thingCount x_graph_ends_groupCount f_graph_ends_groups f_graph_ends_begins f_graph_ends_members f_graph_walked f_graph_values f_graph_reached f_fingerprints (nI Lo) (nI nb) = some (nI s, nI (2 ^ nb - 1), 1, nI n, nI B, nI s, tC, gC, fg, fb, fm, fs, ft, fn, dsp, ρ, nI W, nI ((B * W + 63) / 64), ws, rc, nI n, nI (3 * n), nI g, gtC, ggC, gfg, gfb, gfm, gw, gV, gR, fp) := by
    unfold F_X7_build
    rw [if_neg hl1, if_pos hl2, if_neg hl3, if_pos hl4, pu_bind op_0, if_neg hne, pu_bind e1, if_neg (show ¬ (1 : Int32) = 0 by decide), pu_bind c1, if_neg (show ¬ (1 : Int32) = 0 by decide), pu_bind k1, pu_bind k7]
  refine ⟨B, s, g, W, fun b => (dsp b).toNatClampNeg, mu, tC, gC, fg, fb, fm, fs, ft, fn, dsp, ρ, ws, rc, gtC, ggC, gfg, gfb, gfm, gw, gV, gR, fp, hP, ⟨h1, hn, hBd, hBl, hs, hg, hnb1, hnb⟩, hdx, hHd.1, hpl, fun r hr => ?_, ⟨k8, k9⟩, hmu, hsum⟩
  rw [k2 _ (atN_lt h1)]
  dsimp only
  rw [hpl r hr, nI_clamp (by omega)]
