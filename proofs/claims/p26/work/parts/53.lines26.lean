/-! ===== a line of keys, each load, and the keys taken away again ===== -/
theorem pu_delete {N n key r : Nat} {κ : Nat → Nat} {f : Nat → Int32} (hFu : 1000 ≤ N) (hk : KeyOk κ n) (hf : HoldK f κ n) (hkey : key < 100000) (hr : IsRk κ n key r) (hrn : r < n) :
    ∃ g, F_X4_delete N (nI n) f (nI key) = some (nI (n - 1), g) ∧ HoldK g (DelK κ r) (n - 1) := by
  have hn := hk.1
  obtain ⟨r', h1, h2⟩ := pu_rankOf (N := N) (by omega) hk hf hkey
  cases IsRk_uniq hr h2
  unfold F_X4_delete J_X4_delete_40
  rw [pu_bind h1, nI_1]
  obtain ⟨g, h3, h4⟩ := pu_up (f := fun (σ : ((Nat → Int32) × Int32)) => L_X4_delete_8 N (nI n) σ.1 σ.2)
    (fun t σ => σ.2 = nI (r + 1 + t) ∧ ∀ i, i < n → σ.1 i = nI (if i < r + t then DelK κ r i else κ i)) (fun g => ∀ i, i < n - 1 → g i = nI (DelK κ r i)) (n - (r + 1))
    (fun t σ ht hσ => by
      obtain ⟨g, j⟩ := σ
      obtain ⟨h3, h4⟩ := hσ
      dsimp only at h3 h4 ⊢
      subst h3
      have e9 : nI (r + 1 + t) - 1 = nI (r + t) := by rw [show r + 1 + t = r + t + 1 by omega, nI_pred]
      unfold L_X4_delete_8
      rw [if_neg (nI_ge (by omega) (by omega)), pu_bind (pu_get (by omega) (by omega)), e9, pu_bind (pu_set (by omega) (by omega)), nI_1]
      refine Or.inl ⟨_, rfl, rfl, fun i hi => ?_⟩
      dsimp only
      by_cases e : i = r + t
      · rw [e, pu_us, h4 _ (by omega), if_neg (by omega), if_pos (by omega)]
        unfold DelK
        rw [if_neg (by omega)]
        congr 2
        omega
      · rw [pu_un e, h4 i hi]
        by_cases e2 : i < r + t
        · rw [if_pos e2, if_pos (by omega)]
        · rw [if_neg e2, if_neg (by omega)])
    (fun σ hσ => by
      obtain ⟨g, j⟩ := σ
      obtain ⟨h3, h4⟩ := hσ
      dsimp only at h3 h4 ⊢
      subst h3
      unfold L_X4_delete_8
      rw [if_pos (nI_le (by omega) (by omega))]
      refine ⟨_, rfl, fun i hi => ?_⟩
      rw [h4 i (by omega), if_pos (by omega)])
    N 0 (f, nI (r + 1)) (Nat.zero_le _) (by omega) ⟨rfl, fun i hi => by
      dsimp only
      rw [hf i hi]
      by_cases e : i < r + 0
      · rw [if_pos e]
        unfold DelK
        rw [if_pos (by omega)]
      · rw [if_neg e]⟩
  rw [pu_bind h3]
  have e9 : nI n - 1 = nI (n - 1) := pk_sub (b := 1) (by omega)
  rw [e9]
  exact ⟨g, rfl, h4⟩
def lnN (first step : Nat) : Nat → Nat := fun q => first + q * step
theorem ln_lt {first step i n : Nat} (hi : i < n) : i * step + step ≤ n * step := by
  have := Nat.mul_le_mul_right step (show i + 1 ≤ n from hi)
  rw [Nat.succ_mul] at this
  exact this
theorem ln_mono {first step i j : Nat} (hs : 1 ≤ step) (h : i < j) : lnN first step i < lnN first step j := by
  have := ln_lt (first := first) (step := step) h
  unfold lnN
  omega
theorem ln_ok {first step n : Nat} (hs : 1 ≤ step) (hn : n ≤ 120) (hl : first + n * step ≤ 100000) : KeyOk (lnN first step) n :=
  ⟨hn, fun _ _ h _ => ln_mono hs h, fun i hi => by
    have := ln_lt (first := first) (step := step) hi
    unfold lnN
    omega⟩
theorem ln_at {first step i : Nat} : nI first + nI i * nI step = nI (lnN first step i) := by rw [pk_mul, nI_add]; rfl
theorem ln_none {first step i : Nat} (hs : 1 ≤ step) : ¬ InK (lnN first step) i (lnN first step i) := by
  rintro ⟨j, hj, e⟩
  have := ln_mono (first := first) hs hj
  omega
theorem pl_addLine {N n first step : Nat} {f : Nat → Int32} (hFu : 6000 ≤ N) (hs : 1 ≤ step) (hs2 : step ≤ 9999) (h1 : 1 ≤ n) (hn : n ≤ 20) (hl : first + n * step ≤ 100000) :
    ∃ g, F_X7_addLine N 0 0 f (nI first) (nI step) (nI n) = some (nI n, nI n, g) ∧ HoldK g (lnN first step) n := by
  have hkn := ln_ok (first := first) hs (show n ≤ 120 by omega) hl
  have hkey : ∀ i, i < n → lnN first step i < 100000 := hkn.2.2
  have hfirst : first < 100000 := by
    have := hkey 0 h1
    unfold lnN at this
    omega
  have hlast : first + (n - 1) * step < 100000 := hkey (n - 1) (by omega)
  have hk0 : KeyOk (lnN first step) 0 := ⟨Nat.zero_le _, fun i j _ h => absurd h (Nat.not_lt_zero j), fun i h => absurd h (Nat.not_lt_zero i)⟩
  have hrl : F_X7_requireLine N (nI first) (nI step) (nI n) = some () := by
    unfold F_X7_requireLine
    rw [pu_bind (ky_1 hfirst), if_neg (show ¬ nI step < 1 from nI_nlt (b := 1) hs (by omega)), if_pos (show nI step ≤ 9999 from nI_le (b := 9999) hs2 (by decide)), if_neg (show ¬ nI n < 1 from nI_nlt (b := 1) h1 (by omega)), if_pos (show nI n ≤ 40 from nI_le (b := 40) (by omega) (by decide)),
      show nI n - 1 = nI (n - 1) from pk_sub (b := 1) h1, pk_mul, nI_add, pu_bind (ky_1 hlast)]
  have hnew : F_X7_newInLine N 0 f (nI first) (nI step) (nI n) = some (nI n) := by
    unfold F_X7_newInLine J_X7_newInLine_37
    obtain ⟨r, h2, rfl⟩ := pu_up (f := fun (σ : (Int32 × Int32)) => L_X7_newInLine_6 N 0 f (nI first) (nI step) (nI n) σ.1 σ.2) (fun i σ => σ = (nI i, nI i)) (fun r => r = nI n) n
      (fun i σ hi hσ => by
        subst hσ
        dsimp only
        have h9 := (pu_holds (N := N) (f := f) (by omega) hk0 (fun i h => absurd h (Nat.not_lt_zero i)) (hkey i hi)).2 (fun h => by
          obtain ⟨j, hj, _⟩ := h
          exact absurd hj (Nat.not_lt_zero j))
        rw [nI_0] at h9
        unfold L_X7_newInLine_6 J_X7_newInLine_31
        rw [if_neg (nI_ge hi (by omega)), ln_at, pu_bind h9, if_pos rfl, nI_1]
        exact Or.inl ⟨_, rfl, rfl⟩)
      (fun σ hσ => by
        subst hσ
        dsimp only
        unfold L_X7_newInLine_6
        rw [if_pos (nI_le (Nat.le_refl _) (by omega))]
        exact ⟨_, rfl, rfl⟩)
      N 0 (0, 0) (Nat.zero_le _) (by omega) rfl
    rw [pu_bind h2]
  have hroom : F_X7_requireRoomFor N 0 (nI n) = some () := by
    unfold F_X7_requireRoomFor
    rw [Int32.zero_add, if_pos (show nI n ≤ 120 from nI_le (b := 120) (by omega) (by decide))]
  obtain ⟨⟨z, g⟩, h2, h3, h4⟩ := pu_up (f := fun (σ : (Int32 × (Nat → Int32) × Int32)) => L_X7_addLine_24 N (nI first) (nI step) (nI n) σ.1 σ.2.1 σ.2.2) (fun i σ => σ.1 = nI i ∧ σ.2.2 = nI i ∧ HoldK σ.2.1 (lnN first step) i) (fun r => r.1 = nI n ∧ HoldK r.2 (lnN first step) n) n
    (fun i σ hi hσ => by
      obtain ⟨a, g, c⟩ := σ
      obtain ⟨h2, h3, h4⟩ := hσ
      dsimp only at h2 h3 h4 ⊢
      subst h2 h3
      have hki : KeyOk (lnN first step) i := ⟨by omega, fun _ _ h _ => ln_mono hs h, fun j hj => hkey j (by omega)⟩
      have h9 := (pu_holds (N := N) (by omega) hki h4 (hkey i hi)).2 (ln_none hs)
      obtain ⟨g', h5, h6⟩ := pu_insert (N := N) (r := i) (by omega) hki h4 (hkey i hi) (by omega) ⟨Nat.le_refl i, fun j hj => ln_mono hs hj, fun j hj hj2 => absurd hj2 (by omega)⟩
      unfold L_X7_addLine_24 J_X7_addLine_59
      rw [if_neg (nI_ge hi (by omega)), ln_at, pu_bind h9, if_pos rfl, pu_bind h5, nI_1]
      refine Or.inl ⟨_, rfl, rfl, rfl, fun j hj => ?_⟩
      dsimp only
      rw [h6 j hj]
      unfold InsK
      by_cases e : j < i
      · rw [if_pos e]
      · rw [if_neg e, if_pos (by omega), show j = i by omega])
    (fun σ hσ => by
      obtain ⟨a, g, c⟩ := σ
      obtain ⟨h2, h3, h4⟩ := hσ
      dsimp only at h2 h3 h4 ⊢
      subst h2 h3
      unfold L_X7_addLine_24
      rw [if_pos (nI_le (Nat.le_refl _) (by omega))]
      exact ⟨_, rfl, rfl, h4⟩)
    N 0 (0, f, 0) (Nat.zero_le _) (by omega) ⟨nI_0.symm, nI_0.symm, fun i h => absurd h (Nat.not_lt_zero i)⟩
  dsimp only at h3 h4
  subst h3
  refine ⟨g, ?_, h4⟩
  unfold F_X7_addLine J_X7_addLine_65
  rw [pu_bind hrl, pu_bind op_0, pu_bind hnew, pu_bind hroom, pu_bind h2]
theorem pl_remove {N n first step : Nat} {f f2 : Nat → Int32} (hFu : 6000 ≤ N) (hs : 1 ≤ step) (hn : n ≤ 20) (hl : first + n * step ≤ 100000) (hf : HoldK f (lnN first step) n) (hf2 : HoldK f2 (lnN first step) n) :
    ∃ g, kk_iter (fun (σ : (Int32 × (Nat → Int32) × Int32)) => L_L_lines_177 N 32 0 f2 (nI n) σ.1 σ.2.1 σ.2.2) N (nI n, f, 0) = some (.inr (0, g)) := by
  have hkn := ln_ok (first := first) hs (show n ≤ 120 by omega) hl
  obtain ⟨r, h2, g, rfl⟩ := pu_up (f := fun (σ : (Int32 × (Nat → Int32) × Int32)) => L_L_lines_177 N 32 0 f2 (nI n) σ.1 σ.2.1 σ.2.2) (fun i σ => σ.1 = nI (n - i) ∧ σ.2.2 = nI i ∧ HoldK σ.2.1 (fun q => lnN first step (i + q)) (n - i)) (fun r => ∃ g, r = .inr (0, g)) n
    (fun i σ hi hσ => by
      obtain ⟨a, g, c⟩ := σ
      obtain ⟨h2, h3, h4⟩ := hσ
      dsimp only at h2 h3 h4 ⊢
      subst h2 h3
      have hkey : lnN first step i < 100000 := hkn.2.2 i hi
      have hki : KeyOk (fun q => lnN first step (i + q)) (n - i) := ⟨by omega, fun _ _ h _ => ln_mono hs (by omega), fun j hj => hkn.2.2 (i + j) (by omega)⟩
      have h9 := (pu_holds (N := N) (by omega) hki h4 hkey).1 ⟨0, by omega, rfl⟩
      obtain ⟨g', h5, h6⟩ := pu_delete (N := N) (r := 0) (by omega) hki h4 hkey ⟨Nat.zero_le _, fun j hj => absurd hj (Nat.not_lt_zero j), fun j _ hj => by
        rcases Nat.eq_zero_or_pos j with q | q
        · rw [q]; exact Nat.le_refl _
        · exact Nat.le_of_lt (ln_mono hs (by omega))⟩ (by omega)
      have hrm : F_X7_remove N 0 (nI (n - i)) g (nI (lnN first step i)) = some (nI (n - i - 1), nI (n - i - 1), g') := by
        unfold F_X7_remove
        rw [pu_bind (ky_1 hkey), pu_bind op_0, pu_bind h9, if_neg (by decide), pu_bind h5]
      unfold L_L_lines_177
      rw [if_neg (nI_ge hi (by omega)), pu_bind (pu_rd (by omega) (by decide)), hf2 i hi, pu_bind hrm, show nI n - 1 = nI (n - 1) from pk_sub (b := 1) (by omega), pk_sub (by omega), if_pos (congrArg nI (show n - i - 1 = n - 1 - i by omega)), nI_1]
      refine Or.inl ⟨_, rfl, congrArg nI (by omega), rfl, fun j hj => ?_⟩
      dsimp only
      rw [h6 j (by omega)]
      unfold DelK
      rw [if_neg (Nat.not_lt_zero j)]
      dsimp only
      rw [show i + (j + 1) = i + 1 + j by omega])
    (fun σ hσ => by
      obtain ⟨a, g, c⟩ := σ
      obtain ⟨h2, h3, h4⟩ := hσ
      dsimp only at h2 h3 h4 ⊢
      subst h2 h3
      unfold L_L_lines_177
      rw [if_pos (nI_le (Nat.le_refl _) (by omega)), Nat.sub_self]
      exact ⟨_, rfl, g, rfl⟩)
    N 0 (nI n, f, 0) (Nat.zero_le _) (by omega) ⟨rfl, nI_0.symm, fun j hj => by
      dsimp only
      rw [hf j (by omega), Nat.zero_add]⟩
  exact ⟨g, h2⟩
theorem pl_at {N a b : Nat} (ha : a < 2 ^ 31) (h0 : 0 < b) (hb : b < 2 ^ 31) : F_L_at N (nI a) (nI b) = some (nI (a / 2 % b)) := by
  unfold F_L_at
  rw [pu_nz h0 hb, pk_ushrN (by omega) 1 1 (by decide), pu_rem (by omega) h0 hb]
theorem pl_fill {N n first step : Nat} (hFu : 6000 ≤ N) (hn : n ≤ 20) (g : Nat → Int32) :
    ∃ g', kk_iter (fun (σ : ((Nat → Int32) × Int32)) => L_L_lines_56 N 32 (nI n) (nI step) (nI first) σ.1 σ.2) N (g, 0) = some g' ∧ HoldK g' (lnN first step) n := by
  refine pu_up (f := fun (σ : ((Nat → Int32) × Int32)) => L_L_lines_56 N 32 (nI n) (nI step) (nI first) σ.1 σ.2) (fun i σ => σ.2 = nI i ∧ HoldK σ.1 (lnN first step) i) _ n
    (fun i σ hi hσ => by
      obtain ⟨g, c⟩ := σ
      obtain ⟨h3, h4⟩ := hσ
      dsimp only at h3 h4 ⊢
      subst h3
      unfold L_L_lines_56
      rw [if_neg (nI_ge hi (by omega)), ln_at, pu_bind (pu_wr (by omega) (by decide)), nI_1]
      refine Or.inl ⟨_, rfl, rfl, fun j hj => ?_⟩
      dsimp only
      by_cases e : j = i
      · rw [e, pu_us]
      · rw [pu_un e]; exact h4 j (by omega))
    (fun σ hσ => by
      obtain ⟨g, c⟩ := σ
      obtain ⟨h3, h4⟩ := hσ
      dsimp only at h3 h4 ⊢
      subst h3
      unfold L_L_lines_56
      rw [if_pos (nI_le (Nat.le_refl _) (by omega))]
      exact ⟨_, rfl, h4⟩)
    N 0 (g, 0) (Nat.zero_le _) (by omega) ⟨nI_0.symm, fun j hj => absurd hj (Nat.not_lt_zero j)⟩
theorem pl_loads {N n Y : Nat} {κ : Nat → Nat} {f f2 : Nat → Int32} (hFu : 6000 ≤ N) (hk : KeyOk κ n) (hf : HoldK f κ n) (hf2 : HoldK f2 κ n) (h1 : 1 ≤ n) (hn : n ≤ 20) (hY : Y < 2 ^ 31) (x_fingerprintMask : Int32) (x_displacer_keyCount : Int32) (x_displacer_bucketCount : Int32) (x_displacer_seed : Int32) (x_displacer_ranksByBucket_thingCount : Int32) (x_displacer_ranksByBucket_groupCount : Int32) (f_displacer_ranksByBucket_groups : Nat → Int32) (f_displacer_ranksByBucket_begins : Nat → Int32) (f_displacer_ranksByBucket_members : Nat → Int32) (f_displacer_starts : Nat → Int32) (f_displacer_steps : Nat → Int32) (f_displacer_numbers : Nat → Int32) (f_displacer_displacements : Nat → Int32) (f_displacer_ranksByNumber : Nat → Int32) (x_packer_bitsEach : Int32) (x_packer_wordCount : Int32) (f_packer_words : Nat → Int64) (x_graph_reachedCount : Int32) (x_graph_keyCount : Int32) (x_graph_vertexCount : Int32) (x_graph_seed : Int32) (x_graph_ends_thingCount : Int32) (x_graph_ends_groupCount : Int32) (f_graph_ends_groups : Nat → Int32) (f_graph_ends_begins : Nat → Int32) (f_graph_ends_members : Nat → Int32) (f_graph_walked : Nat → Int32) (f_graph_values : Nat → Int32) (f_graph_reached : Nat → Int32) (f_fingerprints : Nat → Int32) (r_f_arr s_f_arr : Nat → Int32) :
    ∃ t, kk_iter (fun (σ : (Int32 × Int32 × Int32 × Int32 × Int32 × Int32 × Int32 × (Nat → Int32) × (Nat → Int32) × (Nat → Int32) × (Nat → Int32) × (Nat → Int32) × (Nat → Int32) × (Nat → Int32) × (Nat → Int32) × Int32 × Int32 × (Nat → Int64) × Int32 × Int32 × Int32 × Int32 × Int32 × Int32 × (Nat → Int32) × (Nat → Int32) × (Nat → Int32) × (Nat → Int32) × (Nat → Int32) × (Nat → Int32) × (Nat → Int32) × (Nat → Int32) × (Nat → Int32) × Int32)) => L_L_lines_101 N 32 32 64 (nI n) f f2 (nI Y) (nI n) σ.1 σ.2.1 σ.2.2.1 σ.2.2.2.1 σ.2.2.2.2.1 σ.2.2.2.2.2.1 σ.2.2.2.2.2.2.1 σ.2.2.2.2.2.2.2.1 σ.2.2.2.2.2.2.2.2.1 σ.2.2.2.2.2.2.2.2.2.1 σ.2.2.2.2.2.2.2.2.2.2.1 σ.2.2.2.2.2.2.2.2.2.2.2.1 σ.2.2.2.2.2.2.2.2.2.2.2.2.1 σ.2.2.2.2.2.2.2.2.2.2.2.2.2.1 σ.2.2.2.2.2.2.2.2.2.2.2.2.2.2.1 σ.2.2.2.2.2.2.2.2.2.2.2.2.2.2.2.1 σ.2.2.2.2.2.2.2.2.2.2.2.2.2.2.2.2.1 σ.2.2.2.2.2.2.2.2.2.2.2.2.2.2.2.2.2.1 σ.2.2.2.2.2.2.2.2.2.2.2.2.2.2.2.2.2.2.1 σ.2.2.2.2.2.2.2.2.2.2.2.2.2.2.2.2.2.2.2.1 σ.2.2.2.2.2.2.2.2.2.2.2.2.2.2.2.2.2.2.2.2.1 σ.2.2.2.2.2.2.2.2.2.2.2.2.2.2.2.2.2.2.2.2.2.1 σ.2.2.2.2.2.2.2.2.2.2.2.2.2.2.2.2.2.2.2.2.2.2.1 σ.2.2.2.2.2.2.2.2.2.2.2.2.2.2.2.2.2.2.2.2.2.2.2.1 σ.2.2.2.2.2.2.2.2.2.2.2.2.2.2.2.2.2.2.2.2.2.2.2.2.1 σ.2.2.2.2.2.2.2.2.2.2.2.2.2.2.2.2.2.2.2.2.2.2.2.2.2.1 σ.2.2.2.2.2.2.2.2.2.2.2.2.2.2.2.2.2.2.2.2.2.2.2.2.2.2.1 σ.2.2.2.2.2.2.2.2.2.2.2.2.2.2.2.2.2.2.2.2.2.2.2.2.2.2.2.1 σ.2.2.2.2.2.2.2.2.2.2.2.2.2.2.2.2.2.2.2.2.2.2.2.2.2.2.2.2.1 σ.2.2.2.2.2.2.2.2.2.2.2.2.2.2.2.2.2.2.2.2.2.2.2.2.2.2.2.2.2.1 σ.2.2.2.2.2.2.2.2.2.2.2.2.2.2.2.2.2.2.2.2.2.2.2.2.2.2.2.2.2.2.1 σ.2.2.2.2.2.2.2.2.2.2.2.2.2.2.2.2.2.2.2.2.2.2.2.2.2.2.2.2.2.2.2.1 σ.2.2.2.2.2.2.2.2.2.2.2.2.2.2.2.2.2.2.2.2.2.2.2.2.2.2.2.2.2.2.2.2.1 σ.2.2.2.2.2.2.2.2.2.2.2.2.2.2.2.2.2.2.2.2.2.2.2.2.2.2.2.2.2.2.2.2.2) N (x_fingerprintMask, 0, x_displacer_keyCount, x_displacer_bucketCount, x_displacer_seed, x_displacer_ranksByBucket_thingCount, x_displacer_ranksByBucket_groupCount, f_displacer_ranksByBucket_groups, f_displacer_ranksByBucket_begins, f_displacer_ranksByBucket_members, f_displacer_starts, f_displacer_steps, f_displacer_numbers, f_displacer_displacements, f_displacer_ranksByNumber, x_packer_bitsEach, x_packer_wordCount, f_packer_words, x_graph_reachedCount, x_graph_keyCount, x_graph_vertexCount, x_graph_seed, x_graph_ends_thingCount, x_graph_ends_groupCount, f_graph_ends_groups, f_graph_ends_begins, f_graph_ends_members, f_graph_walked, f_graph_values, f_graph_reached, f_fingerprints, r_f_arr, s_f_arr, 1) = some (.inr t) ∧ t.2.1 = 0 := by
  obtain ⟨r, h2, t, rfl, h3⟩ := pu_up (f := fun (σ : (Int32 × Int32 × Int32 × Int32 × Int32 × Int32 × Int32 × (Nat → Int32) × (Nat → Int32) × (Nat → Int32) × (Nat → Int32) × (Nat → Int32) × (Nat → Int32) × (Nat → Int32) × (Nat → Int32) × Int32 × Int32 × (Nat → Int64) × Int32 × Int32 × Int32 × Int32 × Int32 × Int32 × (Nat → Int32) × (Nat → Int32) × (Nat → Int32) × (Nat → Int32) × (Nat → Int32) × (Nat → Int32) × (Nat → Int32) × (Nat → Int32) × (Nat → Int32) × Int32)) => L_L_lines_101 N 32 32 64 (nI n) f f2 (nI Y) (nI n) σ.1 σ.2.1 σ.2.2.1 σ.2.2.2.1 σ.2.2.2.2.1 σ.2.2.2.2.2.1 σ.2.2.2.2.2.2.1 σ.2.2.2.2.2.2.2.1 σ.2.2.2.2.2.2.2.2.1 σ.2.2.2.2.2.2.2.2.2.1 σ.2.2.2.2.2.2.2.2.2.2.1 σ.2.2.2.2.2.2.2.2.2.2.2.1 σ.2.2.2.2.2.2.2.2.2.2.2.2.1 σ.2.2.2.2.2.2.2.2.2.2.2.2.2.1 σ.2.2.2.2.2.2.2.2.2.2.2.2.2.2.1 σ.2.2.2.2.2.2.2.2.2.2.2.2.2.2.2.1 σ.2.2.2.2.2.2.2.2.2.2.2.2.2.2.2.2.1 σ.2.2.2.2.2.2.2.2.2.2.2.2.2.2.2.2.2.1 σ.2.2.2.2.2.2.2.2.2.2.2.2.2.2.2.2.2.2.1 σ.2.2.2.2.2.2.2.2.2.2.2.2.2.2.2.2.2.2.2.1 σ.2.2.2.2.2.2.2.2.2.2.2.2.2.2.2.2.2.2.2.2.1 σ.2.2.2.2.2.2.2.2.2.2.2.2.2.2.2.2.2.2.2.2.2.1 σ.2.2.2.2.2.2.2.2.2.2.2.2.2.2.2.2.2.2.2.2.2.2.1 σ.2.2.2.2.2.2.2.2.2.2.2.2.2.2.2.2.2.2.2.2.2.2.2.1 σ.2.2.2.2.2.2.2.2.2.2.2.2.2.2.2.2.2.2.2.2.2.2.2.2.1 σ.2.2.2.2.2.2.2.2.2.2.2.2.2.2.2.2.2.2.2.2.2.2.2.2.2.1 σ.2.2.2.2.2.2.2.2.2.2.2.2.2.2.2.2.2.2.2.2.2.2.2.2.2.2.1 σ.2.2.2.2.2.2.2.2.2.2.2.2.2.2.2.2.2.2.2.2.2.2.2.2.2.2.2.1 σ.2.2.2.2.2.2.2.2.2.2.2.2.2.2.2.2.2.2.2.2.2.2.2.2.2.2.2.2.1 σ.2.2.2.2.2.2.2.2.2.2.2.2.2.2.2.2.2.2.2.2.2.2.2.2.2.2.2.2.2.1 σ.2.2.2.2.2.2.2.2.2.2.2.2.2.2.2.2.2.2.2.2.2.2.2.2.2.2.2.2.2.2.1 σ.2.2.2.2.2.2.2.2.2.2.2.2.2.2.2.2.2.2.2.2.2.2.2.2.2.2.2.2.2.2.2.1 σ.2.2.2.2.2.2.2.2.2.2.2.2.2.2.2.2.2.2.2.2.2.2.2.2.2.2.2.2.2.2.2.2.1 σ.2.2.2.2.2.2.2.2.2.2.2.2.2.2.2.2.2.2.2.2.2.2.2.2.2.2.2.2.2.2.2.2.2)
    (fun i σ => 1 ≤ i ∧ σ.2.1 = 0 ∧ σ.2.2.2.2.2.2.2.2.2.2.2.2.2.2.2.2.2.2.2.2.2.2.2.2.2.2.2.2.2.2.2.2.2 = nI i) (fun r => ∃ t, r = .inr t ∧ t.2.1 = 0) 7
    (fun i σ hi hσ => by
      obtain ⟨a1, a2, a3, a4, a5, a6, a7, a8, a9, a10, a11, a12, a13, a14, a15, a16, a17, a18, a19, a20, a21, a22, a23, a24, a25, a26, a27, a28, a29, a30, a31, a32, a33, a34⟩ := σ
      obtain ⟨hi1, h3, h4⟩ := hσ
      dsimp only at h3 h4 ⊢
      subst h3 h4
      have hBd : 0 < (n + i - 1) / i := Nat.div_pos (by omega) (by omega)
      have hBl : (n + i - 1) / i ≤ 120 := by
        have h9 : (n + i - 1) / i ≤ n + i - 1 := Nat.div_le_self _ _
        omega
      have hdiv : kk_div ((nI n + nI i) - 1) (nI i) = nI ((n + i - 1) / i) := by
        rw [pu_addpred (by omega)]
        exact pk_div (by omega) (by omega) (by omega)
      obtain ⟨v, sd, tC, gC, fg, fb, fm, fs, ft, fn, dsp, ρ, m2, -, e2, -⟩ := pl_settle2 (N := N) (B := (n + i - 1) / i) (L := i) (by omega) hk hf hf2 h1 hn hi1 rfl hBd hBl (by omega) 0 0 0 0 0 (fun _ => 0) (fun _ => 0) (fun _ => 0) (fun _ => 0) (fun _ => 0) (fun _ => 0) (fun _ => 0) (fun _ => 0) a32
      obtain ⟨w, rc, gsd, gtC, ggC, gfg, gfb, gfm, gw, gV, gR, m4, -, c2, -⟩ := pl_gsettle2 (N := N) (by omega) hk hf hf2 h1 hn 0 0 0 0 0 0 (fun _ => 0) (fun _ => 0) (fun _ => 0) (fun _ => 0) (fun _ => 0) (fun _ => 0) a33
      unfold L_L_lines_101 J_L_lines_168
      rw [if_neg (show ¬ (6 : Int32) < nI i from nI_nlt (a := 6) (by omega) (by decide)), pu_nz (by omega) (by omega), hdiv, pu_bind e2]
      dsimp only
      by_cases hv : v = 0
      · rw [if_pos hv, nI_1]
        exact Or.inl ⟨_, rfl, by omega, rfl, rfl⟩
      · rw [if_neg hv, pu_bind c2]
        dsimp only
        by_cases hw : w = 0
        · rw [if_pos hw, nI_1]
          exact Or.inl ⟨_, rfl, by omega, rfl, rfl⟩
        · have h12 : Y / 2 ^ i / 2 % 12 < 12 := Nat.mod_lt _ (by decide)
          have hYi : Y / 2 ^ i ≤ Y := Nat.div_le_self _ _
          obtain ⟨x, hx, hx1, hx2⟩ := pl_minimal (Lo := i) (nb := 1 + Y / 2 ^ i / 2 % 12) hFu hk hf hf2 h1 hn hi1 (by omega) (by omega) (by omega) e2 hv c2 hw a1 a3 a4 a5 a6 a7 a8 a9 a10 a11 a12 a13 a14 a15 a16 a17 a18 a19 a20 a21 a22 a23 a24 a25 a26 a27 a28 a29 a30 a31
          rw [if_neg hw, pu_shrk hY (by omega), pu_bind (show F_L_at N (nI (Y / 2 ^ i)) 12 = some (nI (Y / 2 ^ i / 2 % 12)) from pl_at (b := 12) (by omega) (by decide) (by decide)), show (1 : Int32) + nI (Y / 2 ^ i / 2 % 12) = nI (1 + Y / 2 ^ i / 2 % 12) from nI_add 1 _, pu_bind hx, if_neg (by rw [hx1]; decide), nI_1]
          exact Or.inl ⟨_, rfl, by omega, hx2, rfl⟩)
    (fun σ hσ => by
      obtain ⟨a1, a2, a3, a4, a5, a6, a7, a8, a9, a10, a11, a12, a13, a14, a15, a16, a17, a18, a19, a20, a21, a22, a23, a24, a25, a26, a27, a28, a29, a30, a31, a32, a33, a34⟩ := σ
      obtain ⟨hi1, h3, h4⟩ := hσ
      dsimp only at h3 h4 ⊢
      subst h3 h4
      unfold L_L_lines_101
      rw [if_pos (show (6 : Int32) < nI 7 from nI_lt (a := 6) (by decide) (by decide))]
      exact ⟨_, rfl, _, rfl, rfl⟩)
    N 1 (x_fingerprintMask, 0, x_displacer_keyCount, x_displacer_bucketCount, x_displacer_seed, x_displacer_ranksByBucket_thingCount, x_displacer_ranksByBucket_groupCount, f_displacer_ranksByBucket_groups, f_displacer_ranksByBucket_begins, f_displacer_ranksByBucket_members, f_displacer_starts, f_displacer_steps, f_displacer_numbers, f_displacer_displacements, f_displacer_ranksByNumber, x_packer_bitsEach, x_packer_wordCount, f_packer_words, x_graph_reachedCount, x_graph_keyCount, x_graph_vertexCount, x_graph_seed, x_graph_ends_thingCount, x_graph_ends_groupCount, f_graph_ends_groups, f_graph_ends_begins, f_graph_ends_members, f_graph_walked, f_graph_values, f_graph_reached, f_fingerprints, r_f_arr, s_f_arr, 1) (by decide) (by omega) ⟨Nat.le_refl 1, rfl, rfl⟩
  exact ⟨t, h2, h3⟩
theorem pl_line {N n Y M : Nat} (hFu : 6000 ≤ N) (h1 : 1 ≤ n) (hn : n ≤ 20) (hM : 0 < M) (hM2 : M ≤ 4000) (hY : Y < 2 ^ 31) (x_fingerprintMask : Int32) (f_sorted_places : Nat → Int32) (x_displacer_keyCount : Int32) (x_displacer_bucketCount : Int32) (x_displacer_seed : Int32) (x_displacer_ranksByBucket_thingCount : Int32) (x_displacer_ranksByBucket_groupCount : Int32) (f_displacer_ranksByBucket_groups : Nat → Int32) (f_displacer_ranksByBucket_begins : Nat → Int32) (f_displacer_ranksByBucket_members : Nat → Int32) (f_displacer_starts : Nat → Int32) (f_displacer_steps : Nat → Int32) (f_displacer_numbers : Nat → Int32) (f_displacer_displacements : Nat → Int32) (f_displacer_ranksByNumber : Nat → Int32) (x_packer_bitsEach : Int32) (x_packer_wordCount : Int32) (f_packer_words : Nat → Int64) (x_graph_reachedCount : Int32) (x_graph_keyCount : Int32) (x_graph_vertexCount : Int32) (x_graph_seed : Int32) (x_graph_ends_thingCount : Int32) (x_graph_ends_groupCount : Int32) (f_graph_ends_groups : Nat → Int32) (f_graph_ends_begins : Nat → Int32) (f_graph_ends_members : Nat → Int32) (f_graph_walked : Nat → Int32) (f_graph_values : Nat → Int32) (f_graph_reached : Nat → Int32) (f_fingerprints : Nat → Int32) (q_f_arr r_f_arr s_f_arr : Nat → Int32) :
    ∃ x, J_L_lines_31 N 32 32 64 x_fingerprintMask 0 0 f_sorted_places x_displacer_keyCount x_displacer_bucketCount x_displacer_seed x_displacer_ranksByBucket_thingCount x_displacer_ranksByBucket_groupCount f_displacer_ranksByBucket_groups f_displacer_ranksByBucket_begins f_displacer_ranksByBucket_members f_displacer_starts f_displacer_steps f_displacer_numbers f_displacer_displacements f_displacer_ranksByNumber x_packer_bitsEach x_packer_wordCount f_packer_words x_graph_reachedCount x_graph_keyCount x_graph_vertexCount x_graph_seed x_graph_ends_thingCount x_graph_ends_groupCount f_graph_ends_groups f_graph_ends_begins f_graph_ends_members f_graph_walked f_graph_values f_graph_reached f_fingerprints q_f_arr r_f_arr s_f_arr (nI Y) (nI n) 1 (nI Y) (nI M) = some x ∧ x.1 = 1 ∧ x.2.2.1 = 0 ∧ x.2.2.2.1 = 0 := by
  have hst : Y / 2 % M < M := Nat.mod_lt _ hM
  have hstep : n * (1 + Y / 2 % M) ≤ 20 * 4000 := Nat.mul_le_mul hn (by omega)
  unfold J_L_lines_31
  rw [pu_bind (pl_at hY hM (by omega)), show (1 : Int32) + nI (Y / 2 % M) = nI (1 + Y / 2 % M) from nI_add 1 _, pk_mul, show (100000 : Int32) - nI (n * (1 + Y / 2 % M)) = nI (100000 - n * (1 + Y / 2 % M)) from pk_sub (a := 100000) (by omega), show nI Y >>> ((4 : Int32) &&& 31) = nI (Y / 2 ^ 4) from pu_shrk (k := 4) hY (by decide), pu_bind (pl_at (by omega) (by omega) (by omega))]
  have hfi : Y / 2 ^ 4 / 2 % (100000 - n * (1 + Y / 2 % M)) < 100000 - n * (1 + Y / 2 % M) := Nat.mod_lt _ (by omega)
  generalize Y / 2 ^ 4 / 2 % (100000 - n * (1 + Y / 2 % M)) = first at hfi
  generalize hS : 1 + Y / 2 % M = step at hstep hfi
  have hs1 : 1 ≤ step := by omega
  have hl : first + n * step ≤ 100000 := by omega
  obtain ⟨k, e1, e2⟩ := pl_fill (N := N) (first := first) (step := step) hFu hn q_f_arr
  obtain ⟨g, e3, e4⟩ := pl_addLine (f := f_sorted_places) hFu hs1 (by omega) h1 hn hl
  have hkn := ln_ok (first := first) hs1 (show n ≤ 120 by omega) hl
  obtain ⟨t, e5, e6⟩ := pl_loads hFu hkn e4 e2 h1 hn hY x_fingerprintMask x_displacer_keyCount x_displacer_bucketCount x_displacer_seed x_displacer_ranksByBucket_thingCount x_displacer_ranksByBucket_groupCount f_displacer_ranksByBucket_groups f_displacer_ranksByBucket_begins f_displacer_ranksByBucket_members f_displacer_starts f_displacer_steps f_displacer_numbers f_displacer_displacements f_displacer_ranksByNumber x_packer_bitsEach x_packer_wordCount f_packer_words x_graph_reachedCount x_graph_keyCount x_graph_vertexCount x_graph_seed x_graph_ends_thingCount x_graph_ends_groupCount f_graph_ends_groups f_graph_ends_begins f_graph_ends_members f_graph_walked f_graph_values f_graph_reached f_fingerprints r_f_arr s_f_arr
  obtain ⟨g2, e7⟩ := pl_remove hFu hs1 hn hl e4 e2
  rw [pu_bind e1]
  unfold J_L_lines_81
  rw [pu_bind e3]
  dsimp only
  rw [if_pos rfl, pu_bind e5]
  dsimp only [Sum.elim_inr]
  unfold J_L_lines_174
  rw [e6, pu_bind e7]
  exact ⟨_, rfl, rfl, rfl, rfl⟩
theorem pl_lines {N X Y : Nat} (hFu : 6000 ≤ N) (hX : X < 2 ^ 31) (hY : Y < 2 ^ 31) (x_fingerprintMask : Int32) (f_sorted_places : Nat → Int32) (x_displacer_keyCount : Int32) (x_displacer_bucketCount : Int32) (x_displacer_seed : Int32) (x_displacer_ranksByBucket_thingCount : Int32) (x_displacer_ranksByBucket_groupCount : Int32) (f_displacer_ranksByBucket_groups : Nat → Int32) (f_displacer_ranksByBucket_begins : Nat → Int32) (f_displacer_ranksByBucket_members : Nat → Int32) (f_displacer_starts : Nat → Int32) (f_displacer_steps : Nat → Int32) (f_displacer_numbers : Nat → Int32) (f_displacer_displacements : Nat → Int32) (f_displacer_ranksByNumber : Nat → Int32) (x_packer_bitsEach : Int32) (x_packer_wordCount : Int32) (f_packer_words : Nat → Int64) (x_graph_reachedCount : Int32) (x_graph_keyCount : Int32) (x_graph_vertexCount : Int32) (x_graph_seed : Int32) (x_graph_ends_thingCount : Int32) (x_graph_ends_groupCount : Int32) (f_graph_ends_groups : Nat → Int32) (f_graph_ends_begins : Nat → Int32) (f_graph_ends_members : Nat → Int32) (f_graph_walked : Nat → Int32) (f_graph_values : Nat → Int32) (f_graph_reached : Nat → Int32) (f_fingerprints : Nat → Int32) (q_f_arr r_f_arr s_f_arr : Nat → Int32) :
    ∃ x, F_L_lines N x_fingerprintMask 0 0 f_sorted_places x_displacer_keyCount x_displacer_bucketCount x_displacer_seed x_displacer_ranksByBucket_thingCount x_displacer_ranksByBucket_groupCount f_displacer_ranksByBucket_groups f_displacer_ranksByBucket_begins f_displacer_ranksByBucket_members f_displacer_starts f_displacer_steps f_displacer_numbers f_displacer_displacements f_displacer_ranksByNumber x_packer_bitsEach x_packer_wordCount f_packer_words x_graph_reachedCount x_graph_keyCount x_graph_vertexCount x_graph_seed x_graph_ends_thingCount x_graph_ends_groupCount f_graph_ends_groups f_graph_ends_begins f_graph_ends_members f_graph_walked f_graph_values f_graph_reached f_fingerprints 32 q_f_arr 32 r_f_arr 64 s_f_arr (nI X) (nI Y) = some x ∧ x.1 = 1 ∧ x.2.2.1 = 0 ∧ x.2.2.2.1 = 0 := by
  unfold F_L_lines
  have h20 : X / 2 % 20 < 20 := Nat.mod_lt _ (by decide)
  rw [pu_bind (show F_L_at N (nI X) 20 = some (nI (X / 2 % 20)) from pl_at (b := 20) hX (by decide) (by decide)), show (1 : Int32) + nI (X / 2 % 20) = nI (1 + X / 2 % 20) from nI_add 1 _, show nI X >>> ((5 : Int32) &&& 31) = nI (X / 2 ^ 5) from pu_shrk (k := 5) hX (by decide), pu_bind (show F_L_at N (nI (X / 2 ^ 5)) 3 = some (nI (X / 2 ^ 5 / 2 % 3)) from pl_at (b := 3) (by omega) (by decide) (by decide))]
  by_cases e : nI (X / 2 ^ 5 / 2 % 3) = 0
  · rw [if_pos e]
    exact pl_line (M := 4000) hFu (by omega) (by omega) (by decide) (by decide) hY x_fingerprintMask f_sorted_places x_displacer_keyCount x_displacer_bucketCount x_displacer_seed x_displacer_ranksByBucket_thingCount x_displacer_ranksByBucket_groupCount f_displacer_ranksByBucket_groups f_displacer_ranksByBucket_begins f_displacer_ranksByBucket_members f_displacer_starts f_displacer_steps f_displacer_numbers f_displacer_displacements f_displacer_ranksByNumber x_packer_bitsEach x_packer_wordCount f_packer_words x_graph_reachedCount x_graph_keyCount x_graph_vertexCount x_graph_seed x_graph_ends_thingCount x_graph_ends_groupCount f_graph_ends_groups f_graph_ends_begins f_graph_ends_members f_graph_walked f_graph_values f_graph_reached f_fingerprints q_f_arr r_f_arr s_f_arr
  · rw [if_neg e]
    exact pl_line (M := 300) hFu (by omega) (by omega) (by decide) (by decide) hY x_fingerprintMask f_sorted_places x_displacer_keyCount x_displacer_bucketCount x_displacer_seed x_displacer_ranksByBucket_thingCount x_displacer_ranksByBucket_groupCount f_displacer_ranksByBucket_groups f_displacer_ranksByBucket_begins f_displacer_ranksByBucket_members f_displacer_starts f_displacer_steps f_displacer_numbers f_displacer_displacements f_displacer_ranksByNumber x_packer_bitsEach x_packer_wordCount f_packer_words x_graph_reachedCount x_graph_keyCount x_graph_vertexCount x_graph_seed x_graph_ends_thingCount x_graph_ends_groupCount f_graph_ends_groups f_graph_ends_begins f_graph_ends_members f_graph_walked f_graph_values f_graph_reached f_fingerprints q_f_arr r_f_arr s_f_arr
