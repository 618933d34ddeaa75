set_option maxRecDepth 100000 in
set_option maxHeartbeats 4000000 in
theorem c_L_at (l : Launch) (G : va_G) (cI cJ : ClassId) (ad : Nat → Nat) (i0 : Int32) (i1 : Int32) (N : Nat) (x : Int32) (hF0 : F_L_at N i0 i1 = some x) : kk_I l yL_at wsL_at 0 0 0 0 [.int i0, .int i1] G cI cJ ad [] x [] := by
  refine kk_ofI (cc := cL_at) (maxL := 2) (by decide) rfl (Nat.le_of_ble_eq_true rfl) ?_
  intro p e s m below meth c A Q ls H locs hx hb hml hown hts hE hw hl hret
  have F : kk_at p m c cL_at 2 s _ wsL_at RL G cI cJ ad A := ⟨⟨hx, hb, hml, hown, hts⟩, hE⟩
  have hl : lv_has ls 2 [(0, .int i0), (1, .int i1)] := hl
  unfold F_L_at at hF0
  refine lv_iload_n hx hb dL_at_0 rfl (lv_at hl 0 rfl) ?_
  refine lv_iconst (v := 1) hx hb dL_at_1 (by decide) ?_
  refine lv_iushr hx hb dL_at_2 rfl ?_
  refine lv_iload_n hx hb dL_at_3 rfl (lv_at hl 1 rfl) ?_
  obtain ⟨u1, eu1, hF0⟩ := kk_bind hF0
  refine lv_irem hx hb dL_at_4 (kk_nz_ok eu1) ?_
  have hy := Option.some.inj hF0
  subst hy
  exact hret dL_at_5 (by decide) (by decide) hw
theorem m_L_hash_Cond_constantLong_RL_44_1000003_ : Cond.constantLong RL 44 (1000003) ∈ wsL_hash := by decide +kernel
theorem m_L_hash_Cond_constantLong_RL_42_2203_ : Cond.constantLong RL 42 (2203) ∈ wsL_hash := by decide +kernel
theorem m_L_hash_Cond_constantLong_RL_40_313_ : Cond.constantLong RL 40 (313) ∈ wsL_hash := by decide +kernel
theorem m_L_hash_Cond_constantLong_RL_38_10007_ : Cond.constantLong RL 38 (10007) ∈ wsL_hash := by decide +kernel
theorem m_L_hash_Cond_constantLong_RL_36_1009_ : Cond.constantLong RL 36 (1009) ∈ wsL_hash := by decide +kernel
theorem m_L_hash_Cond_constantLong_RL_34_101_ : Cond.constantLong RL 34 (101) ∈ wsL_hash := by decide +kernel
theorem m_L_hash_Cond_constantLong_RL_32_11_ : Cond.constantLong RL 32 (11) ∈ wsL_hash := by decide +kernel
theorem m_L_hash_Cond_constantLong_RL_30_44497_ : Cond.constantLong RL 30 (44497) ∈ wsL_hash := by decide +kernel
theorem m_L_hash_Cond_constantLong_RL_28_65537_ : Cond.constantLong RL 28 (65537) ∈ wsL_hash := by decide +kernel
theorem m_L_hash_Cond_constantLong_RL_26_39916_ : Cond.constantLong RL 26 (39916) ∈ wsL_hash := by decide +kernel
theorem m_L_hash_Cond_constantLong_RL_24_27644_ : Cond.constantLong RL 24 (27644) ∈ wsL_hash := by decide +kernel
theorem m_L_hash_Cond_constantLong_RL_22_15485_ : Cond.constantLong RL 22 (15485) ∈ wsL_hash := by decide +kernel
theorem m_L_hash_Cond_constantLong_RL_20_7919_ : Cond.constantLong RL 20 (7919) ∈ wsL_hash := by decide +kernel
theorem m_L_hash_Cond_constantLong_RL_18_756839_ : Cond.constantLong RL 18 (756839) ∈ wsL_hash := by decide +kernel
theorem m_L_hash_Cond_constantLong_RL_16_86243_ : Cond.constantLong RL 16 (86243) ∈ wsL_hash := by decide +kernel
theorem m_L_hash_Cond_constantLong_RL_14_611953_ : Cond.constantLong RL 14 (611953) ∈ wsL_hash := by decide +kernel
theorem m_L_hash_Cond_constantLong_RL_12_31337_ : Cond.constantLong RL 12 (31337) ∈ wsL_hash := by decide +kernel
theorem m_L_hash_Cond_constantLong_RL_10_104729_ : Cond.constantLong RL 10 (104729) ∈ wsL_hash := by decide +kernel
theorem m_L_hash_Cond_constantLong_RL_8_9973_ : Cond.constantLong RL 8 (9973) ∈ wsL_hash := by decide +kernel
set_option maxRecDepth 100000 in
set_option maxHeartbeats 4000000 in
theorem c_L_hash (l : Launch) (G : va_G) (cI cJ : ClassId) (ad : Nat → Nat) (i0 : Int32) (j1 : Int64) (j3 : Int64) (N : Nat) (x : Int64) (hF0 : F_L_hash N i0 j1 j3 = some x) : kk_L l yL_hash wsL_hash 0 0 0 0 [.int i0, .long j1, .long j3] G cI cJ ad [] x [] := by
  refine kk_ofL (cc := cL_hash) (maxL := 7) (by decide) rfl (Nat.le_of_ble_eq_true rfl) ?_
  intro p e s m below meth c A Q ls H locs hx hb hml hown hts hE hw hl hret
  have F : kk_at p m c cL_hash 7 s _ wsL_hash RL G cI cJ ad A := ⟨⟨hx, hb, hml, hown, hts⟩, hE⟩
  have hl : lv_has ls 7 [(0, .int i0), (1, .long j1), (3, .long j3)] := hl
  unfold F_L_hash at hF0
  have hJ1 : ∀ (s0_1 : Int64) (s1_1 : Int64), J_L_hash_184 N s0_1 s1_1 = some x → ∀ (H : Heap) (locs : List Loc) (ls : Array Slot), kk_wd G A s.heap [] H locs → lv_has ls 7 [] → W p l e (kk_rm 0 0 0 0) s m ([.int i0, .long j1, .long j3] : List Value).toArray below meth c H locs 0 0 Q (F0 m 184 ls [.long s1_1, .long s0_1]) := by
    intro s0_1 s1_1 hF0 H locs ls hw hl
    unfold J_L_hash_184 at hF0
    refine lv_ladd hx hb dL_hash_184 ?_
    refine lv_ldc2 hx hb hown (hts _ m_L_hash_Cond_constantLong_RL_44_1000003_) dL_hash_185 ?_
    refine lv_lrem hx hb dL_hash_188 (by decide) ?_
    have hy := Option.some.inj hF0
    subst hy
    exact hret dL_hash_189 (by decide) (by decide) hw
  have hJ2 : ∀ (s0_2 : Int64) (s1_2 : Int64) (s2_2 : Int64), J_L_hash_121 N i0 s0_2 s1_2 s2_2 = some x → ∀ (H : Heap) (locs : List Loc) (ls : Array Slot), kk_wd G A s.heap [] H locs → lv_has ls 7 [(0, .int i0)] → W p l e (kk_rm 0 0 0 0) s m ([.int i0, .long j1, .long j3] : List Value).toArray below meth c H locs 0 0 Q (F0 m 121 ls [.long s2_2, .long s1_2, .long s0_2]) := by
    intro s0_2 s1_2 s2_2 hF0 H locs ls hw hl
    unfold J_L_hash_121 at hF0
    refine lv_lmul hx hb dL_hash_121 ?_
    refine lv_ladd hx hb dL_hash_122 ?_
    refine lv_lstore (lv' := [(5, .long (s0_2 + (s1_2 * s2_2))), (0, .int i0)]) hx hb dL_hash_123 hl (by decide) rfl (fun ls hl => ?_)
    refine lv_lload hx hb dL_hash_125 (lv_at hl 0 rfl) ?_
    refine lv_iload_n hx hb dL_hash_127 rfl (lv_at hl 1 rfl) ?_
    refine lv_if_ne (tgt := 137) hx hb dL_hash_128 (by decide) (fun c3 => ?_) (fun c3 => ?_)
    · have hF0 := (if_neg c3).symm.trans hF0
      refine lv_iload_n hx hb dL_hash_137 rfl (lv_at hl 1 rfl) ?_
      refine lv_iconst (v := 1) hx hb dL_hash_138 (by decide) ?_
      refine lv_icmp_ne (tgt := 148) hx hb dL_hash_139 (by decide) (fun c4 => ?_) (fun c4 => ?_)
      · have hF0 := (if_neg c4).symm.trans hF0
        refine lv_iload_n hx hb dL_hash_148 rfl (lv_at hl 1 rfl) ?_
        refine lv_iconst (v := 2) hx hb dL_hash_149 (by decide) ?_
        refine lv_icmp_ne (tgt := 159) hx hb dL_hash_150 (by decide) (fun c5 => ?_) (fun c5 => ?_)
        · have hF0 := (if_neg c5).symm.trans hF0
          refine lv_iload_n hx hb dL_hash_159 rfl (lv_at hl 1 rfl) ?_
          refine lv_iconst (v := 3) hx hb dL_hash_160 (by decide) ?_
          refine lv_icmp_ne (tgt := 170) hx hb dL_hash_161 (by decide) (fun c6 => ?_) (fun c6 => ?_)
          · have hF0 := (if_neg c6).symm.trans hF0
            refine lv_iload_n hx hb dL_hash_170 rfl (lv_at hl 1 rfl) ?_
            refine lv_iconst (v := 4) hx hb dL_hash_171 (by decide) ?_
            refine lv_icmp_ne (tgt := 181) hx hb dL_hash_172 (by decide) (fun c7 => ?_) (fun c7 => ?_)
            · have hF0 := (if_neg c7).symm.trans hF0
              refine lv_ldc2 hx hb hown (hts _ m_L_hash_Cond_constantLong_RL_42_2203_) dL_hash_181 ?_
              exact hJ1 (s0_2 + (s1_2 * s2_2)) 2203 hF0 _ _ _ hw (lv_sub hl [] rfl)
            · have hF0 := (if_pos c7).symm.trans hF0
              refine lv_ldc2 hx hb hown (hts _ m_L_hash_Cond_constantLong_RL_40_313_) dL_hash_175 ?_
              refine lv_goto (tgt := 184) hx hb dL_hash_178 (by decide) ?_
              exact hJ1 (s0_2 + (s1_2 * s2_2)) 313 hF0 _ _ _ hw (lv_sub hl [] rfl)
          · have hF0 := (if_pos c6).symm.trans hF0
            refine lv_ldc2 hx hb hown (hts _ m_L_hash_Cond_constantLong_RL_38_10007_) dL_hash_164 ?_
            refine lv_goto (tgt := 184) hx hb dL_hash_167 (by decide) ?_
            exact hJ1 (s0_2 + (s1_2 * s2_2)) 10007 hF0 _ _ _ hw (lv_sub hl [] rfl)
        · have hF0 := (if_pos c5).symm.trans hF0
          refine lv_ldc2 hx hb hown (hts _ m_L_hash_Cond_constantLong_RL_36_1009_) dL_hash_153 ?_
          refine lv_goto (tgt := 184) hx hb dL_hash_156 (by decide) ?_
          exact hJ1 (s0_2 + (s1_2 * s2_2)) 1009 hF0 _ _ _ hw (lv_sub hl [] rfl)
      · have hF0 := (if_pos c4).symm.trans hF0
        refine lv_ldc2 hx hb hown (hts _ m_L_hash_Cond_constantLong_RL_34_101_) dL_hash_142 ?_
        refine lv_goto (tgt := 184) hx hb dL_hash_145 (by decide) ?_
        exact hJ1 (s0_2 + (s1_2 * s2_2)) 101 hF0 _ _ _ hw (lv_sub hl [] rfl)
    · have hF0 := (if_pos c3).symm.trans hF0
      refine lv_ldc2 hx hb hown (hts _ m_L_hash_Cond_constantLong_RL_32_11_) dL_hash_131 ?_
      refine lv_goto (tgt := 184) hx hb dL_hash_134 (by decide) ?_
      exact hJ1 (s0_2 + (s1_2 * s2_2)) 11 hF0 _ _ _ hw (lv_sub hl [] rfl)
  have hJ8 : ∀ (s0_8 : Int64) (s1_8 : Int64), J_L_hash_58 N i0 j3 s0_8 s1_8 = some x → ∀ (H : Heap) (locs : List Loc) (ls : Array Slot), kk_wd G A s.heap [] H locs → lv_has ls 7 [(0, .int i0), (3, .long j3)] → W p l e (kk_rm 0 0 0 0) s m ([.int i0, .long j1, .long j3] : List Value).toArray below meth c H locs 0 0 Q (F0 m 58 ls [.long s1_8, .long s0_8]) := by
    intro s0_8 s1_8 hF0 H locs ls hw hl
    unfold J_L_hash_58 at hF0
    refine lv_lmul hx hb dL_hash_58 ?_
    refine lv_lstore (lv' := [(5, .long (s0_8 * s1_8)), (0, .int i0), (3, .long j3)]) hx hb dL_hash_59 hl (by decide) rfl (fun ls hl => ?_)
    refine lv_lload hx hb dL_hash_61 (lv_at hl 0 rfl) ?_
    refine lv_lload_n hx hb dL_hash_63 rfl (lv_at hl 2 rfl) ?_
    refine lv_iload_n hx hb dL_hash_64 rfl (lv_at hl 1 rfl) ?_
    refine lv_if_ne (tgt := 74) hx hb dL_hash_65 (by decide) (fun c9 => ?_) (fun c9 => ?_)
    · have hF0 := (if_neg c9).symm.trans hF0
      refine lv_iload_n hx hb dL_hash_74 rfl (lv_at hl 1 rfl) ?_
      refine lv_iconst (v := 1) hx hb dL_hash_75 (by decide) ?_
      refine lv_icmp_ne (tgt := 85) hx hb dL_hash_76 (by decide) (fun c10 => ?_) (fun c10 => ?_)
      · have hF0 := (if_neg c10).symm.trans hF0
        refine lv_iload_n hx hb dL_hash_85 rfl (lv_at hl 1 rfl) ?_
        refine lv_iconst (v := 2) hx hb dL_hash_86 (by decide) ?_
        refine lv_icmp_ne (tgt := 96) hx hb dL_hash_87 (by decide) (fun c11 => ?_) (fun c11 => ?_)
        · have hF0 := (if_neg c11).symm.trans hF0
          refine lv_iload_n hx hb dL_hash_96 rfl (lv_at hl 1 rfl) ?_
          refine lv_iconst (v := 3) hx hb dL_hash_97 (by decide) ?_
          refine lv_icmp_ne (tgt := 107) hx hb dL_hash_98 (by decide) (fun c12 => ?_) (fun c12 => ?_)
          · have hF0 := (if_neg c12).symm.trans hF0
            refine lv_iload_n hx hb dL_hash_107 rfl (lv_at hl 1 rfl) ?_
            refine lv_iconst (v := 4) hx hb dL_hash_108 (by decide) ?_
            refine lv_icmp_ne (tgt := 118) hx hb dL_hash_109 (by decide) (fun c13 => ?_) (fun c13 => ?_)
            · have hF0 := (if_neg c13).symm.trans hF0
              refine lv_ldc2 hx hb hown (hts _ m_L_hash_Cond_constantLong_RL_30_44497_) dL_hash_118 ?_
              exact hJ2 (s0_8 * s1_8) j3 44497 hF0 _ _ _ hw (lv_sub hl [1] rfl)
            · have hF0 := (if_pos c13).symm.trans hF0
              refine lv_ldc2 hx hb hown (hts _ m_L_hash_Cond_constantLong_RL_28_65537_) dL_hash_112 ?_
              refine lv_goto (tgt := 121) hx hb dL_hash_115 (by decide) ?_
              exact hJ2 (s0_8 * s1_8) j3 65537 hF0 _ _ _ hw (lv_sub hl [1] rfl)
          · have hF0 := (if_pos c12).symm.trans hF0
            refine lv_ldc2 hx hb hown (hts _ m_L_hash_Cond_constantLong_RL_26_39916_) dL_hash_101 ?_
            refine lv_goto (tgt := 121) hx hb dL_hash_104 (by decide) ?_
            exact hJ2 (s0_8 * s1_8) j3 39916 hF0 _ _ _ hw (lv_sub hl [1] rfl)
        · have hF0 := (if_pos c11).symm.trans hF0
          refine lv_ldc2 hx hb hown (hts _ m_L_hash_Cond_constantLong_RL_24_27644_) dL_hash_90 ?_
          refine lv_goto (tgt := 121) hx hb dL_hash_93 (by decide) ?_
          exact hJ2 (s0_8 * s1_8) j3 27644 hF0 _ _ _ hw (lv_sub hl [1] rfl)
      · have hF0 := (if_pos c10).symm.trans hF0
        refine lv_ldc2 hx hb hown (hts _ m_L_hash_Cond_constantLong_RL_22_15485_) dL_hash_79 ?_
        refine lv_goto (tgt := 121) hx hb dL_hash_82 (by decide) ?_
        exact hJ2 (s0_8 * s1_8) j3 15485 hF0 _ _ _ hw (lv_sub hl [1] rfl)
    · have hF0 := (if_pos c9).symm.trans hF0
      refine lv_ldc2 hx hb hown (hts _ m_L_hash_Cond_constantLong_RL_20_7919_) dL_hash_68 ?_
      refine lv_goto (tgt := 121) hx hb dL_hash_71 (by decide) ?_
      exact hJ2 (s0_8 * s1_8) j3 7919 hF0 _ _ _ hw (lv_sub hl [1] rfl)
  refine lv_lload_n hx hb dL_hash_0 rfl (lv_at hl 1 rfl) ?_
  refine lv_iload_n hx hb dL_hash_1 rfl (lv_at hl 0 rfl) ?_
  refine lv_if_ne (tgt := 11) hx hb dL_hash_2 (by decide) (fun c14 => ?_) (fun c14 => ?_)
  · have hF0 := (if_neg c14).symm.trans hF0
    refine lv_iload_n hx hb dL_hash_11 rfl (lv_at hl 0 rfl) ?_
    refine lv_iconst (v := 1) hx hb dL_hash_12 (by decide) ?_
    refine lv_icmp_ne (tgt := 22) hx hb dL_hash_13 (by decide) (fun c15 => ?_) (fun c15 => ?_)
    · have hF0 := (if_neg c15).symm.trans hF0
      refine lv_iload_n hx hb dL_hash_22 rfl (lv_at hl 0 rfl) ?_
      refine lv_iconst (v := 2) hx hb dL_hash_23 (by decide) ?_
      refine lv_icmp_ne (tgt := 33) hx hb dL_hash_24 (by decide) (fun c16 => ?_) (fun c16 => ?_)
      · have hF0 := (if_neg c16).symm.trans hF0
        refine lv_iload_n hx hb dL_hash_33 rfl (lv_at hl 0 rfl) ?_
        refine lv_iconst (v := 3) hx hb dL_hash_34 (by decide) ?_
        refine lv_icmp_ne (tgt := 44) hx hb dL_hash_35 (by decide) (fun c17 => ?_) (fun c17 => ?_)
        · have hF0 := (if_neg c17).symm.trans hF0
          refine lv_iload_n hx hb dL_hash_44 rfl (lv_at hl 0 rfl) ?_
          refine lv_iconst (v := 4) hx hb dL_hash_45 (by decide) ?_
          refine lv_icmp_ne (tgt := 55) hx hb dL_hash_46 (by decide) (fun c18 => ?_) (fun c18 => ?_)
          · have hF0 := (if_neg c18).symm.trans hF0
            refine lv_ldc2 hx hb hown (hts _ m_L_hash_Cond_constantLong_RL_18_756839_) dL_hash_55 ?_
            exact hJ8 j1 756839 hF0 _ _ _ hw (lv_sub hl [0, 2] rfl)
          · have hF0 := (if_pos c18).symm.trans hF0
            refine lv_ldc2 hx hb hown (hts _ m_L_hash_Cond_constantLong_RL_16_86243_) dL_hash_49 ?_
            refine lv_goto (tgt := 58) hx hb dL_hash_52 (by decide) ?_
            exact hJ8 j1 86243 hF0 _ _ _ hw (lv_sub hl [0, 2] rfl)
        · have hF0 := (if_pos c17).symm.trans hF0
          refine lv_ldc2 hx hb hown (hts _ m_L_hash_Cond_constantLong_RL_14_611953_) dL_hash_38 ?_
          refine lv_goto (tgt := 58) hx hb dL_hash_41 (by decide) ?_
          exact hJ8 j1 611953 hF0 _ _ _ hw (lv_sub hl [0, 2] rfl)
      · have hF0 := (if_pos c16).symm.trans hF0
        refine lv_ldc2 hx hb hown (hts _ m_L_hash_Cond_constantLong_RL_12_31337_) dL_hash_27 ?_
        refine lv_goto (tgt := 58) hx hb dL_hash_30 (by decide) ?_
        exact hJ8 j1 31337 hF0 _ _ _ hw (lv_sub hl [0, 2] rfl)
    · have hF0 := (if_pos c15).symm.trans hF0
      refine lv_ldc2 hx hb hown (hts _ m_L_hash_Cond_constantLong_RL_10_104729_) dL_hash_16 ?_
      refine lv_goto (tgt := 58) hx hb dL_hash_19 (by decide) ?_
      exact hJ8 j1 104729 hF0 _ _ _ hw (lv_sub hl [0, 2] rfl)
  · have hF0 := (if_pos c14).symm.trans hF0
    refine lv_ldc2 hx hb hown (hts _ m_L_hash_Cond_constantLong_RL_8_9973_) dL_hash_5 ?_
    refine lv_goto (tgt := 58) hx hb dL_hash_8 (by decide) ?_
    exact hJ8 j1 9973 hF0 _ _ _ hw (lv_sub hl [0, 2] rfl)
set_option maxRecDepth 100000 in
set_option maxHeartbeats 4000000 in
theorem c_L_ones (l : Launch) (G : va_G) (cI cJ : ClassId) (ad : Nat → Nat) (j0 : Int64) (N : Nat) (x : Int32) (hF0 : F_L_ones N j0 = some x) : kk_I l yL_ones wsL_ones 0 0 0 0 [.long j0] G cI cJ ad [] x [] := by
  refine kk_ofI (cc := cL_ones) (maxL := 5) (by decide) rfl (Nat.le_of_ble_eq_true rfl) ?_
  intro p e s m below meth c A Q ls H locs hx hb hml hown hts hE hw hl hret
  have F : kk_at p m c cL_ones 5 s _ wsL_ones RL G cI cJ ad A := ⟨⟨hx, hb, hml, hown, hts⟩, hE⟩
  have hl : lv_has ls 5 [(0, .long j0)] := hl
  unfold F_L_ones at hF0
  have hJ1 : ∀ (i2_1 : Int32), J_L_ones_24 N i2_1 = some x → ∀ (H : Heap) (locs : List Loc) (ls : Array Slot), kk_wd G A s.heap [] H locs → lv_has ls 5 [(2, .int i2_1)] → W p l e (kk_rm 0 0 0 0) s m ([.long j0] : List Value).toArray below meth c H locs 0 0 Q (F0 m 24 ls []) := by
    intro i2_1 hF0 H locs ls hw hl
    unfold J_L_ones_24 at hF0
    refine lv_iload_n hx hb dL_ones_24 rfl (lv_at hl 0 rfl) ?_
    have hy := Option.some.inj hF0
    subst hy
    exact hret dL_ones_25 (by decide) (by decide) hw
  refine lv_iconst (v := 0) hx hb dL_ones_0 (by decide) ?_
  refine lv_istore_n (lv' := [(2, .int 0), (0, .long j0)]) hx hb dL_ones_1 rfl hl (by decide) rfl (fun ls hl => ?_)
  refine lv_lload_n hx hb dL_ones_2 rfl (lv_at hl 1 rfl) ?_
  refine lv_lstore_n (lv' := [(3, .long j0), (2, .int 0), (0, .long j0)]) hx hb dL_ones_3 rfl hl (by decide) rfl (fun ls hl => ?_)
  obtain ⟨z2, hz3, hF0⟩ := kk_bind hF0
  have hL3 : ∀ (n3 : Nat) (i2_3 : Int32) (j3_3 : Int64), kk_iter (fun (σ : (Int32 × Int64)) => L_L_ones_4 N σ.1 σ.2) n3 (i2_3, j3_3) = some z2 → ∀ (H : Heap) (locs : List Loc) (ls : Array Slot), kk_wd G A s.heap [] H locs → lv_has ls 5 [(2, .int i2_3), (3, .long j3_3)] → W p l e (kk_rm 0 0 0 0) s m ([.long j0] : List Value).toArray below meth c H locs 0 0 Q (F0 m 4 ls []) := by
    intro n3
    induction n3 with
    | zero => intro i2_3 j3_3 h; exact kk_iter0 h
    | succ n3 ih3 =>
      intro i2_3 j3_3 hq H locs ls hw hl
      obtain ⟨y3, hF1, hI1⟩ := kk_iterS hq
      have hF1 : L_L_ones_4 N i2_3 j3_3 = some y3 := hF1
      unfold L_L_ones_4 at hF1
      refine lv_lload_n hx hb dL_ones_4 rfl (lv_at hl 1 rfl) ?_
      refine lv_lconst (v := 0) hx hb dL_ones_5 (by decide) ?_
      refine W.lcmp hx hb dL_ones_6 ?_
      refine lv_if_eq (tgt := 24) hx hb dL_ones_7 (by decide) (fun c4 => ?_) (fun c4 => ?_)
      · have hF1 := (if_pos c4).symm.trans hF1
        have hy := Option.some.inj hF1
        subst hy
        have hz := Option.some.inj hI1
        subst hz
        exact hJ1 i2_3 hF0 _ _ _ hw (lv_sub hl [0] rfl)
      · have hF1 := (if_neg c4).symm.trans hF1
        refine lv_iload_n hx hb dL_ones_10 rfl (lv_at hl 0 rfl) ?_
        refine lv_lload_n hx hb dL_ones_11 rfl (lv_at hl 1 rfl) ?_
        refine lv_lconst (v := 1) hx hb dL_ones_12 (by decide) ?_
        refine lv_land hx hb dL_ones_13 ?_
        refine lv_l2i hx hb dL_ones_14 rfl ?_
        refine lv_iadd hx hb dL_ones_15 ?_
        refine lv_istore_n (lv' := [(2, .int (i2_3 + (Int64.toInt32 (j3_3 &&& 1)))), (3, .long j3_3)]) hx hb dL_ones_16 rfl hl (by decide) rfl (fun ls hl => ?_)
        refine lv_lload_n hx hb dL_ones_17 rfl (lv_at hl 1 rfl) ?_
        refine lv_iconst (v := 1) hx hb dL_ones_18 (by decide) ?_
        refine lv_lushr hx hb dL_ones_19 rfl ?_
        refine lv_lstore_n (lv' := [(3, .long (UInt64.toInt64 (Int64.toUInt64 j3_3 >>> (Int64.toUInt64 (Int32.toInt64 1) &&& Int64.toUInt64 63)))), (2, .int (i2_3 + (Int64.toInt32 (j3_3 &&& 1))))]) hx hb dL_ones_20 rfl hl (by decide) rfl (fun ls hl => ?_)
        refine lv_goto (tgt := 4) hx hb dL_ones_21 (by decide) ?_
        have hy := Option.some.inj hF1
        subst hy
        exact ih3 (i2_3 + (Int64.toInt32 (j3_3 &&& 1))) (UInt64.toInt64 (Int64.toUInt64 j3_3 >>> (Int64.toUInt64 (Int32.toInt64 1) &&& Int64.toUInt64 63))) hI1 _ _ _ hw (lv_sub hl [1, 0] rfl)
  exact hL3 N 0 j0 hz3 _ _ _ hw (lv_sub hl [1, 0] rfl)
theorem m_L_displaced_Cond_constantLong_RL_56_1_ : Cond.constantLong RL 56 (-1) ∈ wsL_displaced := by decide +kernel
set_option maxRecDepth 100000 in
set_option maxHeartbeats 4000000 in
theorem c_L_displaced (l : Launch) (G : va_G) (cI cJ : ClassId) (ad : Nat → Nat) (a0 b0 : Nat) (n_arr : Nat) (f_arr : Nat → Int32) (q_n_arr : Nat) (q_f_arr : Nat → Int32) (i0 : Int32) (i1 : Int32) (N : Nat) (x : (Int32 × (Nat → Int32))) (hF0 : F_L_displaced N n_arr f_arr q_n_arr q_f_arr i0 i1 = some x) : kk_I l yL_displaced wsL_displaced 1 0 0 26 [.int i0, .int i1, .ref a0, .ref b0] G cI cJ ad [(a0, .inl (cI, n_arr, .inl f_arr)), (b0, .inl (cI, q_n_arr, .inl q_f_arr))] x.1 [(a0, .inl (cI, n_arr, .inl f_arr)), (b0, .inl (cI, q_n_arr, .inl x.2))] := by
  refine kk_ofZ (cc := cL_displaced) (maxL := 17) (by decide) rfl (Nat.le_of_ble_eq_true rfl) ?_
  intro p e s m below meth c A Q ls H locs hx hb hml hown hts hE hw hl hret
  have F : kk_at p m c cL_displaced 17 s _ wsL_displaced RL G cI cJ ad A := ⟨⟨hx, hb, hml, hown, hts⟩, hE⟩
  have hl : lv_has ls 17 [(0, .int i0), (1, .int i1), (2, .ref a0), (3, .ref b0)] := hl
  unfold F_L_displaced at hF0
  have hJ1 : ∀ (q_f_arr_1 : Nat → Int32), J_L_displaced_302 N q_f_arr_1 = some x → ∀ (H : Heap) (locs : List Loc) (ls : Array Slot), kk_wd G A s.heap [(a0, .inl (cI, n_arr, .inl f_arr)), (b0, .inl (cI, q_n_arr, .inl q_f_arr_1))] H locs → lv_has ls 17 [] → W p l e (kk_rm 1 0 0 26) s m ([.int i0, .int i1, .ref a0, .ref b0] : List Value).toArray below meth c H locs 0 0 Q (F0 m 302 ls []) := by
    intro q_f_arr_1 hF0 H locs ls hw hl
    unfold J_L_displaced_302 at hF0
    refine lv_iconst (v := 0) hx hb dL_displaced_302 (by decide) ?_
    have hy := Option.some.inj hF0
    subst hy
    exact hret dL_displaced_303 (by decide) (by decide) (Or.inl rfl) hw
  have hJ2 : ∀ (q_f_arr_2 : Nat → Int32), J_L_displaced_294 N q_f_arr_2 = some x → ∀ (H : Heap) (locs : List Loc) (ls : Array Slot), kk_wd G A s.heap [(a0, .inl (cI, n_arr, .inl f_arr)), (b0, .inl (cI, q_n_arr, .inl q_f_arr_2))] H locs → lv_has ls 17 [] → W p l e (kk_rm 1 0 0 26) s m ([.int i0, .int i1, .ref a0, .ref b0] : List Value).toArray below meth c H locs 0 0 Q (F0 m 294 ls []) := by
    intro q_f_arr_2 hF0 H locs ls hw hl
    unfold J_L_displaced_294 at hF0
    refine lv_iconst (v := 1) hx hb dL_displaced_294 (by decide) ?_
    have hy := Option.some.inj hF0
    subst hy
    exact hret dL_displaced_295 (by decide) (by decide) (Or.inr rfl) hw
  refine lv_iconst (v := 0) hx hb dL_displaced_0 (by decide) ?_
  refine lv_istore (lv' := [(4, .int 0), (0, .int i0), (1, .int i1), (2, .ref a0), (3, .ref b0)]) hx hb dL_displaced_1 hl (by decide) rfl (fun ls hl => ?_)
  obtain ⟨z3, hz6, hF0⟩ := kk_bind hF0
  have hL6 : ∀ (n6 : Nat) (q_f_arr_6 : Nat → Int32) (i4_6 : Int32), kk_iter (fun (σ : ((Nat → Int32) × Int32)) => L_L_displaced_3 N n_arr q_n_arr f_arr i0 i1 σ.1 σ.2) n6 (q_f_arr_6, i4_6) = some z3 → ∀ (H : Heap) (locs : List Loc) (ls : Array Slot), kk_wd G A s.heap [(a0, .inl (cI, n_arr, .inl f_arr)), (b0, .inl (cI, q_n_arr, .inl q_f_arr_6))] H locs → lv_has ls 17 [(0, .int i0), (1, .int i1), (2, .ref a0), (3, .ref b0), (4, .int i4_6)] → W p l e (kk_rm 1 0 0 26) s m ([.int i0, .int i1, .ref a0, .ref b0] : List Value).toArray below meth c H locs 0 0 Q (F0 m 3 ls []) := by
    intro n6
    induction n6 with
    | zero => intro q_f_arr_6 i4_6 h; exact kk_iter0 h
    | succ n6 ih6 =>
      intro q_f_arr_6 i4_6 hq H locs ls hw hl
      obtain ⟨y6, hF1, hI1⟩ := kk_iterS hq
      have hF1 : L_L_displaced_3 N n_arr q_n_arr f_arr i0 i1 q_f_arr_6 i4_6 = some y6 := hF1
      unfold L_L_displaced_3 at hF1
      have hJ7 : ∀ (q_f_arr_7 : Nat → Int32) (i4_7 : Int32) (i7_7 : Int32), J_L_displaced_289 N q_f_arr_7 i4_7 i7_7 = some y6 → ∀ (H : Heap) (locs : List Loc) (ls : Array Slot), kk_wd G A s.heap [(a0, .inl (cI, n_arr, .inl f_arr)), (b0, .inl (cI, q_n_arr, .inl q_f_arr_7))] H locs → lv_has ls 17 [(0, .int i0), (1, .int i1), (2, .ref a0), (3, .ref b0), (4, .int i4_7), (7, .int i7_7)] → W p l e (kk_rm 1 0 0 26) s m ([.int i0, .int i1, .ref a0, .ref b0] : List Value).toArray below meth c H locs 0 0 Q (F0 m 289 ls []) := by
        intro q_f_arr_7 i4_7 i7_7 hF1 H locs ls hw hl
        unfold J_L_displaced_289 at hF1
        refine lv_iload hx hb dL_displaced_289 (lv_at hl 5 rfl) ?_
        refine lv_if_eq (tgt := 296) hx hb dL_displaced_291 (by decide) (fun c8 => ?_) (fun c8 => ?_)
        · have hF1 := (if_pos c8).symm.trans hF1
          refine lv_iinc (v := (i4_7 + 1)) (lv' := [(4, .int (i4_7 + 1)), (0, .int i0), (1, .int i1), (2, .ref a0), (3, .ref b0), (7, .int i7_7)]) hx hb dL_displaced_296 hl (k := 4) rfl rfl (by decide) rfl (fun ls hl => ?_)
          refine lv_goto (tgt := 3) hx hb dL_displaced_299 (by decide) ?_
          have hy := Option.some.inj hF1
          subst hy
          exact ih6 q_f_arr_7 (i4_7 + 1) hI1 _ _ _ hw (lv_sub hl [1, 2, 3, 4, 0] rfl)
        · have hF1 := (if_neg c8).symm.trans hF1
          have hy := Option.some.inj hF1
          subst hy
          have hz := Option.some.inj hI1
          subst hz
          exact hJ2 q_f_arr_7 hF0 _ _ _ hw (lv_sub hl [] rfl)
      have hJ9 : ∀ (q_f_arr_9 : Nat → Int32) (i4_9 : Int32) (j5_9 : Int64) (i7_9 : Int32), J_L_displaced_51 N n_arr q_n_arr f_arr q_f_arr_9 i0 i1 i4_9 j5_9 i7_9 = some y6 → ∀ (H : Heap) (locs : List Loc) (ls : Array Slot), kk_wd G A s.heap [(a0, .inl (cI, n_arr, .inl f_arr)), (b0, .inl (cI, q_n_arr, .inl q_f_arr_9))] H locs → lv_has ls 17 [(0, .int i0), (1, .int i1), (2, .ref a0), (3, .ref b0), (4, .int i4_9), (5, .long j5_9), (7, .int i7_9)] → W p l e (kk_rm 1 0 0 26) s m ([.int i0, .int i1, .ref a0, .ref b0] : List Value).toArray below meth c H locs 0 0 Q (F0 m 51 ls []) := by
        intro q_f_arr_9 i4_9 j5_9 i7_9 hF1 H locs ls hw hl
        unfold J_L_displaced_51 at hF1
        refine lv_iload_n hx hb dL_displaced_51 rfl (lv_at hl 0 rfl) ?_
        refine lv_istore (lv' := [(8, .int i0), (0, .int i0), (1, .int i1), (2, .ref a0), (3, .ref b0), (4, .int i4_9), (5, .long j5_9), (7, .int i7_9)]) hx hb dL_displaced_52 hl (by decide) rfl (fun ls hl => ?_)
        obtain ⟨z10, hz11, hF1⟩ := kk_bind hF1
        have hL11 : ∀ (n11 : Nat) (j5_11 : Int64) (i7_11 : Int32) (i8_11 : Int32), kk_iter (fun (σ : (Int64 × Int32 × Int32)) => L_L_displaced_54 N n_arr q_n_arr f_arr q_f_arr_9 i0 i1 i4_9 σ.1 σ.2.1 σ.2.2) n11 (j5_11, i7_11, i8_11) = some z10 → ∀ (H : Heap) (locs : List Loc) (ls : Array Slot), kk_wd G A s.heap [(a0, .inl (cI, n_arr, .inl f_arr)), (b0, .inl (cI, q_n_arr, .inl q_f_arr_9))] H locs → lv_has ls 17 [(0, .int i0), (1, .int i1), (2, .ref a0), (3, .ref b0), (4, .int i4_9), (5, .long j5_11), (7, .int i7_11), (8, .int i8_11)] → W p l e (kk_rm 1 0 0 26) s m ([.int i0, .int i1, .ref a0, .ref b0] : List Value).toArray below meth c H locs 0 0 Q (F0 m 54 ls []) := by
          intro n11
          induction n11 with
          | zero => intro j5_11 i7_11 i8_11 h; exact kk_iter0 h
          | succ n11 ih11 =>
            intro j5_11 i7_11 i8_11 hq H locs ls hw hl
            obtain ⟨y11, hF2, hI2⟩ := kk_iterS hq
            have hF2 : L_L_displaced_54 N n_arr q_n_arr f_arr q_f_arr_9 i0 i1 i4_9 j5_11 i7_11 i8_11 = some y11 := hF2
            unfold L_L_displaced_54 at hF2
            have hJ12 : ∀ (j5_12 : Int64) (i7_12 : Int32) (i8_12 : Int32), J_L_displaced_283 N j5_12 i7_12 i8_12 = some y11 → ∀ (H : Heap) (locs : List Loc) (ls : Array Slot), kk_wd G A s.heap [(a0, .inl (cI, n_arr, .inl f_arr)), (b0, .inl (cI, q_n_arr, .inl q_f_arr_9))] H locs → lv_has ls 17 [(0, .int i0), (1, .int i1), (2, .ref a0), (3, .ref b0), (4, .int i4_9), (5, .long j5_12), (7, .int i7_12), (8, .int i8_12)] → W p l e (kk_rm 1 0 0 26) s m ([.int i0, .int i1, .ref a0, .ref b0] : List Value).toArray below meth c H locs 0 0 Q (F0 m 283 ls []) := by
              intro j5_12 i7_12 i8_12 hF2 H locs ls hw hl
              unfold J_L_displaced_283 at hF2
              refine lv_iinc (v := (i8_12 + (-1))) (lv' := [(8, .int (i8_12 + (-1))), (0, .int i0), (1, .int i1), (2, .ref a0), (3, .ref b0), (4, .int i4_9), (5, .long j5_12), (7, .int i7_12)]) hx hb dL_displaced_283 hl (k := 7) rfl rfl (by decide) rfl (fun ls hl => ?_)
              refine lv_goto (tgt := 54) hx hb dL_displaced_286 (by decide) ?_
              have hy := Option.some.inj hF2
              subst hy
              exact ih11 j5_12 i7_12 (i8_12 + (-1)) hI2 _ _ _ hw (lv_sub hl [1, 2, 3, 4, 5, 6, 7, 0] rfl)
            refine lv_iload hx hb dL_displaced_54 (lv_at hl 7 rfl) ?_
            refine lv_if_le (tgt := 289) hx hb dL_displaced_56 (by decide) (fun c13 => ?_) (fun c13 => ?_)
            · have hF2 := (if_pos c13).symm.trans hF2
              have hy := Option.some.inj hF2
              subst hy
              have hz := Option.some.inj hI2
              subst hz
              exact hJ7 q_f_arr_9 i4_9 i7_11 hF1 _ _ _ hw (lv_sub hl [0, 1, 2, 3, 4, 6] rfl)
            · have hF2 := (if_neg c13).symm.trans hF2
              refine lv_iload hx hb dL_displaced_59 (lv_at hl 6 rfl) ?_
              refine lv_if_eq (tgt := 289) hx hb dL_displaced_61 (by decide) (fun c14 => ?_) (fun c14 => ?_)
              · have hF2 := (if_pos c14).symm.trans hF2
                have hy := Option.some.inj hF2
                subst hy
                have hz := Option.some.inj hI2
                subst hz
                exact hJ7 q_f_arr_9 i4_9 i7_11 hF1 _ _ _ hw (lv_sub hl [0, 1, 2, 3, 4, 6] rfl)
              · have hF2 := (if_neg c14).symm.trans hF2
                refine lv_iconst (v := 0) hx hb dL_displaced_64 (by decide) ?_
                refine lv_istore (lv' := [(9, .int 0), (0, .int i0), (1, .int i1), (2, .ref a0), (3, .ref b0), (4, .int i4_9), (5, .long j5_11), (7, .int i7_11), (8, .int i8_11)]) hx hb dL_displaced_65 hl (by decide) rfl (fun ls hl => ?_)
                obtain ⟨z15, hz16, hF2⟩ := kk_bind hF2
                have hL16 : ∀ (n16 : Nat) (j5_16 : Int64) (i7_16 : Int32) (i9_16 : Int32), kk_iter (fun (σ : (Int64 × Int32 × Int32)) => L_L_displaced_67 N n_arr q_n_arr f_arr q_f_arr_9 i0 i1 i4_9 i8_11 σ.1 σ.2.1 σ.2.2) n16 (j5_16, i7_16, i9_16) = some z15 → ∀ (H : Heap) (locs : List Loc) (ls : Array Slot), kk_wd G A s.heap [(a0, .inl (cI, n_arr, .inl f_arr)), (b0, .inl (cI, q_n_arr, .inl q_f_arr_9))] H locs → lv_has ls 17 [(0, .int i0), (1, .int i1), (2, .ref a0), (3, .ref b0), (4, .int i4_9), (5, .long j5_16), (7, .int i7_16), (8, .int i8_11), (9, .int i9_16)] → W p l e (kk_rm 1 0 0 26) s m ([.int i0, .int i1, .ref a0, .ref b0] : List Value).toArray below meth c H locs 0 0 Q (F0 m 67 ls []) := by
                  intro n16
                  induction n16 with
                  | zero => intro j5_16 i7_16 i9_16 h; exact kk_iter0 h
                  | succ n16 ih16 =>
                    intro j5_16 i7_16 i9_16 hq H locs ls hw hl
                    obtain ⟨y16, hF3, hI3⟩ := kk_iterS hq
                    have hF3 : L_L_displaced_67 N n_arr q_n_arr f_arr q_f_arr_9 i0 i1 i4_9 i8_11 j5_16 i7_16 i9_16 = some y16 := hF3
                    unfold L_L_displaced_67 at hF3
                    have hJ17 : ∀ (j5_17 : Int64) (i7_17 : Int32) (i9_17 : Int32), J_L_displaced_277 N j5_17 i7_17 i9_17 = some y16 → ∀ (H : Heap) (locs : List Loc) (ls : Array Slot), kk_wd G A s.heap [(a0, .inl (cI, n_arr, .inl f_arr)), (b0, .inl (cI, q_n_arr, .inl q_f_arr_9))] H locs → lv_has ls 17 [(0, .int i0), (1, .int i1), (2, .ref a0), (3, .ref b0), (4, .int i4_9), (5, .long j5_17), (7, .int i7_17), (8, .int i8_11), (9, .int i9_17)] → W p l e (kk_rm 1 0 0 26) s m ([.int i0, .int i1, .ref a0, .ref b0] : List Value).toArray below meth c H locs 0 0 Q (F0 m 277 ls []) := by
                      intro j5_17 i7_17 i9_17 hF3 H locs ls hw hl
                      unfold J_L_displaced_277 at hF3
                      refine lv_iinc (v := (i9_17 + 1)) (lv' := [(9, .int (i9_17 + 1)), (0, .int i0), (1, .int i1), (2, .ref a0), (3, .ref b0), (4, .int i4_9), (5, .long j5_17), (7, .int i7_17), (8, .int i8_11)]) hx hb dL_displaced_277 hl (k := 8) rfl rfl (by decide) rfl (fun ls hl => ?_)
                      refine lv_goto (tgt := 67) hx hb dL_displaced_280 (by decide) ?_
                      have hy := Option.some.inj hF3
                      subst hy
                      exact ih16 j5_17 i7_17 (i9_17 + 1) hI3 _ _ _ hw (lv_sub hl [1, 2, 3, 4, 5, 6, 7, 8, 0] rfl)
                    have hJ18 : ∀ (j5_18 : Int64) (i9_18 : Int32) (j11_18 : Int64) (s0_18 : Int32), J_L_displaced_268 N j5_18 i9_18 j11_18 s0_18 = some y16 → ∀ (H : Heap) (locs : List Loc) (ls : Array Slot), kk_wd G A s.heap [(a0, .inl (cI, n_arr, .inl f_arr)), (b0, .inl (cI, q_n_arr, .inl q_f_arr_9))] H locs → lv_has ls 17 [(0, .int i0), (1, .int i1), (2, .ref a0), (3, .ref b0), (4, .int i4_9), (5, .long j5_18), (8, .int i8_11), (9, .int i9_18), (11, .long j11_18)] → W p l e (kk_rm 1 0 0 26) s m ([.int i0, .int i1, .ref a0, .ref b0] : List Value).toArray below meth c H locs 0 0 Q (F0 m 268 ls [.int s0_18]) := by
                      intro j5_18 i9_18 j11_18 s0_18 hF3 H locs ls hw hl
                      unfold J_L_displaced_268 at hF3
                      refine lv_istore (lv' := [(7, .int s0_18), (0, .int i0), (1, .int i1), (2, .ref a0), (3, .ref b0), (4, .int i4_9), (5, .long j5_18), (8, .int i8_11), (9, .int i9_18), (11, .long j11_18)]) hx hb dL_displaced_268 hl (by decide) rfl (fun ls hl => ?_)
                      refine lv_lload hx hb dL_displaced_270 (lv_at hl 6 rfl) ?_
                      refine lv_lload hx hb dL_displaced_272 (lv_at hl 9 rfl) ?_
                      refine lv_lor hx hb dL_displaced_274 ?_
                      refine lv_lstore (lv' := [(5, .long (j5_18 ||| j11_18)), (7, .int s0_18), (0, .int i0), (1, .int i1), (2, .ref a0), (3, .ref b0), (4, .int i4_9), (8, .int i8_11), (9, .int i9_18), (11, .long j11_18)]) hx hb dL_displaced_275 hl (by decide) rfl (fun ls hl => ?_)
                      exact hJ17 (j5_18 ||| j11_18) s0_18 i9_18 hF3 _ _ _ hw (lv_sub hl [2, 3, 4, 5, 6, 0, 1, 7, 8] rfl)
                    have hJ19 : ∀ (j5_19 : Int64) (i9_19 : Int32) (j11_19 : Int64), J_L_displaced_253 N j5_19 i8_11 i9_19 j11_19 = some y16 → ∀ (H : Heap) (locs : List Loc) (ls : Array Slot), kk_wd G A s.heap [(a0, .inl (cI, n_arr, .inl f_arr)), (b0, .inl (cI, q_n_arr, .inl q_f_arr_9))] H locs → lv_has ls 17 [(0, .int i0), (1, .int i1), (2, .ref a0), (3, .ref b0), (4, .int i4_9), (5, .long j5_19), (8, .int i8_11), (9, .int i9_19), (11, .long j11_19)] → W p l e (kk_rm 1 0 0 26) s m ([.int i0, .int i1, .ref a0, .ref b0] : List Value).toArray below meth c H locs 0 0 Q (F0 m 253 ls []) := by
                      intro j5_19 i9_19 j11_19 hF3 H locs ls hw hl
                      unfold J_L_displaced_253 at hF3
                      refine lv_lload hx hb dL_displaced_253 (lv_at hl 8 rfl) ?_
                      obtain ⟨v20, ev20, hF3⟩ := kk_bind hF3
                      refine kk_callI 0 0 hw (kk_runS (As := [.long j11_19]) (rest := []) F hw hl.1 (c_L_ones l G cI cJ ad j11_19 N v20 ev20 H.size) gL_displaced_L_ones rfl md_L_ones ⟨Nat.le_of_ble_eq_true rfl, Nat.le_of_ble_eq_true rfl⟩ ⟨Nat.le_of_ble_eq_true rfl, Nat.le_of_ble_eq_true rfl⟩ rfl (Nat.le_of_ble_eq_true rfl) dL_displaced_255) ⟨rfl, rfl⟩ [] (by decide) rfl rfl (fun H locs hw => ?_)
                      refine lv_iload hx hb dL_displaced_258 (lv_at hl 6 rfl) ?_
                      refine lv_icmp_ne (tgt := 267) hx hb dL_displaced_260 (by decide) (fun c21 => ?_) (fun c21 => ?_)
                      · have hF3 := (if_neg c21).symm.trans hF3
                        refine lv_iconst (v := 0) hx hb dL_displaced_267 (by decide) ?_
                        exact hJ18 j5_19 i9_19 j11_19 0 hF3 _ _ _ hw (lv_sub hl [0, 1, 2, 3, 4, 5, 6, 7, 8] rfl)
                      · have hF3 := (if_pos c21).symm.trans hF3
                        refine lv_iconst (v := 1) hx hb dL_displaced_263 (by decide) ?_
                        refine lv_goto (tgt := 268) hx hb dL_displaced_264 (by decide) ?_
                        exact hJ18 j5_19 i9_19 j11_19 1 hF3 _ _ _ hw (lv_sub hl [0, 1, 2, 3, 4, 5, 6, 7, 8] rfl)
                    have hJ22 : ∀ (j5_22 : Int64) (i7_22 : Int32) (i9_22 : Int32) (i10_22 : Int32), J_L_displaced_115 N n_arr q_n_arr f_arr q_f_arr_9 i0 i4_9 j5_22 i7_22 i8_11 i9_22 i10_22 = some y16 → ∀ (H : Heap) (locs : List Loc) (ls : Array Slot), kk_wd G A s.heap [(a0, .inl (cI, n_arr, .inl f_arr)), (b0, .inl (cI, q_n_arr, .inl q_f_arr_9))] H locs → lv_has ls 17 [(0, .int i0), (1, .int i1), (2, .ref a0), (3, .ref b0), (4, .int i4_9), (5, .long j5_22), (7, .int i7_22), (8, .int i8_11), (9, .int i9_22), (10, .int i10_22)] → W p l e (kk_rm 1 0 0 26) s m ([.int i0, .int i1, .ref a0, .ref b0] : List Value).toArray below meth c H locs 0 0 Q (F0 m 115 ls []) := by
                      intro j5_22 i7_22 i9_22 i10_22 hF3 H locs ls hw hl
                      unfold J_L_displaced_115 at hF3
                      refine lv_iload hx hb dL_displaced_115 (lv_at hl 9 rfl) ?_
                      refine lv_iload hx hb dL_displaced_117 (lv_at hl 7 rfl) ?_
                      refine lv_icmp_eq (tgt := 125) hx hb dL_displaced_119 (by decide) (fun c23 => ?_) (fun c23 => ?_)
                      · have hF3 := (if_pos c23).symm.trans hF3
                        refine lv_lconst (v := 0) hx hb dL_displaced_125 (by decide) ?_
                        refine lv_lstore (lv' := [(11, .long 0), (0, .int i0), (1, .int i1), (2, .ref a0), (3, .ref b0), (4, .int i4_9), (5, .long j5_22), (7, .int i7_22), (8, .int i8_11), (9, .int i9_22), (10, .int i10_22)]) hx hb dL_displaced_126 hl (by decide) rfl (fun ls hl => ?_)
                        refine lv_iconst (v := 0) hx hb dL_displaced_128 (by decide) ?_
                        refine lv_istore (lv' := [(13, .int 0), (11, .long 0), (0, .int i0), (1, .int i1), (2, .ref a0), (3, .ref b0), (4, .int i4_9), (5, .long j5_22), (7, .int i7_22), (8, .int i8_11), (9, .int i9_22), (10, .int i10_22)]) hx hb dL_displaced_129 hl (by decide) rfl (fun ls hl => ?_)
                        obtain ⟨z24, hz25, hF3⟩ := kk_bind hF3
                        have hL25 : ∀ (n25 : Nat) (j11_25 : Int64) (i13_25 : Int32), kk_iter (fun (σ : (Int64 × Int32)) => L_L_displaced_131 N n_arr q_n_arr f_arr q_f_arr_9 i0 i4_9 j5_22 i8_11 i9_22 σ.1 σ.2) n25 (j11_25, i13_25) = some z24 → ∀ (H : Heap) (locs : List Loc) (ls : Array Slot), kk_wd G A s.heap [(a0, .inl (cI, n_arr, .inl f_arr)), (b0, .inl (cI, q_n_arr, .inl q_f_arr_9))] H locs → lv_has ls 17 [(0, .int i0), (1, .int i1), (2, .ref a0), (3, .ref b0), (4, .int i4_9), (5, .long j5_22), (8, .int i8_11), (9, .int i9_22), (11, .long j11_25), (13, .int i13_25)] → W p l e (kk_rm 1 0 0 26) s m ([.int i0, .int i1, .ref a0, .ref b0] : List Value).toArray below meth c H locs 0 0 Q (F0 m 131 ls []) := by
                          intro n25
                          induction n25 with
                          | zero => intro j11_25 i13_25 h; exact kk_iter0 h
                          | succ n25 ih25 =>
                            intro j11_25 i13_25 hq H locs ls hw hl
                            obtain ⟨y25, hF4, hI4⟩ := kk_iterS hq
                            have hF4 : L_L_displaced_131 N n_arr q_n_arr f_arr q_f_arr_9 i0 i4_9 j5_22 i8_11 i9_22 j11_25 i13_25 = some y25 := hF4
                            unfold L_L_displaced_131 at hF4
                            have hJ26 : ∀ (j11_26 : Int64) (i13_26 : Int32), J_L_displaced_247 N j11_26 i13_26 = some y25 → ∀ (H : Heap) (locs : List Loc) (ls : Array Slot), kk_wd G A s.heap [(a0, .inl (cI, n_arr, .inl f_arr)), (b0, .inl (cI, q_n_arr, .inl q_f_arr_9))] H locs → lv_has ls 17 [(0, .int i0), (1, .int i1), (2, .ref a0), (3, .ref b0), (4, .int i4_9), (5, .long j5_22), (8, .int i8_11), (9, .int i9_22), (11, .long j11_26), (13, .int i13_26)] → W p l e (kk_rm 1 0 0 26) s m ([.int i0, .int i1, .ref a0, .ref b0] : List Value).toArray below meth c H locs 0 0 Q (F0 m 247 ls []) := by
                              intro j11_26 i13_26 hF4 H locs ls hw hl
                              unfold J_L_displaced_247 at hF4
                              refine lv_iinc (v := (i13_26 + 1)) (lv' := [(13, .int (i13_26 + 1)), (0, .int i0), (1, .int i1), (2, .ref a0), (3, .ref b0), (4, .int i4_9), (5, .long j5_22), (8, .int i8_11), (9, .int i9_22), (11, .long j11_26)]) hx hb dL_displaced_247 hl (k := 9) rfl rfl (by decide) rfl (fun ls hl => ?_)
                              refine lv_goto (tgt := 131) hx hb dL_displaced_250 (by decide) ?_
                              have hy := Option.some.inj hF4
                              subst hy
                              exact ih25 j11_26 (i13_26 + 1) hI4 _ _ _ hw (lv_sub hl [1, 2, 3, 4, 5, 6, 7, 8, 9, 0] rfl)
                            refine lv_iload hx hb dL_displaced_131 (lv_at hl 9 rfl) ?_
                            refine lv_sipush (v := 512) hx hb dL_displaced_133 (by decide) ?_
                            refine lv_icmp_ge (tgt := 253) hx hb dL_displaced_136 (by decide) (fun c27 => ?_) (fun c27 => ?_)
                            · have hF4 := (if_pos c27).symm.trans hF4
                              have hy := Option.some.inj hF4
                              subst hy
                              have hz := Option.some.inj hI4
                              subst hz
                              exact hJ19 j5_22 i9_22 j11_25 hF3 _ _ _ hw (lv_sub hl [0, 1, 2, 3, 4, 5, 6, 7, 8] rfl)
                            · have hF4 := (if_neg c27).symm.trans hF4
                              refine lv_lload hx hb dL_displaced_139 (lv_at hl 8 rfl) ?_
                              obtain ⟨v28, ev28, hF4⟩ := kk_bind hF4
                              refine kk_callI 0 0 hw (kk_runS (As := [.long j11_25]) (rest := []) F hw hl.1 (c_L_ones l G cI cJ ad j11_25 N v28 ev28 H.size) gL_displaced_L_ones rfl md_L_ones ⟨Nat.le_of_ble_eq_true rfl, Nat.le_of_ble_eq_true rfl⟩ ⟨Nat.le_of_ble_eq_true rfl, Nat.le_of_ble_eq_true rfl⟩ rfl (Nat.le_of_ble_eq_true rfl) dL_displaced_141) ⟨rfl, rfl⟩ [] (by decide) rfl rfl (fun H locs hw => ?_)
                              refine lv_iload hx hb dL_displaced_144 (lv_at hl 6 rfl) ?_
                              refine lv_icmp_eq (tgt := 253) hx hb dL_displaced_146 (by decide) (fun c29 => ?_) (fun c29 => ?_)
                              · have hF4 := (if_pos c29).symm.trans hF4
                                have hy := Option.some.inj hF4
                                subst hy
                                have hz := Option.some.inj hI4
                                subst hz
                                exact hJ19 j5_22 i9_22 j11_25 hF3 _ _ _ hw (lv_sub hl [0, 1, 2, 3, 4, 5, 6, 7, 8] rfl)
                              · have hF4 := (if_neg c29).symm.trans hF4
                                refine lv_lconst (v := 0) hx hb dL_displaced_149 (by decide) ?_
                                refine lv_lstore (lv' := [(11, .long 0), (0, .int i0), (1, .int i1), (2, .ref a0), (3, .ref b0), (4, .int i4_9), (5, .long j5_22), (8, .int i8_11), (9, .int i9_22), (13, .int i13_25)]) hx hb dL_displaced_150 hl (by decide) rfl (fun ls hl => ?_)
                                refine lv_iconst (v := 0) hx hb dL_displaced_152 (by decide) ?_
                                refine lv_istore (lv' := [(14, .int 0), (11, .long 0), (0, .int i0), (1, .int i1), (2, .ref a0), (3, .ref b0), (4, .int i4_9), (5, .long j5_22), (8, .int i8_11), (9, .int i9_22), (13, .int i13_25)]) hx hb dL_displaced_153 hl (by decide) rfl (fun ls hl => ?_)
                                obtain ⟨z30, hz31, hF4⟩ := kk_bind hF4
                                have hL31 : ∀ (n31 : Nat) (j11_31 : Int64) (i14_31 : Int32), kk_iter (fun (σ : (Int64 × Int32)) => L_L_displaced_155 N n_arr q_n_arr f_arr q_f_arr_9 i0 i4_9 j5_22 i9_22 i13_25 σ.1 σ.2) n31 (j11_31, i14_31) = some z30 → ∀ (H : Heap) (locs : List Loc) (ls : Array Slot), kk_wd G A s.heap [(a0, .inl (cI, n_arr, .inl f_arr)), (b0, .inl (cI, q_n_arr, .inl q_f_arr_9))] H locs → lv_has ls 17 [(0, .int i0), (1, .int i1), (2, .ref a0), (3, .ref b0), (4, .int i4_9), (5, .long j5_22), (8, .int i8_11), (9, .int i9_22), (11, .long j11_31), (13, .int i13_25), (14, .int i14_31)] → W p l e (kk_rm 1 0 0 26) s m ([.int i0, .int i1, .ref a0, .ref b0] : List Value).toArray below meth c H locs 0 0 Q (F0 m 155 ls []) := by
                                  intro n31
                                  induction n31 with
                                  | zero => intro j11_31 i14_31 h; exact kk_iter0 h
                                  | succ n31 ih31 =>
                                    intro j11_31 i14_31 hq H locs ls hw hl
                                    obtain ⟨y31, hF5, hI5⟩ := kk_iterS hq
                                    have hF5 : L_L_displaced_155 N n_arr q_n_arr f_arr q_f_arr_9 i0 i4_9 j5_22 i9_22 i13_25 j11_31 i14_31 = some y31 := hF5
                                    unfold L_L_displaced_155 at hF5
                                    have hJ32 : ∀ (j11_32 : Int64) (i14_32 : Int32) (s0_32 : Int64), J_L_displaced_225 N j5_22 j11_32 i14_32 s0_32 = some y31 → ∀ (H : Heap) (locs : List Loc) (ls : Array Slot), kk_wd G A s.heap [(a0, .inl (cI, n_arr, .inl f_arr)), (b0, .inl (cI, q_n_arr, .inl q_f_arr_9))] H locs → lv_has ls 17 [(0, .int i0), (1, .int i1), (2, .ref a0), (3, .ref b0), (4, .int i4_9), (5, .long j5_22), (8, .int i8_11), (9, .int i9_22), (11, .long j11_32), (13, .int i13_25), (14, .int i14_32)] → W p l e (kk_rm 1 0 0 26) s m ([.int i0, .int i1, .ref a0, .ref b0] : List Value).toArray below meth c H locs 0 0 Q (F0 m 225 ls [.long s0_32]) := by
                                      intro j11_32 i14_32 s0_32 hF5 H locs ls hw hl
                                      unfold J_L_displaced_225 at hF5
                                      refine lv_lstore (lv' := [(15, .long s0_32), (0, .int i0), (1, .int i1), (2, .ref a0), (3, .ref b0), (4, .int i4_9), (5, .long j5_22), (8, .int i8_11), (9, .int i9_22), (11, .long j11_32), (13, .int i13_25), (14, .int i14_32)]) hx hb dL_displaced_225 hl (by decide) rfl (fun ls hl => ?_)
                                      refine lv_lload hx hb dL_displaced_227 (lv_at hl 9 rfl) ?_
                                      refine lv_lload hx hb dL_displaced_229 (lv_at hl 0 rfl) ?_
                                      refine lv_lload hx hb dL_displaced_231 (lv_at hl 6 rfl) ?_
                                      refine lv_ldc2 hx hb hown (hts _ m_L_displaced_Cond_constantLong_RL_56_1_) dL_displaced_233 ?_
                                      refine lv_lxor hx hb dL_displaced_236 ?_
                                      refine lv_land hx hb dL_displaced_237 ?_
                                      refine lv_lor hx hb dL_displaced_238 ?_
                                      refine lv_lstore (lv' := [(11, .long (j11_32 ||| (s0_32 &&& (j5_22 ^^^ (-1))))), (15, .long s0_32), (0, .int i0), (1, .int i1), (2, .ref a0), (3, .ref b0), (4, .int i4_9), (5, .long j5_22), (8, .int i8_11), (9, .int i9_22), (13, .int i13_25), (14, .int i14_32)]) hx hb dL_displaced_239 hl (by decide) rfl (fun ls hl => ?_)
                                      refine lv_iinc (v := (i14_32 + 1)) (lv' := [(14, .int (i14_32 + 1)), (11, .long (j11_32 ||| (s0_32 &&& (j5_22 ^^^ (-1))))), (15, .long s0_32), (0, .int i0), (1, .int i1), (2, .ref a0), (3, .ref b0), (4, .int i4_9), (5, .long j5_22), (8, .int i8_11), (9, .int i9_22), (13, .int i13_25)]) hx hb dL_displaced_241 hl (k := 11) rfl rfl (by decide) rfl (fun ls hl => ?_)
                                      refine lv_goto (tgt := 155) hx hb dL_displaced_244 (by decide) ?_
                                      have hy := Option.some.inj hF5
                                      subst hy
                                      exact ih31 (j11_32 ||| (s0_32 &&& (j5_22 ^^^ (-1)))) (i14_32 + 1) hI5 _ _ _ hw (lv_sub hl [3, 4, 5, 6, 7, 8, 9, 10, 1, 11, 0] rfl)
                                    have hJ33 : ∀ (j11_33 : Int64) (i14_33 : Int32) (s0_33 : Int64) (s1_33 : Int64) (s2_33 : Int64) (s3_33 : Int64), J_L_displaced_214 N i0 j5_22 j11_33 i14_33 s0_33 s1_33 s2_33 s3_33 = some y31 → ∀ (H : Heap) (locs : List Loc) (ls : Array Slot), kk_wd G A s.heap [(a0, .inl (cI, n_arr, .inl f_arr)), (b0, .inl (cI, q_n_arr, .inl q_f_arr_9))] H locs → lv_has ls 17 [(0, .int i0), (1, .int i1), (2, .ref a0), (3, .ref b0), (4, .int i4_9), (5, .long j5_22), (8, .int i8_11), (9, .int i9_22), (11, .long j11_33), (13, .int i13_25), (14, .int i14_33)] → W p l e (kk_rm 1 0 0 26) s m ([.int i0, .int i1, .ref a0, .ref b0] : List Value).toArray below meth c H locs 0 0 Q (F0 m 214 ls [.long s3_33, .long s2_33, .long s1_33, .long s0_33]) := by
                                      intro j11_33 i14_33 s0_33 s1_33 s2_33 s3_33 hF5 H locs ls hw hl
                                      unfold J_L_displaced_214 at hF5
                                      refine lv_lmul hx hb dL_displaced_214 ?_
                                      refine lv_ladd hx hb dL_displaced_215 ?_
                                      refine lv_iload_n hx hb dL_displaced_216 rfl (lv_at hl 0 rfl) ?_
                                      refine lv_i2l hx hb dL_displaced_217 rfl ?_
                                      obtain ⟨u34, eu34, hF5⟩ := kk_bind hF5
                                      refine lv_lrem hx hb dL_displaced_218 (kk_nzL_ok eu34) ?_
                                      refine lv_l2i hx hb dL_displaced_219 rfl ?_
                                      refine lv_lshl hx hb dL_displaced_220 rfl ?_
                                      refine lv_goto (tgt := 225) hx hb dL_displaced_221 (by decide) ?_
                                      exact hJ32 j11_33 i14_33 (s0_33 <<< (Int32.toInt64 (Int64.toInt32 (kk_remL (s1_33 + (s2_33 * s3_33)) (Int32.toInt64 i0))) &&& 63)) hF5 _ _ _ hw (lv_sub hl [0, 1, 2, 3, 4, 5, 6, 7, 8, 9, 10] rfl)
                                    refine lv_iload hx hb dL_displaced_155 (lv_at hl 10 rfl) ?_
                                    refine lv_iload_n hx hb dL_displaced_157 rfl (lv_at hl 0 rfl) ?_
                                    refine lv_icmp_ge (tgt := 247) hx hb dL_displaced_158 (by decide) (fun c35 => ?_) (fun c35 => ?_)
                                    · have hF5 := (if_pos c35).symm.trans hF5
                                      have hy := Option.some.inj hF5
                                      subst hy
                                      have hz := Option.some.inj hI5
                                      subst hz
                                      exact hJ26 j11_31 i13_25 hF4 _ _ _ hw (lv_sub hl [0, 1, 2, 3, 4, 5, 6, 7, 8, 9] rfl)
                                    · have hF5 := (if_neg c35).symm.trans hF5
                                      refine lv_aload_n hx hb dL_displaced_161 rfl (lv_at hl 3 rfl) ?_
                                      refine lv_iload hx hb dL_displaced_162 (lv_at hl 10 rfl) ?_
                                      obtain ⟨v36, ev36, hF5⟩ := kk_bind hF5
                                      refine kk_iald F hw 1 rfl ev36 dL_displaced_164 ?_
                                      refine lv_iload hx hb dL_displaced_165 (lv_at hl 7 rfl) ?_
                                      refine lv_icmp_ne (tgt := 224) hx hb dL_displaced_167 (by decide) (fun c37 => ?_) (fun c37 => ?_)
                                      · have hF5 := (if_neg c37).symm.trans hF5
                                        refine lv_lconst (v := 0) hx hb dL_displaced_224 (by decide) ?_
                                        exact hJ32 j11_31 i14_31 0 hF5 _ _ _ hw (lv_sub hl [0, 1, 2, 3, 4, 5, 6, 7, 8, 9, 10] rfl)
                                      · have hF5 := (if_pos c37).symm.trans hF5
                                        refine lv_lconst (v := 1) hx hb dL_displaced_170 (by decide) ?_
                                        refine lv_iconst (v := 1) hx hb dL_displaced_171 (by decide) ?_
                                        refine lv_aload_n hx hb dL_displaced_172 rfl (lv_at hl 2 rfl) ?_
                                        refine lv_iload hx hb dL_displaced_173 (lv_at hl 10 rfl) ?_
                                        obtain ⟨v38, ev38, hF5⟩ := kk_bind hF5
                                        refine kk_iald F hw 0 rfl ev38 dL_displaced_175 ?_
                                        refine lv_i2l hx hb dL_displaced_176 rfl ?_
                                        refine lv_iload hx hb dL_displaced_177 (lv_at hl 4 rfl) ?_
                                        refine lv_i2l hx hb dL_displaced_179 rfl ?_
                                        obtain ⟨v39, ev39, hF5⟩ := kk_bind hF5
                                        refine kk_callL 0 0 hw (kk_runS (As := [.int 1, .long (Int32.toInt64 v38), .long (Int32.toInt64 i4_9)]) (rest := [.long 1]) F hw hl.1 (c_L_hash l G cI cJ ad 1 (Int32.toInt64 v38) (Int32.toInt64 i4_9) N v39 ev39 H.size) gL_displaced_L_hash rfl md_L_hash ⟨Nat.le_of_ble_eq_true rfl, Nat.le_of_ble_eq_true rfl⟩ ⟨Nat.le_of_ble_eq_true rfl, Nat.le_of_ble_eq_true rfl⟩ rfl (Nat.le_of_ble_eq_true rfl) dL_displaced_180) ⟨rfl, rfl⟩ [] (by decide) rfl rfl (fun H locs hw => ?_)
                                        refine lv_iload hx hb dL_displaced_183 (lv_at hl 9 rfl) ?_
                                        refine lv_i2l hx hb dL_displaced_185 rfl ?_
                                        refine lv_iload_n hx hb dL_displaced_186 rfl (lv_at hl 0 rfl) ?_
                                        refine lv_iconst (v := 1) hx hb dL_displaced_187 (by decide) ?_
                                        refine lv_icmp_ne (tgt := 195) hx hb dL_displaced_188 (by decide) (fun c40 => ?_) (fun c40 => ?_)
                                        · have hF5 := (if_neg c40).symm.trans hF5
                                          refine lv_lconst (v := 1) hx hb dL_displaced_195 (by decide) ?_
                                          refine lv_iconst (v := 2) hx hb dL_displaced_196 (by decide) ?_
                                          refine lv_aload_n hx hb dL_displaced_197 rfl (lv_at hl 2 rfl) ?_
                                          refine lv_iload hx hb dL_displaced_198 (lv_at hl 10 rfl) ?_
                                          obtain ⟨v41, ev41, hF5⟩ := kk_bind hF5
                                          refine kk_iald F hw 0 rfl ev41 dL_displaced_200 ?_
                                          refine lv_i2l hx hb dL_displaced_201 rfl ?_
                                          refine lv_iload hx hb dL_displaced_202 (lv_at hl 4 rfl) ?_
                                          refine lv_i2l hx hb dL_displaced_204 rfl ?_
                                          obtain ⟨v42, ev42, hF5⟩ := kk_bind hF5
                                          refine kk_callL 0 0 hw (kk_runS (As := [.int 2, .long (Int32.toInt64 v41), .long (Int32.toInt64 i4_9)]) (rest := [.long 1, .long (Int32.toInt64 i13_25), .long v39, .long 1]) F hw hl.1 (c_L_hash l G cI cJ ad 2 (Int32.toInt64 v41) (Int32.toInt64 i4_9) N v42 ev42 H.size) gL_displaced_L_hash rfl md_L_hash ⟨Nat.le_of_ble_eq_true rfl, Nat.le_of_ble_eq_true rfl⟩ ⟨Nat.le_of_ble_eq_true rfl, Nat.le_of_ble_eq_true rfl⟩ rfl (Nat.le_of_ble_eq_true rfl) dL_displaced_205) ⟨rfl, rfl⟩ [] (by decide) rfl rfl (fun H locs hw => ?_)
                                          refine lv_iload_n hx hb dL_displaced_208 rfl (lv_at hl 0 rfl) ?_
                                          refine lv_iconst (v := 1) hx hb dL_displaced_209 (by decide) ?_
                                          refine lv_isub hx hb dL_displaced_210 ?_
                                          refine lv_i2l hx hb dL_displaced_211 rfl ?_
                                          obtain ⟨u43, eu43, hF5⟩ := kk_bind hF5
                                          refine lv_lrem hx hb dL_displaced_212 (kk_nzL_ok eu43) ?_
                                          refine lv_ladd hx hb dL_displaced_213 ?_
                                          exact hJ33 j11_31 i14_31 1 v39 (Int32.toInt64 i13_25) (1 + (kk_remL v42 (Int32.toInt64 (i0 - 1)))) hF5 _ _ _ hw (lv_sub hl [0, 1, 2, 3, 4, 5, 6, 7, 8, 9, 10] rfl)
                                        · have hF5 := (if_pos c40).symm.trans hF5
                                          refine lv_lconst (v := 1) hx hb dL_displaced_191 (by decide) ?_
                                          refine lv_goto (tgt := 214) hx hb dL_displaced_192 (by decide) ?_
                                          exact hJ33 j11_31 i14_31 1 v39 (Int32.toInt64 i13_25) 1 hF5 _ _ _ hw (lv_sub hl [0, 1, 2, 3, 4, 5, 6, 7, 8, 9, 10] rfl)
                                exact hL31 N 0 0 hz31 _ _ _ hw (lv_sub hl [2, 3, 4, 5, 6, 7, 8, 9, 1, 10, 0] rfl)
                        exact hL25 N 0 0 hz25 _ _ _ hw (lv_sub hl [2, 3, 4, 5, 6, 7, 9, 10, 1, 0] rfl)
                      · have hF3 := (if_neg c23).symm.trans hF3
                        refine lv_goto (tgt := 277) hx hb dL_displaced_122 (by decide) ?_
                        exact hJ17 j5_22 i7_22 i9_22 hF3 _ _ _ hw (lv_sub hl [0, 1, 2, 3, 4, 5, 6, 7, 8] rfl)
                    refine lv_iload hx hb dL_displaced_67 (lv_at hl 8 rfl) ?_
                    refine lv_iload_n hx hb dL_displaced_69 rfl (lv_at hl 1 rfl) ?_
                    refine lv_icmp_ge (tgt := 283) hx hb dL_displaced_70 (by decide) (fun c44 => ?_) (fun c44 => ?_)
                    · have hF3 := (if_pos c44).symm.trans hF3
                      have hy := Option.some.inj hF3
                      subst hy
                      have hz := Option.some.inj hI3
                      subst hz
                      exact hJ12 j5_16 i7_16 i8_11 hF2 _ _ _ hw (lv_sub hl [0, 1, 2, 3, 4, 5, 6, 7] rfl)
                    · have hF3 := (if_neg c44).symm.trans hF3
                      refine lv_iload hx hb dL_displaced_73 (lv_at hl 6 rfl) ?_
                      refine lv_if_eq (tgt := 283) hx hb dL_displaced_75 (by decide) (fun c45 => ?_) (fun c45 => ?_)
                      · have hF3 := (if_pos c45).symm.trans hF3
                        have hy := Option.some.inj hF3
                        subst hy
                        have hz := Option.some.inj hI3
                        subst hz
                        exact hJ12 j5_16 i7_16 i8_11 hF2 _ _ _ hw (lv_sub hl [0, 1, 2, 3, 4, 5, 6, 7] rfl)
                      · have hF3 := (if_neg c45).symm.trans hF3
                        refine lv_iconst (v := 0) hx hb dL_displaced_78 (by decide) ?_
                        refine lv_istore (lv' := [(10, .int 0), (0, .int i0), (1, .int i1), (2, .ref a0), (3, .ref b0), (4, .int i4_9), (5, .long j5_16), (7, .int i7_16), (8, .int i8_11), (9, .int i9_16)]) hx hb dL_displaced_79 hl (by decide) rfl (fun ls hl => ?_)
                        refine lv_iconst (v := 0) hx hb dL_displaced_81 (by decide) ?_
                        refine lv_istore (lv' := [(11, .int 0), (10, .int 0), (0, .int i0), (1, .int i1), (2, .ref a0), (3, .ref b0), (4, .int i4_9), (5, .long j5_16), (7, .int i7_16), (8, .int i8_11), (9, .int i9_16)]) hx hb dL_displaced_82 hl (by decide) rfl (fun ls hl => ?_)
                        obtain ⟨z46, hz47, hF3⟩ := kk_bind hF3
                        have hL47 : ∀ (n47 : Nat) (i10_47 : Int32) (i11_47 : Int32), kk_iter (fun (σ : (Int32 × Int32)) => L_L_displaced_84 N q_n_arr q_f_arr_9 i0 i9_16 σ.1 σ.2) n47 (i10_47, i11_47) = some z46 → ∀ (H : Heap) (locs : List Loc) (ls : Array Slot), kk_wd G A s.heap [(a0, .inl (cI, n_arr, .inl f_arr)), (b0, .inl (cI, q_n_arr, .inl q_f_arr_9))] H locs → lv_has ls 17 [(0, .int i0), (1, .int i1), (2, .ref a0), (3, .ref b0), (4, .int i4_9), (5, .long j5_16), (7, .int i7_16), (8, .int i8_11), (9, .int i9_16), (10, .int i10_47), (11, .int i11_47)] → W p l e (kk_rm 1 0 0 26) s m ([.int i0, .int i1, .ref a0, .ref b0] : List Value).toArray below meth c H locs 0 0 Q (F0 m 84 ls []) := by
                          intro n47
                          induction n47 with
                          | zero => intro i10_47 i11_47 h; exact kk_iter0 h
                          | succ n47 ih47 =>
                            intro i10_47 i11_47 hq H locs ls hw hl
                            obtain ⟨y47, hF4, hI4⟩ := kk_iterS hq
                            have hF4 : L_L_displaced_84 N q_n_arr q_f_arr_9 i0 i9_16 i10_47 i11_47 = some y47 := hF4
                            unfold L_L_displaced_84 at hF4
                            have hJ48 : ∀ (i11_48 : Int32) (s0_48 : Int32) (s1_48 : Int32), J_L_displaced_106 N i11_48 s0_48 s1_48 = some y47 → ∀ (H : Heap) (locs : List Loc) (ls : Array Slot), kk_wd G A s.heap [(a0, .inl (cI, n_arr, .inl f_arr)), (b0, .inl (cI, q_n_arr, .inl q_f_arr_9))] H locs → lv_has ls 17 [(0, .int i0), (1, .int i1), (2, .ref a0), (3, .ref b0), (4, .int i4_9), (5, .long j5_16), (7, .int i7_16), (8, .int i8_11), (9, .int i9_16), (11, .int i11_48)] → W p l e (kk_rm 1 0 0 26) s m ([.int i0, .int i1, .ref a0, .ref b0] : List Value).toArray below meth c H locs 0 0 Q (F0 m 106 ls [.int s1_48, .int s0_48]) := by
                              intro i11_48 s0_48 s1_48 hF4 H locs ls hw hl
                              unfold J_L_displaced_106 at hF4
                              refine lv_iadd hx hb dL_displaced_106 ?_
                              refine lv_istore (lv' := [(10, .int (s0_48 + s1_48)), (0, .int i0), (1, .int i1), (2, .ref a0), (3, .ref b0), (4, .int i4_9), (5, .long j5_16), (7, .int i7_16), (8, .int i8_11), (9, .int i9_16), (11, .int i11_48)]) hx hb dL_displaced_107 hl (by decide) rfl (fun ls hl => ?_)
                              refine lv_iinc (v := (i11_48 + 1)) (lv' := [(11, .int (i11_48 + 1)), (10, .int (s0_48 + s1_48)), (0, .int i0), (1, .int i1), (2, .ref a0), (3, .ref b0), (4, .int i4_9), (5, .long j5_16), (7, .int i7_16), (8, .int i8_11), (9, .int i9_16)]) hx hb dL_displaced_109 hl (k := 10) rfl rfl (by decide) rfl (fun ls hl => ?_)
                              refine lv_goto (tgt := 84) hx hb dL_displaced_112 (by decide) ?_
                              have hy := Option.some.inj hF4
                              subst hy
                              exact ih47 (s0_48 + s1_48) (i11_48 + 1) hI4 _ _ _ hw (lv_sub hl [2, 3, 4, 5, 6, 7, 8, 9, 10, 1, 0] rfl)
                            refine lv_iload hx hb dL_displaced_84 (lv_at hl 10 rfl) ?_
                            refine lv_iload_n hx hb dL_displaced_86 rfl (lv_at hl 0 rfl) ?_
                            refine lv_icmp_ge (tgt := 115) hx hb dL_displaced_87 (by decide) (fun c49 => ?_) (fun c49 => ?_)
                            · have hF4 := (if_pos c49).symm.trans hF4
                              have hy := Option.some.inj hF4
                              subst hy
                              have hz := Option.some.inj hI4
                              subst hz
                              exact hJ22 j5_16 i7_16 i9_16 i10_47 hF3 _ _ _ hw (lv_sub hl [0, 1, 2, 3, 4, 5, 6, 7, 8, 9] rfl)
                            · have hF4 := (if_neg c49).symm.trans hF4
                              refine lv_iload hx hb dL_displaced_90 (lv_at hl 9 rfl) ?_
                              refine lv_aload_n hx hb dL_displaced_92 rfl (lv_at hl 3 rfl) ?_
                              refine lv_iload hx hb dL_displaced_93 (lv_at hl 10 rfl) ?_
                              obtain ⟨v50, ev50, hF4⟩ := kk_bind hF4
                              refine kk_iald F hw 1 rfl ev50 dL_displaced_95 ?_
                              refine lv_iload hx hb dL_displaced_96 (lv_at hl 8 rfl) ?_
                              refine lv_icmp_ne (tgt := 105) hx hb dL_displaced_98 (by decide) (fun c51 => ?_) (fun c51 => ?_)
                              · have hF4 := (if_neg c51).symm.trans hF4
                                refine lv_iconst (v := 0) hx hb dL_displaced_105 (by decide) ?_
                                exact hJ48 i11_47 i10_47 0 hF4 _ _ _ hw (lv_sub hl [0, 1, 2, 3, 4, 5, 6, 7, 8, 10] rfl)
                              · have hF4 := (if_pos c51).symm.trans hF4
                                refine lv_iconst (v := 1) hx hb dL_displaced_101 (by decide) ?_
                                refine lv_goto (tgt := 106) hx hb dL_displaced_102 (by decide) ?_
                                exact hJ48 i11_47 i10_47 1 hF4 _ _ _ hw (lv_sub hl [0, 1, 2, 3, 4, 5, 6, 7, 8, 10] rfl)
                        exact hL47 N 0 0 hz47 _ _ _ hw (lv_sub hl [2, 3, 4, 5, 6, 7, 8, 9, 10, 1, 0] rfl)
                exact hL16 N j5_11 i7_11 0 hz16 _ _ _ hw (lv_sub hl [1, 2, 3, 4, 5, 6, 7, 8, 0] rfl)
        exact hL11 N j5_9 i7_9 i0 hz11 _ _ _ hw (lv_sub hl [1, 2, 3, 4, 5, 6, 7, 0] rfl)
      refine lv_iload hx hb dL_displaced_3 (lv_at hl 4 rfl) ?_
      refine lv_bipush (v := 40) hx hb dL_displaced_5 (by decide) ?_
      refine lv_icmp_ge (tgt := 302) hx hb dL_displaced_7 (by decide) (fun c52 => ?_) (fun c52 => ?_)
      · have hF1 := (if_pos c52).symm.trans hF1
        have hy := Option.some.inj hF1
        subst hy
        have hz := Option.some.inj hI1
        subst hz
        exact hJ1 q_f_arr_6 hF0 _ _ _ hw (lv_sub hl [] rfl)
      · have hF1 := (if_neg c52).symm.trans hF1
        refine lv_lconst (v := 0) hx hb dL_displaced_10 (by decide) ?_
        refine lv_lstore (lv' := [(5, .long 0), (0, .int i0), (1, .int i1), (2, .ref a0), (3, .ref b0), (4, .int i4_6)]) hx hb dL_displaced_11 hl (by decide) rfl (fun ls hl => ?_)
        refine lv_iconst (v := 1) hx hb dL_displaced_13 (by decide) ?_
        refine lv_istore (lv' := [(7, .int 1), (5, .long 0), (0, .int i0), (1, .int i1), (2, .ref a0), (3, .ref b0), (4, .int i4_6)]) hx hb dL_displaced_14 hl (by decide) rfl (fun ls hl => ?_)
        refine lv_iconst (v := 0) hx hb dL_displaced_16 (by decide) ?_
        refine lv_istore (lv' := [(8, .int 0), (7, .int 1), (5, .long 0), (0, .int i0), (1, .int i1), (2, .ref a0), (3, .ref b0), (4, .int i4_6)]) hx hb dL_displaced_17 hl (by decide) rfl (fun ls hl => ?_)
        obtain ⟨z53, hz54, hF1⟩ := kk_bind hF1
        have hL54 : ∀ (n54 : Nat) (q_f_arr_54 : Nat → Int32) (i8_54 : Int32), kk_iter (fun (σ : ((Nat → Int32) × Int32)) => L_L_displaced_19 N n_arr q_n_arr f_arr i0 i1 i4_6 σ.1 σ.2) n54 (q_f_arr_54, i8_54) = some z53 → ∀ (H : Heap) (locs : List Loc) (ls : Array Slot), kk_wd G A s.heap [(a0, .inl (cI, n_arr, .inl f_arr)), (b0, .inl (cI, q_n_arr, .inl q_f_arr_54))] H locs → lv_has ls 17 [(0, .int i0), (1, .int i1), (2, .ref a0), (3, .ref b0), (4, .int i4_6), (5, .long 0), (7, .int 1), (8, .int i8_54)] → W p l e (kk_rm 1 0 0 26) s m ([.int i0, .int i1, .ref a0, .ref b0] : List Value).toArray below meth c H locs 0 0 Q (F0 m 19 ls []) := by
          intro n54
          induction n54 with
          | zero => intro q_f_arr_54 i8_54 h; exact kk_iter0 h
          | succ n54 ih54 =>
            intro q_f_arr_54 i8_54 hq H locs ls hw hl
            obtain ⟨y54, hF2, hI2⟩ := kk_iterS hq
            have hF2 : L_L_displaced_19 N n_arr q_n_arr f_arr i0 i1 i4_6 q_f_arr_54 i8_54 = some y54 := hF2
            unfold L_L_displaced_19 at hF2
            refine lv_iload hx hb dL_displaced_19 (lv_at hl 7 rfl) ?_
            refine lv_iload_n hx hb dL_displaced_21 rfl (lv_at hl 0 rfl) ?_
            refine lv_icmp_ge (tgt := 51) hx hb dL_displaced_22 (by decide) (fun c55 => ?_) (fun c55 => ?_)
            · have hF2 := (if_pos c55).symm.trans hF2
              have hy := Option.some.inj hF2
              subst hy
              have hz := Option.some.inj hI2
              subst hz
              exact hJ9 q_f_arr_54 i4_6 0 1 hF1 _ _ _ hw (lv_sub hl [0, 1, 2, 3, 4, 5, 6] rfl)
            · have hF2 := (if_neg c55).symm.trans hF2
              refine lv_aload_n hx hb dL_displaced_25 rfl (lv_at hl 3 rfl) ?_
              refine lv_iload hx hb dL_displaced_26 (lv_at hl 7 rfl) ?_
              refine lv_iconst (v := 0) hx hb dL_displaced_28 (by decide) ?_
              refine lv_aload_n hx hb dL_displaced_29 rfl (lv_at hl 2 rfl) ?_
              refine lv_iload hx hb dL_displaced_30 (lv_at hl 7 rfl) ?_
              obtain ⟨v56, ev56, hF2⟩ := kk_bind hF2
              refine kk_iald F hw 0 rfl ev56 dL_displaced_32 ?_
              refine lv_i2l hx hb dL_displaced_33 rfl ?_
              refine lv_iload hx hb dL_displaced_34 (lv_at hl 4 rfl) ?_
              refine lv_i2l hx hb dL_displaced_36 rfl ?_
              obtain ⟨v57, ev57, hF2⟩ := kk_bind hF2
              refine kk_callL 0 0 hw (kk_runS (As := [.int 0, .long (Int32.toInt64 v56), .long (Int32.toInt64 i4_6)]) (rest := [.int i8_54, .ref b0]) F hw hl.1 (c_L_hash l G cI cJ ad 0 (Int32.toInt64 v56) (Int32.toInt64 i4_6) N v57 ev57 H.size) gL_displaced_L_hash rfl md_L_hash ⟨Nat.le_of_ble_eq_true rfl, Nat.le_of_ble_eq_true rfl⟩ ⟨Nat.le_of_ble_eq_true rfl, Nat.le_of_ble_eq_true rfl⟩ rfl (Nat.le_of_ble_eq_true rfl) dL_displaced_37) ⟨rfl, rfl⟩ [] (by decide) rfl rfl (fun H locs hw => ?_)
              refine lv_iload_n hx hb dL_displaced_40 rfl (lv_at hl 1 rfl) ?_
              refine lv_i2l hx hb dL_displaced_41 rfl ?_
              obtain ⟨u58, eu58, hF2⟩ := kk_bind hF2
              refine lv_lrem hx hb dL_displaced_42 (kk_nzL_ok eu58) ?_
              refine lv_l2i hx hb dL_displaced_43 rfl ?_
              obtain ⟨w59, ew59, hF2⟩ := kk_bind hF2
              refine kk_iast F hw 1 rfl ew59 dL_displaced_44 (fun H locs hw => ?_)
              have hw : kk_wd G A s.heap [(a0, .inl (cI, n_arr, .inl f_arr)), (b0, .inl (cI, q_n_arr, .inl w59))] H locs := hw
              refine lv_iinc (v := (i8_54 + 1)) (lv' := [(8, .int (i8_54 + 1)), (0, .int i0), (1, .int i1), (2, .ref a0), (3, .ref b0), (4, .int i4_6), (5, .long 0), (7, .int 1)]) hx hb dL_displaced_45 hl (k := 7) rfl rfl (by decide) rfl (fun ls hl => ?_)
              refine lv_goto (tgt := 19) hx hb dL_displaced_48 (by decide) ?_
              have hy := Option.some.inj hF2
              subst hy
              exact ih54 w59 (i8_54 + 1) hI2 _ _ _ hw (lv_sub hl [1, 2, 3, 4, 5, 6, 7, 0] rfl)
        exact hL54 N q_f_arr_6 0 hz54 _ _ _ hw (lv_sub hl [3, 4, 5, 6, 7, 2, 1, 0] rfl)
  exact hL6 N q_f_arr 0 hz6 _ _ _ hw (lv_sub hl [1, 2, 3, 4, 0] rfl)
set_option maxRecDepth 100000 in
set_option maxHeartbeats 4000000 in
theorem c_L_joined (l : Launch) (G : va_G) (cI cJ : ClassId) (ad : Nat → Nat) (a0 b0 : Nat) (n_arr : Nat) (f_arr : Nat → Int32) (q_n_arr : Nat) (q_f_arr : Nat → Int32) (i0 : Int32) (N : Nat) (x : (Int32 × (Nat → Int32))) (hF0 : F_L_joined N n_arr f_arr q_n_arr q_f_arr i0 = some x) : kk_I l yL_joined wsL_joined 1 0 0 26 [.int i0, .ref a0, .ref b0] G cI cJ ad [(a0, .inl (cI, n_arr, .inl f_arr)), (b0, .inl (cI, q_n_arr, .inl q_f_arr))] x.1 [(a0, .inl (cI, n_arr, .inl f_arr)), (b0, .inl (cI, q_n_arr, .inl x.2))] := by
  refine kk_ofZ (cc := cL_joined) (maxL := 9) (by decide) rfl (Nat.le_of_ble_eq_true rfl) ?_
  intro p e s m below meth c A Q ls H locs hx hb hml hown hts hE hw hl hret
  have F : kk_at p m c cL_joined 9 s _ wsL_joined RL G cI cJ ad A := ⟨⟨hx, hb, hml, hown, hts⟩, hE⟩
  have hl : lv_has ls 9 [(0, .int i0), (1, .ref a0), (2, .ref b0)] := hl
  unfold F_L_joined at hF0
  have hJ1 : ∀ (q_f_arr_1 : Nat → Int32), J_L_joined_163 N q_f_arr_1 = some x → ∀ (H : Heap) (locs : List Loc) (ls : Array Slot), kk_wd G A s.heap [(a0, .inl (cI, n_arr, .inl f_arr)), (b0, .inl (cI, q_n_arr, .inl q_f_arr_1))] H locs → lv_has ls 9 [] → W p l e (kk_rm 1 0 0 26) s m ([.int i0, .ref a0, .ref b0] : List Value).toArray below meth c H locs 0 0 Q (F0 m 163 ls []) := by
    intro q_f_arr_1 hF0 H locs ls hw hl
    unfold J_L_joined_163 at hF0
    refine lv_iconst (v := 0) hx hb dL_joined_163 (by decide) ?_
    have hy := Option.some.inj hF0
    subst hy
    exact hret dL_joined_164 (by decide) (by decide) (Or.inl rfl) hw
  have hJ2 : ∀ (q_f_arr_2 : Nat → Int32), J_L_joined_155 N q_f_arr_2 = some x → ∀ (H : Heap) (locs : List Loc) (ls : Array Slot), kk_wd G A s.heap [(a0, .inl (cI, n_arr, .inl f_arr)), (b0, .inl (cI, q_n_arr, .inl q_f_arr_2))] H locs → lv_has ls 9 [] → W p l e (kk_rm 1 0 0 26) s m ([.int i0, .ref a0, .ref b0] : List Value).toArray below meth c H locs 0 0 Q (F0 m 155 ls []) := by
    intro q_f_arr_2 hF0 H locs ls hw hl
    unfold J_L_joined_155 at hF0
    refine lv_iconst (v := 1) hx hb dL_joined_155 (by decide) ?_
    have hy := Option.some.inj hF0
    subst hy
    exact hret dL_joined_156 (by decide) (by decide) (Or.inr rfl) hw
  refine lv_iconst (v := 0) hx hb dL_joined_0 (by decide) ?_
  refine lv_istore_n (lv' := [(3, .int 0), (0, .int i0), (1, .ref a0), (2, .ref b0)]) hx hb dL_joined_1 rfl hl (by decide) rfl (fun ls hl => ?_)
  obtain ⟨z3, hz6, hF0⟩ := kk_bind hF0
  have hL6 : ∀ (n6 : Nat) (q_f_arr_6 : Nat → Int32) (i3_6 : Int32), kk_iter (fun (σ : ((Nat → Int32) × Int32)) => L_L_joined_2 N n_arr q_n_arr f_arr i0 σ.1 σ.2) n6 (q_f_arr_6, i3_6) = some z3 → ∀ (H : Heap) (locs : List Loc) (ls : Array Slot), kk_wd G A s.heap [(a0, .inl (cI, n_arr, .inl f_arr)), (b0, .inl (cI, q_n_arr, .inl q_f_arr_6))] H locs → lv_has ls 9 [(0, .int i0), (1, .ref a0), (2, .ref b0), (3, .int i3_6)] → W p l e (kk_rm 1 0 0 26) s m ([.int i0, .ref a0, .ref b0] : List Value).toArray below meth c H locs 0 0 Q (F0 m 2 ls []) := by
    intro n6
    induction n6 with
    | zero => intro q_f_arr_6 i3_6 h; exact kk_iter0 h
    | succ n6 ih6 =>
      intro q_f_arr_6 i3_6 hq H locs ls hw hl
      obtain ⟨y6, hF1, hI1⟩ := kk_iterS hq
      have hF1 : L_L_joined_2 N n_arr q_n_arr f_arr i0 q_f_arr_6 i3_6 = some y6 := hF1
      unfold L_L_joined_2 at hF1
      have hJ7 : ∀ (q_f_arr_7 : Nat → Int32) (i3_7 : Int32) (i4_7 : Int32), J_L_joined_150 N q_f_arr_7 i3_7 i4_7 = some y6 → ∀ (H : Heap) (locs : List Loc) (ls : Array Slot), kk_wd G A s.heap [(a0, .inl (cI, n_arr, .inl f_arr)), (b0, .inl (cI, q_n_arr, .inl q_f_arr_7))] H locs → lv_has ls 9 [(0, .int i0), (1, .ref a0), (2, .ref b0), (3, .int i3_7), (4, .int i4_7)] → W p l e (kk_rm 1 0 0 26) s m ([.int i0, .ref a0, .ref b0] : List Value).toArray below meth c H locs 0 0 Q (F0 m 150 ls []) := by
        intro q_f_arr_7 i3_7 i4_7 hF1 H locs ls hw hl
        unfold J_L_joined_150 at hF1
        refine lv_iload hx hb dL_joined_150 (lv_at hl 4 rfl) ?_
        refine lv_if_eq (tgt := 157) hx hb dL_joined_152 (by decide) (fun c8 => ?_) (fun c8 => ?_)
        · have hF1 := (if_pos c8).symm.trans hF1
          refine lv_iinc (v := (i3_7 + 1)) (lv' := [(3, .int (i3_7 + 1)), (0, .int i0), (1, .ref a0), (2, .ref b0), (4, .int i4_7)]) hx hb dL_joined_157 hl (k := 3) rfl rfl (by decide) rfl (fun ls hl => ?_)
          refine lv_goto (tgt := 2) hx hb dL_joined_160 (by decide) ?_
          have hy := Option.some.inj hF1
          subst hy
          exact ih6 q_f_arr_7 (i3_7 + 1) hI1 _ _ _ hw (lv_sub hl [1, 2, 3, 0] rfl)
        · have hF1 := (if_neg c8).symm.trans hF1
          have hy := Option.some.inj hF1
          subst hy
          have hz := Option.some.inj hI1
          subst hz
          exact hJ2 q_f_arr_7 hF0 _ _ _ hw (lv_sub hl [] rfl)
      have hJ9 : ∀ (q_f_arr_9 : Nat → Int32) (i3_9 : Int32) (i4_9 : Int32), J_L_joined_35 N n_arr q_n_arr f_arr q_f_arr_9 i0 i3_9 i4_9 = some y6 → ∀ (H : Heap) (locs : List Loc) (ls : Array Slot), kk_wd G A s.heap [(a0, .inl (cI, n_arr, .inl f_arr)), (b0, .inl (cI, q_n_arr, .inl q_f_arr_9))] H locs → lv_has ls 9 [(0, .int i0), (1, .ref a0), (2, .ref b0), (3, .int i3_9), (4, .int i4_9)] → W p l e (kk_rm 1 0 0 26) s m ([.int i0, .ref a0, .ref b0] : List Value).toArray below meth c H locs 0 0 Q (F0 m 35 ls []) := by
        intro q_f_arr_9 i3_9 i4_9 hF1 H locs ls hw hl
        unfold J_L_joined_35 at hF1
        refine lv_iconst (v := 0) hx hb dL_joined_35 (by decide) ?_
        refine lv_istore (lv' := [(5, .int 0), (0, .int i0), (1, .ref a0), (2, .ref b0), (3, .int i3_9), (4, .int i4_9)]) hx hb dL_joined_36 hl (by decide) rfl (fun ls hl => ?_)
        obtain ⟨z10, hz11, hF1⟩ := kk_bind hF1
        have hL11 : ∀ (n11 : Nat) (q_f_arr_11 : Nat → Int32) (i4_11 : Int32) (i5_11 : Int32), kk_iter (fun (σ : ((Nat → Int32) × Int32 × Int32)) => L_L_joined_38 N n_arr q_n_arr f_arr i0 i3_9 σ.1 σ.2.1 σ.2.2) n11 (q_f_arr_11, i4_11, i5_11) = some z10 → ∀ (H : Heap) (locs : List Loc) (ls : Array Slot), kk_wd G A s.heap [(a0, .inl (cI, n_arr, .inl f_arr)), (b0, .inl (cI, q_n_arr, .inl q_f_arr_11))] H locs → lv_has ls 9 [(0, .int i0), (1, .ref a0), (2, .ref b0), (3, .int i3_9), (4, .int i4_11), (5, .int i5_11)] → W p l e (kk_rm 1 0 0 26) s m ([.int i0, .ref a0, .ref b0] : List Value).toArray below meth c H locs 0 0 Q (F0 m 38 ls []) := by
          intro n11
          induction n11 with
          | zero => intro q_f_arr_11 i4_11 i5_11 h; exact kk_iter0 h
          | succ n11 ih11 =>
            intro q_f_arr_11 i4_11 i5_11 hq H locs ls hw hl
            obtain ⟨y11, hF2, hI2⟩ := kk_iterS hq
            have hF2 : L_L_joined_38 N n_arr q_n_arr f_arr i0 i3_9 q_f_arr_11 i4_11 i5_11 = some y11 := hF2
            unfold L_L_joined_38 at hF2
            have hJ12 : ∀ (q_f_arr_12 : Nat → Int32) (i4_12 : Int32) (i5_12 : Int32), J_L_joined_144 N q_f_arr_12 i4_12 i5_12 = some y11 → ∀ (H : Heap) (locs : List Loc) (ls : Array Slot), kk_wd G A s.heap [(a0, .inl (cI, n_arr, .inl f_arr)), (b0, .inl (cI, q_n_arr, .inl q_f_arr_12))] H locs → lv_has ls 9 [(0, .int i0), (1, .ref a0), (2, .ref b0), (3, .int i3_9), (4, .int i4_12), (5, .int i5_12)] → W p l e (kk_rm 1 0 0 26) s m ([.int i0, .ref a0, .ref b0] : List Value).toArray below meth c H locs 0 0 Q (F0 m 144 ls []) := by
              intro q_f_arr_12 i4_12 i5_12 hF2 H locs ls hw hl
              unfold J_L_joined_144 at hF2
              refine lv_iinc (v := (i5_12 + 1)) (lv' := [(5, .int (i5_12 + 1)), (0, .int i0), (1, .ref a0), (2, .ref b0), (3, .int i3_9), (4, .int i4_12)]) hx hb dL_joined_144 hl (k := 5) rfl rfl (by decide) rfl (fun ls hl => ?_)
              refine lv_goto (tgt := 38) hx hb dL_joined_147 (by decide) ?_
              have hy := Option.some.inj hF2
              subst hy
              exact ih11 q_f_arr_12 i4_12 (i5_12 + 1) hI2 _ _ _ hw (lv_sub hl [1, 2, 3, 4, 5, 0] rfl)
            have hJ13 : ∀ (q_f_arr_13 : Nat → Int32) (i5_13 : Int32) (i6_13 : Int32) (i7_13 : Int32) (s0_13 : Int32), J_L_joined_103 N q_n_arr q_f_arr_13 i0 i5_13 i6_13 i7_13 s0_13 = some y11 → ∀ (H : Heap) (locs : List Loc) (ls : Array Slot), kk_wd G A s.heap [(a0, .inl (cI, n_arr, .inl f_arr)), (b0, .inl (cI, q_n_arr, .inl q_f_arr_13))] H locs → lv_has ls 9 [(0, .int i0), (1, .ref a0), (2, .ref b0), (3, .int i3_9), (5, .int i5_13), (6, .int i6_13), (7, .int i7_13)] → W p l e (kk_rm 1 0 0 26) s m ([.int i0, .ref a0, .ref b0] : List Value).toArray below meth c H locs 0 0 Q (F0 m 103 ls [.int s0_13]) := by
              intro q_f_arr_13 i5_13 i6_13 i7_13 s0_13 hF2 H locs ls hw hl
              unfold J_L_joined_103 at hF2
              refine lv_istore (lv' := [(4, .int s0_13), (0, .int i0), (1, .ref a0), (2, .ref b0), (3, .int i3_9), (5, .int i5_13), (6, .int i6_13), (7, .int i7_13)]) hx hb dL_joined_103 hl (by decide) rfl (fun ls hl => ?_)
              refine lv_iconst (v := 0) hx hb dL_joined_105 (by decide) ?_
              refine lv_istore (lv' := [(8, .int 0), (4, .int s0_13), (0, .int i0), (1, .ref a0), (2, .ref b0), (3, .int i3_9), (5, .int i5_13), (6, .int i6_13), (7, .int i7_13)]) hx hb dL_joined_106 hl (by decide) rfl (fun ls hl => ?_)
              obtain ⟨z14, hz15, hF2⟩ := kk_bind hF2
              have hL15 : ∀ (n15 : Nat) (q_f_arr_15 : Nat → Int32) (i8_15 : Int32), kk_iter (fun (σ : ((Nat → Int32) × Int32)) => L_L_joined_108 N q_n_arr i0 i6_13 i7_13 σ.1 σ.2) n15 (q_f_arr_15, i8_15) = some z14 → ∀ (H : Heap) (locs : List Loc) (ls : Array Slot), kk_wd G A s.heap [(a0, .inl (cI, n_arr, .inl f_arr)), (b0, .inl (cI, q_n_arr, .inl q_f_arr_15))] H locs → lv_has ls 9 [(0, .int i0), (1, .ref a0), (2, .ref b0), (3, .int i3_9), (4, .int s0_13), (5, .int i5_13), (6, .int i6_13), (7, .int i7_13), (8, .int i8_15)] → W p l e (kk_rm 1 0 0 26) s m ([.int i0, .ref a0, .ref b0] : List Value).toArray below meth c H locs 0 0 Q (F0 m 108 ls []) := by
                intro n15
                induction n15 with
                | zero => intro q_f_arr_15 i8_15 h; exact kk_iter0 h
                | succ n15 ih15 =>
                  intro q_f_arr_15 i8_15 hq H locs ls hw hl
                  obtain ⟨y15, hF3, hI3⟩ := kk_iterS hq
                  have hF3 : L_L_joined_108 N q_n_arr i0 i6_13 i7_13 q_f_arr_15 i8_15 = some y15 := hF3
                  unfold L_L_joined_108 at hF3
                  have hJ16 : ∀ (q_f_arr_16 : Nat → Int32) (i8_16 : Int32) (s1_16 : Int32) (s2_16 : Int32), J_L_joined_137 N q_n_arr q_f_arr_16 i8_16 s1_16 s2_16 = some y15 → ∀ (H : Heap) (locs : List Loc) (ls : Array Slot), kk_wd G A s.heap [(a0, .inl (cI, n_arr, .inl f_arr)), (b0, .inl (cI, q_n_arr, .inl q_f_arr_16))] H locs → lv_has ls 9 [(0, .int i0), (1, .ref a0), (2, .ref b0), (3, .int i3_9), (4, .int s0_13), (5, .int i5_13), (6, .int i6_13), (7, .int i7_13), (8, .int i8_16)] → W p l e (kk_rm 1 0 0 26) s m ([.int i0, .ref a0, .ref b0] : List Value).toArray below meth c H locs 0 0 Q (F0 m 137 ls [.int s2_16, .int s1_16, .ref b0]) := by
                    intro q_f_arr_16 i8_16 s1_16 s2_16 hF3 H locs ls hw hl
                    unfold J_L_joined_137 at hF3
                    obtain ⟨w17, ew17, hF3⟩ := kk_bind hF3
                    refine kk_iast F hw 1 rfl ew17 dL_joined_137 (fun H locs hw => ?_)
                    have hw : kk_wd G A s.heap [(a0, .inl (cI, n_arr, .inl f_arr)), (b0, .inl (cI, q_n_arr, .inl w17))] H locs := hw
                    refine lv_iinc (v := (i8_16 + 1)) (lv' := [(8, .int (i8_16 + 1)), (0, .int i0), (1, .ref a0), (2, .ref b0), (3, .int i3_9), (4, .int s0_13), (5, .int i5_13), (6, .int i6_13), (7, .int i7_13)]) hx hb dL_joined_138 hl (k := 8) rfl rfl (by decide) rfl (fun ls hl => ?_)
                    refine lv_goto (tgt := 108) hx hb dL_joined_141 (by decide) ?_
                    have hy := Option.some.inj hF3
                    subst hy
                    exact ih15 w17 (i8_16 + 1) hI3 _ _ _ hw (lv_sub hl [1, 2, 3, 4, 5, 6, 7, 8, 0] rfl)
                  refine lv_iload hx hb dL_joined_108 (lv_at hl 8 rfl) ?_
                  refine lv_iconst (v := 3) hx hb dL_joined_110 (by decide) ?_
                  refine lv_iload_n hx hb dL_joined_111 rfl (lv_at hl 0 rfl) ?_
                  refine lv_imul hx hb dL_joined_112 ?_
                  refine lv_icmp_ge (tgt := 144) hx hb dL_joined_113 (by decide) (fun c18 => ?_) (fun c18 => ?_)
                  · have hF3 := (if_pos c18).symm.trans hF3
                    have hy := Option.some.inj hF3
                    subst hy
                    have hz := Option.some.inj hI3
                    subst hz
                    exact hJ12 q_f_arr_15 s0_13 i5_13 hF2 _ _ _ hw (lv_sub hl [0, 1, 2, 3, 4, 5] rfl)
                  · have hF3 := (if_neg c18).symm.trans hF3
                    refine lv_aload_n hx hb dL_joined_116 rfl (lv_at hl 2 rfl) ?_
                    refine lv_iload hx hb dL_joined_117 (lv_at hl 8 rfl) ?_
                    refine lv_aload_n hx hb dL_joined_119 rfl (lv_at hl 2 rfl) ?_
                    refine lv_iload hx hb dL_joined_120 (lv_at hl 8 rfl) ?_
                    obtain ⟨v19, ev19, hF3⟩ := kk_bind hF3
                    refine kk_iald F hw 1 rfl ev19 dL_joined_122 ?_
                    refine lv_iload hx hb dL_joined_123 (lv_at hl 7 rfl) ?_
                    refine lv_icmp_ne (tgt := 133) hx hb dL_joined_125 (by decide) (fun c20 => ?_) (fun c20 => ?_)
                    · have hF3 := (if_neg c20).symm.trans hF3
                      refine lv_aload_n hx hb dL_joined_133 rfl (lv_at hl 2 rfl) ?_
                      refine lv_iload hx hb dL_joined_134 (lv_at hl 8 rfl) ?_
                      obtain ⟨v21, ev21, hF3⟩ := kk_bind hF3
                      refine kk_iald F hw 1 rfl ev21 dL_joined_136 ?_
                      exact hJ16 q_f_arr_15 i8_15 i8_15 v21 hF3 _ _ _ hw (lv_sub hl [0, 1, 2, 3, 4, 5, 6, 7, 8] rfl)
                    · have hF3 := (if_pos c20).symm.trans hF3
                      refine lv_iload hx hb dL_joined_128 (lv_at hl 6 rfl) ?_
                      refine lv_goto (tgt := 137) hx hb dL_joined_130 (by decide) ?_
                      exact hJ16 q_f_arr_15 i8_15 i8_15 i6_13 hF3 _ _ _ hw (lv_sub hl [0, 1, 2, 3, 4, 5, 6, 7, 8] rfl)
              exact hL15 N q_f_arr_13 0 hz15 _ _ _ hw (lv_sub hl [2, 3, 4, 5, 1, 6, 7, 8, 0] rfl)
            refine lv_iload hx hb dL_joined_38 (lv_at hl 5 rfl) ?_
            refine lv_iload_n hx hb dL_joined_40 rfl (lv_at hl 0 rfl) ?_
            refine lv_icmp_ge (tgt := 150) hx hb dL_joined_41 (by decide) (fun c22 => ?_) (fun c22 => ?_)
            · have hF2 := (if_pos c22).symm.trans hF2
              have hy := Option.some.inj hF2
              subst hy
              have hz := Option.some.inj hI2
              subst hz
              exact hJ7 q_f_arr_11 i3_9 i4_11 hF1 _ _ _ hw (lv_sub hl [0, 1, 2, 3, 4] rfl)
            · have hF2 := (if_neg c22).symm.trans hF2
              refine lv_iload hx hb dL_joined_44 (lv_at hl 4 rfl) ?_
              refine lv_if_eq (tgt := 150) hx hb dL_joined_46 (by decide) (fun c23 => ?_) (fun c23 => ?_)
              · have hF2 := (if_pos c23).symm.trans hF2
                have hy := Option.some.inj hF2
                subst hy
                have hz := Option.some.inj hI2
                subst hz
                exact hJ7 q_f_arr_11 i3_9 i4_11 hF1 _ _ _ hw (lv_sub hl [0, 1, 2, 3, 4] rfl)
              · have hF2 := (if_neg c23).symm.trans hF2
                refine lv_aload_n hx hb dL_joined_49 rfl (lv_at hl 2 rfl) ?_
                refine lv_iconst (v := 4) hx hb dL_joined_50 (by decide) ?_
                refine lv_aload_n hx hb dL_joined_51 rfl (lv_at hl 1 rfl) ?_
                refine lv_iload hx hb dL_joined_52 (lv_at hl 5 rfl) ?_
                obtain ⟨v24, ev24, hF2⟩ := kk_bind hF2
                refine kk_iald F hw 0 rfl ev24 dL_joined_54 ?_
                refine lv_i2l hx hb dL_joined_55 rfl ?_
                refine lv_iload_n hx hb dL_joined_56 rfl (lv_at hl 3 rfl) ?_
                refine lv_i2l hx hb dL_joined_57 rfl ?_
                obtain ⟨v25, ev25, hF2⟩ := kk_bind hF2
                refine kk_callL 0 0 hw (kk_runS (As := [.int 4, .long (Int32.toInt64 v24), .long (Int32.toInt64 i3_9)]) (rest := [.ref b0]) F hw hl.1 (c_L_hash l G cI cJ ad 4 (Int32.toInt64 v24) (Int32.toInt64 i3_9) N v25 ev25 H.size) gL_joined_L_hash rfl md_L_hash ⟨Nat.le_of_ble_eq_true rfl, Nat.le_of_ble_eq_true rfl⟩ ⟨Nat.le_of_ble_eq_true rfl, Nat.le_of_ble_eq_true rfl⟩ rfl (Nat.le_of_ble_eq_true rfl) dL_joined_58) ⟨rfl, rfl⟩ [] (by decide) rfl rfl (fun H locs hw => ?_)
                refine lv_iconst (v := 3) hx hb dL_joined_61 (by decide) ?_
                refine lv_iload_n hx hb dL_joined_62 rfl (lv_at hl 0 rfl) ?_
                refine lv_imul hx hb dL_joined_63 ?_
                refine lv_i2l hx hb dL_joined_64 rfl ?_
                obtain ⟨u26, eu26, hF2⟩ := kk_bind hF2
                refine lv_lrem hx hb dL_joined_65 (kk_nzL_ok eu26) ?_
                refine lv_l2i hx hb dL_joined_66 rfl ?_
                obtain ⟨v27, ev27, hF2⟩ := kk_bind hF2
                refine kk_iald F hw 1 rfl ev27 dL_joined_67 ?_
                refine lv_istore (lv' := [(6, .int v27), (0, .int i0), (1, .ref a0), (2, .ref b0), (3, .int i3_9), (4, .int i4_11), (5, .int i5_11)]) hx hb dL_joined_68 hl (by decide) rfl (fun ls hl => ?_)
                refine lv_aload_n hx hb dL_joined_70 rfl (lv_at hl 3 rfl) ?_
                refine lv_iconst (v := 5) hx hb dL_joined_71 (by decide) ?_
                refine lv_aload_n hx hb dL_joined_72 rfl (lv_at hl 2 rfl) ?_
                refine lv_iload hx hb dL_joined_73 (lv_at hl 6 rfl) ?_
                obtain ⟨v28, ev28, hF2⟩ := kk_bind hF2
                refine kk_iald F hw 0 rfl ev28 dL_joined_75 ?_
                refine lv_i2l hx hb dL_joined_76 rfl ?_
                refine lv_iload_n hx hb dL_joined_77 rfl (lv_at hl 4 rfl) ?_
                refine lv_i2l hx hb dL_joined_78 rfl ?_
                obtain ⟨v29, ev29, hF2⟩ := kk_bind hF2
                refine kk_callL 0 0 hw (kk_runS (As := [.int 5, .long (Int32.toInt64 v28), .long (Int32.toInt64 i3_9)]) (rest := [.ref b0]) F hw hl.1 (c_L_hash l G cI cJ ad 5 (Int32.toInt64 v28) (Int32.toInt64 i3_9) N v29 ev29 H.size) gL_joined_L_hash rfl md_L_hash ⟨Nat.le_of_ble_eq_true rfl, Nat.le_of_ble_eq_true rfl⟩ ⟨Nat.le_of_ble_eq_true rfl, Nat.le_of_ble_eq_true rfl⟩ rfl (Nat.le_of_ble_eq_true rfl) dL_joined_79) ⟨rfl, rfl⟩ [] (by decide) rfl rfl (fun H locs hw => ?_)
                refine lv_iconst (v := 3) hx hb dL_joined_82 (by decide) ?_
                refine lv_iload_n hx hb dL_joined_83 rfl (lv_at hl 1 rfl) ?_
                refine lv_imul hx hb dL_joined_84 ?_
                refine lv_i2l hx hb dL_joined_85 rfl ?_
                obtain ⟨u30, eu30, hF2⟩ := kk_bind hF2
                refine lv_lrem hx hb dL_joined_86 (kk_nzL_ok eu30) ?_
                refine lv_l2i hx hb dL_joined_87 rfl ?_
                obtain ⟨v31, ev31, hF2⟩ := kk_bind hF2
                refine kk_iald F hw 1 rfl ev31 dL_joined_88 ?_
                refine lv_istore (lv' := [(7, .int v31), (6, .int v27), (0, .int i0), (1, .ref a0), (2, .ref b0), (3, .int i3_9), (4, .int i4_11), (5, .int i5_11)]) hx hb dL_joined_89 hl (by decide) rfl (fun ls hl => ?_)
                refine lv_iload hx hb dL_joined_91 (lv_at hl 1 rfl) ?_
                refine lv_iload hx hb dL_joined_93 (lv_at hl 0 rfl) ?_
                refine lv_icmp_eq (tgt := 102) hx hb dL_joined_95 (by decide) (fun c32 => ?_) (fun c32 => ?_)
                · have hF2 := (if_pos c32).symm.trans hF2
                  refine lv_iconst (v := 0) hx hb dL_joined_102 (by decide) ?_
                  exact hJ13 q_f_arr_11 i5_11 v27 v31 0 hF2 _ _ _ hw (lv_sub hl [2, 3, 4, 5, 7, 1, 0] rfl)
                · have hF2 := (if_neg c32).symm.trans hF2
                  refine lv_iconst (v := 1) hx hb dL_joined_98 (by decide) ?_
                  refine lv_goto (tgt := 103) hx hb dL_joined_99 (by decide) ?_
                  exact hJ13 q_f_arr_11 i5_11 v27 v31 1 hF2 _ _ _ hw (lv_sub hl [2, 3, 4, 5, 7, 1, 0] rfl)
        exact hL11 N q_f_arr_9 i4_9 0 hz11 _ _ _ hw (lv_sub hl [1, 2, 3, 4, 5, 0] rfl)
      refine lv_iload_n hx hb dL_joined_2 rfl (lv_at hl 3 rfl) ?_
      refine lv_sipush (v := 200) hx hb dL_joined_3 (by decide) ?_
      refine lv_icmp_ge (tgt := 163) hx hb dL_joined_6 (by decide) (fun c33 => ?_) (fun c33 => ?_)
      · have hF1 := (if_pos c33).symm.trans hF1
        have hy := Option.some.inj hF1
        subst hy
        have hz := Option.some.inj hI1
        subst hz
        exact hJ1 q_f_arr_6 hF0 _ _ _ hw (lv_sub hl [] rfl)
      · have hF1 := (if_neg c33).symm.trans hF1
        refine lv_iconst (v := 1) hx hb dL_joined_9 (by decide) ?_
        refine lv_istore (lv' := [(4, .int 1), (0, .int i0), (1, .ref a0), (2, .ref b0), (3, .int i3_6)]) hx hb dL_joined_10 hl (by decide) rfl (fun ls hl => ?_)
        refine lv_iconst (v := 0) hx hb dL_joined_12 (by decide) ?_
        refine lv_istore (lv' := [(5, .int 0), (4, .int 1), (0, .int i0), (1, .ref a0), (2, .ref b0), (3, .int i3_6)]) hx hb dL_joined_13 hl (by decide) rfl (fun ls hl => ?_)
        obtain ⟨z34, hz35, hF1⟩ := kk_bind hF1
        have hL35 : ∀ (n35 : Nat) (q_f_arr_35 : Nat → Int32) (i5_35 : Int32), kk_iter (fun (σ : ((Nat → Int32) × Int32)) => L_L_joined_15 N q_n_arr i0 σ.1 σ.2) n35 (q_f_arr_35, i5_35) = some z34 → ∀ (H : Heap) (locs : List Loc) (ls : Array Slot), kk_wd G A s.heap [(a0, .inl (cI, n_arr, .inl f_arr)), (b0, .inl (cI, q_n_arr, .inl q_f_arr_35))] H locs → lv_has ls 9 [(0, .int i0), (1, .ref a0), (2, .ref b0), (3, .int i3_6), (4, .int 1), (5, .int i5_35)] → W p l e (kk_rm 1 0 0 26) s m ([.int i0, .ref a0, .ref b0] : List Value).toArray below meth c H locs 0 0 Q (F0 m 15 ls []) := by
          intro n35
          induction n35 with
          | zero => intro q_f_arr_35 i5_35 h; exact kk_iter0 h
          | succ n35 ih35 =>
            intro q_f_arr_35 i5_35 hq H locs ls hw hl
            obtain ⟨y35, hF2, hI2⟩ := kk_iterS hq
            have hF2 : L_L_joined_15 N q_n_arr i0 q_f_arr_35 i5_35 = some y35 := hF2
            unfold L_L_joined_15 at hF2
            refine lv_iload hx hb dL_joined_15 (lv_at hl 5 rfl) ?_
            refine lv_iconst (v := 3) hx hb dL_joined_17 (by decide) ?_
            refine lv_iload_n hx hb dL_joined_18 rfl (lv_at hl 0 rfl) ?_
            refine lv_imul hx hb dL_joined_19 ?_
            refine lv_icmp_ge (tgt := 35) hx hb dL_joined_20 (by decide) (fun c36 => ?_) (fun c36 => ?_)
            · have hF2 := (if_pos c36).symm.trans hF2
              have hy := Option.some.inj hF2
              subst hy
              have hz := Option.some.inj hI2
              subst hz
              exact hJ9 q_f_arr_35 i3_6 1 hF1 _ _ _ hw (lv_sub hl [0, 1, 2, 3, 4] rfl)
            · have hF2 := (if_neg c36).symm.trans hF2
              refine lv_aload_n hx hb dL_joined_23 rfl (lv_at hl 2 rfl) ?_
              refine lv_iload hx hb dL_joined_24 (lv_at hl 5 rfl) ?_
              refine lv_iload hx hb dL_joined_26 (lv_at hl 5 rfl) ?_
              obtain ⟨w37, ew37, hF2⟩ := kk_bind hF2
              refine kk_iast F hw 1 rfl ew37 dL_joined_28 (fun H locs hw => ?_)
              have hw : kk_wd G A s.heap [(a0, .inl (cI, n_arr, .inl f_arr)), (b0, .inl (cI, q_n_arr, .inl w37))] H locs := hw
              refine lv_iinc (v := (i5_35 + 1)) (lv' := [(5, .int (i5_35 + 1)), (0, .int i0), (1, .ref a0), (2, .ref b0), (3, .int i3_6), (4, .int 1)]) hx hb dL_joined_29 hl (k := 5) rfl rfl (by decide) rfl (fun ls hl => ?_)
              refine lv_goto (tgt := 15) hx hb dL_joined_32 (by decide) ?_
              have hy := Option.some.inj hF2
              subst hy
              exact ih35 w37 (i5_35 + 1) hI2 _ _ _ hw (lv_sub hl [1, 2, 3, 4, 5, 0] rfl)
        exact hL35 N q_f_arr_6 0 hz35 _ _ _ hw (lv_sub hl [2, 3, 4, 5, 1, 0] rfl)
  exact hL6 N q_f_arr 0 hz6 _ _ _ hw (lv_sub hl [1, 2, 3, 0] rfl)
set_option maxRecDepth 100000 in
set_option maxHeartbeats 4000000 in
theorem c_L_unpacked (l : Launch) (G : va_G) (cI cJ : ClassId) (ad : Nat → Nat) (a0 a1 a4 a22 a23 a24 a38 : Nat) (x_fingerprintMask : Int32) (x_built : Int32) (x_packer_bitsEach : Int32) (x_packer_wordCount : Int32) (f_packer_words : Nat → Int64) (i1 : Int32) (N : Nat) (x : Int32) (hF0 : F_L_unpacked N x_built x_packer_bitsEach x_packer_wordCount f_packer_words i1 = some x) : kk_I l yL_unpacked wsL_unpacked 2 0 0 42 [.ref a0, .int i1] G cI cJ ad [(a0, .inr (7, [.ref a1, .ref a4, .ref a22, .ref a24, .ref a38, .int x_fingerprintMask, .int x_built])), (a22, .inr (5, [.ref a23, .int x_packer_bitsEach, .int x_packer_wordCount])), (a23, .inl (cJ, 17, .inr (.inl f_packer_words)))] x [(a0, .inr (7, [.ref a1, .ref a4, .ref a22, .ref a24, .ref a38, .int x_fingerprintMask, .int x_built])), (a22, .inr (5, [.ref a23, .int x_packer_bitsEach, .int x_packer_wordCount])), (a23, .inl (cJ, 17, .inr (.inl f_packer_words)))] := by
  refine kk_ofI (cc := cL_unpacked) (maxL := 6) (by decide) rfl (Nat.le_of_ble_eq_true rfl) ?_
  intro p e s m below meth c A Q ls H locs hx hb hml hown hts hE hw hl hret
  have F : kk_at p m c cL_unpacked 6 s _ wsL_unpacked RL G cI cJ ad A := ⟨⟨hx, hb, hml, hown, hts⟩, hE⟩
  have hl : lv_has ls 6 [(0, .ref a0), (1, .int i1)] := hl
  unfold F_L_unpacked at hF0
  have hJ1 : ∀ (i3_1 : Int32), J_L_unpacked_54 N i3_1 = some x → ∀ (H : Heap) (locs : List Loc) (ls : Array Slot), kk_wd G A s.heap [(a0, .inr (7, [.ref a1, .ref a4, .ref a22, .ref a24, .ref a38, .int x_fingerprintMask, .int x_built])), (a22, .inr (5, [.ref a23, .int x_packer_bitsEach, .int x_packer_wordCount])), (a23, .inl (cJ, 17, .inr (.inl f_packer_words)))] H locs → lv_has ls 6 [(3, .int i3_1)] → W p l e (kk_rm 2 0 0 42) s m ([.ref a0, .int i1] : List Value).toArray below meth c H locs 0 0 Q (F0 m 54 ls []) := by
    intro i3_1 hF0 H locs ls hw hl
    unfold J_L_unpacked_54 at hF0
    refine lv_iload_n hx hb dL_unpacked_54 rfl (lv_at hl 0 rfl) ?_
    have hy := Option.some.inj hF0
    subst hy
    exact hret dL_unpacked_55 (by decide) (by decide) hw
  refine lv_aload_n hx hb dL_unpacked_0 rfl (lv_at hl 0 rfl) ?_
  obtain ⟨v2, ev2, hF0⟩ := kk_bind hF0
  refine kk_callI 0 0 hw (kk_runV (As := []) (rest := []) F hw hl.1 (c_X7_width l G cI cJ ad a0 a1 a4 a22 a23 a24 a38 x_fingerprintMask x_built x_packer_bitsEach x_packer_wordCount N v2 ev2 H.size) gL_unpacked_X7_width rfl ⟨rfl, md_X7_width⟩ ⟨Nat.le_of_ble_eq_true rfl, Nat.le_of_ble_eq_true rfl⟩ ⟨Nat.le_of_ble_eq_true rfl, Nat.le_of_ble_eq_true rfl⟩ 0 7 rfl rfl rfl rfl (Nat.le_of_ble_eq_true rfl) dL_unpacked_1) ⟨rfl, rfl⟩ [0, 1] (by decide) rfl rfl (fun H locs hw => ?_)
  have hw : kk_wd G A s.heap [(a0, .inr (7, [.ref a1, .ref a4, .ref a22, .ref a24, .ref a38, .int x_fingerprintMask, .int x_built])), (a22, .inr (5, [.ref a23, .int x_packer_bitsEach, .int x_packer_wordCount])), (a23, .inl (cJ, 17, .inr (.inl f_packer_words)))] H locs := hw
  refine lv_istore_n (lv' := [(2, .int v2), (0, .ref a0), (1, .int i1)]) hx hb dL_unpacked_4 rfl hl (by decide) rfl (fun ls hl => ?_)
  refine lv_iconst (v := 0) hx hb dL_unpacked_5 (by decide) ?_
  refine lv_istore_n (lv' := [(3, .int 0), (2, .int v2), (0, .ref a0), (1, .int i1)]) hx hb dL_unpacked_6 rfl hl (by decide) rfl (fun ls hl => ?_)
  refine lv_iconst (v := 0) hx hb dL_unpacked_7 (by decide) ?_
  refine lv_istore (lv' := [(4, .int 0), (3, .int 0), (2, .int v2), (0, .ref a0), (1, .int i1)]) hx hb dL_unpacked_8 hl (by decide) rfl (fun ls hl => ?_)
  obtain ⟨z3, hz4, hF0⟩ := kk_bind hF0
  have hL4 : ∀ (n4 : Nat) (i3_4 : Int32) (i4_4 : Int32), kk_iter (fun (σ : (Int32 × Int32)) => L_L_unpacked_10 N x_built x_packer_wordCount f_packer_words i1 v2 σ.1 σ.2) n4 (i3_4, i4_4) = some z3 → ∀ (H : Heap) (locs : List Loc) (ls : Array Slot), kk_wd G A s.heap [(a0, .inr (7, [.ref a1, .ref a4, .ref a22, .ref a24, .ref a38, .int x_fingerprintMask, .int x_built])), (a22, .inr (5, [.ref a23, .int x_packer_bitsEach, .int x_packer_wordCount])), (a23, .inl (cJ, 17, .inr (.inl f_packer_words)))] H locs → lv_has ls 6 [(0, .ref a0), (1, .int i1), (2, .int v2), (3, .int i3_4), (4, .int i4_4)] → W p l e (kk_rm 2 0 0 42) s m ([.ref a0, .int i1] : List Value).toArray below meth c H locs 0 0 Q (F0 m 10 ls []) := by
    intro n4
    induction n4 with
    | zero => intro i3_4 i4_4 h; exact kk_iter0 h
    | succ n4 ih4 =>
      intro i3_4 i4_4 hq H locs ls hw hl
      obtain ⟨y4, hF1, hI1⟩ := kk_iterS hq
      have hF1 : L_L_unpacked_10 N x_built x_packer_wordCount f_packer_words i1 v2 i3_4 i4_4 = some y4 := hF1
      unfold L_L_unpacked_10 at hF1
      refine lv_iload hx hb dL_unpacked_10 (lv_at hl 4 rfl) ?_
      refine lv_iload_n hx hb dL_unpacked_12 rfl (lv_at hl 2 rfl) ?_
      refine lv_icmp_ge (tgt := 54) hx hb dL_unpacked_13 (by decide) (fun c5 => ?_) (fun c5 => ?_)
      · have hF1 := (if_pos c5).symm.trans hF1
        have hy := Option.some.inj hF1
        subst hy
        have hz := Option.some.inj hI1
        subst hz
        exact hJ1 i3_4 hF0 _ _ _ hw (lv_sub hl [3] rfl)
      · have hF1 := (if_neg c5).symm.trans hF1
        refine lv_iload_n hx hb dL_unpacked_16 rfl (lv_at hl 1 rfl) ?_
        refine lv_iload_n hx hb dL_unpacked_17 rfl (lv_at hl 2 rfl) ?_
        refine lv_imul hx hb dL_unpacked_18 ?_
        refine lv_iload hx hb dL_unpacked_19 (lv_at hl 4 rfl) ?_
        refine lv_iadd hx hb dL_unpacked_21 ?_
        refine lv_istore (lv' := [(5, .int ((i1 * v2) + i4_4)), (0, .ref a0), (1, .int i1), (2, .int v2), (3, .int i3_4), (4, .int i4_4)]) hx hb dL_unpacked_22 hl (by decide) rfl (fun ls hl => ?_)
        refine lv_iload_n hx hb dL_unpacked_24 rfl (lv_at hl 4 rfl) ?_
        refine lv_aload_n hx hb dL_unpacked_25 rfl (lv_at hl 1 rfl) ?_
        refine lv_iload hx hb dL_unpacked_26 (lv_at hl 0 rfl) ?_
        refine lv_bipush (v := 64) hx hb dL_unpacked_28 (by decide) ?_
        refine lv_idiv hx hb dL_unpacked_30 (by decide) ?_
        obtain ⟨v6, ev6, hF1⟩ := kk_bind hF1
        refine kk_callL 0 0 hw (kk_runV (As := [.int (kk_div ((i1 * v2) + i4_4) 64)]) (rest := [.int i3_4]) F hw hl.1 (c_X7_word l G cI cJ ad a0 a1 a4 a22 a23 a24 a38 x_fingerprintMask x_built x_packer_bitsEach x_packer_wordCount f_packer_words (kk_div ((i1 * v2) + i4_4) 64) N v6 ev6 H.size) gL_unpacked_X7_word rfl ⟨rfl, md_X7_word⟩ ⟨Nat.le_of_ble_eq_true rfl, Nat.le_of_ble_eq_true rfl⟩ ⟨Nat.le_of_ble_eq_true rfl, Nat.le_of_ble_eq_true rfl⟩ 0 7 rfl rfl rfl rfl (Nat.le_of_ble_eq_true rfl) dL_unpacked_31) ⟨rfl, rfl⟩ [0, 1, 2] (by decide) rfl rfl (fun H locs hw => ?_)
        have hw : kk_wd G A s.heap [(a0, .inr (7, [.ref a1, .ref a4, .ref a22, .ref a24, .ref a38, .int x_fingerprintMask, .int x_built])), (a22, .inr (5, [.ref a23, .int x_packer_bitsEach, .int x_packer_wordCount])), (a23, .inl (cJ, 17, .inr (.inl f_packer_words)))] H locs := hw
        refine lv_iload hx hb dL_unpacked_34 (lv_at hl 0 rfl) ?_
        refine lv_bipush (v := 64) hx hb dL_unpacked_36 (by decide) ?_
        refine lv_irem hx hb dL_unpacked_38 (by decide) ?_
        refine lv_lshr hx hb dL_unpacked_39 rfl ?_
        refine lv_lconst (v := 1) hx hb dL_unpacked_40 (by decide) ?_
        refine lv_land hx hb dL_unpacked_41 ?_
        refine lv_l2i hx hb dL_unpacked_42 rfl ?_
        refine lv_iload hx hb dL_unpacked_43 (lv_at hl 5 rfl) ?_
        refine lv_ishl hx hb dL_unpacked_45 ?_
        refine lv_ior hx hb dL_unpacked_46 ?_
        refine lv_istore_n (lv' := [(3, .int (i3_4 ||| ((Int64.toInt32 ((v6 >>> (Int32.toInt64 (kk_rem ((i1 * v2) + i4_4) 64) &&& 63)) &&& 1)) <<< (i4_4 &&& 31)))), (5, .int ((i1 * v2) + i4_4)), (0, .ref a0), (1, .int i1), (2, .int v2), (4, .int i4_4)]) hx hb dL_unpacked_47 rfl hl (by decide) rfl (fun ls hl => ?_)
        refine lv_iinc (v := (i4_4 + 1)) (lv' := [(4, .int (i4_4 + 1)), (3, .int (i3_4 ||| ((Int64.toInt32 ((v6 >>> (Int32.toInt64 (kk_rem ((i1 * v2) + i4_4) 64) &&& 63)) &&& 1)) <<< (i4_4 &&& 31)))), (5, .int ((i1 * v2) + i4_4)), (0, .ref a0), (1, .int i1), (2, .int v2)]) hx hb dL_unpacked_48 hl (k := 5) rfl rfl (by decide) rfl (fun ls hl => ?_)
        refine lv_goto (tgt := 10) hx hb dL_unpacked_51 (by decide) ?_
        have hy := Option.some.inj hF1
        subst hy
        exact ih4 (i3_4 ||| ((Int64.toInt32 ((v6 >>> (Int32.toInt64 (kk_rem ((i1 * v2) + i4_4) 64) &&& 63)) &&& 1)) <<< (i4_4 &&& 31))) (i4_4 + 1) hI1 _ _ _ hw (lv_sub hl [3, 4, 5, 1, 0] rfl)
  exact hL4 N 0 0 hz4 _ _ _ hw (lv_sub hl [3, 4, 2, 1, 0] rfl)
